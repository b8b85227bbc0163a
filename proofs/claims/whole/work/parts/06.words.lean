/-- the words that stay good whatever a method does -/
def pg_tb : List Cond := lw_tbl.filter goodWord
theorem in_g {w : Cond} (h : w ∈ lw_tbl) (g : goodWord w = true) : w ∈ pg_tb := List.mem_filter.mpr ⟨h, g⟩
theorem pg_tb_in {w : Cond} (h : w ∈ pg_tb) : w ∈ lw_tbl := (List.mem_filter.mp h).1
theorem pg_tb_good : GoodIn pg_tb pg_tb := fun _ h => ⟨h, good_of_word (List.mem_filter.mp h).2⟩
theorem in_T {w : Cond} (h : w ∈ tables_1) : w ∈ lw_tbl := List.mem_append_right _ h
theorem in_t1 {w : Cond} (h : w ∈ tables_1_1) (g : goodWord w = true) : w ∈ pg_tb := in_g (in_T (List.mem_append_left _ h)) g
theorem in_t2 {w : Cond} (h : w ∈ tables_1_2) (g : goodWord w = true) : w ∈ pg_tb := in_g (in_T (List.mem_append_right _ (List.mem_append_left _ h))) g
theorem in_t3 {w : Cond} (h : w ∈ tables_1_3) (g : goodWord w = true) : w ∈ pg_tb := in_g (in_T (List.mem_append_right _ (List.mem_append_right _ (List.mem_append_left _ h)))) g
theorem in_t4 {w : Cond} (h : w ∈ tables_1_4) (g : goodWord w = true) : w ∈ pg_tb := in_g (in_T (List.mem_append_right _ (List.mem_append_right _ (List.mem_append_right _ (List.mem_append_left _ h))))) g
theorem in_t5 {w : Cond} (h : w ∈ tables_1_5) (g : goodWord w = true) : w ∈ pg_tb := in_g (in_T (List.mem_append_right _ (List.mem_append_right _ (List.mem_append_right _ (List.mem_append_right _ (List.mem_append_left _ h)))))) g
theorem in_t6 {w : Cond} (h : w ∈ tables_1_6) (g : goodWord w = true) : w ∈ pg_tb := in_g (in_T (List.mem_append_right _ (List.mem_append_right _ (List.mem_append_right _ (List.mem_append_right _ (List.mem_append_right _ h)))))) g
theorem in_sp1 {q : MethodName × Nat} (h : q ∈ lw_privs_1) : q ∈ lw_privs := (List.mem_append_left _ h)
theorem in_s1 {w : Cond} (h : w ∈ k2_sels lw_privs_1) (g : goodWord w = true) : w ∈ pg_tb := by
  obtain ⟨q, hq, rfl⟩ := List.mem_map.mp h
  exact in_g (List.mem_append_left _ (List.mem_map.mpr ⟨q, in_sp1 hq, rfl⟩)) g
theorem in_sp2 {q : MethodName × Nat} (h : q ∈ lw_privs_2) : q ∈ lw_privs := (List.mem_append_right _ (List.mem_append_left _ h))
theorem in_s2 {w : Cond} (h : w ∈ k2_sels lw_privs_2) (g : goodWord w = true) : w ∈ pg_tb := by
  obtain ⟨q, hq, rfl⟩ := List.mem_map.mp h
  exact in_g (List.mem_append_left _ (List.mem_map.mpr ⟨q, in_sp2 hq, rfl⟩)) g
theorem in_sp3 {q : MethodName × Nat} (h : q ∈ lw_privs_3) : q ∈ lw_privs := (List.mem_append_right _ (List.mem_append_right _ (List.mem_append_left _ h)))
theorem in_s3 {w : Cond} (h : w ∈ k2_sels lw_privs_3) (g : goodWord w = true) : w ∈ pg_tb := by
  obtain ⟨q, hq, rfl⟩ := List.mem_map.mp h
  exact in_g (List.mem_append_left _ (List.mem_map.mpr ⟨q, in_sp3 hq, rfl⟩)) g
theorem in_sp4 {q : MethodName × Nat} (h : q ∈ lw_privs_4) : q ∈ lw_privs := (List.mem_append_right _ (List.mem_append_right _ (List.mem_append_right _ (List.mem_append_left _ h))))
theorem in_s4 {w : Cond} (h : w ∈ k2_sels lw_privs_4) (g : goodWord w = true) : w ∈ pg_tb := by
  obtain ⟨q, hq, rfl⟩ := List.mem_map.mp h
  exact in_g (List.mem_append_left _ (List.mem_map.mpr ⟨q, in_sp4 hq, rfl⟩)) g
theorem in_sp5 {q : MethodName × Nat} (h : q ∈ lw_privs_5) : q ∈ lw_privs := (List.mem_append_right _ (List.mem_append_right _ (List.mem_append_right _ (List.mem_append_right _ (List.mem_append_left _ h)))))
theorem in_s5 {w : Cond} (h : w ∈ k2_sels lw_privs_5) (g : goodWord w = true) : w ∈ pg_tb := by
  obtain ⟨q, hq, rfl⟩ := List.mem_map.mp h
  exact in_g (List.mem_append_left _ (List.mem_map.mpr ⟨q, in_sp5 hq, rfl⟩)) g
theorem in_sp6 {q : MethodName × Nat} (h : q ∈ lw_privs_6) : q ∈ lw_privs := (List.mem_append_right _ (List.mem_append_right _ (List.mem_append_right _ (List.mem_append_right _ (List.mem_append_right _ h)))))
theorem in_s6 {w : Cond} (h : w ∈ k2_sels lw_privs_6) (g : goodWord w = true) : w ∈ pg_tb := by
  obtain ⟨q, hq, rfl⟩ := List.mem_map.mp h
  exact in_g (List.mem_append_left _ (List.mem_map.mpr ⟨q, in_sp6 hq, rfl⟩)) g
abbrev MI : Type := MethodName × ByteArray × Nat × Option FieldType
abbrev mX0_init : MI := (yX0_init, cX0_init, 1, none)
theorem kX0_init : Cond.code mX0_init.1 mX0_init.2.1 mX0_init.2.2.1 mX0_init.2.2.2 ∈ pg_tb := in_t1 (List.mem_of_getElem? (i := 135) rfl) rfl
abbrev mX0_become : MI := (yX0_become, cX0_become, 4, none)
theorem kX0_become : Cond.code mX0_become.1 mX0_become.2.1 mX0_become.2.2.1 mX0_become.2.2.2 ∈ pg_tb := in_t4 (List.mem_of_getElem? (i := 14) rfl) rfl
abbrev mX0_perform : MI := (yX0_perform, cX0_perform, 4, (some .int))
theorem kX0_perform : Cond.code mX0_perform.1 mX0_perform.2.1 mX0_perform.2.2.1 mX0_perform.2.2.2 ∈ pg_tb := in_t4 (List.mem_of_getElem? (i := 18) rfl) rfl
abbrev mX0_own : MI := (yX0_own, cX0_own, 4, (some .int))
theorem kX0_own : Cond.code mX0_own.1 mX0_own.2.1 mX0_own.2.2.1 mX0_own.2.2.2 ∈ pg_tb := in_t4 (List.mem_of_getElem? (i := 22) rfl) rfl
abbrev mX0_run : MI := (yX0_run, cX0_run, 5, (some .int))
theorem kX0_run : Cond.code mX0_run.1 mX0_run.2.1 mX0_run.2.2.1 mX0_run.2.2.2 ∈ pg_tb := in_t4 (List.mem_of_getElem? (i := 28) rfl) rfl
abbrev mX0_note : MI := (yX0_note, cX0_note, 2, none)
theorem kX0_note : Cond.code mX0_note.1 mX0_note.2.1 mX0_note.2.2.1 mX0_note.2.2.2 ∈ pg_tb := in_t4 (List.mem_of_getElem? (i := 32) rfl) rfl
abbrev mX0_quotient : MI := (yX0_quotient, cX0_quotient, 3, (some .int))
theorem kX0_quotient : Cond.code mX0_quotient.1 mX0_quotient.2.1 mX0_quotient.2.2.1 mX0_quotient.2.2.2 ∈ pg_tb := in_t4 (List.mem_of_getElem? (i := 36) rfl) rfl
abbrev mX1_init : MI := (yX1_init, cX1_init, 1, none)
theorem kX1_init : Cond.code mX1_init.1 mX1_init.2.1 mX1_init.2.2.1 mX1_init.2.2.2 ∈ pg_tb := in_t1 (List.mem_of_getElem? (i := 118) rfl) rfl
abbrev mX1_has : MI := (yX1_has, cX1_has, 3, (some .boolean))
theorem kX1_has : Cond.code mX1_has.1 mX1_has.2.1 mX1_has.2.2.1 mX1_has.2.2.2 ∈ pg_tb := in_t3 (List.mem_of_getElem? (i := 167) rfl) rfl
abbrev mX1_write : MI := (yX1_write, cX1_write, 5, none)
theorem kX1_write : Cond.code mX1_write.1 mX1_write.2.1 mX1_write.2.2.1 mX1_write.2.2.2 ∈ pg_tb := in_t3 (List.mem_of_getElem? (i := 159) rfl) rfl
abbrev mX1_reads : MI := (yX1_reads, cX1_reads, 5, (some .boolean))
theorem kX1_reads : Cond.code mX1_reads.1 mX1_reads.2.1 mX1_reads.2.2.1 mX1_reads.2.2.2 ∈ pg_tb := in_t3 (List.mem_of_getElem? (i := 180) rfl) rfl
abbrev mX2_init : MI := (yX2_init, cX2_init, 1, none)
theorem kX2_init : Cond.code mX2_init.1 mX2_init.2.1 mX2_init.2.2.1 mX2_init.2.2.2 ∈ pg_tb := in_t1 (List.mem_of_getElem? (i := 165) rfl) rfl
abbrev mX2_lose : MI := (yX2_lose, cX2_lose, 1, none)
theorem kX2_lose : Cond.code mX2_lose.1 mX2_lose.2.1 mX2_lose.2.2.1 mX2_lose.2.2.2 ∈ pg_tb := in_t3 (List.mem_of_getElem? (i := 198) rfl) rfl
abbrev mX2_begin : MI := (yX2_begin, cX2_begin, 4, none)
theorem kX2_begin : Cond.code mX2_begin.1 mX2_begin.2.1 mX2_begin.2.2.1 mX2_begin.2.2.2 ∈ pg_tb := in_t3 (List.mem_of_getElem? (i := 202) rfl) rfl
abbrev mX2_has : MI := (yX2_has, cX2_has, 2, (some .boolean))
theorem kX2_has : Cond.code mX2_has.1 mX2_has.2.1 mX2_has.2.2.1 mX2_has.2.2.2 ∈ pg_tb := in_t3 (List.mem_of_getElem? (i := 210) rfl) rfl
abbrev mX2_narrowed : MI := (yX2_narrowed, cX2_narrowed, 2, (some .int))
theorem kX2_narrowed : Cond.code mX2_narrowed.1 mX2_narrowed.2.1 mX2_narrowed.2.2.1 mX2_narrowed.2.2.2 ∈ pg_tb := in_t3 (List.mem_of_getElem? (i := 214) rfl) rfl
abbrev mX3_init : MI := (yX3_init, cX3_init, 1, none)
theorem kX3_init : Cond.code mX3_init.1 mX3_init.2.1 mX3_init.2.2.1 mX3_init.2.2.2 ∈ pg_tb := in_t1 (List.mem_of_getElem? (i := 185) rfl) rfl
abbrev mX3_holdPerson : MI := (yX3_holdPerson, cX3_holdPerson, 2, none)
theorem kX3_holdPerson : Cond.code mX3_holdPerson.1 mX3_holdPerson.2.1 mX3_holdPerson.2.2.1 mX3_holdPerson.2.2.2 ∈ pg_tb := in_t3 (List.mem_of_getElem? (i := 229) rfl) rfl
abbrev mX3_holdRow : MI := (yX3_holdRow, cX3_holdRow, 2, none)
theorem kX3_holdRow : Cond.code mX3_holdRow.1 mX3_holdRow.2.1 mX3_holdRow.2.2.1 mX3_holdRow.2.2.2 ∈ pg_tb := in_t3 (List.mem_of_getElem? (i := 233) rfl) rfl
abbrev mX4_init : MI := (yX4_init, cX4_init, 1, none)
theorem kX4_init : Cond.code mX4_init.1 mX4_init.2.1 mX4_init.2.2.1 mX4_init.2.2.2 ∈ pg_tb := in_t1 (List.mem_of_getElem? (i := 88) rfl) rfl
abbrev mX4_takeBytes : MI := (yX4_takeBytes, cX4_takeBytes, 5, (some .int))
theorem kX4_takeBytes : Cond.code mX4_takeBytes.1 mX4_takeBytes.2.1 mX4_takeBytes.2.2.1 mX4_takeBytes.2.2.2 ∈ pg_tb := in_t2 (List.mem_of_getElem? (i := 5) rfl) rfl
abbrev mX4_tell : MI := (yX4_tell, cX4_tell, 4, (some .int))
theorem kX4_tell : Cond.code mX4_tell.1 mX4_tell.2.1 mX4_tell.2.2.1 mX4_tell.2.2.2 ∈ pg_tb := in_t2 (List.mem_of_getElem? (i := 14) rfl) rfl
abbrev mX4_tellPerson : MI := (yX4_tellPerson, cX4_tellPerson, 6, (some .boolean))
theorem kX4_tellPerson : Cond.code mX4_tellPerson.1 mX4_tellPerson.2.1 mX4_tellPerson.2.2.1 mX4_tellPerson.2.2.2 ∈ pg_tb := in_t2 (List.mem_of_getElem? (i := 85) rfl) rfl
abbrev mX4_tellWeight : MI := (yX4_tellWeight, cX4_tellWeight, 3, (some .boolean))
theorem kX4_tellWeight : Cond.code mX4_tellWeight.1 mX4_tellWeight.2.1 mX4_tellWeight.2.2.1 mX4_tellWeight.2.2.2 ∈ pg_tb := in_t2 (List.mem_of_getElem? (i := 105) rfl) rfl
abbrev mX4_tellLaw : MI := (yX4_tellLaw, cX4_tellLaw, 3, (some .boolean))
theorem kX4_tellLaw : Cond.code mX4_tellLaw.1 mX4_tellLaw.2.1 mX4_tellLaw.2.2.1 mX4_tellLaw.2.2.2 ∈ pg_tb := in_t2 (List.mem_of_getElem? (i := 109) rfl) rfl
abbrev mX4_isNameFrom : MI := (yX4_isNameFrom, cX4_isNameFrom, 3, (some .boolean))
theorem kX4_isNameFrom : Cond.code mX4_isNameFrom.1 mX4_isNameFrom.2.1 mX4_isNameFrom.2.2.1 mX4_isNameFrom.2.2.2 ∈ pg_tb := in_t2 (List.mem_of_getElem? (i := 81) rfl) rfl
abbrev mX4_passName : MI := (yX4_passName, cX4_passName, 2, (some .boolean))
theorem kX4_passName : Cond.code mX4_passName.1 mX4_passName.2.1 mX4_passName.2.2.1 mX4_passName.2.2.2 ∈ pg_tb := in_t2 (List.mem_of_getElem? (i := 89) rfl) rfl
abbrev mX4_passNumber : MI := (yX4_passNumber, cX4_passNumber, 2, (some .boolean))
theorem kX4_passNumber : Cond.code mX4_passNumber.1 mX4_passNumber.2.1 mX4_passNumber.2.2.1 mX4_passNumber.2.2.2 ∈ pg_tb := in_t2 (List.mem_of_getElem? (i := 93) rfl) rfl
abbrev mX4_passSemicolon : MI := (yX4_passSemicolon, cX4_passSemicolon, 1, (some .boolean))
theorem kX4_passSemicolon : Cond.code mX4_passSemicolon.1 mX4_passSemicolon.2.1 mX4_passSemicolon.2.2.1 mX4_passSemicolon.2.2.2 ∈ pg_tb := in_t2 (List.mem_of_getElem? (i := 97) rfl) rfl
abbrev mX4_advance : MI := (yX4_advance, cX4_advance, 1, none)
theorem kX4_advance : Cond.code mX4_advance.1 mX4_advance.2.1 mX4_advance.2.2.1 mX4_advance.2.2.2 ∈ pg_tb := in_t2 (List.mem_of_getElem? (i := 18) rfl) rfl
abbrev mX4_scanName : MI := (yX4_scanName, cX4_scanName, 2, none)
theorem kX4_scanName : Cond.code mX4_scanName.1 mX4_scanName.2.1 mX4_scanName.2.2.1 mX4_scanName.2.2.2 ∈ pg_tb := in_t2 (List.mem_of_getElem? (i := 25) rfl) rfl
abbrev mX4_isSpelt : MI := (yX4_isSpelt, cX4_isSpelt, 4, (some .boolean))
theorem kX4_isSpelt : Cond.code mX4_isSpelt.1 mX4_isSpelt.2.1 mX4_isSpelt.2.2.1 mX4_isSpelt.2.2.2 ∈ pg_tb := in_t2 (List.mem_of_getElem? (i := 29) rfl) rfl
abbrev mX4_scanNumber : MI := (yX4_scanNumber, cX4_scanNumber, 2, none)
theorem kX4_scanNumber : Cond.code mX4_scanNumber.1 mX4_scanNumber.2.1 mX4_scanNumber.2.2.1 mX4_scanNumber.2.2.2 ∈ pg_tb := in_t2 (List.mem_of_getElem? (i := 77) rfl) rfl
abbrev mX4_isLetter : MI := (yX4_isLetter, cX4_isLetter, 1, (some .boolean))
theorem kX4_isLetter : Cond.code mX4_isLetter.1 mX4_isLetter.2.1 mX4_isLetter.2.2.1 mX4_isLetter.2.2.2 ∈ pg_tb := in_t2 (List.mem_of_getElem? (i := 21) rfl) rfl
abbrev mX4_isDigit : MI := (yX4_isDigit, cX4_isDigit, 1, (some .boolean))
theorem kX4_isDigit : Cond.code mX4_isDigit.1 mX4_isDigit.2.1 mX4_isDigit.2.2.1 mX4_isDigit.2.2.2 ∈ pg_tb := in_t2 (List.mem_of_getElem? (i := 73) rfl) rfl
abbrev mX5_init : MI := (yX5_init, cX5_init, 1, none)
theorem kX5_init : Cond.code mX5_init.1 mX5_init.2.1 mX5_init.2.2.1 mX5_init.2.2.2 ∈ pg_tb := in_t1 (List.mem_of_getElem? (i := 28) rfl) rfl
abbrev mX5_startAnew : MI := (yX5_startAnew, cX5_startAnew, 2, none)
theorem kX5_startAnew : Cond.code mX5_startAnew.1 mX5_startAnew.2.1 mX5_startAnew.2.2.1 mX5_startAnew.2.2.2 ∈ pg_tb := in_t1 (List.mem_of_getElem? (i := 33) rfl) rfl
abbrev mX5_become : MI := (yX5_become, cX5_become, 2, none)
theorem kX5_become : Cond.code mX5_become.1 mX5_become.2.1 mX5_become.2.2.1 mX5_become.2.2.2 ∈ pg_tb := in_t2 (List.mem_of_getElem? (i := 115) rfl) rfl
abbrev mX5_admit : MI := (yX5_admit, cX5_admit, 6, (some .int))
theorem kX5_admit : Cond.code mX5_admit.1 mX5_admit.2.1 mX5_admit.2.2.1 mX5_admit.2.2.2 ∈ pg_tb := in_t2 (List.mem_of_getElem? (i := 101) rfl) rfl
abbrev mX5_alter : MI := (yX5_alter, cX5_alter, 4, none)
theorem kX5_alter : Cond.code mX5_alter.1 mX5_alter.2.1 mX5_alter.2.2.1 mX5_alter.2.2.2 ∈ pg_tb := in_t3 (List.mem_of_getElem? (i := 85) rfl) rfl
abbrev mX5_leanAt : MI := (yX5_leanAt, cX5_leanAt, 5, (some .int))
theorem kX5_leanAt : Cond.code mX5_leanAt.1 mX5_leanAt.2.1 mX5_leanAt.2.2.1 mX5_leanAt.2.2.2 ∈ pg_tb := in_t2 (List.mem_of_getElem? (i := 155) rfl) rfl
abbrev mX5_strideOf : MI := (yX5_strideOf, cX5_strideOf, 3, (some .int))
theorem kX5_strideOf : Cond.code mX5_strideOf.1 mX5_strideOf.2.1 mX5_strideOf.2.2.1 mX5_strideOf.2.2.2 ∈ pg_tb := in_t2 (List.mem_of_getElem? (i := 163) rfl) rfl
abbrev mX5_spendHours : MI := (yX5_spendHours, cX5_spendHours, 3, none)
theorem kX5_spendHours : Cond.code mX5_spendHours.1 mX5_spendHours.2.1 mX5_spendHours.2.2.1 mX5_spendHours.2.2.2 ∈ pg_tb := in_t2 (List.mem_of_getElem? (i := 215) rfl) rfl
abbrev mX5_spendHour : MI := (yX5_spendHour, cX5_spendHour, 3, none)
theorem kX5_spendHour : Cond.code mX5_spendHour.1 mX5_spendHour.2.1 mX5_spendHour.2.2.1 mX5_spendHour.2.2.2 ∈ pg_tb := in_t2 (List.mem_of_getElem? (i := 219) rfl) rfl
abbrev mX5_findEachOther : MI := (yX5_findEachOther, cX5_findEachOther, 3, (some .boolean))
theorem kX5_findEachOther : Cond.code mX5_findEachOther.1 mX5_findEachOther.2.1 mX5_findEachOther.2.2.1 mX5_findEachOther.2.2.2 ∈ pg_tb := in_t2 (List.mem_of_getElem? (i := 228) rfl) rfl
abbrev mX5_areAlike : MI := (yX5_areAlike, cX5_areAlike, 3, (some .boolean))
theorem kX5_areAlike : Cond.code mX5_areAlike.1 mX5_areAlike.2.1 mX5_areAlike.2.2.1 mX5_areAlike.2.2.2 ∈ pg_tb := in_t2 (List.mem_of_getElem? (i := 232) rfl) rfl
abbrev mX5_draw : MI := (yX5_draw, cX5_draw, 1, (some .int))
theorem kX5_draw : Cond.code mX5_draw.1 mX5_draw.2.1 mX5_draw.2.2.1 mX5_draw.2.2.2 ∈ pg_tb := in_t3 (List.mem_of_getElem? (i := 26) rfl) rfl
abbrev mX5_spendHourByDraws : MI := (yX5_spendHourByDraws, cX5_spendHourByDraws, 2, none)
theorem kX5_spendHourByDraws : Cond.code mX5_spendHourByDraws.1 mX5_spendHourByDraws.2.1 mX5_spendHourByDraws.2.2.1 mX5_spendHourByDraws.2.2.2 ∈ pg_tb := in_t3 (List.mem_of_getElem? (i := 22) rfl) rfl
abbrev mX5_knowEachOther : MI := (yX5_knowEachOther, cX5_knowEachOther, 3, (some .boolean))
theorem kX5_knowEachOther : Cond.code mX5_knowEachOther.1 mX5_knowEachOther.2.1 mX5_knowEachOther.2.2.1 mX5_knowEachOther.2.2.2 ∈ pg_tb := in_t2 (List.mem_of_getElem? (i := 187) rfl) rfl
abbrev mX5_acquaint : MI := (yX5_acquaint, cX5_acquaint, 3, none)
theorem kX5_acquaint : Cond.code mX5_acquaint.1 mX5_acquaint.2.1 mX5_acquaint.2.2.1 mX5_acquaint.2.2.2 ∈ pg_tb := in_t2 (List.mem_of_getElem? (i := 191) rfl) rfl
abbrev mX5_estrange : MI := (yX5_estrange, cX5_estrange, 3, none)
theorem kX5_estrange : Cond.code mX5_estrange.1 mX5_estrange.2.1 mX5_estrange.2.2.1 mX5_estrange.2.2.2 ∈ pg_tb := in_t2 (List.mem_of_getElem? (i := 195) rfl) rfl
abbrev mX5_knownBy : MI := (yX5_knownBy, cX5_knownBy, 2, (some .int))
theorem kX5_knownBy : Cond.code mX5_knownBy.1 mX5_knownBy.2.1 mX5_knownBy.2.2.1 mX5_knownBy.2.2.2 ∈ pg_tb := in_t3 (List.mem_of_getElem? (i := 4) rfl) rfl
abbrev mX5_pairs : MI := (yX5_pairs, cX5_pairs, 3, (some .int))
theorem kX5_pairs : Cond.code mX5_pairs.1 mX5_pairs.2.1 mX5_pairs.2.2.1 mX5_pairs.2.2.2 ∈ pg_tb := in_t3 (List.mem_of_getElem? (i := 0) rfl) rfl
abbrev mX5_strangers : MI := (yX5_strangers, cX5_strangers, 3, (some .int))
theorem kX5_strangers : Cond.code mX5_strangers.1 mX5_strangers.2.1 mX5_strangers.2.2.1 mX5_strangers.2.2.2 ∈ pg_tb := in_t3 (List.mem_of_getElem? (i := 40) rfl) rfl
abbrev mX5_placesTaken : MI := (yX5_placesTaken, cX5_placesTaken, 3, (some .int))
theorem kX5_placesTaken : Cond.code mX5_placesTaken.1 mX5_placesTaken.2.1 mX5_placesTaken.2.2.1 mX5_placesTaken.2.2.2 ∈ pg_tb := in_t3 (List.mem_of_getElem? (i := 44) rfl) rfl
abbrev mX5_pegsHad : MI := (yX5_pegsHad, cX5_pegsHad, 3, (some .int))
theorem kX5_pegsHad : Cond.code mX5_pegsHad.1 mX5_pegsHad.2.1 mX5_pegsHad.2.2.1 mX5_pegsHad.2.2.2 ∈ pg_tb := in_t4 (List.mem_of_getElem? (i := 48) rfl) rfl
abbrev mX5_peopleOfPeg : MI := (yX5_peopleOfPeg, cX5_peopleOfPeg, 4, (some .int))
theorem kX5_peopleOfPeg : Cond.code mX5_peopleOfPeg.1 mX5_peopleOfPeg.2.1 mX5_peopleOfPeg.2.2.1 mX5_peopleOfPeg.2.2.2 ∈ pg_tb := in_t2 (List.mem_of_getElem? (i := 207) rfl) rfl
abbrev mX5_othersBeside : MI := (yX5_othersBeside, cX5_othersBeside, 4, (some .int))
theorem kX5_othersBeside : Cond.code mX5_othersBeside.1 mX5_othersBeside.2.1 mX5_othersBeside.2.2.1 mX5_othersBeside.2.2.2 ∈ pg_tb := in_t2 (List.mem_of_getElem? (i := 147) rfl) rfl
abbrev mX5_circleOf : MI := (yX5_circleOf, cX5_circleOf, 5, (some .int))
theorem kX5_circleOf : Cond.code mX5_circleOf.1 mX5_circleOf.2.1 mX5_circleOf.2.2.1 mX5_circleOf.2.2.2 ∈ pg_tb := in_t3 (List.mem_of_getElem? (i := 52) rfl) rfl
abbrev mX5_circles : MI := (yX5_circles, cX5_circles, 4, (some .int))
theorem kX5_circles : Cond.code mX5_circles.1 mX5_circles.2.1 mX5_circles.2.2.1 mX5_circles.2.2.2 ∈ pg_tb := in_t3 (List.mem_of_getElem? (i := 48) rfl) rfl
abbrev mX5_wholeWeight : MI := (yX5_wholeWeight, cX5_wholeWeight, 3, (some .int))
theorem kX5_wholeWeight : Cond.code mX5_wholeWeight.1 mX5_wholeWeight.2.1 mX5_wholeWeight.2.2.1 mX5_wholeWeight.2.2.2 ∈ pg_tb := in_t3 (List.mem_of_getElem? (i := 56) rfl) rfl
abbrev mX5_restsOfDifference : MI := (yX5_restsOfDifference, cX5_restsOfDifference, 5, (some .int))
theorem kX5_restsOfDifference : Cond.code mX5_restsOfDifference.1 mX5_restsOfDifference.2.1 mX5_restsOfDifference.2.2.1 mX5_restsOfDifference.2.2.2 ∈ pg_tb := in_t3 (List.mem_of_getElem? (i := 111) rfl) rfl
abbrev mX6_init : MI := (yX6_init, cX6_init, 2, none)
theorem kX6_init : Cond.code mX6_init.1 mX6_init.2.1 mX6_init.2.2.1 mX6_init.2.2.2 ∈ pg_tb := in_t1 (List.mem_of_getElem? (i := 20) rfl) rfl
abbrev mX6_feed : MI := (yX6_feed, cX6_feed, 4, (some .int))
theorem kX6_feed : Cond.code mX6_feed.1 mX6_feed.2.1 mX6_feed.2.2.1 mX6_feed.2.2.2 ∈ pg_tb := in_t1 (List.mem_of_getElem? (i := 238) rfl) rfl
abbrev mX6_school : MI := (yX6_school, cX6_school, 2, (some .int))
theorem kX6_school : Cond.code mX6_school.1 mX6_school.2.1 mX6_school.2.2.1 mX6_school.2.2.2 ∈ pg_tb := in_t2 (List.mem_of_getElem? (i := 9) rfl) rfl
abbrev mX6_set : MI := (yX6_set, cX6_set, 4, (some .int))
theorem kX6_set : Cond.code mX6_set.1 mX6_set.2.1 mX6_set.2.2.1 mX6_set.2.2.2 ∈ pg_tb := in_t2 (List.mem_of_getElem? (i := 122) rfl) rfl
abbrev mX6_lawOf : MI := (yX6_lawOf, cX6_lawOf, 2, (some .int))
theorem kX6_lawOf : Cond.code mX6_lawOf.1 mX6_lawOf.2.1 mX6_lawOf.2.2.1 mX6_lawOf.2.2.2 ∈ pg_tb := in_t2 (List.mem_of_getElem? (i := 130) rfl) rfl
abbrev mX6_person : MI := (yX6_person, cX6_person, 5, (some .int))
theorem kX6_person : Cond.code mX6_person.1 mX6_person.2.1 mX6_person.2.2.1 mX6_person.2.2.2 ∈ pg_tb := in_t2 (List.mem_of_getElem? (i := 134) rfl) rfl
abbrev mX6_of : MI := (yX6_of, cX6_of, 3, (some .int))
theorem kX6_of : Cond.code mX6_of.1 mX6_of.2.1 mX6_of.2.2.1 mX6_of.2.2.2 ∈ pg_tb := in_t2 (List.mem_of_getElem? (i := 139) rfl) rfl
abbrev mX6_leans : MI := (yX6_leans, cX6_leans, 3, (some .int))
theorem kX6_leans : Cond.code mX6_leans.1 mX6_leans.2.1 mX6_leans.2.2.1 mX6_leans.2.2.2 ∈ pg_tb := in_t2 (List.mem_of_getElem? (i := 151) rfl) rfl
abbrev mX6_strides : MI := (yX6_strides, cX6_strides, 2, (some .int))
theorem kX6_strides : Cond.code mX6_strides.1 mX6_strides.2.1 mX6_strides.2.2.1 mX6_strides.2.2.2 ∈ pg_tb := in_t2 (List.mem_of_getElem? (i := 159) rfl) rfl
abbrev mX6_mind : MI := (yX6_mind, cX6_mind, 5, (some .int))
theorem kX6_mind : Cond.code mX6_mind.1 mX6_mind.2.1 mX6_mind.2.2.1 mX6_mind.2.2.2 ∈ pg_tb := in_t2 (List.mem_of_getElem? (i := 167) rfl) rfl
abbrev mX6_age : MI := (yX6_age, cX6_age, 4, (some .int))
theorem kX6_age : Cond.code mX6_age.1 mX6_age.2.1 mX6_age.2.2.1 mX6_age.2.2.2 ∈ pg_tb := in_t2 (List.mem_of_getElem? (i := 171) rfl) rfl
abbrev mX6_bring : MI := (yX6_bring, cX6_bring, 4, (some .int))
theorem kX6_bring : Cond.code mX6_bring.1 mX6_bring.2.1 mX6_bring.2.2.1 mX6_bring.2.2.2 ∈ pg_tb := in_t2 (List.mem_of_getElem? (i := 175) rfl) rfl
abbrev mX6_know : MI := (yX6_know, cX6_know, 5, (some .int))
theorem kX6_know : Cond.code mX6_know.1 mX6_know.2.1 mX6_know.2.2.1 mX6_know.2.2.2 ∈ pg_tb := in_t2 (List.mem_of_getElem? (i := 179) rfl) rfl
abbrev mX6_weigh : MI := (yX6_weigh, cX6_weigh, 4, (some .int))
theorem kX6_weigh : Cond.code mX6_weigh.1 mX6_weigh.2.1 mX6_weigh.2.2.1 mX6_weigh.2.2.2 ∈ pg_tb := in_t2 (List.mem_of_getElem? (i := 199) rfl) rfl
abbrev mX6_peg : MI := (yX6_peg, cX6_peg, 3, (some .int))
theorem kX6_peg : Cond.code mX6_peg.1 mX6_peg.2.1 mX6_peg.2.2.1 mX6_peg.2.2.2 ∈ pg_tb := in_t2 (List.mem_of_getElem? (i := 203) rfl) rfl
abbrev mX6_hours : MI := (yX6_hours, cX6_hours, 2, (some .int))
theorem kX6_hours : Cond.code mX6_hours.1 mX6_hours.2.1 mX6_hours.2.2.1 mX6_hours.2.2.2 ∈ pg_tb := in_t2 (List.mem_of_getElem? (i := 211) rfl) rfl
abbrev mX6_seed : MI := (yX6_seed, cX6_seed, 3, (some .int))
theorem kX6_seed : Cond.code mX6_seed.1 mX6_seed.2.1 mX6_seed.2.2.1 mX6_seed.2.2.2 ∈ pg_tb := in_t3 (List.mem_of_getElem? (i := 14) rfl) rfl
abbrev mX6_hour : MI := (yX6_hour, cX6_hour, 1, (some .int))
theorem kX6_hour : Cond.code mX6_hour.1 mX6_hour.2.1 mX6_hour.2.2.1 mX6_hour.2.2.2 ∈ pg_tb := in_t3 (List.mem_of_getElem? (i := 18) rfl) rfl
abbrev mX6_found : MI := (yX6_found, cX6_found, 6, (some .int))
theorem kX6_found : Cond.code mX6_found.1 mX6_found.2.1 mX6_found.2.2.1 mX6_found.2.2.2 ∈ pg_tb := in_t3 (List.mem_of_getElem? (i := 31) rfl) rfl
abbrev mX6_state : MI := (yX6_state, cX6_state, 2, (some .int))
theorem kX6_state : Cond.code mX6_state.1 mX6_state.2.1 mX6_state.2.2.1 mX6_state.2.2.2 ∈ pg_tb := in_t3 (List.mem_of_getElem? (i := 36) rfl) rfl
abbrev mX6_ahead : MI := (yX6_ahead, cX6_ahead, 4, (some .int))
theorem kX6_ahead : Cond.code mX6_ahead.1 mX6_ahead.2.1 mX6_ahead.2.2.1 mX6_ahead.2.2.2 ∈ pg_tb := in_t3 (List.mem_of_getElem? (i := 60) rfl) rfl
abbrev mX6_meet : MI := (yX6_meet, cX6_meet, 4, (some .int))
theorem kX6_meet : Cond.code mX6_meet.1 mX6_meet.2.1 mX6_meet.2.2.1 mX6_meet.2.2.2 ∈ pg_tb := in_t3 (List.mem_of_getElem? (i := 64) rfl) rfl
abbrev mX6_gather : MI := (yX6_gather, cX6_gather, 2, (some .int))
theorem kX6_gather : Cond.code mX6_gather.1 mX6_gather.2.1 mX6_gather.2.2.1 mX6_gather.2.2.2 ∈ pg_tb := in_t3 (List.mem_of_getElem? (i := 68) rfl) rfl
abbrev mX6_alone : MI := (yX6_alone, cX6_alone, 3, (some .int))
theorem kX6_alone : Cond.code mX6_alone.1 mX6_alone.2.1 mX6_alone.2.2.1 mX6_alone.2.2.2 ∈ pg_tb := in_t3 (List.mem_of_getElem? (i := 73) rfl) rfl
abbrev mX6_pegFor : MI := (yX6_pegFor, cX6_pegFor, 3, (some .int))
theorem kX6_pegFor : Cond.code mX6_pegFor.1 mX6_pegFor.2.1 mX6_pegFor.2.2.1 mX6_pegFor.2.2.2 ∈ pg_tb := in_t3 (List.mem_of_getElem? (i := 77) rfl) rfl
abbrev mX6_kindFor : MI := (yX6_kindFor, cX6_kindFor, 3, (some .int))
theorem kX6_kindFor : Cond.code mX6_kindFor.1 mX6_kindFor.2.1 mX6_kindFor.2.2.1 mX6_kindFor.2.2.2 ∈ pg_tb := in_t3 (List.mem_of_getElem? (i := 90) rfl) rfl
abbrev mX6_placeFor : MI := (yX6_placeFor, cX6_placeFor, 3, (some .int))
theorem kX6_placeFor : Cond.code mX6_placeFor.1 mX6_placeFor.2.1 mX6_placeFor.2.2.1 mX6_placeFor.2.2.2 ∈ pg_tb := in_t3 (List.mem_of_getElem? (i := 94) rfl) rfl
abbrev mX6_circle : MI := (yX6_circle, cX6_circle, 2, (some .int))
theorem kX6_circle : Cond.code mX6_circle.1 mX6_circle.2.1 mX6_circle.2.2.1 mX6_circle.2.2.2 ∈ pg_tb := in_t3 (List.mem_of_getElem? (i := 98) rfl) rfl
abbrev mX6_apart : MI := (yX6_apart, cX6_apart, 4, (some .int))
theorem kX6_apart : Cond.code mX6_apart.1 mX6_apart.2.1 mX6_apart.2.2.1 mX6_apart.2.2.2 ∈ pg_tb := in_t3 (List.mem_of_getElem? (i := 103) rfl) rfl
abbrev mX6_fits : MI := (yX6_fits, cX6_fits, 8, (some .int))
theorem kX6_fits : Cond.code mX6_fits.1 mX6_fits.2.1 mX6_fits.2.2.1 mX6_fits.2.2.2 ∈ pg_tb := in_t3 (List.mem_of_getElem? (i := 119) rfl) rfl
abbrev mX6_odds : MI := (yX6_odds, cX6_odds, 8, (some .long))
theorem kX6_odds : Cond.code mX6_odds.1 mX6_odds.2.1 mX6_odds.2.2.1 mX6_odds.2.2.2 ∈ pg_tb := in_t3 (List.mem_of_getElem? (i := 130) rfl) rfl
abbrev mX6_hope : MI := (yX6_hope, cX6_hope, 3, (some .long))
theorem kX6_hope : Cond.code mX6_hope.1 mX6_hope.2.1 mX6_hope.2.2.1 mX6_hope.2.2.2 ∈ pg_tb := in_t3 (List.mem_of_getElem? (i := 151) rfl) rfl
abbrev mX6_prove : MI := (yX6_prove, cX6_prove, 5, (some .int))
theorem kX6_prove : Cond.code mX6_prove.1 mX6_prove.2.1 mX6_prove.2.2.1 mX6_prove.2.2.2 ∈ pg_tb := in_t3 (List.mem_of_getElem? (i := 155) rfl) rfl
abbrev mX6_row : MI := (yX6_row, cX6_row, 3, (some .int))
theorem kX6_row : Cond.code mX6_row.1 mX6_row.2.1 mX6_row.2.2.1 mX6_row.2.2.2 ∈ pg_tb := in_t3 (List.mem_of_getElem? (i := 163) rfl) rfl
abbrev mX6_alterRow : MI := (yX6_alterRow, cX6_alterRow, 5, (some .int))
theorem kX6_alterRow : Cond.code mX6_alterRow.1 mX6_alterRow.2.1 mX6_alterRow.2.2.1 mX6_alterRow.2.2.2 ∈ pg_tb := in_t3 (List.mem_of_getElem? (i := 172) rfl) rfl
abbrev mX6_judge : MI := (yX6_judge, cX6_judge, 4, (some .int))
theorem kX6_judge : Cond.code mX6_judge.1 mX6_judge.2.1 mX6_judge.2.2.1 mX6_judge.2.2.2 ∈ pg_tb := in_t3 (List.mem_of_getElem? (i := 176) rfl) rfl
abbrev mX6_minds : MI := (yX6_minds, cX6_minds, 7, (some .int))
theorem kX6_minds : Cond.code mX6_minds.1 mX6_minds.2.1 mX6_minds.2.2.1 mX6_minds.2.2.2 ∈ pg_tb := in_t3 (List.mem_of_getElem? (i := 184) rfl) rfl
abbrev mX6_sheet : MI := (yX6_sheet, cX6_sheet, 4, (some .int))
theorem kX6_sheet : Cond.code mX6_sheet.1 mX6_sheet.2.1 mX6_sheet.2.2.1 mX6_sheet.2.2.2 ∈ pg_tb := in_t3 (List.mem_of_getElem? (i := 194) rfl) rfl
abbrev mX6_put : MI := (yX6_put, cX6_put, 5, (some .int))
theorem kX6_put : Cond.code mX6_put.1 mX6_put.2.1 mX6_put.2.2.1 mX6_put.2.2.2 ∈ pg_tb := in_t3 (List.mem_of_getElem? (i := 206) rfl) rfl
abbrev mX6_item : MI := (yX6_item, cX6_item, 5, (some .int))
theorem kX6_item : Cond.code mX6_item.1 mX6_item.2.1 mX6_item.2.2.1 mX6_item.2.2.2 ∈ pg_tb := in_t3 (List.mem_of_getElem? (i := 218) rfl) rfl
abbrev mX6_shelf : MI := (yX6_shelf, cX6_shelf, 5, (some .int))
theorem kX6_shelf : Cond.code mX6_shelf.1 mX6_shelf.2.1 mX6_shelf.2.2.1 mX6_shelf.2.2.2 ∈ pg_tb := in_t3 (List.mem_of_getElem? (i := 222) rfl) rfl
abbrev mX6_taken : MI := (yX6_taken, cX6_taken, 6, (some .int))
theorem kX6_taken : Cond.code mX6_taken.1 mX6_taken.2.1 mX6_taken.2.2.1 mX6_taken.2.2.2 ∈ pg_tb := in_t3 (List.mem_of_getElem? (i := 237) rfl) rfl
abbrev mX6_act : MI := (yX6_act, cX6_act, 5, (some .int))
theorem kX6_act : Cond.code mX6_act.1 mX6_act.2.1 mX6_act.2.2.1 mX6_act.2.2.2 ∈ pg_tb := in_t4 (List.mem_of_getElem? (i := 10) rfl) rfl
abbrev mX6_trace : MI := (yX6_trace, cX6_trace, 2, (some .int))
theorem kX6_trace : Cond.code mX6_trace.1 mX6_trace.2.1 mX6_trace.2.2.1 mX6_trace.2.2.2 ∈ pg_tb := in_t4 (List.mem_of_getElem? (i := 40) rfl) rfl
abbrev mX6_many : MI := (yX6_many, cX6_many, 2, (some .int))
theorem kX6_many : Cond.code mX6_many.1 mX6_many.2.1 mX6_many.2.2.1 mX6_many.2.2.2 ∈ pg_tb := in_t4 (List.mem_of_getElem? (i := 44) rfl) rfl
abbrev mX6_keep : MI := (yX6_keep, cX6_keep, 1, (some .int))
theorem kX6_keep : Cond.code mX6_keep.1 mX6_keep.2.1 mX6_keep.2.2.1 mX6_keep.2.2.2 ∈ pg_tb := in_t4 (List.mem_of_getElem? (i := 52) rfl) rfl
abbrev mX6_again : MI := (yX6_again, cX6_again, 1, (some .int))
theorem kX6_again : Cond.code mX6_again.1 mX6_again.2.1 mX6_again.2.2.1 mX6_again.2.2.2 ∈ pg_tb := in_t4 (List.mem_of_getElem? (i := 56) rfl) rfl
abbrev mX6_upTo : MI := (yX6_upTo, cX6_upTo, 2, (some .boolean))
theorem kX6_upTo : Cond.code mX6_upTo.1 mX6_upTo.2.1 mX6_upTo.2.2.1 mX6_upTo.2.2.2 ∈ pg_tb := in_t2 (List.mem_of_getElem? (i := 125) rfl) rfl
abbrev mX6_between : MI := (yX6_between, cX6_between, 3, (some .boolean))
theorem kX6_between : Cond.code mX6_between.1 mX6_between.2.1 mX6_between.2.2.1 mX6_between.2.2.2 ∈ pg_tb := in_t2 (List.mem_of_getElem? (i := 1) rfl) rfl
abbrev mX6_isPerson : MI := (yX6_isPerson, cX6_isPerson, 2, (some .boolean))
theorem kX6_isPerson : Cond.code mX6_isPerson.1 mX6_isPerson.2.1 mX6_isPerson.2.2.1 mX6_isPerson.2.2.2 ∈ pg_tb := in_t2 (List.mem_of_getElem? (i := 143) rfl) rfl
abbrev mX6_areTwo : MI := (yX6_areTwo, cX6_areTwo, 3, (some .boolean))
theorem kX6_areTwo : Cond.code mX6_areTwo.1 mX6_areTwo.2.1 mX6_areTwo.2.2.1 mX6_areTwo.2.2.2 ∈ pg_tb := in_t2 (List.mem_of_getElem? (i := 183) rfl) rfl
abbrev mX6_isSheet : MI := (yX6_isSheet, cX6_isSheet, 1, (some .boolean))
theorem kX6_isSheet : Cond.code mX6_isSheet.1 mX6_isSheet.2.1 mX6_isSheet.2.2.1 mX6_isSheet.2.2.2 ∈ pg_tb := in_t3 (List.mem_of_getElem? (i := 122) rfl) rfl
abbrev mX6_isShelf : MI := (yX6_isShelf, cX6_isShelf, 1, (some .boolean))
theorem kX6_isShelf : Cond.code mX6_isShelf.1 mX6_isShelf.2.1 mX6_isShelf.2.2.1 mX6_isShelf.2.2.2 ∈ pg_tb := in_t3 (List.mem_of_getElem? (i := 225) rfl) rfl
abbrev mX6_holdsSomebody : MI := (yX6_holdsSomebody, cX6_holdsSomebody, 2, (some .boolean))
theorem kX6_holdsSomebody : Cond.code mX6_holdsSomebody.1 mX6_holdsSomebody.2.1 mX6_holdsSomebody.2.2.1 mX6_holdsSomebody.2.2.2 ∈ pg_tb := in_t4 (List.mem_of_getElem? (i := 1) rfl) rfl
abbrev mX6_isUnder : MI := (yX6_isUnder, cX6_isUnder, 4, (some .boolean))
theorem kX6_isUnder : Cond.code mX6_isUnder.1 mX6_isUnder.2.1 mX6_isUnder.2.2.1 mX6_isUnder.2.2.2 ∈ pg_tb := in_t4 (List.mem_of_getElem? (i := 4) rfl) rfl
abbrev mX6_choiceFor : MI := (yX6_choiceFor, cX6_choiceFor, 9, (some .int))
theorem kX6_choiceFor : Cond.code mX6_choiceFor.1 mX6_choiceFor.2.1 mX6_choiceFor.2.2.1 mX6_choiceFor.2.2.2 ∈ pg_tb := in_t3 (List.mem_of_getElem? (i := 81) rfl) rfl
abbrev mX6_knowsAsTold : MI := (yX6_knowsAsTold, cX6_knowsAsTold, 6, (some .boolean))
theorem kX6_knowsAsTold : Cond.code mX6_knowsAsTold.1 mX6_knowsAsTold.2.1 mX6_knowsAsTold.2.2.1 mX6_knowsAsTold.2.2.2 ∈ pg_tb := in_t3 (List.mem_of_getElem? (i := 126) rfl) rfl
abbrev mX6_listRestsApart : MI := (yX6_listRestsApart, cX6_listRestsApart, 4, (some .int))
theorem kX6_listRestsApart : Cond.code mX6_listRestsApart.1 mX6_listRestsApart.2.1 mX6_listRestsApart.2.2.1 mX6_listRestsApart.2.2.2 ∈ pg_tb := in_t3 (List.mem_of_getElem? (i := 107) rfl) rfl
abbrev mX6_tellsApart : MI := (yX6_tellsApart, cX6_tellsApart, 4, (some .boolean))
theorem kX6_tellsApart : Cond.code mX6_tellsApart.1 mX6_tellsApart.2.1 mX6_tellsApart.2.2.1 mX6_tellsApart.2.2.2 ∈ pg_tb := in_t3 (List.mem_of_getElem? (i := 115) rfl) rfl
abbrev mX6_ways : MI := (yX6_ways, cX6_ways, 5, (some .long))
theorem kX6_ways : Cond.code mX6_ways.1 mX6_ways.2.1 mX6_ways.2.2.1 mX6_ways.2.2.2 ∈ pg_tb := in_t3 (List.mem_of_getElem? (i := 134) rfl) rfl
abbrev mX6_power : MI := (yX6_power, cX6_power, 6, (some .long))
theorem kX6_power : Cond.code mX6_power.1 mX6_power.2.1 mX6_power.2.2.1 mX6_power.2.2.2 ∈ pg_tb := in_t3 (List.mem_of_getElem? (i := 137) rfl) rfl
abbrev mX6_partOfFraction : MI := (yX6_partOfFraction, cX6_partOfFraction, 7, (some .long))
theorem kX6_partOfFraction : Cond.code mX6_partOfFraction.1 mX6_partOfFraction.2.1 mX6_partOfFraction.2.2.1 mX6_partOfFraction.2.2.2 ∈ pg_tb := in_t3 (List.mem_of_getElem? (i := 141) rfl) rfl
abbrev mX6_commonDivisor : MI := (yX6_commonDivisor, cX6_commonDivisor, 11, (some .long))
theorem kX6_commonDivisor : Cond.code mX6_commonDivisor.1 mX6_commonDivisor.2.1 mX6_commonDivisor.2.2.1 mX6_commonDivisor.2.2.2 ∈ pg_tb := in_t3 (List.mem_of_getElem? (i := 144) rfl) rfl
abbrev mX7_init : MI := (yX7_init, cX7_init, 1, none)
theorem kX7_init : Cond.code mX7_init.1 mX7_init.2.1 mX7_init.2.2.1 mX7_init.2.2.2 ∈ pg_tb := in_t4 (List.mem_of_getElem? (i := 61) rfl) rfl
abbrev mX7_begins : MI := (yX7_begins, cX7_begins, 2, none)
theorem kX7_begins : Cond.code mX7_begins.1 mX7_begins.2.1 mX7_begins.2.2.1 mX7_begins.2.2.2 ∈ pg_tb := in_t4 (List.mem_of_getElem? (i := 65) rfl) rfl
abbrev mX7_in : MI := (yX7_in, cX7_in, 3, (some .boolean))
theorem kX7_in : Cond.code mX7_in.1 mX7_in.2.1 mX7_in.2.2.1 mX7_in.2.2.2 ∈ pg_tb := in_t4 (List.mem_of_getElem? (i := 161) rfl) rfl
abbrev mX7_held : MI := (yX7_held, cX7_held, 3, (some .int))
theorem kX7_held : Cond.code mX7_held.1 mX7_held.2.1 mX7_held.2.2.1 mX7_held.2.2.2 ∈ pg_tb := in_t6 (List.mem_of_getElem? (i := 55) rfl) rfl
abbrev mX7_moveAll : MI := (yX7_moveAll, cX7_moveAll, 3, none)
theorem kX7_moveAll : Cond.code mX7_moveAll.1 mX7_moveAll.2.1 mX7_moveAll.2.2.1 mX7_moveAll.2.2.2 ∈ pg_tb := in_t5 (List.mem_of_getElem? (i := 17) rfl) rfl
abbrev mX7_isPeg : MI := (yX7_isPeg, cX7_isPeg, 1, (some .boolean))
theorem kX7_isPeg : Cond.code mX7_isPeg.1 mX7_isPeg.2.1 mX7_isPeg.2.2.1 mX7_isPeg.2.2.2 ∈ pg_tb := in_t5 (List.mem_of_getElem? (i := 39) rfl) rfl
abbrev mX7_isPlace : MI := (yX7_isPlace, cX7_isPlace, 1, (some .boolean))
theorem kX7_isPlace : Cond.code mX7_isPlace.1 mX7_isPlace.2.1 mX7_isPlace.2.2.1 mX7_isPlace.2.2.2 ∈ pg_tb := in_t5 (List.mem_of_getElem? (i := 42) rfl) rfl
abbrev mX7_isOne : MI := (yX7_isOne, cX7_isOne, 2, (some .boolean))
theorem kX7_isOne : Cond.code mX7_isOne.1 mX7_isOne.2.1 mX7_isOne.2.2.1 mX7_isOne.2.2.2 ∈ pg_tb := in_t5 (List.mem_of_getElem? (i := 54) rfl) rfl
abbrev mX7_its : MI := (yX7_its, cX7_its, 3, (some .int))
theorem kX7_its : Cond.code mX7_its.1 mX7_its.2.1 mX7_its.2.2.1 mX7_its.2.2.2 ∈ pg_tb := in_t5 (List.mem_of_getElem? (i := 58) rfl) rfl
abbrev mX7_sets : MI := (yX7_sets, cX7_sets, 4, none)
theorem kX7_sets : Cond.code mX7_sets.1 mX7_sets.2.1 mX7_sets.2.2.1 mX7_sets.2.2.2 ∈ pg_tb := in_t5 (List.mem_of_getElem? (i := 46) rfl) rfl
abbrev mX7_becomes : MI := (yX7_becomes, cX7_becomes, 4, (some .int))
theorem kX7_becomes : Cond.code mX7_becomes.1 mX7_becomes.2.1 mX7_becomes.2.2.1 mX7_becomes.2.2.2 ∈ pg_tb := in_t5 (List.mem_of_getElem? (i := 25) rfl) rfl
abbrev mX7_ones : MI := (yX7_ones, cX7_ones, 3, (some .int))
theorem kX7_ones : Cond.code mX7_ones.1 mX7_ones.2.1 mX7_ones.2.2.1 mX7_ones.2.2.2 ∈ pg_tb := in_t5 (List.mem_of_getElem? (i := 137) rfl) rfl
abbrev mX7_feed : MI := (yX7_feed, cX7_feed, 5, (some .int))
theorem kX7_feed : Cond.code mX7_feed.1 mX7_feed.2.1 mX7_feed.2.2.1 mX7_feed.2.2.2 ∈ pg_tb := in_t4 (List.mem_of_getElem? (i := 158) rfl) rfl
abbrev mX7_byteAt : MI := (yX7_byteAt, cX7_byteAt, 2, (some .int))
theorem kX7_byteAt : Cond.code mX7_byteAt.1 mX7_byteAt.2.1 mX7_byteAt.2.2.1 mX7_byteAt.2.2.2 ∈ pg_tb := in_t4 (List.mem_of_getElem? (i := 174) rfl) rfl
abbrev mX7_isLetter : MI := (yX7_isLetter, cX7_isLetter, 1, (some .boolean))
theorem kX7_isLetter : Cond.code mX7_isLetter.1 mX7_isLetter.2.1 mX7_isLetter.2.2.1 mX7_isLetter.2.2.2 ∈ pg_tb := in_t4 (List.mem_of_getElem? (i := 177) rfl) rfl
abbrev mX7_isDigit : MI := (yX7_isDigit, cX7_isDigit, 1, (some .boolean))
theorem kX7_isDigit : Cond.code mX7_isDigit.1 mX7_isDigit.2.1 mX7_isDigit.2.2.1 mX7_isDigit.2.2.2 ∈ pg_tb := in_t4 (List.mem_of_getElem? (i := 180) rfl) rfl
abbrev mX7_advance : MI := (yX7_advance, cX7_advance, 2, none)
theorem kX7_advance : Cond.code mX7_advance.1 mX7_advance.2.1 mX7_advance.2.2.1 mX7_advance.2.2.2 ∈ pg_tb := in_t4 (List.mem_of_getElem? (i := 170) rfl) rfl
abbrev mX7_isWord : MI := (yX7_isWord, cX7_isWord, 3, (some .boolean))
theorem kX7_isWord : Cond.code mX7_isWord.1 mX7_isWord.2.1 mX7_isWord.2.2.1 mX7_isWord.2.2.2 ∈ pg_tb := in_t4 (List.mem_of_getElem? (i := 196) rfl) rfl
abbrev mX7_isMark : MI := (yX7_isMark, cX7_isMark, 2, (some .boolean))
theorem kX7_isMark : Cond.code mX7_isMark.1 mX7_isMark.2.1 mX7_isMark.2.2.1 mX7_isMark.2.2.2 ∈ pg_tb := in_t5 (List.mem_of_getElem? (i := 10) rfl) rfl
abbrev mX7_kindHere : MI := (yX7_kindHere, cX7_kindHere, 1, (some .int))
theorem kX7_kindHere : Cond.code mX7_kindHere.1 mX7_kindHere.2.1 mX7_kindHere.2.2.1 mX7_kindHere.2.2.2 ∈ pg_tb := in_t4 (List.mem_of_getElem? (i := 213) rfl) rfl
abbrev mX7_pegHere : MI := (yX7_pegHere, cX7_pegHere, 1, (some .int))
theorem kX7_pegHere : Cond.code mX7_pegHere.1 mX7_pegHere.2.1 mX7_pegHere.2.2.1 mX7_pegHere.2.2.2 ∈ pg_tb := in_t4 (List.mem_of_getElem? (i := 203) rfl) rfl
abbrev mX7_lawHere : MI := (yX7_lawHere, cX7_lawHere, 1, (some .int))
theorem kX7_lawHere : Cond.code mX7_lawHere.1 mX7_lawHere.2.1 mX7_lawHere.2.2.1 mX7_lawHere.2.2.2 ∈ pg_tb := in_t4 (List.mem_of_getElem? (i := 191) rfl) rfl
abbrev mX7_wantNumber : MI := (yX7_wantNumber, cX7_wantNumber, 4, (some .int))
theorem kX7_wantNumber : Cond.code mX7_wantNumber.1 mX7_wantNumber.2.1 mX7_wantNumber.2.2.1 mX7_wantNumber.2.2.2 ∈ pg_tb := in_t4 (List.mem_of_getElem? (i := 232) rfl) rfl
abbrev mX7_wantEnd : MI := (yX7_wantEnd, cX7_wantEnd, 1, none)
theorem kX7_wantEnd : Cond.code mX7_wantEnd.1 mX7_wantEnd.2.1 mX7_wantEnd.2.2.1 mX7_wantEnd.2.2.2 ∈ pg_tb := in_t5 (List.mem_of_getElem? (i := 6) rfl) rfl
abbrev mX7_wantWord : MI := (yX7_wantWord, cX7_wantWord, 3, none)
theorem kX7_wantWord : Cond.code mX7_wantWord.1 mX7_wantWord.2.1 mX7_wantWord.2.2.1 mX7_wantWord.2.2.2 ∈ pg_tb := in_t4 (List.mem_of_getElem? (i := 228) rfl) rfl
abbrev mX7_may : MI := (yX7_may, cX7_may, 4, (some .boolean))
theorem kX7_may : Cond.code mX7_may.1 mX7_may.2.1 mX7_may.2.2.1 mX7_may.2.2.2 ∈ pg_tb := in_t4 (List.mem_of_getElem? (i := 237) rfl) rfl
abbrev mX7_wantPeg : MI := (yX7_wantPeg, cX7_wantPeg, 2, (some .int))
theorem kX7_wantPeg : Cond.code mX7_wantPeg.1 mX7_wantPeg.2.1 mX7_wantPeg.2.2.1 mX7_wantPeg.2.2.2 ∈ pg_tb := in_t5 (List.mem_of_getElem? (i := 2) rfl) rfl
abbrev mX7_wantOne : MI := (yX7_wantOne, cX7_wantOne, 6, none)
theorem kX7_wantOne : Cond.code mX7_wantOne.1 mX7_wantOne.2.1 mX7_wantOne.2.2.1 mX7_wantOne.2.2.2 ∈ pg_tb := in_t4 (List.mem_of_getElem? (i := 223) rfl) rfl
abbrev mX7_wantClause : MI := (yX7_wantClause, cX7_wantClause, 3, none)
theorem kX7_wantClause : Cond.code mX7_wantClause.1 mX7_wantClause.2.1 mX7_wantClause.2.2.1 mX7_wantClause.2.2.2 ∈ pg_tb := in_t4 (List.mem_of_getElem? (i := 187) rfl) rfl
abbrev mX7_school : MI := (yX7_school, cX7_school, 1, (some .int))
theorem kX7_school : Cond.code mX7_school.1 mX7_school.2.1 mX7_school.2.2.1 mX7_school.2.2.2 ∈ pg_tb := in_t4 (List.mem_of_getElem? (i := 166) rfl) rfl
abbrev mX7_mostOf : MI := (yX7_mostOf, cX7_mostOf, 1, (some .int))
theorem kX7_mostOf : Cond.code mX7_mostOf.1 mX7_mostOf.2.1 mX7_mostOf.2.2.1 mX7_mostOf.2.2.2 ∈ pg_tb := in_t5 (List.mem_of_getElem? (i := 13) rfl) rfl
abbrev mX7_set : MI := (yX7_set, cX7_set, 3, (some .int))
theorem kX7_set : Cond.code mX7_set.1 mX7_set.2.1 mX7_set.2.2.1 mX7_set.2.2.2 ∈ pg_tb := in_t5 (List.mem_of_getElem? (i := 21) rfl) rfl
abbrev mX7_lawOf : MI := (yX7_lawOf, cX7_lawOf, 2, (some .int))
theorem kX7_lawOf : Cond.code mX7_lawOf.1 mX7_lawOf.2.1 mX7_lawOf.2.2.1 mX7_lawOf.2.2.2 ∈ pg_tb := in_t5 (List.mem_of_getElem? (i := 29) rfl) rfl
abbrev mX7_isKind : MI := (yX7_isKind, cX7_isKind, 2, (some .boolean))
theorem kX7_isKind : Cond.code mX7_isKind.1 mX7_isKind.2.1 mX7_isKind.2.2.1 mX7_isKind.2.2.2 ∈ pg_tb := in_t5 (List.mem_of_getElem? (i := 36) rfl) rfl
abbrev mX7_person : MI := (yX7_person, cX7_person, 6, (some .int))
theorem kX7_person : Cond.code mX7_person.1 mX7_person.2.1 mX7_person.2.2.1 mX7_person.2.2.2 ∈ pg_tb := in_t5 (List.mem_of_getElem? (i := 33) rfl) rfl
abbrev mX7_besides : MI := (yX7_besides, cX7_besides, 4, (some .int))
theorem kX7_besides : Cond.code mX7_besides.1 mX7_besides.2.1 mX7_besides.2.2.1 mX7_besides.2.2.2 ∈ pg_tb := in_t5 (List.mem_of_getElem? (i := 62) rfl) rfl
abbrev mX7_of : MI := (yX7_of, cX7_of, 3, (some .int))
theorem kX7_of : Cond.code mX7_of.1 mX7_of.2.1 mX7_of.2.2.1 mX7_of.2.2.2 ∈ pg_tb := in_t5 (List.mem_of_getElem? (i := 50) rfl) rfl
abbrev mX7_leaning : MI := (yX7_leaning, cX7_leaning, 5, (some .int))
theorem kX7_leaning : Cond.code mX7_leaning.1 mX7_leaning.2.1 mX7_leaning.2.2.1 mX7_leaning.2.2.2 ∈ pg_tb := in_t5 (List.mem_of_getElem? (i := 70) rfl) rfl
abbrev mX7_striding : MI := (yX7_striding, cX7_striding, 2, (some .int))
theorem kX7_striding : Cond.code mX7_striding.1 mX7_striding.2.1 mX7_striding.2.2.1 mX7_striding.2.2.2 ∈ pg_tb := in_t5 (List.mem_of_getElem? (i := 78) rfl) rfl
abbrev mX7_leans : MI := (yX7_leans, cX7_leans, 3, (some .int))
theorem kX7_leans : Cond.code mX7_leans.1 mX7_leans.2.1 mX7_leans.2.2.1 mX7_leans.2.2.2 ∈ pg_tb := in_t5 (List.mem_of_getElem? (i := 66) rfl) rfl
abbrev mX7_strides : MI := (yX7_strides, cX7_strides, 2, (some .int))
theorem kX7_strides : Cond.code mX7_strides.1 mX7_strides.2.1 mX7_strides.2.2.1 mX7_strides.2.2.2 ∈ pg_tb := in_t5 (List.mem_of_getElem? (i := 74) rfl) rfl
abbrev mX7_mind : MI := (yX7_mind, cX7_mind, 4, (some .int))
theorem kX7_mind : Cond.code mX7_mind.1 mX7_mind.2.1 mX7_mind.2.2.1 mX7_mind.2.2.2 ∈ pg_tb := in_t5 (List.mem_of_getElem? (i := 82) rfl) rfl
abbrev mX7_age : MI := (yX7_age, cX7_age, 3, (some .int))
theorem kX7_age : Cond.code mX7_age.1 mX7_age.2.1 mX7_age.2.2.1 mX7_age.2.2.2 ∈ pg_tb := in_t5 (List.mem_of_getElem? (i := 86) rfl) rfl
abbrev mX7_bring : MI := (yX7_bring, cX7_bring, 3, (some .int))
theorem kX7_bring : Cond.code mX7_bring.1 mX7_bring.2.1 mX7_bring.2.2.1 mX7_bring.2.2.2 ∈ pg_tb := in_t5 (List.mem_of_getElem? (i := 90) rfl) rfl
abbrev mX7_isKnown : MI := (yX7_isKnown, cX7_isKnown, 3, (some .boolean))
theorem kX7_isKnown : Cond.code mX7_isKnown.1 mX7_isKnown.2.1 mX7_isKnown.2.2.1 mX7_isKnown.2.2.2 ∈ pg_tb := in_t5 (List.mem_of_getElem? (i := 98) rfl) rfl
abbrev mX7_meets : MI := (yX7_meets, cX7_meets, 4, none)
theorem kX7_meets : Cond.code mX7_meets.1 mX7_meets.2.1 mX7_meets.2.2.1 mX7_meets.2.2.2 ∈ pg_tb := in_t5 (List.mem_of_getElem? (i := 102) rfl) rfl
abbrev mX7_know : MI := (yX7_know, cX7_know, 5, (some .int))
theorem kX7_know : Cond.code mX7_know.1 mX7_know.2.1 mX7_know.2.2.1 mX7_know.2.2.2 ∈ pg_tb := in_t5 (List.mem_of_getElem? (i := 94) rfl) rfl
abbrev mX7_weigh : MI := (yX7_weigh, cX7_weigh, 3, (some .int))
theorem kX7_weigh : Cond.code mX7_weigh.1 mX7_weigh.2.1 mX7_weigh.2.2.1 mX7_weigh.2.2.2 ∈ pg_tb := in_t5 (List.mem_of_getElem? (i := 106) rfl) rfl
abbrev mX7_hadBy : MI := (yX7_hadBy, cX7_hadBy, 4, (some .int))
theorem kX7_hadBy : Cond.code mX7_hadBy.1 mX7_hadBy.2.1 mX7_hadBy.2.2.1 mX7_hadBy.2.2.2 ∈ pg_tb := in_t5 (List.mem_of_getElem? (i := 114) rfl) rfl
abbrev mX7_peg : MI := (yX7_peg, cX7_peg, 3, (some .int))
theorem kX7_peg : Cond.code mX7_peg.1 mX7_peg.2.1 mX7_peg.2.2.1 mX7_peg.2.2.2 ∈ pg_tb := in_t5 (List.mem_of_getElem? (i := 110) rfl) rfl
abbrev mX7_areAlike : MI := (yX7_areAlike, cX7_areAlike, 3, (some .boolean))
theorem kX7_areAlike : Cond.code mX7_areAlike.1 mX7_areAlike.2.1 mX7_areAlike.2.2.1 mX7_areAlike.2.2.2 ∈ pg_tb := in_t5 (List.mem_of_getElem? (i := 126) rfl) rfl
abbrev mX7_feelEachOther : MI := (yX7_feelEachOther, cX7_feelEachOther, 5, (some .boolean))
theorem kX7_feelEachOther : Cond.code mX7_feelEachOther.1 mX7_feelEachOther.2.1 mX7_feelEachOther.2.2.1 mX7_feelEachOther.2.2.2 ∈ pg_tb := in_t5 (List.mem_of_getElem? (i := 130) rfl) rfl
abbrev mX7_hourGoes : MI := (yX7_hourGoes, cX7_hourGoes, 3, none)
theorem kX7_hourGoes : Cond.code mX7_hourGoes.1 mX7_hourGoes.2.1 mX7_hourGoes.2.2.1 mX7_hourGoes.2.2.2 ∈ pg_tb := in_t5 (List.mem_of_getElem? (i := 122) rfl) rfl
abbrev mX7_pairs : MI := (yX7_pairs, cX7_pairs, 3, (some .int))
theorem kX7_pairs : Cond.code mX7_pairs.1 mX7_pairs.2.1 mX7_pairs.2.2.1 mX7_pairs.2.2.2 ∈ pg_tb := in_t5 (List.mem_of_getElem? (i := 134) rfl) rfl
abbrev mX7_hours : MI := (yX7_hours, cX7_hours, 3, (some .int))
theorem kX7_hours : Cond.code mX7_hours.1 mX7_hours.2.1 mX7_hours.2.2.1 mX7_hours.2.2.2 ∈ pg_tb := in_t5 (List.mem_of_getElem? (i := 118) rfl) rfl
abbrev mX7_drawn : MI := (yX7_drawn, cX7_drawn, 1, (some .int))
theorem kX7_drawn : Cond.code mX7_drawn.1 mX7_drawn.2.1 mX7_drawn.2.2.1 mX7_drawn.2.2.2 ∈ pg_tb := in_t5 (List.mem_of_getElem? (i := 153) rfl) rfl
abbrev mX7_seed : MI := (yX7_seed, cX7_seed, 2, (some .int))
theorem kX7_seed : Cond.code mX7_seed.1 mX7_seed.2.1 mX7_seed.2.2.1 mX7_seed.2.2.2 ∈ pg_tb := in_t5 (List.mem_of_getElem? (i := 141) rfl) rfl
abbrev mX7_hourByDraws : MI := (yX7_hourByDraws, cX7_hourByDraws, 2, (some .int))
theorem kX7_hourByDraws : Cond.code mX7_hourByDraws.1 mX7_hourByDraws.2.1 mX7_hourByDraws.2.2.1 mX7_hourByDraws.2.2.2 ∈ pg_tb := in_t5 (List.mem_of_getElem? (i := 149) rfl) rfl
abbrev mX7_hour : MI := (yX7_hour, cX7_hour, 1, (some .int))
theorem kX7_hour : Cond.code mX7_hour.1 mX7_hour.2.1 mX7_hour.2.2.1 mX7_hour.2.2.2 ∈ pg_tb := in_t5 (List.mem_of_getElem? (i := 145) rfl) rfl
abbrev mX7_found : MI := (yX7_found, cX7_found, 6, (some .int))
theorem kX7_found : Cond.code mX7_found.1 mX7_found.2.1 mX7_found.2.2.1 mX7_found.2.2.2 ∈ pg_tb := in_t5 (List.mem_of_getElem? (i := 158) rfl) rfl
abbrev mX7_lonelySet : MI := (yX7_lonelySet, cX7_lonelySet, 3, (some .int))
theorem kX7_lonelySet : Cond.code mX7_lonelySet.1 mX7_lonelySet.2.1 mX7_lonelySet.2.2.1 mX7_lonelySet.2.2.2 ∈ pg_tb := in_t5 (List.mem_of_getElem? (i := 166) rfl) rfl
abbrev mX7_placeSet : MI := (yX7_placeSet, cX7_placeSet, 3, (some .int))
theorem kX7_placeSet : Cond.code mX7_placeSet.1 mX7_placeSet.2.1 mX7_placeSet.2.2.1 mX7_placeSet.2.2.2 ∈ pg_tb := in_t5 (List.mem_of_getElem? (i := 170) rfl) rfl
abbrev mX7_circleOf : MI := (yX7_circleOf, cX7_circleOf, 5, (some .int))
theorem kX7_circleOf : Cond.code mX7_circleOf.1 mX7_circleOf.2.1 mX7_circleOf.2.2.1 mX7_circleOf.2.2.2 ∈ pg_tb := in_t5 (List.mem_of_getElem? (i := 178) rfl) rfl
abbrev mX7_circles : MI := (yX7_circles, cX7_circles, 3, (some .int))
theorem kX7_circles : Cond.code mX7_circles.1 mX7_circles.2.1 mX7_circles.2.2.1 mX7_circles.2.2.2 ∈ pg_tb := in_t5 (List.mem_of_getElem? (i := 174) rfl) rfl
abbrev mX7_weights : MI := (yX7_weights, cX7_weights, 3, (some .int))
theorem kX7_weights : Cond.code mX7_weights.1 mX7_weights.2.1 mX7_weights.2.2.1 mX7_weights.2.2.2 ∈ pg_tb := in_t5 (List.mem_of_getElem? (i := 182) rfl) rfl
abbrev mX7_state : MI := (yX7_state, cX7_state, 2, (some .int))
theorem kX7_state : Cond.code mX7_state.1 mX7_state.2.1 mX7_state.2.2.1 mX7_state.2.2.2 ∈ pg_tb := in_t5 (List.mem_of_getElem? (i := 162) rfl) rfl
abbrev mX7_behind : MI := (yX7_behind, cX7_behind, 5, (some .int))
theorem kX7_behind : Cond.code mX7_behind.1 mX7_behind.2.1 mX7_behind.2.2.1 mX7_behind.2.2.2 ∈ pg_tb := in_t5 (List.mem_of_getElem? (i := 190) rfl) rfl
abbrev mX7_ahead : MI := (yX7_ahead, cX7_ahead, 4, (some .int))
theorem kX7_ahead : Cond.code mX7_ahead.1 mX7_ahead.2.1 mX7_ahead.2.2.1 mX7_ahead.2.2.2 ∈ pg_tb := in_t5 (List.mem_of_getElem? (i := 186) rfl) rfl
abbrev mX7_meet : MI := (yX7_meet, cX7_meet, 4, (some .int))
theorem kX7_meet : Cond.code mX7_meet.1 mX7_meet.2.1 mX7_meet.2.2.1 mX7_meet.2.2.2 ∈ pg_tb := in_t5 (List.mem_of_getElem? (i := 194) rfl) rfl
abbrev mX7_gather : MI := (yX7_gather, cX7_gather, 2, (some .int))
theorem kX7_gather : Cond.code mX7_gather.1 mX7_gather.2.1 mX7_gather.2.2.1 mX7_gather.2.2.2 ∈ pg_tb := in_t5 (List.mem_of_getElem? (i := 198) rfl) rfl
abbrev mX7_alone : MI := (yX7_alone, cX7_alone, 3, (some .int))
theorem kX7_alone : Cond.code mX7_alone.1 mX7_alone.2.1 mX7_alone.2.2.1 mX7_alone.2.2.2 ∈ pg_tb := in_t5 (List.mem_of_getElem? (i := 202) rfl) rfl
abbrev mX7_bestOf : MI := (yX7_bestOf, cX7_bestOf, 9, (some .int))
theorem kX7_bestOf : Cond.code mX7_bestOf.1 mX7_bestOf.2.1 mX7_bestOf.2.2.1 mX7_bestOf.2.2.2 ∈ pg_tb := in_t5 (List.mem_of_getElem? (i := 210) rfl) rfl
abbrev mX7_pegFor : MI := (yX7_pegFor, cX7_pegFor, 3, (some .int))
theorem kX7_pegFor : Cond.code mX7_pegFor.1 mX7_pegFor.2.1 mX7_pegFor.2.2.1 mX7_pegFor.2.2.2 ∈ pg_tb := in_t5 (List.mem_of_getElem? (i := 206) rfl) rfl
abbrev mX7_kindFor : MI := (yX7_kindFor, cX7_kindFor, 3, (some .int))
theorem kX7_kindFor : Cond.code mX7_kindFor.1 mX7_kindFor.2.1 mX7_kindFor.2.2.1 mX7_kindFor.2.2.2 ∈ pg_tb := in_t5 (List.mem_of_getElem? (i := 214) rfl) rfl
abbrev mX7_placeFor : MI := (yX7_placeFor, cX7_placeFor, 3, (some .int))
theorem kX7_placeFor : Cond.code mX7_placeFor.1 mX7_placeFor.2.1 mX7_placeFor.2.2.1 mX7_placeFor.2.2.2 ∈ pg_tb := in_t5 (List.mem_of_getElem? (i := 218) rfl) rfl
abbrev mX7_circle : MI := (yX7_circle, cX7_circle, 2, (some .int))
theorem kX7_circle : Cond.code mX7_circle.1 mX7_circle.2.1 mX7_circle.2.2.1 mX7_circle.2.2.2 ∈ pg_tb := in_t5 (List.mem_of_getElem? (i := 222) rfl) rfl
abbrev mX7_unlikeAt : MI := (yX7_unlikeAt, cX7_unlikeAt, 5, (some .int))
theorem kX7_unlikeAt : Cond.code mX7_unlikeAt.1 mX7_unlikeAt.2.1 mX7_unlikeAt.2.2.1 mX7_unlikeAt.2.2.2 ∈ pg_tb := in_t5 (List.mem_of_getElem? (i := 230) rfl) rfl
abbrev mX7_areApart : MI := (yX7_areApart, cX7_areApart, 5, (some .boolean))
theorem kX7_areApart : Cond.code mX7_areApart.1 mX7_areApart.2.1 mX7_areApart.2.2.1 mX7_areApart.2.2.2 ∈ pg_tb := in_t5 (List.mem_of_getElem? (i := 234) rfl) rfl
abbrev mX7_apart : MI := (yX7_apart, cX7_apart, 4, (some .int))
theorem kX7_apart : Cond.code mX7_apart.1 mX7_apart.2.1 mX7_apart.2.2.1 mX7_apart.2.2.2 ∈ pg_tb := in_t5 (List.mem_of_getElem? (i := 226) rfl) rfl
abbrev mX7_isSo : MI := (yX7_isSo, cX7_isSo, 5, (some .boolean))
theorem kX7_isSo : Cond.code mX7_isSo.1 mX7_isSo.2.1 mX7_isSo.2.2.1 mX7_isSo.2.2.2 ∈ pg_tb := in_t6 (List.mem_of_getElem? (i := 5) rfl) rfl
abbrev mX7_fits : MI := (yX7_fits, cX7_fits, 8, (some .int))
theorem kX7_fits : Cond.code mX7_fits.1 mX7_fits.2.1 mX7_fits.2.2.1 mX7_fits.2.2.2 ∈ pg_tb := in_t5 (List.mem_of_getElem? (i := 238) rfl) rfl
abbrev mX7_lowest : MI := (yX7_lowest, cX7_lowest, 11, (some .long))
theorem kX7_lowest : Cond.code mX7_lowest.1 mX7_lowest.2.1 mX7_lowest.2.2.1 mX7_lowest.2.2.2 ∈ pg_tb := in_t6 (List.mem_of_getElem? (i := 15) rfl) rfl
abbrev mX7_powerOf : MI := (yX7_powerOf, cX7_powerOf, 5, (some .long))
theorem kX7_powerOf : Cond.code mX7_powerOf.1 mX7_powerOf.2.1 mX7_powerOf.2.2.1 mX7_powerOf.2.2.2 ∈ pg_tb := in_t6 (List.mem_of_getElem? (i := 12) rfl) rfl
abbrev mX7_odds : MI := (yX7_odds, cX7_odds, 7, (some .long))
theorem kX7_odds : Cond.code mX7_odds.1 mX7_odds.2.1 mX7_odds.2.2.1 mX7_odds.2.2.2 ∈ pg_tb := in_t6 (List.mem_of_getElem? (i := 9) rfl) rfl
abbrev mX7_hope : MI := (yX7_hope, cX7_hope, 3, (some .long))
theorem kX7_hope : Cond.code mX7_hope.1 mX7_hope.2.1 mX7_hope.2.2.1 mX7_hope.2.2.2 ∈ pg_tb := in_t6 (List.mem_of_getElem? (i := 19) rfl) rfl
abbrev mX7_findRows : MI := (yX7_findRows, cX7_findRows, 5, none)
theorem kX7_findRows : Cond.code mX7_findRows.1 mX7_findRows.2.1 mX7_findRows.2.2.1 mX7_findRows.2.2.2 ∈ pg_tb := in_t6 (List.mem_of_getElem? (i := 28) rfl) rfl
abbrev mX7_prove : MI := (yX7_prove, cX7_prove, 4, (some .int))
theorem kX7_prove : Cond.code mX7_prove.1 mX7_prove.2.1 mX7_prove.2.2.1 mX7_prove.2.2.2 ∈ pg_tb := in_t6 (List.mem_of_getElem? (i := 24) rfl) rfl
abbrev mX7_isRow : MI := (yX7_isRow, cX7_isRow, 3, (some .boolean))
theorem kX7_isRow : Cond.code mX7_isRow.1 mX7_isRow.2.1 mX7_isRow.2.2.1 mX7_isRow.2.2.2 ∈ pg_tb := in_t6 (List.mem_of_getElem? (i := 36) rfl) rfl
abbrev mX7_row : MI := (yX7_row, cX7_row, 3, (some .int))
theorem kX7_row : Cond.code mX7_row.1 mX7_row.2.1 mX7_row.2.2.1 mX7_row.2.2.2 ∈ pg_tb := in_t6 (List.mem_of_getElem? (i := 32) rfl) rfl
abbrev mX7_alterRow : MI := (yX7_alterRow, cX7_alterRow, 5, (some .int))
theorem kX7_alterRow : Cond.code mX7_alterRow.1 mX7_alterRow.2.1 mX7_alterRow.2.2.1 mX7_alterRow.2.2.2 ∈ pg_tb := in_t6 (List.mem_of_getElem? (i := 40) rfl) rfl
abbrev mX7_judge : MI := (yX7_judge, cX7_judge, 3, (some .int))
theorem kX7_judge : Cond.code mX7_judge.1 mX7_judge.2.1 mX7_judge.2.2.1 mX7_judge.2.2.2 ∈ pg_tb := in_t6 (List.mem_of_getElem? (i := 44) rfl) rfl
abbrev mX7_minds : MI := (yX7_minds, cX7_minds, 7, (some .int))
theorem kX7_minds : Cond.code mX7_minds.1 mX7_minds.2.1 mX7_minds.2.2.1 mX7_minds.2.2.2 ∈ pg_tb := in_t6 (List.mem_of_getElem? (i := 48) rfl) rfl
abbrev mX7_isShelf : MI := (yX7_isShelf, cX7_isShelf, 1, (some .boolean))
theorem kX7_isShelf : Cond.code mX7_isShelf.1 mX7_isShelf.2.1 mX7_isShelf.2.2.1 mX7_isShelf.2.2.2 ∈ pg_tb := in_t6 (List.mem_of_getElem? (i := 1) rfl) rfl
abbrev mX7_sheet : MI := (yX7_sheet, cX7_sheet, 5, (some .int))
theorem kX7_sheet : Cond.code mX7_sheet.1 mX7_sheet.2.1 mX7_sheet.2.2.1 mX7_sheet.2.2.2 ∈ pg_tb := in_t6 (List.mem_of_getElem? (i := 59) rfl) rfl
abbrev mX7_put : MI := (yX7_put, cX7_put, 4, (some .int))
theorem kX7_put : Cond.code mX7_put.1 mX7_put.2.1 mX7_put.2.2.1 mX7_put.2.2.2 ∈ pg_tb := in_t6 (List.mem_of_getElem? (i := 63) rfl) rfl
abbrev mX7_lacksSort : MI := (yX7_lacksSort, cX7_lacksSort, 3, (some .int))
theorem kX7_lacksSort : Cond.code mX7_lacksSort.1 mX7_lacksSort.2.1 mX7_lacksSort.2.2.1 mX7_lacksSort.2.2.2 ∈ pg_tb := in_t6 (List.mem_of_getElem? (i := 52) rfl) rfl
abbrev mX7_item : MI := (yX7_item, cX7_item, 5, (some .int))
theorem kX7_item : Cond.code mX7_item.1 mX7_item.2.1 mX7_item.2.2.1 mX7_item.2.2.2 ∈ pg_tb := in_t6 (List.mem_of_getElem? (i := 67) rfl) rfl
abbrev mX7_isHeld : MI := (yX7_isHeld, cX7_isHeld, 3, (some .boolean))
theorem kX7_isHeld : Cond.code mX7_isHeld.1 mX7_isHeld.2.1 mX7_isHeld.2.2.1 mX7_isHeld.2.2.2 ∈ pg_tb := in_t6 (List.mem_of_getElem? (i := 75) rfl) rfl
abbrev mX7_shelf : MI := (yX7_shelf, cX7_shelf, 4, (some .int))
theorem kX7_shelf : Cond.code mX7_shelf.1 mX7_shelf.2.1 mX7_shelf.2.2.1 mX7_shelf.2.2.2 ∈ pg_tb := in_t6 (List.mem_of_getElem? (i := 71) rfl) rfl
abbrev mX7_kindOn : MI := (yX7_kindOn, cX7_kindOn, 2, (some .int))
theorem kX7_kindOn : Cond.code mX7_kindOn.1 mX7_kindOn.2.1 mX7_kindOn.2.2.1 mX7_kindOn.2.2.2 ∈ pg_tb := in_t6 (List.mem_of_getElem? (i := 83) rfl) rfl
abbrev mX7_isUnder : MI := (yX7_isUnder, cX7_isUnder, 2, (some .boolean))
theorem kX7_isUnder : Cond.code mX7_isUnder.1 mX7_isUnder.2.1 mX7_isUnder.2.2.1 mX7_isUnder.2.2.2 ∈ pg_tb := in_t6 (List.mem_of_getElem? (i := 86) rfl) rfl
abbrev mX7_taken : MI := (yX7_taken, cX7_taken, 4, (some .int))
theorem kX7_taken : Cond.code mX7_taken.1 mX7_taken.2.1 mX7_taken.2.2.1 mX7_taken.2.2.2 ∈ pg_tb := in_t6 (List.mem_of_getElem? (i := 79) rfl) rfl
abbrev mX7_ran : MI := (yX7_ran, cX7_ran, 2, none)
theorem kX7_ran : Cond.code mX7_ran.1 mX7_ran.2.1 mX7_ran.2.2.1 mX7_ran.2.2.2 ∈ pg_tb := in_t6 (List.mem_of_getElem? (i := 102) rfl) rfl
abbrev mX7_plainHooks : MI := (yX7_plainHooks, cX7_plainHooks, 2, (some .int))
theorem kX7_plainHooks : Cond.code mX7_plainHooks.1 mX7_plainHooks.2.1 mX7_plainHooks.2.2.1 mX7_plainHooks.2.2.2 ∈ pg_tb := in_t6 (List.mem_of_getElem? (i := 106) rfl) rfl
abbrev mX7_burglarHooks : MI := (yX7_burglarHooks, cX7_burglarHooks, 2, (some .int))
theorem kX7_burglarHooks : Cond.code mX7_burglarHooks.1 mX7_burglarHooks.2.1 mX7_burglarHooks.2.2.1 mX7_burglarHooks.2.2.2 ∈ pg_tb := in_t6 (List.mem_of_getElem? (i := 98) rfl) rfl
abbrev mX7_hooksIt : MI := (yX7_hooksIt, cX7_hooksIt, 2, (some .int))
theorem kX7_hooksIt : Cond.code mX7_hooksIt.1 mX7_hooksIt.2.1 mX7_hooksIt.2.2.1 mX7_hooksIt.2.2.2 ∈ pg_tb := in_t6 (List.mem_of_getElem? (i := 94) rfl) rfl
abbrev mX7_plainLeans : MI := (yX7_plainLeans, cX7_plainLeans, 2, (some .int))
theorem kX7_plainLeans : Cond.code mX7_plainLeans.1 mX7_plainLeans.2.1 mX7_plainLeans.2.2.1 mX7_plainLeans.2.2.2 ∈ pg_tb := in_t6 (List.mem_of_getElem? (i := 114) rfl) rfl
abbrev mX7_leansIt : MI := (yX7_leansIt, cX7_leansIt, 3, (some .int))
theorem kX7_leansIt : Cond.code mX7_leansIt.1 mX7_leansIt.2.1 mX7_leansIt.2.2.1 mX7_leansIt.2.2.2 ∈ pg_tb := in_t6 (List.mem_of_getElem? (i := 110) rfl) rfl
abbrev mX7_plainParts : MI := (yX7_plainParts, cX7_plainParts, 2, (some .int))
theorem kX7_plainParts : Cond.code mX7_plainParts.1 mX7_plainParts.2.1 mX7_plainParts.2.2.1 mX7_plainParts.2.2.2 ∈ pg_tb := in_t6 (List.mem_of_getElem? (i := 122) rfl) rfl
abbrev mX7_partsIt : MI := (yX7_partsIt, cX7_partsIt, 3, (some .int))
theorem kX7_partsIt : Cond.code mX7_partsIt.1 mX7_partsIt.2.1 mX7_partsIt.2.2.1 mX7_partsIt.2.2.2 ∈ pg_tb := in_t6 (List.mem_of_getElem? (i := 118) rfl) rfl
abbrev mX7_plainCalls : MI := (yX7_plainCalls, cX7_plainCalls, 2, (some .int))
theorem kX7_plainCalls : Cond.code mX7_plainCalls.1 mX7_plainCalls.2.1 mX7_plainCalls.2.2.1 mX7_plainCalls.2.2.2 ∈ pg_tb := in_t6 (List.mem_of_getElem? (i := 130) rfl) rfl
abbrev mX7_callsIt : MI := (yX7_callsIt, cX7_callsIt, 3, (some .int))
theorem kX7_callsIt : Cond.code mX7_callsIt.1 mX7_callsIt.2.1 mX7_callsIt.2.2.1 mX7_callsIt.2.2.2 ∈ pg_tb := in_t6 (List.mem_of_getElem? (i := 126) rfl) rfl
abbrev mX7_act : MI := (yX7_act, cX7_act, 6, (some .int))
theorem kX7_act : Cond.code mX7_act.1 mX7_act.2.1 mX7_act.2.2.1 mX7_act.2.2.2 ∈ pg_tb := in_t6 (List.mem_of_getElem? (i := 90) rfl) rfl
abbrev mX7_trace : MI := (yX7_trace, cX7_trace, 2, (some .int))
theorem kX7_trace : Cond.code mX7_trace.1 mX7_trace.2.1 mX7_trace.2.2.1 mX7_trace.2.2.2 ∈ pg_tb := in_t6 (List.mem_of_getElem? (i := 134) rfl) rfl
abbrev mX7_pegsHad : MI := (yX7_pegsHad, cX7_pegsHad, 3, (some .int))
theorem kX7_pegsHad : Cond.code mX7_pegsHad.1 mX7_pegsHad.2.1 mX7_pegsHad.2.2.1 mX7_pegsHad.2.2.2 ∈ pg_tb := in_t6 (List.mem_of_getElem? (i := 142) rfl) rfl
abbrev mX7_many : MI := (yX7_many, cX7_many, 2, (some .int))
theorem kX7_many : Cond.code mX7_many.1 mX7_many.2.1 mX7_many.2.2.1 mX7_many.2.2.2 ∈ pg_tb := in_t6 (List.mem_of_getElem? (i := 138) rfl) rfl
abbrev mX7_keep : MI := (yX7_keep, cX7_keep, 1, (some .int))
theorem kX7_keep : Cond.code mX7_keep.1 mX7_keep.2.1 mX7_keep.2.2.1 mX7_keep.2.2.2 ∈ pg_tb := in_t6 (List.mem_of_getElem? (i := 146) rfl) rfl
abbrev mX7_again : MI := (yX7_again, cX7_again, 1, (some .int))
theorem kX7_again : Cond.code mX7_again.1 mX7_again.2.1 mX7_again.2.2.1 mX7_again.2.2.2 ∈ pg_tb := in_t6 (List.mem_of_getElem? (i := 150) rfl) rfl
abbrev mJ6_bitCount_0f7a4 : MI := (yJ6_bitCount_0f7a4, cJ6_bitCount_0f7a4, 1, (some .int))
theorem kJ6_bitCount_0f7a4 : Cond.code mJ6_bitCount_0f7a4.1 mJ6_bitCount_0f7a4.2.1 mJ6_bitCount_0f7a4.2.2.1 mJ6_bitCount_0f7a4.2.2.2 ∈ pg_tb := in_t3 (List.mem_of_getElem? (i := 7) rfl) rfl
abbrev mJ9_floorMod_7cf53 : MI := (yJ9_floorMod_7cf53, cJ9_floorMod_7cf53, 3, (some .int))
theorem kJ9_floorMod_7cf53 : Cond.code mJ9_floorMod_7cf53.1 mJ9_floorMod_7cf53.2.1 mJ9_floorMod_7cf53.2.2.1 mJ9_floorMod_7cf53.2.2.2 ∈ pg_tb := in_t2 (List.mem_of_getElem? (i := 223) rfl) rfl
abbrev mJ9_abs_0f7a4 : MI := (yJ9_abs_0f7a4, cJ9_abs_0f7a4, 1, (some .int))
theorem kJ9_abs_0f7a4 : Cond.code mJ9_abs_0f7a4.1 mJ9_abs_0f7a4.2.1 mJ9_abs_0f7a4.2.2.1 mJ9_abs_0f7a4.2.2.2 ∈ pg_tb := in_t2 (List.mem_of_getElem? (i := 235) rfl) rfl
abbrev mJ9_max_7cf53 : MI := (yJ9_max_7cf53, cJ9_max_7cf53, 2, (some .int))
theorem kJ9_max_7cf53 : Cond.code mJ9_max_7cf53.1 mJ9_max_7cf53.2.1 mJ9_max_7cf53.2.2.1 mJ9_max_7cf53.2.2.2 ∈ pg_tb := in_t3 (List.mem_of_getElem? (i := 190) rfl) rfl
abbrev mJ9_max_f86c9 : MI := (yJ9_max_f86c9, cJ9_max_f86c9, 4, (some .long))
theorem kJ9_max_f86c9 : Cond.code mJ9_max_f86c9.1 mJ9_max_f86c9.2.1 mJ9_max_f86c9.2.2.1 mJ9_max_f86c9.2.2.2 ∈ pg_tb := in_t3 (List.mem_of_getElem? (i := 147) rfl) rfl
abbrev mJ9_min_7cf53 : MI := (yJ9_min_7cf53, cJ9_min_7cf53, 2, (some .int))
theorem kJ9_min_7cf53 : Cond.code mJ9_min_7cf53.1 mJ9_min_7cf53.2.1 mJ9_min_7cf53.2.2.1 mJ9_min_7cf53.2.2.2 ∈ pg_tb := in_t3 (List.mem_of_getElem? (i := 187) rfl) rfl
abbrev mJ0_charAt_5068e : MI := (yJ0_charAt_5068e, cJ0_charAt_5068e, 2, (some .char))
theorem kJ0_charAt_5068e : Cond.code mJ0_charAt_5068e.1 mJ0_charAt_5068e.2.1 mJ0_charAt_5068e.2.2.1 mJ0_charAt_5068e.2.2.2 ∈ pg_tb := in_t2 (List.mem_of_getElem? (i := 34) rfl) rfl
abbrev mJ0_isLatin1_aae02 : MI := (yJ0_isLatin1_aae02, cJ0_isLatin1_aae02, 1, (some .boolean))
theorem kJ0_isLatin1_aae02 : Cond.code mJ0_isLatin1_aae02.1 mJ0_isLatin1_aae02.2.1 mJ0_isLatin1_aae02.2.2.1 mJ0_isLatin1_aae02.2.2.2 ∈ pg_tb := in_t2 (List.mem_of_getElem? (i := 38) rfl) rfl
abbrev mJ0_checkIndex_df160 : MI := (yJ0_checkIndex_df160, cJ0_checkIndex_df160, 2, none)
theorem kJ0_checkIndex_df160 : Cond.code mJ0_checkIndex_df160.1 mJ0_checkIndex_df160.2.1 mJ0_checkIndex_df160.2.2.1 mJ0_checkIndex_df160.2.2.2 ∈ pg_tb := in_t2 (List.mem_of_getElem? (i := 46) rfl) rfl
abbrev mJ1_charAt_3b067 : MI := (yJ1_charAt_3b067, cJ1_charAt_3b067, 2, (some .char))
theorem kJ1_charAt_3b067 : Cond.code mJ1_charAt_3b067.1 mJ1_charAt_3b067.2.1 mJ1_charAt_3b067.2.2.1 mJ1_charAt_3b067.2.2.2 ∈ pg_tb := in_t2 (List.mem_of_getElem? (i := 43) rfl) rfl
abbrev mJ2_getChar_3b067 : MI := (yJ2_getChar_3b067, cJ2_getChar_3b067, 2, (some .char))
theorem kJ2_getChar_3b067 : Cond.code mJ2_getChar_3b067.1 mJ2_getChar_3b067.2.1 mJ2_getChar_3b067.2.2.1 mJ2_getChar_3b067.2.2.2 ∈ pg_tb := in_t2 (List.mem_of_getElem? (i := 64) rfl) rfl
abbrev mJ2_length_9d52b : MI := (yJ2_length_9d52b, cJ2_length_9d52b, 1, (some .int))
theorem kJ2_length_9d52b : Cond.code mJ2_length_9d52b.1 mJ2_length_9d52b.2.1 mJ2_length_9d52b.2.2.1 mJ2_length_9d52b.2.2.2 ∈ pg_tb := in_t2 (List.mem_of_getElem? (i := 60) rfl) rfl
abbrev mJ2_charAt_3b067 : MI := (yJ2_charAt_3b067, cJ2_charAt_3b067, 2, (some .char))
theorem kJ2_charAt_3b067 : Cond.code mJ2_charAt_3b067.1 mJ2_charAt_3b067.2.1 mJ2_charAt_3b067.2.2.1 mJ2_charAt_3b067.2.2.2 ∈ pg_tb := in_t2 (List.mem_of_getElem? (i := 54) rfl) rfl
abbrev mJ2_checkIndex_2214a : MI := (yJ2_checkIndex_2214a, cJ2_checkIndex_2214a, 2, none)
theorem kJ2_checkIndex_2214a : Cond.code mJ2_checkIndex_2214a.1 mJ2_checkIndex_2214a.2.1 mJ2_checkIndex_2214a.2.2.1 mJ2_checkIndex_2214a.2.2.2 ∈ pg_tb := in_t2 (List.mem_of_getElem? (i := 57) rfl) rfl
abbrev mJ3_checkIndex_8e157 : MI := (yJ3_checkIndex_8e157, cJ3_checkIndex_8e157, 3, (some .int))
theorem kJ3_checkIndex_8e157 : Cond.code mJ3_checkIndex_8e157.1 mJ3_checkIndex_8e157.2.1 mJ3_checkIndex_8e157.2.2.1 mJ3_checkIndex_8e157.2.2.2 ∈ pg_tb := in_t2 (List.mem_of_getElem? (i := 51) rfl) rfl
def pg_CV (own : String) (idx : Nat) (M : MI) (n : Nat) : Prop := Cond.methodLink own idx M.1 ∈ pg_tb ∧ Cond.instanceMethod M.1 ∈ pg_tb ∧ Cond.selects M.1.cls M.1 M.1 ∈ pg_tb ∧ Cond.initialized M.1.cls ∈ pg_tb ∧ Cond.code M.1 M.2.1 M.2.2.1 M.2.2.2 ∈ pg_tb ∧ M.2.2.1 ≤ 40 ∧ (M.1.cls ≠ "java/lang/invoke/MethodHandle" ∧ M.1.cls ≠ "java/lang/invoke/VarHandle" ∧ (parseMethodDescriptor M.1.desc).map (fun d => d.parameters.length) = some n)
def pg_CS (own : String) (idx : Nat) (M : MI) (n : Nat) : Prop := Cond.methodLink own idx M.1 ∈ pg_tb ∧ Cond.static M.1 ∈ pg_tb ∧ Cond.initialized M.1.cls ∈ pg_tb ∧ Cond.code M.1 M.2.1 M.2.2.1 M.2.2.2 ∈ pg_tb ∧ M.2.2.1 ≤ 40 ∧ (M.1.cls ≠ "java/lang/invoke/MethodHandle" ∧ M.1.cls ≠ "java/lang/invoke/VarHandle" ∧ (parseMethodDescriptor M.1.desc).map (fun d => d.parameters.length) = some n)
def pg_CN (own : String) (idx : Nat) (M : MI) (n : Nat) : Prop := Cond.static M.1 ∈ pg_tb ∧ Cond.initialized M.1.cls ∈ pg_tb ∧ Cond.code M.1 M.2.1 M.2.2.1 M.2.2.2 ∈ pg_tb ∧ M.2.2.1 ≤ 40 ∧ (M.1.cls ≠ "java/lang/invoke/MethodHandle" ∧ M.1.cls ≠ "java/lang/invoke/VarHandle" ∧ (parseMethodDescriptor M.1.desc).map (fun d => d.parameters.length) = some n)

theorem cvRX5_46 : pg_CV RX5 46 mX5_startAnew 0 := ⟨in_t1 (List.mem_of_getElem? (i := 30) rfl) rfl, in_t1 (List.mem_of_getElem? (i := 31) rfl) rfl, in_t1 (List.mem_of_getElem? (i := 32) rfl) rfl, in_t1 (List.mem_of_getElem? (i := 2) rfl) rfl, kX5_startAnew, by decide, ⟨by decide +kernel, by decide +kernel, by decide +kernel⟩⟩
theorem cvRL_15 : pg_CV RL 15 mX6_feed 2 := ⟨in_t1 (List.mem_of_getElem? (i := 235) rfl) rfl, in_t1 (List.mem_of_getElem? (i := 236) rfl) rfl, in_t1 (List.mem_of_getElem? (i := 237) rfl) rfl, in_t1 (List.mem_of_getElem? (i := 1) rfl) rfl, kX6_feed, by decide, ⟨by decide +kernel, by decide +kernel, by decide +kernel⟩⟩
theorem csRX6_65 : pg_CS RX6 65 mX6_between 3 := ⟨in_t1 (List.mem_of_getElem? (i := 239) rfl) rfl, in_t2 (List.mem_of_getElem? (i := 0) rfl) rfl, in_t1 (List.mem_of_getElem? (i := 1) rfl) rfl, kX6_between, by decide, ⟨by decide +kernel, by decide +kernel, by decide +kernel⟩⟩
theorem cvRX6_69 : pg_CV RX6 69 mX4_takeBytes 2 := ⟨in_t2 (List.mem_of_getElem? (i := 2) rfl) rfl, in_t2 (List.mem_of_getElem? (i := 3) rfl) rfl, in_t2 (List.mem_of_getElem? (i := 4) rfl) rfl, in_t1 (List.mem_of_getElem? (i := 3) rfl) rfl, kX4_takeBytes, by decide, ⟨by decide +kernel, by decide +kernel, by decide +kernel⟩⟩
theorem cvRL_20 : pg_CV RL 20 mX6_school 0 := ⟨in_t2 (List.mem_of_getElem? (i := 6) rfl) rfl, in_t2 (List.mem_of_getElem? (i := 7) rfl) rfl, in_t2 (List.mem_of_getElem? (i := 8) rfl) rfl, in_t1 (List.mem_of_getElem? (i := 1) rfl) rfl, kX6_school, by decide, ⟨by decide +kernel, by decide +kernel, by decide +kernel⟩⟩
theorem cvRX6_73 : pg_CV RX6 73 mX5_startAnew 0 := ⟨in_t2 (List.mem_of_getElem? (i := 10) rfl) rfl, in_t1 (List.mem_of_getElem? (i := 31) rfl) rfl, in_t1 (List.mem_of_getElem? (i := 32) rfl) rfl, in_t1 (List.mem_of_getElem? (i := 2) rfl) rfl, kX5_startAnew, by decide, ⟨by decide +kernel, by decide +kernel, by decide +kernel⟩⟩
theorem cvRX6_80 : pg_CV RX6 80 mX4_tell 1 := ⟨in_t2 (List.mem_of_getElem? (i := 11) rfl) rfl, in_t2 (List.mem_of_getElem? (i := 12) rfl) rfl, in_t2 (List.mem_of_getElem? (i := 13) rfl) rfl, in_t1 (List.mem_of_getElem? (i := 3) rfl) rfl, kX4_tell, by decide, ⟨by decide +kernel, by decide +kernel, by decide +kernel⟩⟩
theorem cvRX4_34 : pg_CV RX4 34 mX4_advance 0 := ⟨in_t2 (List.mem_of_getElem? (i := 15) rfl) rfl, in_t2 (List.mem_of_getElem? (i := 17) rfl) rfl, in_s1 (List.mem_of_getElem? (i := 0) rfl) rfl, in_t1 (List.mem_of_getElem? (i := 3) rfl) rfl, kX4_advance, by decide, ⟨by decide +kernel, by decide +kernel, by decide +kernel⟩⟩
theorem csRX4_81 : pg_CS RX4 81 mX4_isLetter 1 := ⟨in_t2 (List.mem_of_getElem? (i := 19) rfl) rfl, in_t2 (List.mem_of_getElem? (i := 20) rfl) rfl, in_t1 (List.mem_of_getElem? (i := 3) rfl) rfl, kX4_isLetter, by decide, ⟨by decide +kernel, by decide +kernel, by decide +kernel⟩⟩
theorem cvRX4_84 : pg_CV RX4 84 mX4_scanName 0 := ⟨in_t2 (List.mem_of_getElem? (i := 22) rfl) rfl, in_t2 (List.mem_of_getElem? (i := 24) rfl) rfl, in_s1 (List.mem_of_getElem? (i := 1) rfl) rfl, in_t1 (List.mem_of_getElem? (i := 3) rfl) rfl, kX4_scanName, by decide, ⟨by decide +kernel, by decide +kernel, by decide +kernel⟩⟩
theorem cvRX4_93 : pg_CV RX4 93 mX4_isSpelt 1 := ⟨in_t2 (List.mem_of_getElem? (i := 26) rfl) rfl, in_t2 (List.mem_of_getElem? (i := 28) rfl) rfl, in_s1 (List.mem_of_getElem? (i := 2) rfl) rfl, in_t1 (List.mem_of_getElem? (i := 3) rfl) rfl, kX4_isSpelt, by decide, ⟨by decide +kernel, by decide +kernel, by decide +kernel⟩⟩
theorem cvRX4_98 : pg_CV RX4 98 mJ0_charAt_5068e 1 := ⟨in_t2 (List.mem_of_getElem? (i := 31) rfl) rfl, in_t2 (List.mem_of_getElem? (i := 32) rfl) rfl, in_t2 (List.mem_of_getElem? (i := 33) rfl) rfl, in_t1 (List.mem_of_getElem? (i := 9) rfl) rfl, kJ0_charAt_5068e, by decide, ⟨by decide +kernel, by decide +kernel, by decide +kernel⟩⟩
theorem cvRJ0_492 : pg_CV RJ0 492 mJ0_isLatin1_aae02 0 := ⟨in_t2 (List.mem_of_getElem? (i := 35) rfl) rfl, in_t2 (List.mem_of_getElem? (i := 36) rfl) rfl, in_t2 (List.mem_of_getElem? (i := 37) rfl) rfl, in_t1 (List.mem_of_getElem? (i := 9) rfl) rfl, kJ0_isLatin1_aae02, by decide, ⟨by decide +kernel, by decide +kernel, by decide +kernel⟩⟩
theorem csRJ0_495 : pg_CS RJ0 495 mJ1_charAt_3b067 2 := ⟨in_t2 (List.mem_of_getElem? (i := 41) rfl) rfl, in_t2 (List.mem_of_getElem? (i := 42) rfl) rfl, in_t1 (List.mem_of_getElem? (i := 10) rfl) rfl, kJ1_charAt_3b067, by decide, ⟨by decide +kernel, by decide +kernel, by decide +kernel⟩⟩
theorem csRJ1_9 : pg_CS RJ1 9 mJ0_checkIndex_df160 2 := ⟨in_t2 (List.mem_of_getElem? (i := 44) rfl) rfl, in_t2 (List.mem_of_getElem? (i := 45) rfl) rfl, in_t1 (List.mem_of_getElem? (i := 9) rfl) rfl, kJ0_checkIndex_df160, by decide, ⟨by decide +kernel, by decide +kernel, by decide +kernel⟩⟩
theorem csRJ0_1059 : pg_CS RJ0 1059 mJ3_checkIndex_8e157 3 := ⟨in_t2 (List.mem_of_getElem? (i := 49) rfl) rfl, in_t2 (List.mem_of_getElem? (i := 50) rfl) rfl, in_t1 (List.mem_of_getElem? (i := 11) rfl) rfl, kJ3_checkIndex_8e157, by decide, ⟨by decide +kernel, by decide +kernel, by decide +kernel⟩⟩
theorem csRJ0_498 : pg_CS RJ0 498 mJ2_charAt_3b067 2 := ⟨in_t2 (List.mem_of_getElem? (i := 52) rfl) rfl, in_t2 (List.mem_of_getElem? (i := 53) rfl) rfl, in_t1 (List.mem_of_getElem? (i := 12) rfl) rfl, kJ2_charAt_3b067, by decide, ⟨by decide +kernel, by decide +kernel, by decide +kernel⟩⟩
theorem csRJ2_67 : pg_CS RJ2 67 mJ2_checkIndex_2214a 2 := ⟨in_t2 (List.mem_of_getElem? (i := 55) rfl) rfl, in_t2 (List.mem_of_getElem? (i := 56) rfl) rfl, in_t1 (List.mem_of_getElem? (i := 12) rfl) rfl, kJ2_checkIndex_2214a, by decide, ⟨by decide +kernel, by decide +kernel, by decide +kernel⟩⟩
theorem csRJ2_48 : pg_CS RJ2 48 mJ2_length_9d52b 1 := ⟨in_t2 (List.mem_of_getElem? (i := 58) rfl) rfl, in_t2 (List.mem_of_getElem? (i := 59) rfl) rfl, in_t1 (List.mem_of_getElem? (i := 12) rfl) rfl, kJ2_length_9d52b, by decide, ⟨by decide +kernel, by decide +kernel, by decide +kernel⟩⟩
theorem csRJ2_414 : pg_CS RJ2 414 mJ0_checkIndex_df160 2 := ⟨in_t2 (List.mem_of_getElem? (i := 61) rfl) rfl, in_t2 (List.mem_of_getElem? (i := 45) rfl) rfl, in_t1 (List.mem_of_getElem? (i := 9) rfl) rfl, kJ0_checkIndex_df160, by decide, ⟨by decide +kernel, by decide +kernel, by decide +kernel⟩⟩
theorem csRJ2_71 : pg_CS RJ2 71 mJ2_getChar_3b067 2 := ⟨in_t2 (List.mem_of_getElem? (i := 62) rfl) rfl, in_t2 (List.mem_of_getElem? (i := 63) rfl) rfl, in_t1 (List.mem_of_getElem? (i := 12) rfl) rfl, kJ2_getChar_3b067, by decide, ⟨by decide +kernel, by decide +kernel, by decide +kernel⟩⟩
theorem csRX4_87 : pg_CS RX4 87 mX4_isDigit 1 := ⟨in_t2 (List.mem_of_getElem? (i := 71) rfl) rfl, in_t2 (List.mem_of_getElem? (i := 72) rfl) rfl, in_t1 (List.mem_of_getElem? (i := 3) rfl) rfl, kX4_isDigit, by decide, ⟨by decide +kernel, by decide +kernel, by decide +kernel⟩⟩
theorem cvRX4_90 : pg_CV RX4 90 mX4_scanNumber 0 := ⟨in_t2 (List.mem_of_getElem? (i := 74) rfl) rfl, in_t2 (List.mem_of_getElem? (i := 76) rfl) rfl, in_s1 (List.mem_of_getElem? (i := 3) rfl) rfl, in_t1 (List.mem_of_getElem? (i := 3) rfl) rfl, kX4_scanNumber, by decide, ⟨by decide +kernel, by decide +kernel, by decide +kernel⟩⟩
theorem cvRX4_37 : pg_CV RX4 37 mX4_isNameFrom 2 := ⟨in_t2 (List.mem_of_getElem? (i := 78) rfl) rfl, in_t2 (List.mem_of_getElem? (i := 80) rfl) rfl, in_s1 (List.mem_of_getElem? (i := 4) rfl) rfl, in_t1 (List.mem_of_getElem? (i := 3) rfl) rfl, kX4_isNameFrom, by decide, ⟨by decide +kernel, by decide +kernel, by decide +kernel⟩⟩
theorem cvRX4_41 : pg_CV RX4 41 mX4_tellPerson 2 := ⟨in_t2 (List.mem_of_getElem? (i := 82) rfl) rfl, in_t2 (List.mem_of_getElem? (i := 84) rfl) rfl, in_s1 (List.mem_of_getElem? (i := 5) rfl) rfl, in_t1 (List.mem_of_getElem? (i := 3) rfl) rfl, kX4_tellPerson, by decide, ⟨by decide +kernel, by decide +kernel, by decide +kernel⟩⟩
theorem cvRX4_56 : pg_CV RX4 56 mX4_passName 1 := ⟨in_t2 (List.mem_of_getElem? (i := 86) rfl) rfl, in_t2 (List.mem_of_getElem? (i := 88) rfl) rfl, in_s1 (List.mem_of_getElem? (i := 6) rfl) rfl, in_t1 (List.mem_of_getElem? (i := 3) rfl) rfl, kX4_passName, by decide, ⟨by decide +kernel, by decide +kernel, by decide +kernel⟩⟩
theorem cvRX4_60 : pg_CV RX4 60 mX4_passNumber 1 := ⟨in_t2 (List.mem_of_getElem? (i := 90) rfl) rfl, in_t2 (List.mem_of_getElem? (i := 92) rfl) rfl, in_s1 (List.mem_of_getElem? (i := 7) rfl) rfl, in_t1 (List.mem_of_getElem? (i := 3) rfl) rfl, kX4_passNumber, by decide, ⟨by decide +kernel, by decide +kernel, by decide +kernel⟩⟩
theorem cvRX4_63 : pg_CV RX4 63 mX4_passSemicolon 0 := ⟨in_t2 (List.mem_of_getElem? (i := 94) rfl) rfl, in_t2 (List.mem_of_getElem? (i := 96) rfl) rfl, in_s1 (List.mem_of_getElem? (i := 8) rfl) rfl, in_t1 (List.mem_of_getElem? (i := 3) rfl) rfl, kX4_passSemicolon, by decide, ⟨by decide +kernel, by decide +kernel, by decide +kernel⟩⟩
theorem cvRX4_67 : pg_CV RX4 67 mX5_admit 4 := ⟨in_t2 (List.mem_of_getElem? (i := 98) rfl) rfl, in_t2 (List.mem_of_getElem? (i := 99) rfl) rfl, in_t2 (List.mem_of_getElem? (i := 100) rfl) rfl, in_t1 (List.mem_of_getElem? (i := 2) rfl) rfl, kX5_admit, by decide, ⟨by decide +kernel, by decide +kernel, by decide +kernel⟩⟩
theorem cvRX4_45 : pg_CV RX4 45 mX4_tellWeight 2 := ⟨in_t2 (List.mem_of_getElem? (i := 102) rfl) rfl, in_t2 (List.mem_of_getElem? (i := 104) rfl) rfl, in_s1 (List.mem_of_getElem? (i := 9) rfl) rfl, in_t1 (List.mem_of_getElem? (i := 3) rfl) rfl, kX4_tellWeight, by decide, ⟨by decide +kernel, by decide +kernel, by decide +kernel⟩⟩
theorem cvRX4_48 : pg_CV RX4 48 mX4_tellLaw 2 := ⟨in_t2 (List.mem_of_getElem? (i := 106) rfl) rfl, in_t2 (List.mem_of_getElem? (i := 108) rfl) rfl, in_s1 (List.mem_of_getElem? (i := 10) rfl) rfl, in_t1 (List.mem_of_getElem? (i := 3) rfl) rfl, kX4_tellLaw, by decide, ⟨by decide +kernel, by decide +kernel, by decide +kernel⟩⟩
theorem cvRX6_87 : pg_CV RX6 87 mX5_become 1 := ⟨in_t2 (List.mem_of_getElem? (i := 112) rfl) rfl, in_t2 (List.mem_of_getElem? (i := 113) rfl) rfl, in_t2 (List.mem_of_getElem? (i := 114) rfl) rfl, in_t1 (List.mem_of_getElem? (i := 2) rfl) rfl, kX5_become, by decide, ⟨by decide +kernel, by decide +kernel, by decide +kernel⟩⟩
theorem cvRL_25 : pg_CV RL 25 mX6_set 2 := ⟨in_t2 (List.mem_of_getElem? (i := 119) rfl) rfl, in_t2 (List.mem_of_getElem? (i := 120) rfl) rfl, in_t2 (List.mem_of_getElem? (i := 121) rfl) rfl, in_t1 (List.mem_of_getElem? (i := 1) rfl) rfl, kX6_set, by decide, ⟨by decide +kernel, by decide +kernel, by decide +kernel⟩⟩
theorem csRX6_97 : pg_CS RX6 97 mX6_upTo 2 := ⟨in_t2 (List.mem_of_getElem? (i := 123) rfl) rfl, in_t2 (List.mem_of_getElem? (i := 124) rfl) rfl, in_t1 (List.mem_of_getElem? (i := 1) rfl) rfl, kX6_upTo, by decide, ⟨by decide +kernel, by decide +kernel, by decide +kernel⟩⟩
theorem cvRL_30 : pg_CV RL 30 mX6_lawOf 1 := ⟨in_t2 (List.mem_of_getElem? (i := 127) rfl) rfl, in_t2 (List.mem_of_getElem? (i := 128) rfl) rfl, in_t2 (List.mem_of_getElem? (i := 129) rfl) rfl, in_t1 (List.mem_of_getElem? (i := 1) rfl) rfl, kX6_lawOf, by decide, ⟨by decide +kernel, by decide +kernel, by decide +kernel⟩⟩
theorem cvRL_35 : pg_CV RL 35 mX6_person 4 := ⟨in_t2 (List.mem_of_getElem? (i := 131) rfl) rfl, in_t2 (List.mem_of_getElem? (i := 132) rfl) rfl, in_t2 (List.mem_of_getElem? (i := 133) rfl) rfl, in_t1 (List.mem_of_getElem? (i := 1) rfl) rfl, kX6_person, by decide, ⟨by decide +kernel, by decide +kernel, by decide +kernel⟩⟩
theorem cvRX6_107 : pg_CV RX6 107 mX5_admit 4 := ⟨in_t2 (List.mem_of_getElem? (i := 135) rfl) rfl, in_t2 (List.mem_of_getElem? (i := 99) rfl) rfl, in_t2 (List.mem_of_getElem? (i := 100) rfl) rfl, in_t1 (List.mem_of_getElem? (i := 2) rfl) rfl, kX5_admit, by decide, ⟨by decide +kernel, by decide +kernel, by decide +kernel⟩⟩
theorem cvRL_40 : pg_CV RL 40 mX6_of 2 := ⟨in_t2 (List.mem_of_getElem? (i := 136) rfl) rfl, in_t2 (List.mem_of_getElem? (i := 137) rfl) rfl, in_t2 (List.mem_of_getElem? (i := 138) rfl) rfl, in_t1 (List.mem_of_getElem? (i := 1) rfl) rfl, kX6_of, by decide, ⟨by decide +kernel, by decide +kernel, by decide +kernel⟩⟩
theorem cvRX6_111 : pg_CV RX6 111 mX6_isPerson 1 := ⟨in_t2 (List.mem_of_getElem? (i := 140) rfl) rfl, in_t2 (List.mem_of_getElem? (i := 142) rfl) rfl, in_s1 (List.mem_of_getElem? (i := 11) rfl) rfl, in_t1 (List.mem_of_getElem? (i := 1) rfl) rfl, kX6_isPerson, by decide, ⟨by decide +kernel, by decide +kernel, by decide +kernel⟩⟩
theorem cvRX6_130 : pg_CV RX6 130 mX5_othersBeside 1 := ⟨in_t2 (List.mem_of_getElem? (i := 144) rfl) rfl, in_t2 (List.mem_of_getElem? (i := 145) rfl) rfl, in_t2 (List.mem_of_getElem? (i := 146) rfl) rfl, in_t1 (List.mem_of_getElem? (i := 2) rfl) rfl, kX5_othersBeside, by decide, ⟨by decide +kernel, by decide +kernel, by decide +kernel⟩⟩
theorem cvRL_44 : pg_CV RL 44 mX6_leans 2 := ⟨in_t2 (List.mem_of_getElem? (i := 148) rfl) rfl, in_t2 (List.mem_of_getElem? (i := 149) rfl) rfl, in_t2 (List.mem_of_getElem? (i := 150) rfl) rfl, in_t1 (List.mem_of_getElem? (i := 1) rfl) rfl, kX6_leans, by decide, ⟨by decide +kernel, by decide +kernel, by decide +kernel⟩⟩
theorem cvRX6_134 : pg_CV RX6 134 mX5_leanAt 2 := ⟨in_t2 (List.mem_of_getElem? (i := 152) rfl) rfl, in_t2 (List.mem_of_getElem? (i := 153) rfl) rfl, in_t2 (List.mem_of_getElem? (i := 154) rfl) rfl, in_t1 (List.mem_of_getElem? (i := 2) rfl) rfl, kX5_leanAt, by decide, ⟨by decide +kernel, by decide +kernel, by decide +kernel⟩⟩
theorem cvRL_48 : pg_CV RL 48 mX6_strides 1 := ⟨in_t2 (List.mem_of_getElem? (i := 156) rfl) rfl, in_t2 (List.mem_of_getElem? (i := 157) rfl) rfl, in_t2 (List.mem_of_getElem? (i := 158) rfl) rfl, in_t1 (List.mem_of_getElem? (i := 1) rfl) rfl, kX6_strides, by decide, ⟨by decide +kernel, by decide +kernel, by decide +kernel⟩⟩
theorem cvRX6_138 : pg_CV RX6 138 mX5_strideOf 1 := ⟨in_t2 (List.mem_of_getElem? (i := 160) rfl) rfl, in_t2 (List.mem_of_getElem? (i := 161) rfl) rfl, in_t2 (List.mem_of_getElem? (i := 162) rfl) rfl, in_t1 (List.mem_of_getElem? (i := 2) rfl) rfl, kX5_strideOf, by decide, ⟨by decide +kernel, by decide +kernel, by decide +kernel⟩⟩
theorem cvRL_52 : pg_CV RL 52 mX6_mind 3 := ⟨in_t2 (List.mem_of_getElem? (i := 164) rfl) rfl, in_t2 (List.mem_of_getElem? (i := 165) rfl) rfl, in_t2 (List.mem_of_getElem? (i := 166) rfl) rfl, in_t1 (List.mem_of_getElem? (i := 1) rfl) rfl, kX6_mind, by decide, ⟨by decide +kernel, by decide +kernel, by decide +kernel⟩⟩
theorem cvRL_57 : pg_CV RL 57 mX6_age 2 := ⟨in_t2 (List.mem_of_getElem? (i := 168) rfl) rfl, in_t2 (List.mem_of_getElem? (i := 169) rfl) rfl, in_t2 (List.mem_of_getElem? (i := 170) rfl) rfl, in_t1 (List.mem_of_getElem? (i := 1) rfl) rfl, kX6_age, by decide, ⟨by decide +kernel, by decide +kernel, by decide +kernel⟩⟩
theorem cvRL_61 : pg_CV RL 61 mX6_bring 2 := ⟨in_t2 (List.mem_of_getElem? (i := 172) rfl) rfl, in_t2 (List.mem_of_getElem? (i := 173) rfl) rfl, in_t2 (List.mem_of_getElem? (i := 174) rfl) rfl, in_t1 (List.mem_of_getElem? (i := 1) rfl) rfl, kX6_bring, by decide, ⟨by decide +kernel, by decide +kernel, by decide +kernel⟩⟩
theorem cvRL_65 : pg_CV RL 65 mX6_know 3 := ⟨in_t2 (List.mem_of_getElem? (i := 176) rfl) rfl, in_t2 (List.mem_of_getElem? (i := 177) rfl) rfl, in_t2 (List.mem_of_getElem? (i := 178) rfl) rfl, in_t1 (List.mem_of_getElem? (i := 1) rfl) rfl, kX6_know, by decide, ⟨by decide +kernel, by decide +kernel, by decide +kernel⟩⟩
theorem cvRX6_141 : pg_CV RX6 141 mX6_areTwo 2 := ⟨in_t2 (List.mem_of_getElem? (i := 180) rfl) rfl, in_t2 (List.mem_of_getElem? (i := 182) rfl) rfl, in_s1 (List.mem_of_getElem? (i := 12) rfl) rfl, in_t1 (List.mem_of_getElem? (i := 1) rfl) rfl, kX6_areTwo, by decide, ⟨by decide +kernel, by decide +kernel, by decide +kernel⟩⟩
theorem cvRX6_144 : pg_CV RX6 144 mX5_knowEachOther 2 := ⟨in_t2 (List.mem_of_getElem? (i := 184) rfl) rfl, in_t2 (List.mem_of_getElem? (i := 185) rfl) rfl, in_t2 (List.mem_of_getElem? (i := 186) rfl) rfl, in_t1 (List.mem_of_getElem? (i := 2) rfl) rfl, kX5_knowEachOther, by decide, ⟨by decide +kernel, by decide +kernel, by decide +kernel⟩⟩
theorem cvRX6_147 : pg_CV RX6 147 mX5_acquaint 2 := ⟨in_t2 (List.mem_of_getElem? (i := 188) rfl) rfl, in_t2 (List.mem_of_getElem? (i := 189) rfl) rfl, in_t2 (List.mem_of_getElem? (i := 190) rfl) rfl, in_t1 (List.mem_of_getElem? (i := 2) rfl) rfl, kX5_acquaint, by decide, ⟨by decide +kernel, by decide +kernel, by decide +kernel⟩⟩
theorem cvRX6_151 : pg_CV RX6 151 mX5_estrange 2 := ⟨in_t2 (List.mem_of_getElem? (i := 192) rfl) rfl, in_t2 (List.mem_of_getElem? (i := 193) rfl) rfl, in_t2 (List.mem_of_getElem? (i := 194) rfl) rfl, in_t1 (List.mem_of_getElem? (i := 2) rfl) rfl, kX5_estrange, by decide, ⟨by decide +kernel, by decide +kernel, by decide +kernel⟩⟩
theorem cvRL_69 : pg_CV RL 69 mX6_weigh 2 := ⟨in_t2 (List.mem_of_getElem? (i := 196) rfl) rfl, in_t2 (List.mem_of_getElem? (i := 197) rfl) rfl, in_t2 (List.mem_of_getElem? (i := 198) rfl) rfl, in_t1 (List.mem_of_getElem? (i := 1) rfl) rfl, kX6_weigh, by decide, ⟨by decide +kernel, by decide +kernel, by decide +kernel⟩⟩
theorem cvRL_73 : pg_CV RL 73 mX6_peg 2 := ⟨in_t2 (List.mem_of_getElem? (i := 200) rfl) rfl, in_t2 (List.mem_of_getElem? (i := 201) rfl) rfl, in_t2 (List.mem_of_getElem? (i := 202) rfl) rfl, in_t1 (List.mem_of_getElem? (i := 1) rfl) rfl, kX6_peg, by decide, ⟨by decide +kernel, by decide +kernel, by decide +kernel⟩⟩
theorem cvRX6_157 : pg_CV RX6 157 mX5_peopleOfPeg 1 := ⟨in_t2 (List.mem_of_getElem? (i := 204) rfl) rfl, in_t2 (List.mem_of_getElem? (i := 205) rfl) rfl, in_t2 (List.mem_of_getElem? (i := 206) rfl) rfl, in_t1 (List.mem_of_getElem? (i := 2) rfl) rfl, kX5_peopleOfPeg, by decide, ⟨by decide +kernel, by decide +kernel, by decide +kernel⟩⟩
theorem cvRL_77 : pg_CV RL 77 mX6_hours 1 := ⟨in_t2 (List.mem_of_getElem? (i := 208) rfl) rfl, in_t2 (List.mem_of_getElem? (i := 209) rfl) rfl, in_t2 (List.mem_of_getElem? (i := 210) rfl) rfl, in_t1 (List.mem_of_getElem? (i := 1) rfl) rfl, kX6_hours, by decide, ⟨by decide +kernel, by decide +kernel, by decide +kernel⟩⟩
theorem cvRX6_160 : pg_CV RX6 160 mX5_spendHours 1 := ⟨in_t2 (List.mem_of_getElem? (i := 212) rfl) rfl, in_t2 (List.mem_of_getElem? (i := 213) rfl) rfl, in_t2 (List.mem_of_getElem? (i := 214) rfl) rfl, in_t1 (List.mem_of_getElem? (i := 2) rfl) rfl, kX5_spendHours, by decide, ⟨by decide +kernel, by decide +kernel, by decide +kernel⟩⟩
theorem cvRX5_58 : pg_CV RX5 58 mX5_spendHour 0 := ⟨in_t2 (List.mem_of_getElem? (i := 216) rfl) rfl, in_t2 (List.mem_of_getElem? (i := 217) rfl) rfl, in_t2 (List.mem_of_getElem? (i := 218) rfl) rfl, in_t1 (List.mem_of_getElem? (i := 2) rfl) rfl, kX5_spendHour, by decide, ⟨by decide +kernel, by decide +kernel, by decide +kernel⟩⟩
theorem cvRX5_61 : pg_CV RX5 61 mX5_strideOf 1 := ⟨in_t2 (List.mem_of_getElem? (i := 220) rfl) rfl, in_t2 (List.mem_of_getElem? (i := 161) rfl) rfl, in_t2 (List.mem_of_getElem? (i := 162) rfl) rfl, in_t1 (List.mem_of_getElem? (i := 2) rfl) rfl, kX5_strideOf, by decide, ⟨by decide +kernel, by decide +kernel, by decide +kernel⟩⟩
theorem csRX5_65 : pg_CS RX5 65 mJ9_floorMod_7cf53 2 := ⟨in_t2 (List.mem_of_getElem? (i := 221) rfl) rfl, in_t2 (List.mem_of_getElem? (i := 222) rfl) rfl, in_t1 (List.mem_of_getElem? (i := 14) rfl) rfl, kJ9_floorMod_7cf53, by decide, ⟨by decide +kernel, by decide +kernel, by decide +kernel⟩⟩
theorem cvRX5_71 : pg_CV RX5 71 mX5_leanAt 2 := ⟨in_t2 (List.mem_of_getElem? (i := 224) rfl) rfl, in_t2 (List.mem_of_getElem? (i := 153) rfl) rfl, in_t2 (List.mem_of_getElem? (i := 154) rfl) rfl, in_t1 (List.mem_of_getElem? (i := 2) rfl) rfl, kX5_leanAt, by decide, ⟨by decide +kernel, by decide +kernel, by decide +kernel⟩⟩
theorem cvRX5_74 : pg_CV RX5 74 mX5_findEachOther 2 := ⟨in_t2 (List.mem_of_getElem? (i := 225) rfl) rfl, in_t2 (List.mem_of_getElem? (i := 227) rfl) rfl, in_s1 (List.mem_of_getElem? (i := 13) rfl) rfl, in_t1 (List.mem_of_getElem? (i := 2) rfl) rfl, kX5_findEachOther, by decide, ⟨by decide +kernel, by decide +kernel, by decide +kernel⟩⟩
theorem cvRX5_82 : pg_CV RX5 82 mX5_areAlike 2 := ⟨in_t2 (List.mem_of_getElem? (i := 229) rfl) rfl, in_t2 (List.mem_of_getElem? (i := 231) rfl) rfl, in_s1 (List.mem_of_getElem? (i := 14) rfl) rfl, in_t1 (List.mem_of_getElem? (i := 2) rfl) rfl, kX5_areAlike, by decide, ⟨by decide +kernel, by decide +kernel, by decide +kernel⟩⟩
theorem csRX5_85 : pg_CS RX5 85 mJ9_abs_0f7a4 1 := ⟨in_t2 (List.mem_of_getElem? (i := 233) rfl) rfl, in_t2 (List.mem_of_getElem? (i := 234) rfl) rfl, in_t1 (List.mem_of_getElem? (i := 14) rfl) rfl, kJ9_abs_0f7a4, by decide, ⟨by decide +kernel, by decide +kernel, by decide +kernel⟩⟩
theorem cvRX5_78 : pg_CV RX5 78 mX5_acquaint 2 := ⟨in_t2 (List.mem_of_getElem? (i := 236) rfl) rfl, in_t2 (List.mem_of_getElem? (i := 189) rfl) rfl, in_t2 (List.mem_of_getElem? (i := 190) rfl) rfl, in_t1 (List.mem_of_getElem? (i := 2) rfl) rfl, kX5_acquaint, by decide, ⟨by decide +kernel, by decide +kernel, by decide +kernel⟩⟩
theorem cvRX6_164 : pg_CV RX6 164 mX5_pairs 0 := ⟨in_t2 (List.mem_of_getElem? (i := 237) rfl) rfl, in_t2 (List.mem_of_getElem? (i := 238) rfl) rfl, in_t2 (List.mem_of_getElem? (i := 239) rfl) rfl, in_t1 (List.mem_of_getElem? (i := 2) rfl) rfl, kX5_pairs, by decide, ⟨by decide +kernel, by decide +kernel, by decide +kernel⟩⟩
theorem cvRX5_98 : pg_CV RX5 98 mX5_knownBy 1 := ⟨in_t3 (List.mem_of_getElem? (i := 1) rfl) rfl, in_t3 (List.mem_of_getElem? (i := 2) rfl) rfl, in_t3 (List.mem_of_getElem? (i := 3) rfl) rfl, in_t1 (List.mem_of_getElem? (i := 2) rfl) rfl, kX5_knownBy, by decide, ⟨by decide +kernel, by decide +kernel, by decide +kernel⟩⟩
theorem csRX5_93 : pg_CS RX5 93 mJ6_bitCount_0f7a4 1 := ⟨in_t3 (List.mem_of_getElem? (i := 5) rfl) rfl, in_t3 (List.mem_of_getElem? (i := 6) rfl) rfl, in_t1 (List.mem_of_getElem? (i := 15) rfl) rfl, kJ6_bitCount_0f7a4, by decide, ⟨by decide +kernel, by decide +kernel, by decide +kernel⟩⟩
theorem cvRL_81 : pg_CV RL 81 mX6_seed 1 := ⟨in_t3 (List.mem_of_getElem? (i := 11) rfl) rfl, in_t3 (List.mem_of_getElem? (i := 12) rfl) rfl, in_t3 (List.mem_of_getElem? (i := 13) rfl) rfl, in_t1 (List.mem_of_getElem? (i := 1) rfl) rfl, kX6_seed, by decide, ⟨by decide +kernel, by decide +kernel, by decide +kernel⟩⟩
theorem cvRL_85 : pg_CV RL 85 mX6_hour 0 := ⟨in_t3 (List.mem_of_getElem? (i := 15) rfl) rfl, in_t3 (List.mem_of_getElem? (i := 16) rfl) rfl, in_t3 (List.mem_of_getElem? (i := 17) rfl) rfl, in_t1 (List.mem_of_getElem? (i := 1) rfl) rfl, kX6_hour, by decide, ⟨by decide +kernel, by decide +kernel, by decide +kernel⟩⟩
theorem cvRX6_168 : pg_CV RX6 168 mX5_spendHourByDraws 0 := ⟨in_t3 (List.mem_of_getElem? (i := 19) rfl) rfl, in_t3 (List.mem_of_getElem? (i := 20) rfl) rfl, in_t3 (List.mem_of_getElem? (i := 21) rfl) rfl, in_t1 (List.mem_of_getElem? (i := 2) rfl) rfl, kX5_spendHourByDraws, by decide, ⟨by decide +kernel, by decide +kernel, by decide +kernel⟩⟩
theorem cvRX5_89 : pg_CV RX5 89 mX5_draw 0 := ⟨in_t3 (List.mem_of_getElem? (i := 23) rfl) rfl, in_t3 (List.mem_of_getElem? (i := 25) rfl) rfl, in_s1 (List.mem_of_getElem? (i := 15) rfl) rfl, in_t1 (List.mem_of_getElem? (i := 2) rfl) rfl, kX5_draw, by decide, ⟨by decide +kernel, by decide +kernel, by decide +kernel⟩⟩
theorem cvRL_89 : pg_CV RL 89 mX6_found 1 := ⟨in_t3 (List.mem_of_getElem? (i := 28) rfl) rfl, in_t3 (List.mem_of_getElem? (i := 29) rfl) rfl, in_t3 (List.mem_of_getElem? (i := 30) rfl) rfl, in_t1 (List.mem_of_getElem? (i := 1) rfl) rfl, kX6_found, by decide, ⟨by decide +kernel, by decide +kernel, by decide +kernel⟩⟩
theorem cvRX6_171 : pg_CV RX6 171 mX5_spendHour 0 := ⟨in_t3 (List.mem_of_getElem? (i := 32) rfl) rfl, in_t2 (List.mem_of_getElem? (i := 217) rfl) rfl, in_t2 (List.mem_of_getElem? (i := 218) rfl) rfl, in_t1 (List.mem_of_getElem? (i := 2) rfl) rfl, kX5_spendHour, by decide, ⟨by decide +kernel, by decide +kernel, by decide +kernel⟩⟩
theorem cvRL_93 : pg_CV RL 93 mX6_state 1 := ⟨in_t3 (List.mem_of_getElem? (i := 33) rfl) rfl, in_t3 (List.mem_of_getElem? (i := 34) rfl) rfl, in_t3 (List.mem_of_getElem? (i := 35) rfl) rfl, in_t1 (List.mem_of_getElem? (i := 1) rfl) rfl, kX6_state, by decide, ⟨by decide +kernel, by decide +kernel, by decide +kernel⟩⟩
theorem cvRX6_177 : pg_CV RX6 177 mX5_strangers 0 := ⟨in_t3 (List.mem_of_getElem? (i := 37) rfl) rfl, in_t3 (List.mem_of_getElem? (i := 38) rfl) rfl, in_t3 (List.mem_of_getElem? (i := 39) rfl) rfl, in_t1 (List.mem_of_getElem? (i := 2) rfl) rfl, kX5_strangers, by decide, ⟨by decide +kernel, by decide +kernel, by decide +kernel⟩⟩
theorem cvRX6_180 : pg_CV RX6 180 mX5_placesTaken 0 := ⟨in_t3 (List.mem_of_getElem? (i := 41) rfl) rfl, in_t3 (List.mem_of_getElem? (i := 42) rfl) rfl, in_t3 (List.mem_of_getElem? (i := 43) rfl) rfl, in_t1 (List.mem_of_getElem? (i := 2) rfl) rfl, kX5_placesTaken, by decide, ⟨by decide +kernel, by decide +kernel, by decide +kernel⟩⟩
theorem cvRX6_183 : pg_CV RX6 183 mX5_circles 0 := ⟨in_t3 (List.mem_of_getElem? (i := 45) rfl) rfl, in_t3 (List.mem_of_getElem? (i := 46) rfl) rfl, in_t3 (List.mem_of_getElem? (i := 47) rfl) rfl, in_t1 (List.mem_of_getElem? (i := 2) rfl) rfl, kX5_circles, by decide, ⟨by decide +kernel, by decide +kernel, by decide +kernel⟩⟩
theorem cvRX5_101 : pg_CV RX5 101 mX5_circleOf 1 := ⟨in_t3 (List.mem_of_getElem? (i := 49) rfl) rfl, in_t3 (List.mem_of_getElem? (i := 50) rfl) rfl, in_t3 (List.mem_of_getElem? (i := 51) rfl) rfl, in_t1 (List.mem_of_getElem? (i := 2) rfl) rfl, kX5_circleOf, by decide, ⟨by decide +kernel, by decide +kernel, by decide +kernel⟩⟩
theorem cvRX6_186 : pg_CV RX6 186 mX5_wholeWeight 0 := ⟨in_t3 (List.mem_of_getElem? (i := 53) rfl) rfl, in_t3 (List.mem_of_getElem? (i := 54) rfl) rfl, in_t3 (List.mem_of_getElem? (i := 55) rfl) rfl, in_t1 (List.mem_of_getElem? (i := 2) rfl) rfl, kX5_wholeWeight, by decide, ⟨by decide +kernel, by decide +kernel, by decide +kernel⟩⟩
theorem cvRL_97 : pg_CV RL 97 mX6_ahead 3 := ⟨in_t3 (List.mem_of_getElem? (i := 57) rfl) rfl, in_t3 (List.mem_of_getElem? (i := 58) rfl) rfl, in_t3 (List.mem_of_getElem? (i := 59) rfl) rfl, in_t1 (List.mem_of_getElem? (i := 1) rfl) rfl, kX6_ahead, by decide, ⟨by decide +kernel, by decide +kernel, by decide +kernel⟩⟩
theorem cvRL_101 : pg_CV RL 101 mX6_meet 2 := ⟨in_t3 (List.mem_of_getElem? (i := 61) rfl) rfl, in_t3 (List.mem_of_getElem? (i := 62) rfl) rfl, in_t3 (List.mem_of_getElem? (i := 63) rfl) rfl, in_t1 (List.mem_of_getElem? (i := 1) rfl) rfl, kX6_meet, by decide, ⟨by decide +kernel, by decide +kernel, by decide +kernel⟩⟩
theorem cvRL_105 : pg_CV RL 105 mX6_gather 0 := ⟨in_t3 (List.mem_of_getElem? (i := 65) rfl) rfl, in_t3 (List.mem_of_getElem? (i := 66) rfl) rfl, in_t3 (List.mem_of_getElem? (i := 67) rfl) rfl, in_t1 (List.mem_of_getElem? (i := 1) rfl) rfl, kX6_gather, by decide, ⟨by decide +kernel, by decide +kernel, by decide +kernel⟩⟩
theorem csRX6_189 : pg_CS RX6 189 mJ6_bitCount_0f7a4 1 := ⟨in_t3 (List.mem_of_getElem? (i := 69) rfl) rfl, in_t3 (List.mem_of_getElem? (i := 6) rfl) rfl, in_t1 (List.mem_of_getElem? (i := 15) rfl) rfl, kJ6_bitCount_0f7a4, by decide, ⟨by decide +kernel, by decide +kernel, by decide +kernel⟩⟩
theorem cvRL_109 : pg_CV RL 109 mX6_alone 1 := ⟨in_t3 (List.mem_of_getElem? (i := 70) rfl) rfl, in_t3 (List.mem_of_getElem? (i := 71) rfl) rfl, in_t3 (List.mem_of_getElem? (i := 72) rfl) rfl, in_t1 (List.mem_of_getElem? (i := 1) rfl) rfl, kX6_alone, by decide, ⟨by decide +kernel, by decide +kernel, by decide +kernel⟩⟩
theorem cvRL_113 : pg_CV RL 113 mX6_pegFor 2 := ⟨in_t3 (List.mem_of_getElem? (i := 74) rfl) rfl, in_t3 (List.mem_of_getElem? (i := 75) rfl) rfl, in_t3 (List.mem_of_getElem? (i := 76) rfl) rfl, in_t1 (List.mem_of_getElem? (i := 1) rfl) rfl, kX6_pegFor, by decide, ⟨by decide +kernel, by decide +kernel, by decide +kernel⟩⟩
theorem cvRX6_194 : pg_CV RX6 194 mX6_choiceFor 4 := ⟨in_t3 (List.mem_of_getElem? (i := 78) rfl) rfl, in_t3 (List.mem_of_getElem? (i := 80) rfl) rfl, in_s2 (List.mem_of_getElem? (i := 0) rfl) rfl, in_t1 (List.mem_of_getElem? (i := 1) rfl) rfl, kX6_choiceFor, by decide, ⟨by decide +kernel, by decide +kernel, by decide +kernel⟩⟩
theorem cvRX6_314 : pg_CV RX6 314 mX5_alter 3 := ⟨in_t3 (List.mem_of_getElem? (i := 82) rfl) rfl, in_t3 (List.mem_of_getElem? (i := 83) rfl) rfl, in_t3 (List.mem_of_getElem? (i := 84) rfl) rfl, in_t1 (List.mem_of_getElem? (i := 2) rfl) rfl, kX5_alter, by decide, ⟨by decide +kernel, by decide +kernel, by decide +kernel⟩⟩
theorem cvRX6_317 : pg_CV RX6 317 mX5_knownBy 1 := ⟨in_t3 (List.mem_of_getElem? (i := 86) rfl) rfl, in_t3 (List.mem_of_getElem? (i := 2) rfl) rfl, in_t3 (List.mem_of_getElem? (i := 3) rfl) rfl, in_t1 (List.mem_of_getElem? (i := 2) rfl) rfl, kX5_knownBy, by decide, ⟨by decide +kernel, by decide +kernel, by decide +kernel⟩⟩
theorem cvRL_117 : pg_CV RL 117 mX6_kindFor 2 := ⟨in_t3 (List.mem_of_getElem? (i := 87) rfl) rfl, in_t3 (List.mem_of_getElem? (i := 88) rfl) rfl, in_t3 (List.mem_of_getElem? (i := 89) rfl) rfl, in_t1 (List.mem_of_getElem? (i := 1) rfl) rfl, kX6_kindFor, by decide, ⟨by decide +kernel, by decide +kernel, by decide +kernel⟩⟩
theorem cvRL_121 : pg_CV RL 121 mX6_placeFor 2 := ⟨in_t3 (List.mem_of_getElem? (i := 91) rfl) rfl, in_t3 (List.mem_of_getElem? (i := 92) rfl) rfl, in_t3 (List.mem_of_getElem? (i := 93) rfl) rfl, in_t1 (List.mem_of_getElem? (i := 1) rfl) rfl, kX6_placeFor, by decide, ⟨by decide +kernel, by decide +kernel, by decide +kernel⟩⟩
theorem cvRL_125 : pg_CV RL 125 mX6_circle 1 := ⟨in_t3 (List.mem_of_getElem? (i := 95) rfl) rfl, in_t3 (List.mem_of_getElem? (i := 96) rfl) rfl, in_t3 (List.mem_of_getElem? (i := 97) rfl) rfl, in_t1 (List.mem_of_getElem? (i := 1) rfl) rfl, kX6_circle, by decide, ⟨by decide +kernel, by decide +kernel, by decide +kernel⟩⟩
theorem cvRX6_197 : pg_CV RX6 197 mX5_circleOf 1 := ⟨in_t3 (List.mem_of_getElem? (i := 99) rfl) rfl, in_t3 (List.mem_of_getElem? (i := 50) rfl) rfl, in_t3 (List.mem_of_getElem? (i := 51) rfl) rfl, in_t1 (List.mem_of_getElem? (i := 2) rfl) rfl, kX5_circleOf, by decide, ⟨by decide +kernel, by decide +kernel, by decide +kernel⟩⟩
theorem cvRL_129 : pg_CV RL 129 mX6_apart 0 := ⟨in_t3 (List.mem_of_getElem? (i := 100) rfl) rfl, in_t3 (List.mem_of_getElem? (i := 101) rfl) rfl, in_t3 (List.mem_of_getElem? (i := 102) rfl) rfl, in_t1 (List.mem_of_getElem? (i := 1) rfl) rfl, kX6_apart, by decide, ⟨by decide +kernel, by decide +kernel, by decide +kernel⟩⟩
theorem cvRX6_200 : pg_CV RX6 200 mX6_listRestsApart 0 := ⟨in_t3 (List.mem_of_getElem? (i := 104) rfl) rfl, in_t3 (List.mem_of_getElem? (i := 106) rfl) rfl, in_s2 (List.mem_of_getElem? (i := 1) rfl) rfl, in_t1 (List.mem_of_getElem? (i := 1) rfl) rfl, kX6_listRestsApart, by decide, ⟨by decide +kernel, by decide +kernel, by decide +kernel⟩⟩
theorem cvRX6_320 : pg_CV RX6 320 mX5_restsOfDifference 2 := ⟨in_t3 (List.mem_of_getElem? (i := 108) rfl) rfl, in_t3 (List.mem_of_getElem? (i := 109) rfl) rfl, in_t3 (List.mem_of_getElem? (i := 110) rfl) rfl, in_t1 (List.mem_of_getElem? (i := 2) rfl) rfl, kX5_restsOfDifference, by decide, ⟨by decide +kernel, by decide +kernel, by decide +kernel⟩⟩
theorem cvRX6_203 : pg_CV RX6 203 mX6_tellsApart 2 := ⟨in_t3 (List.mem_of_getElem? (i := 112) rfl) rfl, in_t3 (List.mem_of_getElem? (i := 114) rfl) rfl, in_s2 (List.mem_of_getElem? (i := 2) rfl) rfl, in_t1 (List.mem_of_getElem? (i := 1) rfl) rfl, kX6_tellsApart, by decide, ⟨by decide +kernel, by decide +kernel, by decide +kernel⟩⟩
theorem cvRL_133 : pg_CV RL 133 mX6_fits 3 := ⟨in_t3 (List.mem_of_getElem? (i := 116) rfl) rfl, in_t3 (List.mem_of_getElem? (i := 117) rfl) rfl, in_t3 (List.mem_of_getElem? (i := 118) rfl) rfl, in_t1 (List.mem_of_getElem? (i := 1) rfl) rfl, kX6_fits, by decide, ⟨by decide +kernel, by decide +kernel, by decide +kernel⟩⟩
theorem csRX6_206 : pg_CS RX6 206 mX6_isSheet 1 := ⟨in_t3 (List.mem_of_getElem? (i := 120) rfl) rfl, in_t3 (List.mem_of_getElem? (i := 121) rfl) rfl, in_t1 (List.mem_of_getElem? (i := 1) rfl) rfl, kX6_isSheet, by decide, ⟨by decide +kernel, by decide +kernel, by decide +kernel⟩⟩
theorem cvRX6_212 : pg_CV RX6 212 mX6_knowsAsTold 3 := ⟨in_t3 (List.mem_of_getElem? (i := 123) rfl) rfl, in_t3 (List.mem_of_getElem? (i := 125) rfl) rfl, in_s2 (List.mem_of_getElem? (i := 3) rfl) rfl, in_t1 (List.mem_of_getElem? (i := 1) rfl) rfl, kX6_knowsAsTold, by decide, ⟨by decide +kernel, by decide +kernel, by decide +kernel⟩⟩
theorem cvRL_137 : pg_CV RL 137 mX6_odds 3 := ⟨in_t3 (List.mem_of_getElem? (i := 127) rfl) rfl, in_t3 (List.mem_of_getElem? (i := 128) rfl) rfl, in_t3 (List.mem_of_getElem? (i := 129) rfl) rfl, in_t1 (List.mem_of_getElem? (i := 1) rfl) rfl, kX6_odds, by decide, ⟨by decide +kernel, by decide +kernel, by decide +kernel⟩⟩
theorem csRX6_218 : pg_CS RX6 218 mX6_ways 2 := ⟨in_t3 (List.mem_of_getElem? (i := 132) rfl) rfl, in_t3 (List.mem_of_getElem? (i := 133) rfl) rfl, in_t1 (List.mem_of_getElem? (i := 1) rfl) rfl, kX6_ways, by decide, ⟨by decide +kernel, by decide +kernel, by decide +kernel⟩⟩
theorem csRX6_222 : pg_CS RX6 222 mX6_power 2 := ⟨in_t3 (List.mem_of_getElem? (i := 135) rfl) rfl, in_t3 (List.mem_of_getElem? (i := 136) rfl) rfl, in_t1 (List.mem_of_getElem? (i := 1) rfl) rfl, kX6_power, by decide, ⟨by decide +kernel, by decide +kernel, by decide +kernel⟩⟩
theorem csRX6_228 : pg_CS RX6 228 mX6_partOfFraction 3 := ⟨in_t3 (List.mem_of_getElem? (i := 139) rfl) rfl, in_t3 (List.mem_of_getElem? (i := 140) rfl) rfl, in_t1 (List.mem_of_getElem? (i := 1) rfl) rfl, kX6_partOfFraction, by decide, ⟨by decide +kernel, by decide +kernel, by decide +kernel⟩⟩
theorem csRX6_323 : pg_CS RX6 323 mX6_commonDivisor 2 := ⟨in_t3 (List.mem_of_getElem? (i := 142) rfl) rfl, in_t3 (List.mem_of_getElem? (i := 143) rfl) rfl, in_t1 (List.mem_of_getElem? (i := 1) rfl) rfl, kX6_commonDivisor, by decide, ⟨by decide +kernel, by decide +kernel, by decide +kernel⟩⟩
theorem csRX6_327 : pg_CS RX6 327 mJ9_max_f86c9 2 := ⟨in_t3 (List.mem_of_getElem? (i := 145) rfl) rfl, in_t3 (List.mem_of_getElem? (i := 146) rfl) rfl, in_t1 (List.mem_of_getElem? (i := 14) rfl) rfl, kJ9_max_f86c9, by decide, ⟨by decide +kernel, by decide +kernel, by decide +kernel⟩⟩
theorem cvRL_142 : pg_CV RL 142 mX6_hope 2 := ⟨in_t3 (List.mem_of_getElem? (i := 148) rfl) rfl, in_t3 (List.mem_of_getElem? (i := 149) rfl) rfl, in_t3 (List.mem_of_getElem? (i := 150) rfl) rfl, in_t1 (List.mem_of_getElem? (i := 1) rfl) rfl, kX6_hope, by decide, ⟨by decide +kernel, by decide +kernel, by decide +kernel⟩⟩
theorem cvRL_147 : pg_CV RL 147 mX6_prove 2 := ⟨in_t3 (List.mem_of_getElem? (i := 152) rfl) rfl, in_t3 (List.mem_of_getElem? (i := 153) rfl) rfl, in_t3 (List.mem_of_getElem? (i := 154) rfl) rfl, in_t1 (List.mem_of_getElem? (i := 1) rfl) rfl, kX6_prove, by decide, ⟨by decide +kernel, by decide +kernel, by decide +kernel⟩⟩
theorem cvRX6_232 : pg_CV RX6 232 mX1_write 4 := ⟨in_t3 (List.mem_of_getElem? (i := 156) rfl) rfl, in_t3 (List.mem_of_getElem? (i := 157) rfl) rfl, in_t3 (List.mem_of_getElem? (i := 158) rfl) rfl, in_t1 (List.mem_of_getElem? (i := 4) rfl) rfl, kX1_write, by decide, ⟨by decide +kernel, by decide +kernel, by decide +kernel⟩⟩
theorem cvRL_151 : pg_CV RL 151 mX6_row 2 := ⟨in_t3 (List.mem_of_getElem? (i := 160) rfl) rfl, in_t3 (List.mem_of_getElem? (i := 161) rfl) rfl, in_t3 (List.mem_of_getElem? (i := 162) rfl) rfl, in_t1 (List.mem_of_getElem? (i := 1) rfl) rfl, kX6_row, by decide, ⟨by decide +kernel, by decide +kernel, by decide +kernel⟩⟩
theorem cvRX6_236 : pg_CV RX6 236 mX1_has 2 := ⟨in_t3 (List.mem_of_getElem? (i := 164) rfl) rfl, in_t3 (List.mem_of_getElem? (i := 165) rfl) rfl, in_t3 (List.mem_of_getElem? (i := 166) rfl) rfl, in_t1 (List.mem_of_getElem? (i := 4) rfl) rfl, kX1_has, by decide, ⟨by decide +kernel, by decide +kernel, by decide +kernel⟩⟩
theorem cvRL_155 : pg_CV RL 155 mX6_alterRow 3 := ⟨in_t3 (List.mem_of_getElem? (i := 169) rfl) rfl, in_t3 (List.mem_of_getElem? (i := 170) rfl) rfl, in_t3 (List.mem_of_getElem? (i := 171) rfl) rfl, in_t1 (List.mem_of_getElem? (i := 1) rfl) rfl, kX6_alterRow, by decide, ⟨by decide +kernel, by decide +kernel, by decide +kernel⟩⟩
theorem cvRL_159 : pg_CV RL 159 mX6_judge 1 := ⟨in_t3 (List.mem_of_getElem? (i := 173) rfl) rfl, in_t3 (List.mem_of_getElem? (i := 174) rfl) rfl, in_t3 (List.mem_of_getElem? (i := 175) rfl) rfl, in_t1 (List.mem_of_getElem? (i := 1) rfl) rfl, kX6_judge, by decide, ⟨by decide +kernel, by decide +kernel, by decide +kernel⟩⟩
theorem cvRX6_243 : pg_CV RX6 243 mX1_reads 4 := ⟨in_t3 (List.mem_of_getElem? (i := 177) rfl) rfl, in_t3 (List.mem_of_getElem? (i := 178) rfl) rfl, in_t3 (List.mem_of_getElem? (i := 179) rfl) rfl, in_t1 (List.mem_of_getElem? (i := 4) rfl) rfl, kX1_reads, by decide, ⟨by decide +kernel, by decide +kernel, by decide +kernel⟩⟩
theorem cvRL_163 : pg_CV RL 163 mX6_minds 4 := ⟨in_t3 (List.mem_of_getElem? (i := 181) rfl) rfl, in_t3 (List.mem_of_getElem? (i := 182) rfl) rfl, in_t3 (List.mem_of_getElem? (i := 183) rfl) rfl, in_t1 (List.mem_of_getElem? (i := 1) rfl) rfl, kX6_minds, by decide, ⟨by decide +kernel, by decide +kernel, by decide +kernel⟩⟩
theorem csRX6_251 : pg_CS RX6 251 mJ9_min_7cf53 2 := ⟨in_t3 (List.mem_of_getElem? (i := 185) rfl) rfl, in_t3 (List.mem_of_getElem? (i := 186) rfl) rfl, in_t1 (List.mem_of_getElem? (i := 14) rfl) rfl, kJ9_min_7cf53, by decide, ⟨by decide +kernel, by decide +kernel, by decide +kernel⟩⟩
theorem csRX6_256 : pg_CS RX6 256 mJ9_max_7cf53 2 := ⟨in_t3 (List.mem_of_getElem? (i := 188) rfl) rfl, in_t3 (List.mem_of_getElem? (i := 189) rfl) rfl, in_t1 (List.mem_of_getElem? (i := 14) rfl) rfl, kJ9_max_7cf53, by decide, ⟨by decide +kernel, by decide +kernel, by decide +kernel⟩⟩
theorem cvRL_167 : pg_CV RL 167 mX6_sheet 3 := ⟨in_t3 (List.mem_of_getElem? (i := 191) rfl) rfl, in_t3 (List.mem_of_getElem? (i := 192) rfl) rfl, in_t3 (List.mem_of_getElem? (i := 193) rfl) rfl, in_t1 (List.mem_of_getElem? (i := 1) rfl) rfl, kX6_sheet, by decide, ⟨by decide +kernel, by decide +kernel, by decide +kernel⟩⟩
theorem cvRX6_259 : pg_CV RX6 259 mX2_lose 0 := ⟨in_t3 (List.mem_of_getElem? (i := 195) rfl) rfl, in_t3 (List.mem_of_getElem? (i := 196) rfl) rfl, in_t3 (List.mem_of_getElem? (i := 197) rfl) rfl, in_t1 (List.mem_of_getElem? (i := 6) rfl) rfl, kX2_lose, by decide, ⟨by decide +kernel, by decide +kernel, by decide +kernel⟩⟩
theorem cvRX6_262 : pg_CV RX6 262 mX2_begin 2 := ⟨in_t3 (List.mem_of_getElem? (i := 199) rfl) rfl, in_t3 (List.mem_of_getElem? (i := 200) rfl) rfl, in_t3 (List.mem_of_getElem? (i := 201) rfl) rfl, in_t1 (List.mem_of_getElem? (i := 6) rfl) rfl, kX2_begin, by decide, ⟨by decide +kernel, by decide +kernel, by decide +kernel⟩⟩
theorem cvRL_171 : pg_CV RL 171 mX6_put 3 := ⟨in_t3 (List.mem_of_getElem? (i := 203) rfl) rfl, in_t3 (List.mem_of_getElem? (i := 204) rfl) rfl, in_t3 (List.mem_of_getElem? (i := 205) rfl) rfl, in_t1 (List.mem_of_getElem? (i := 1) rfl) rfl, kX6_put, by decide, ⟨by decide +kernel, by decide +kernel, by decide +kernel⟩⟩
theorem cvRX6_265 : pg_CV RX6 265 mX2_has 1 := ⟨in_t3 (List.mem_of_getElem? (i := 207) rfl) rfl, in_t3 (List.mem_of_getElem? (i := 208) rfl) rfl, in_t3 (List.mem_of_getElem? (i := 209) rfl) rfl, in_t1 (List.mem_of_getElem? (i := 6) rfl) rfl, kX2_has, by decide, ⟨by decide +kernel, by decide +kernel, by decide +kernel⟩⟩
theorem cvRX6_267 : pg_CV RX6 267 mX2_narrowed 1 := ⟨in_t3 (List.mem_of_getElem? (i := 211) rfl) rfl, in_t3 (List.mem_of_getElem? (i := 212) rfl) rfl, in_t3 (List.mem_of_getElem? (i := 213) rfl) rfl, in_t1 (List.mem_of_getElem? (i := 6) rfl) rfl, kX2_narrowed, by decide, ⟨by decide +kernel, by decide +kernel, by decide +kernel⟩⟩
theorem cvRL_175 : pg_CV RL 175 mX6_item 3 := ⟨in_t3 (List.mem_of_getElem? (i := 215) rfl) rfl, in_t3 (List.mem_of_getElem? (i := 216) rfl) rfl, in_t3 (List.mem_of_getElem? (i := 217) rfl) rfl, in_t1 (List.mem_of_getElem? (i := 1) rfl) rfl, kX6_item, by decide, ⟨by decide +kernel, by decide +kernel, by decide +kernel⟩⟩
theorem cvRL_179 : pg_CV RL 179 mX6_shelf 3 := ⟨in_t3 (List.mem_of_getElem? (i := 219) rfl) rfl, in_t3 (List.mem_of_getElem? (i := 220) rfl) rfl, in_t3 (List.mem_of_getElem? (i := 221) rfl) rfl, in_t1 (List.mem_of_getElem? (i := 1) rfl) rfl, kX6_shelf, by decide, ⟨by decide +kernel, by decide +kernel, by decide +kernel⟩⟩
theorem csRX6_270 : pg_CS RX6 270 mX6_isShelf 1 := ⟨in_t3 (List.mem_of_getElem? (i := 223) rfl) rfl, in_t3 (List.mem_of_getElem? (i := 224) rfl) rfl, in_t1 (List.mem_of_getElem? (i := 1) rfl) rfl, kX6_isShelf, by decide, ⟨by decide +kernel, by decide +kernel, by decide +kernel⟩⟩
theorem cvRX6_273 : pg_CV RX6 273 mX3_holdPerson 1 := ⟨in_t3 (List.mem_of_getElem? (i := 226) rfl) rfl, in_t3 (List.mem_of_getElem? (i := 227) rfl) rfl, in_t3 (List.mem_of_getElem? (i := 228) rfl) rfl, in_t1 (List.mem_of_getElem? (i := 7) rfl) rfl, kX3_holdPerson, by decide, ⟨by decide +kernel, by decide +kernel, by decide +kernel⟩⟩
theorem cvRX6_276 : pg_CV RX6 276 mX3_holdRow 1 := ⟨in_t3 (List.mem_of_getElem? (i := 230) rfl) rfl, in_t3 (List.mem_of_getElem? (i := 231) rfl) rfl, in_t3 (List.mem_of_getElem? (i := 232) rfl) rfl, in_t1 (List.mem_of_getElem? (i := 7) rfl) rfl, kX3_holdRow, by decide, ⟨by decide +kernel, by decide +kernel, by decide +kernel⟩⟩
theorem cvRL_183 : pg_CV RL 183 mX6_taken 2 := ⟨in_t3 (List.mem_of_getElem? (i := 234) rfl) rfl, in_t3 (List.mem_of_getElem? (i := 235) rfl) rfl, in_t3 (List.mem_of_getElem? (i := 236) rfl) rfl, in_t1 (List.mem_of_getElem? (i := 1) rfl) rfl, kX6_taken, by decide, ⟨by decide +kernel, by decide +kernel, by decide +kernel⟩⟩
theorem cvRX6_286 : pg_CV RX6 286 mX6_holdsSomebody 1 := ⟨in_t3 (List.mem_of_getElem? (i := 238) rfl) rfl, in_t4 (List.mem_of_getElem? (i := 0) rfl) rfl, in_s2 (List.mem_of_getElem? (i := 4) rfl) rfl, in_t1 (List.mem_of_getElem? (i := 1) rfl) rfl, kX6_holdsSomebody, by decide, ⟨by decide +kernel, by decide +kernel, by decide +kernel⟩⟩
theorem csRX6_293 : pg_CS RX6 293 mX6_isUnder 2 := ⟨in_t4 (List.mem_of_getElem? (i := 2) rfl) rfl, in_t4 (List.mem_of_getElem? (i := 3) rfl) rfl, in_t1 (List.mem_of_getElem? (i := 1) rfl) rfl, kX6_isUnder, by decide, ⟨by decide +kernel, by decide +kernel, by decide +kernel⟩⟩
theorem cvRL_187 : pg_CV RL 187 mX6_act 3 := ⟨in_t4 (List.mem_of_getElem? (i := 7) rfl) rfl, in_t4 (List.mem_of_getElem? (i := 8) rfl) rfl, in_t4 (List.mem_of_getElem? (i := 9) rfl) rfl, in_t1 (List.mem_of_getElem? (i := 1) rfl) rfl, kX6_act, by decide, ⟨by decide +kernel, by decide +kernel, by decide +kernel⟩⟩
theorem cvRX6_299 : pg_CV RX6 299 mX0_become 3 := ⟨in_t4 (List.mem_of_getElem? (i := 11) rfl) rfl, in_t4 (List.mem_of_getElem? (i := 12) rfl) rfl, in_t4 (List.mem_of_getElem? (i := 13) rfl) rfl, in_t1 (List.mem_of_getElem? (i := 5) rfl) rfl, kX0_become, by decide, ⟨by decide +kernel, by decide +kernel, by decide +kernel⟩⟩
theorem cvRX6_302 : pg_CV RX6 302 mX0_perform 2 := ⟨in_t4 (List.mem_of_getElem? (i := 15) rfl) rfl, in_t4 (List.mem_of_getElem? (i := 16) rfl) rfl, in_t4 (List.mem_of_getElem? (i := 17) rfl) rfl, in_t1 (List.mem_of_getElem? (i := 5) rfl) rfl, kX0_perform, by decide, ⟨by decide +kernel, by decide +kernel, by decide +kernel⟩⟩
theorem cvRX0_32 : pg_CV RX0 32 mX0_own 3 := ⟨in_t4 (List.mem_of_getElem? (i := 19) rfl) rfl, in_t4 (List.mem_of_getElem? (i := 21) rfl) rfl, in_s2 (List.mem_of_getElem? (i := 5) rfl) rfl, in_t1 (List.mem_of_getElem? (i := 5) rfl) rfl, kX0_own, by decide, ⟨by decide +kernel, by decide +kernel, by decide +kernel⟩⟩
theorem cvRX0_39 : pg_CV RX0 39 mX0_run 3 := ⟨in_t4 (List.mem_of_getElem? (i := 25) rfl) rfl, in_t4 (List.mem_of_getElem? (i := 27) rfl) rfl, in_s2 (List.mem_of_getElem? (i := 6) rfl) rfl, in_t1 (List.mem_of_getElem? (i := 5) rfl) rfl, kX0_run, by decide, ⟨by decide +kernel, by decide +kernel, by decide +kernel⟩⟩
theorem cvRX0_42 : pg_CV RX0 42 mX0_note 1 := ⟨in_t4 (List.mem_of_getElem? (i := 29) rfl) rfl, in_t4 (List.mem_of_getElem? (i := 31) rfl) rfl, in_s2 (List.mem_of_getElem? (i := 7) rfl) rfl, in_t1 (List.mem_of_getElem? (i := 5) rfl) rfl, kX0_note, by decide, ⟨by decide +kernel, by decide +kernel, by decide +kernel⟩⟩
theorem cvRX0_46 : pg_CV RX0 46 mX0_quotient 2 := ⟨in_t4 (List.mem_of_getElem? (i := 33) rfl) rfl, in_t4 (List.mem_of_getElem? (i := 35) rfl) rfl, in_s2 (List.mem_of_getElem? (i := 8) rfl) rfl, in_t1 (List.mem_of_getElem? (i := 5) rfl) rfl, kX0_quotient, by decide, ⟨by decide +kernel, by decide +kernel, by decide +kernel⟩⟩
theorem cvRL_191 : pg_CV RL 191 mX6_trace 1 := ⟨in_t4 (List.mem_of_getElem? (i := 37) rfl) rfl, in_t4 (List.mem_of_getElem? (i := 38) rfl) rfl, in_t4 (List.mem_of_getElem? (i := 39) rfl) rfl, in_t1 (List.mem_of_getElem? (i := 1) rfl) rfl, kX6_trace, by decide, ⟨by decide +kernel, by decide +kernel, by decide +kernel⟩⟩
theorem cvRL_195 : pg_CV RL 195 mX6_many 1 := ⟨in_t4 (List.mem_of_getElem? (i := 41) rfl) rfl, in_t4 (List.mem_of_getElem? (i := 42) rfl) rfl, in_t4 (List.mem_of_getElem? (i := 43) rfl) rfl, in_t1 (List.mem_of_getElem? (i := 1) rfl) rfl, kX6_many, by decide, ⟨by decide +kernel, by decide +kernel, by decide +kernel⟩⟩
theorem cvRX6_308 : pg_CV RX6 308 mX5_pegsHad 0 := ⟨in_t4 (List.mem_of_getElem? (i := 45) rfl) rfl, in_t4 (List.mem_of_getElem? (i := 46) rfl) rfl, in_t4 (List.mem_of_getElem? (i := 47) rfl) rfl, in_t1 (List.mem_of_getElem? (i := 2) rfl) rfl, kX5_pegsHad, by decide, ⟨by decide +kernel, by decide +kernel, by decide +kernel⟩⟩
theorem cvRL_199 : pg_CV RL 199 mX6_keep 0 := ⟨in_t4 (List.mem_of_getElem? (i := 49) rfl) rfl, in_t4 (List.mem_of_getElem? (i := 50) rfl) rfl, in_t4 (List.mem_of_getElem? (i := 51) rfl) rfl, in_t1 (List.mem_of_getElem? (i := 1) rfl) rfl, kX6_keep, by decide, ⟨by decide +kernel, by decide +kernel, by decide +kernel⟩⟩
theorem cvRL_203 : pg_CV RL 203 mX6_again 0 := ⟨in_t4 (List.mem_of_getElem? (i := 53) rfl) rfl, in_t4 (List.mem_of_getElem? (i := 54) rfl) rfl, in_t4 (List.mem_of_getElem? (i := 55) rfl) rfl, in_t1 (List.mem_of_getElem? (i := 1) rfl) rfl, kX6_again, by decide, ⟨by decide +kernel, by decide +kernel, by decide +kernel⟩⟩
theorem csRX7_56 : pg_CS RX7 56 mX7_begins 1 := ⟨in_t4 (List.mem_of_getElem? (i := 63) rfl) rfl, in_t4 (List.mem_of_getElem? (i := 64) rfl) rfl, in_t1 (List.mem_of_getElem? (i := 8) rfl) rfl, kX7_begins, by decide, ⟨by decide +kernel, by decide +kernel, by decide +kernel⟩⟩
theorem cvRL_19 : pg_CV RL 19 mX7_feed 2 := ⟨in_t4 (List.mem_of_getElem? (i := 155) rfl) rfl, in_t4 (List.mem_of_getElem? (i := 156) rfl) rfl, in_t4 (List.mem_of_getElem? (i := 157) rfl) rfl, in_t1 (List.mem_of_getElem? (i := 8) rfl) rfl, kX7_feed, by decide, ⟨by decide +kernel, by decide +kernel, by decide +kernel⟩⟩
theorem csRX7_60 : pg_CS RX7 60 mX7_in 3 := ⟨in_t4 (List.mem_of_getElem? (i := 159) rfl) rfl, in_t4 (List.mem_of_getElem? (i := 160) rfl) rfl, in_t1 (List.mem_of_getElem? (i := 8) rfl) rfl, kX7_in, by decide, ⟨by decide +kernel, by decide +kernel, by decide +kernel⟩⟩
theorem cvRL_24 : pg_CV RL 24 mX7_school 0 := ⟨in_t4 (List.mem_of_getElem? (i := 163) rfl) rfl, in_t4 (List.mem_of_getElem? (i := 164) rfl) rfl, in_t4 (List.mem_of_getElem? (i := 165) rfl) rfl, in_t1 (List.mem_of_getElem? (i := 8) rfl) rfl, kX7_school, by decide, ⟨by decide +kernel, by decide +kernel, by decide +kernel⟩⟩
theorem cvRX7_142 : pg_CV RX7 142 mX7_advance 0 := ⟨in_t4 (List.mem_of_getElem? (i := 167) rfl) rfl, in_t4 (List.mem_of_getElem? (i := 169) rfl) rfl, in_s2 (List.mem_of_getElem? (i := 9) rfl) rfl, in_t1 (List.mem_of_getElem? (i := 8) rfl) rfl, kX7_advance, by decide, ⟨by decide +kernel, by decide +kernel, by decide +kernel⟩⟩
theorem cvRX7_75 : pg_CV RX7 75 mX7_byteAt 1 := ⟨in_t4 (List.mem_of_getElem? (i := 171) rfl) rfl, in_t4 (List.mem_of_getElem? (i := 173) rfl) rfl, in_s2 (List.mem_of_getElem? (i := 10) rfl) rfl, in_t1 (List.mem_of_getElem? (i := 8) rfl) rfl, kX7_byteAt, by decide, ⟨by decide +kernel, by decide +kernel, by decide +kernel⟩⟩
theorem csRX7_79 : pg_CS RX7 79 mX7_isLetter 1 := ⟨in_t4 (List.mem_of_getElem? (i := 175) rfl) rfl, in_t4 (List.mem_of_getElem? (i := 176) rfl) rfl, in_t1 (List.mem_of_getElem? (i := 8) rfl) rfl, kX7_isLetter, by decide, ⟨by decide +kernel, by decide +kernel, by decide +kernel⟩⟩
theorem csRX7_83 : pg_CS RX7 83 mX7_isDigit 1 := ⟨in_t4 (List.mem_of_getElem? (i := 178) rfl) rfl, in_t4 (List.mem_of_getElem? (i := 179) rfl) rfl, in_t1 (List.mem_of_getElem? (i := 8) rfl) rfl, kX7_isDigit, by decide, ⟨by decide +kernel, by decide +kernel, by decide +kernel⟩⟩
theorem cvRX7_190 : pg_CV RX7 190 mX7_wantClause 0 := ⟨in_t4 (List.mem_of_getElem? (i := 184) rfl) rfl, in_t4 (List.mem_of_getElem? (i := 186) rfl) rfl, in_s2 (List.mem_of_getElem? (i := 11) rfl) rfl, in_t1 (List.mem_of_getElem? (i := 8) rfl) rfl, kX7_wantClause, by decide, ⟨by decide +kernel, by decide +kernel, by decide +kernel⟩⟩
theorem cvRX7_175 : pg_CV RX7 175 mX7_lawHere 0 := ⟨in_t4 (List.mem_of_getElem? (i := 188) rfl) rfl, in_t4 (List.mem_of_getElem? (i := 190) rfl) rfl, in_s2 (List.mem_of_getElem? (i := 12) rfl) rfl, in_t1 (List.mem_of_getElem? (i := 8) rfl) rfl, kX7_lawHere, by decide, ⟨by decide +kernel, by decide +kernel, by decide +kernel⟩⟩
theorem cvRX7_104 : pg_CV RX7 104 mX7_isWord 1 := ⟨in_t4 (List.mem_of_getElem? (i := 193) rfl) rfl, in_t4 (List.mem_of_getElem? (i := 195) rfl) rfl, in_s2 (List.mem_of_getElem? (i := 13) rfl) rfl, in_t1 (List.mem_of_getElem? (i := 8) rfl) rfl, kX7_isWord, by decide, ⟨by decide +kernel, by decide +kernel, by decide +kernel⟩⟩
theorem cvRX7_148 : pg_CV RX7 148 mX7_pegHere 0 := ⟨in_t4 (List.mem_of_getElem? (i := 200) rfl) rfl, in_t4 (List.mem_of_getElem? (i := 202) rfl) rfl, in_s2 (List.mem_of_getElem? (i := 14) rfl) rfl, in_t1 (List.mem_of_getElem? (i := 8) rfl) rfl, kX7_pegHere, by decide, ⟨by decide +kernel, by decide +kernel, by decide +kernel⟩⟩
theorem cvRX7_178 : pg_CV RX7 178 mX7_kindHere 0 := ⟨in_t4 (List.mem_of_getElem? (i := 210) rfl) rfl, in_t4 (List.mem_of_getElem? (i := 212) rfl) rfl, in_s2 (List.mem_of_getElem? (i := 15) rfl) rfl, in_t1 (List.mem_of_getElem? (i := 8) rfl) rfl, kX7_kindHere, by decide, ⟨by decide +kernel, by decide +kernel, by decide +kernel⟩⟩
theorem cvRX7_181 : pg_CV RX7 181 mX7_wantOne 1 := ⟨in_t4 (List.mem_of_getElem? (i := 220) rfl) rfl, in_t4 (List.mem_of_getElem? (i := 222) rfl) rfl, in_s3 (List.mem_of_getElem? (i := 0) rfl) rfl, in_t1 (List.mem_of_getElem? (i := 8) rfl) rfl, kX7_wantOne, by decide, ⟨by decide +kernel, by decide +kernel, by decide +kernel⟩⟩
theorem cvRX7_154 : pg_CV RX7 154 mX7_wantWord 1 := ⟨in_t4 (List.mem_of_getElem? (i := 225) rfl) rfl, in_t4 (List.mem_of_getElem? (i := 227) rfl) rfl, in_s3 (List.mem_of_getElem? (i := 1) rfl) rfl, in_t1 (List.mem_of_getElem? (i := 8) rfl) rfl, kX7_wantWord, by decide, ⟨by decide +kernel, by decide +kernel, by decide +kernel⟩⟩
theorem cvRX7_158 : pg_CV RX7 158 mX7_wantNumber 2 := ⟨in_t4 (List.mem_of_getElem? (i := 229) rfl) rfl, in_t4 (List.mem_of_getElem? (i := 231) rfl) rfl, in_s3 (List.mem_of_getElem? (i := 2) rfl) rfl, in_t1 (List.mem_of_getElem? (i := 8) rfl) rfl, kX7_wantNumber, by decide, ⟨by decide +kernel, by decide +kernel, by decide +kernel⟩⟩
theorem cvRX7_164 : pg_CV RX7 164 mX7_may 1 := ⟨in_t4 (List.mem_of_getElem? (i := 234) rfl) rfl, in_t4 (List.mem_of_getElem? (i := 236) rfl) rfl, in_s3 (List.mem_of_getElem? (i := 3) rfl) rfl, in_t1 (List.mem_of_getElem? (i := 8) rfl) rfl, kX7_may, by decide, ⟨by decide +kernel, by decide +kernel, by decide +kernel⟩⟩
theorem cvRX7_169 : pg_CV RX7 169 mX7_wantPeg 0 := ⟨in_t4 (List.mem_of_getElem? (i := 239) rfl) rfl, in_t5 (List.mem_of_getElem? (i := 1) rfl) rfl, in_s3 (List.mem_of_getElem? (i := 4) rfl) rfl, in_t1 (List.mem_of_getElem? (i := 8) rfl) rfl, kX7_wantPeg, by decide, ⟨by decide +kernel, by decide +kernel, by decide +kernel⟩⟩
theorem cvRX7_172 : pg_CV RX7 172 mX7_wantEnd 0 := ⟨in_t5 (List.mem_of_getElem? (i := 3) rfl) rfl, in_t5 (List.mem_of_getElem? (i := 5) rfl) rfl, in_s3 (List.mem_of_getElem? (i := 5) rfl) rfl, in_t1 (List.mem_of_getElem? (i := 8) rfl) rfl, kX7_wantEnd, by decide, ⟨by decide +kernel, by decide +kernel, by decide +kernel⟩⟩
theorem cvRX7_145 : pg_CV RX7 145 mX7_isMark 1 := ⟨in_t5 (List.mem_of_getElem? (i := 7) rfl) rfl, in_t5 (List.mem_of_getElem? (i := 9) rfl) rfl, in_s3 (List.mem_of_getElem? (i := 6) rfl) rfl, in_t1 (List.mem_of_getElem? (i := 8) rfl) rfl, kX7_isMark, by decide, ⟨by decide +kernel, by decide +kernel, by decide +kernel⟩⟩
theorem csRX7_185 : pg_CS RX7 185 mX7_mostOf 1 := ⟨in_t5 (List.mem_of_getElem? (i := 11) rfl) rfl, in_t5 (List.mem_of_getElem? (i := 12) rfl) rfl, in_t1 (List.mem_of_getElem? (i := 8) rfl) rfl, kX7_mostOf, by decide, ⟨by decide +kernel, by decide +kernel, by decide +kernel⟩⟩
theorem csRX7_193 : pg_CS RX7 193 mX7_moveAll 2 := ⟨in_t5 (List.mem_of_getElem? (i := 15) rfl) rfl, in_t5 (List.mem_of_getElem? (i := 16) rfl) rfl, in_t1 (List.mem_of_getElem? (i := 8) rfl) rfl, kX7_moveAll, by decide, ⟨by decide +kernel, by decide +kernel, by decide +kernel⟩⟩
theorem cvRL_29 : pg_CV RL 29 mX7_set 2 := ⟨in_t5 (List.mem_of_getElem? (i := 18) rfl) rfl, in_t5 (List.mem_of_getElem? (i := 19) rfl) rfl, in_t5 (List.mem_of_getElem? (i := 20) rfl) rfl, in_t1 (List.mem_of_getElem? (i := 8) rfl) rfl, kX7_set, by decide, ⟨by decide +kernel, by decide +kernel, by decide +kernel⟩⟩
theorem cvRX7_200 : pg_CV RX7 200 mX7_becomes 2 := ⟨in_t5 (List.mem_of_getElem? (i := 22) rfl) rfl, in_t5 (List.mem_of_getElem? (i := 24) rfl) rfl, in_s3 (List.mem_of_getElem? (i := 7) rfl) rfl, in_t1 (List.mem_of_getElem? (i := 8) rfl) rfl, kX7_becomes, by decide, ⟨by decide +kernel, by decide +kernel, by decide +kernel⟩⟩
theorem cvRL_34 : pg_CV RL 34 mX7_lawOf 1 := ⟨in_t5 (List.mem_of_getElem? (i := 26) rfl) rfl, in_t5 (List.mem_of_getElem? (i := 27) rfl) rfl, in_t5 (List.mem_of_getElem? (i := 28) rfl) rfl, in_t1 (List.mem_of_getElem? (i := 8) rfl) rfl, kX7_lawOf, by decide, ⟨by decide +kernel, by decide +kernel, by decide +kernel⟩⟩
theorem cvRL_39 : pg_CV RL 39 mX7_person 4 := ⟨in_t5 (List.mem_of_getElem? (i := 30) rfl) rfl, in_t5 (List.mem_of_getElem? (i := 31) rfl) rfl, in_t5 (List.mem_of_getElem? (i := 32) rfl) rfl, in_t1 (List.mem_of_getElem? (i := 8) rfl) rfl, kX7_person, by decide, ⟨by decide +kernel, by decide +kernel, by decide +kernel⟩⟩
theorem csRX7_206 : pg_CS RX7 206 mX7_isKind 2 := ⟨in_t5 (List.mem_of_getElem? (i := 34) rfl) rfl, in_t5 (List.mem_of_getElem? (i := 35) rfl) rfl, in_t1 (List.mem_of_getElem? (i := 8) rfl) rfl, kX7_isKind, by decide, ⟨by decide +kernel, by decide +kernel, by decide +kernel⟩⟩
theorem csRX7_203 : pg_CS RX7 203 mX7_isPeg 1 := ⟨in_t5 (List.mem_of_getElem? (i := 37) rfl) rfl, in_t5 (List.mem_of_getElem? (i := 38) rfl) rfl, in_t1 (List.mem_of_getElem? (i := 8) rfl) rfl, kX7_isPeg, by decide, ⟨by decide +kernel, by decide +kernel, by decide +kernel⟩⟩
theorem csRX7_210 : pg_CS RX7 210 mX7_isPlace 1 := ⟨in_t5 (List.mem_of_getElem? (i := 40) rfl) rfl, in_t5 (List.mem_of_getElem? (i := 41) rfl) rfl, in_t1 (List.mem_of_getElem? (i := 8) rfl) rfl, kX7_isPlace, by decide, ⟨by decide +kernel, by decide +kernel, by decide +kernel⟩⟩
theorem cvRX7_213 : pg_CV RX7 213 mX7_sets 3 := ⟨in_t5 (List.mem_of_getElem? (i := 43) rfl) rfl, in_t5 (List.mem_of_getElem? (i := 45) rfl) rfl, in_s3 (List.mem_of_getElem? (i := 8) rfl) rfl, in_t1 (List.mem_of_getElem? (i := 8) rfl) rfl, kX7_sets, by decide, ⟨by decide +kernel, by decide +kernel, by decide +kernel⟩⟩
theorem cvRL_43 : pg_CV RL 43 mX7_of 2 := ⟨in_t5 (List.mem_of_getElem? (i := 47) rfl) rfl, in_t5 (List.mem_of_getElem? (i := 48) rfl) rfl, in_t5 (List.mem_of_getElem? (i := 49) rfl) rfl, in_t1 (List.mem_of_getElem? (i := 8) rfl) rfl, kX7_of, by decide, ⟨by decide +kernel, by decide +kernel, by decide +kernel⟩⟩
theorem cvRX7_220 : pg_CV RX7 220 mX7_isOne 1 := ⟨in_t5 (List.mem_of_getElem? (i := 51) rfl) rfl, in_t5 (List.mem_of_getElem? (i := 53) rfl) rfl, in_s3 (List.mem_of_getElem? (i := 9) rfl) rfl, in_t1 (List.mem_of_getElem? (i := 8) rfl) rfl, kX7_isOne, by decide, ⟨by decide +kernel, by decide +kernel, by decide +kernel⟩⟩
theorem cvRX7_217 : pg_CV RX7 217 mX7_its 2 := ⟨in_t5 (List.mem_of_getElem? (i := 55) rfl) rfl, in_t5 (List.mem_of_getElem? (i := 57) rfl) rfl, in_s3 (List.mem_of_getElem? (i := 10) rfl) rfl, in_t1 (List.mem_of_getElem? (i := 8) rfl) rfl, kX7_its, by decide, ⟨by decide +kernel, by decide +kernel, by decide +kernel⟩⟩
theorem cvRX7_223 : pg_CV RX7 223 mX7_besides 1 := ⟨in_t5 (List.mem_of_getElem? (i := 59) rfl) rfl, in_t5 (List.mem_of_getElem? (i := 61) rfl) rfl, in_s3 (List.mem_of_getElem? (i := 11) rfl) rfl, in_t1 (List.mem_of_getElem? (i := 8) rfl) rfl, kX7_besides, by decide, ⟨by decide +kernel, by decide +kernel, by decide +kernel⟩⟩
theorem cvRL_47 : pg_CV RL 47 mX7_leans 2 := ⟨in_t5 (List.mem_of_getElem? (i := 63) rfl) rfl, in_t5 (List.mem_of_getElem? (i := 64) rfl) rfl, in_t5 (List.mem_of_getElem? (i := 65) rfl) rfl, in_t1 (List.mem_of_getElem? (i := 8) rfl) rfl, kX7_leans, by decide, ⟨by decide +kernel, by decide +kernel, by decide +kernel⟩⟩
theorem cvRX7_226 : pg_CV RX7 226 mX7_leaning 2 := ⟨in_t5 (List.mem_of_getElem? (i := 67) rfl) rfl, in_t5 (List.mem_of_getElem? (i := 69) rfl) rfl, in_s3 (List.mem_of_getElem? (i := 12) rfl) rfl, in_t1 (List.mem_of_getElem? (i := 8) rfl) rfl, kX7_leaning, by decide, ⟨by decide +kernel, by decide +kernel, by decide +kernel⟩⟩
theorem cvRL_51 : pg_CV RL 51 mX7_strides 1 := ⟨in_t5 (List.mem_of_getElem? (i := 71) rfl) rfl, in_t5 (List.mem_of_getElem? (i := 72) rfl) rfl, in_t5 (List.mem_of_getElem? (i := 73) rfl) rfl, in_t1 (List.mem_of_getElem? (i := 8) rfl) rfl, kX7_strides, by decide, ⟨by decide +kernel, by decide +kernel, by decide +kernel⟩⟩
theorem cvRX7_229 : pg_CV RX7 229 mX7_striding 1 := ⟨in_t5 (List.mem_of_getElem? (i := 75) rfl) rfl, in_t5 (List.mem_of_getElem? (i := 77) rfl) rfl, in_s3 (List.mem_of_getElem? (i := 13) rfl) rfl, in_t1 (List.mem_of_getElem? (i := 8) rfl) rfl, kX7_striding, by decide, ⟨by decide +kernel, by decide +kernel, by decide +kernel⟩⟩
theorem cvRL_56 : pg_CV RL 56 mX7_mind 3 := ⟨in_t5 (List.mem_of_getElem? (i := 79) rfl) rfl, in_t5 (List.mem_of_getElem? (i := 80) rfl) rfl, in_t5 (List.mem_of_getElem? (i := 81) rfl) rfl, in_t1 (List.mem_of_getElem? (i := 8) rfl) rfl, kX7_mind, by decide, ⟨by decide +kernel, by decide +kernel, by decide +kernel⟩⟩
theorem cvRL_60 : pg_CV RL 60 mX7_age 2 := ⟨in_t5 (List.mem_of_getElem? (i := 83) rfl) rfl, in_t5 (List.mem_of_getElem? (i := 84) rfl) rfl, in_t5 (List.mem_of_getElem? (i := 85) rfl) rfl, in_t1 (List.mem_of_getElem? (i := 8) rfl) rfl, kX7_age, by decide, ⟨by decide +kernel, by decide +kernel, by decide +kernel⟩⟩
theorem cvRL_64 : pg_CV RL 64 mX7_bring 2 := ⟨in_t5 (List.mem_of_getElem? (i := 87) rfl) rfl, in_t5 (List.mem_of_getElem? (i := 88) rfl) rfl, in_t5 (List.mem_of_getElem? (i := 89) rfl) rfl, in_t1 (List.mem_of_getElem? (i := 8) rfl) rfl, kX7_bring, by decide, ⟨by decide +kernel, by decide +kernel, by decide +kernel⟩⟩
theorem cvRL_68 : pg_CV RL 68 mX7_know 3 := ⟨in_t5 (List.mem_of_getElem? (i := 91) rfl) rfl, in_t5 (List.mem_of_getElem? (i := 92) rfl) rfl, in_t5 (List.mem_of_getElem? (i := 93) rfl) rfl, in_t1 (List.mem_of_getElem? (i := 8) rfl) rfl, kX7_know, by decide, ⟨by decide +kernel, by decide +kernel, by decide +kernel⟩⟩
theorem cvRX7_232 : pg_CV RX7 232 mX7_isKnown 2 := ⟨in_t5 (List.mem_of_getElem? (i := 95) rfl) rfl, in_t5 (List.mem_of_getElem? (i := 97) rfl) rfl, in_s3 (List.mem_of_getElem? (i := 14) rfl) rfl, in_t1 (List.mem_of_getElem? (i := 8) rfl) rfl, kX7_isKnown, by decide, ⟨by decide +kernel, by decide +kernel, by decide +kernel⟩⟩
theorem cvRX7_235 : pg_CV RX7 235 mX7_meets 3 := ⟨in_t5 (List.mem_of_getElem? (i := 99) rfl) rfl, in_t5 (List.mem_of_getElem? (i := 101) rfl) rfl, in_s3 (List.mem_of_getElem? (i := 15) rfl) rfl, in_t1 (List.mem_of_getElem? (i := 8) rfl) rfl, kX7_meets, by decide, ⟨by decide +kernel, by decide +kernel, by decide +kernel⟩⟩
theorem cvRL_72 : pg_CV RL 72 mX7_weigh 2 := ⟨in_t5 (List.mem_of_getElem? (i := 103) rfl) rfl, in_t5 (List.mem_of_getElem? (i := 104) rfl) rfl, in_t5 (List.mem_of_getElem? (i := 105) rfl) rfl, in_t1 (List.mem_of_getElem? (i := 8) rfl) rfl, kX7_weigh, by decide, ⟨by decide +kernel, by decide +kernel, by decide +kernel⟩⟩
theorem cvRL_76 : pg_CV RL 76 mX7_peg 2 := ⟨in_t5 (List.mem_of_getElem? (i := 107) rfl) rfl, in_t5 (List.mem_of_getElem? (i := 108) rfl) rfl, in_t5 (List.mem_of_getElem? (i := 109) rfl) rfl, in_t1 (List.mem_of_getElem? (i := 8) rfl) rfl, kX7_peg, by decide, ⟨by decide +kernel, by decide +kernel, by decide +kernel⟩⟩
theorem cvRX7_239 : pg_CV RX7 239 mX7_hadBy 1 := ⟨in_t5 (List.mem_of_getElem? (i := 111) rfl) rfl, in_t5 (List.mem_of_getElem? (i := 113) rfl) rfl, in_s4 (List.mem_of_getElem? (i := 0) rfl) rfl, in_t1 (List.mem_of_getElem? (i := 8) rfl) rfl, kX7_hadBy, by decide, ⟨by decide +kernel, by decide +kernel, by decide +kernel⟩⟩
theorem cvRL_80 : pg_CV RL 80 mX7_hours 1 := ⟨in_t5 (List.mem_of_getElem? (i := 115) rfl) rfl, in_t5 (List.mem_of_getElem? (i := 116) rfl) rfl, in_t5 (List.mem_of_getElem? (i := 117) rfl) rfl, in_t1 (List.mem_of_getElem? (i := 8) rfl) rfl, kX7_hours, by decide, ⟨by decide +kernel, by decide +kernel, by decide +kernel⟩⟩
theorem cvRX7_251 : pg_CV RX7 251 mX7_hourGoes 0 := ⟨in_t5 (List.mem_of_getElem? (i := 119) rfl) rfl, in_t5 (List.mem_of_getElem? (i := 121) rfl) rfl, in_s4 (List.mem_of_getElem? (i := 1) rfl) rfl, in_t1 (List.mem_of_getElem? (i := 8) rfl) rfl, kX7_hourGoes, by decide, ⟨by decide +kernel, by decide +kernel, by decide +kernel⟩⟩
theorem cvRX7_242 : pg_CV RX7 242 mX7_areAlike 2 := ⟨in_t5 (List.mem_of_getElem? (i := 123) rfl) rfl, in_t5 (List.mem_of_getElem? (i := 125) rfl) rfl, in_s4 (List.mem_of_getElem? (i := 2) rfl) rfl, in_t1 (List.mem_of_getElem? (i := 8) rfl) rfl, kX7_areAlike, by decide, ⟨by decide +kernel, by decide +kernel, by decide +kernel⟩⟩
theorem cvRX7_245 : pg_CV RX7 245 mX7_feelEachOther 2 := ⟨in_t5 (List.mem_of_getElem? (i := 127) rfl) rfl, in_t5 (List.mem_of_getElem? (i := 129) rfl) rfl, in_s4 (List.mem_of_getElem? (i := 3) rfl) rfl, in_t1 (List.mem_of_getElem? (i := 8) rfl) rfl, kX7_feelEachOther, by decide, ⟨by decide +kernel, by decide +kernel, by decide +kernel⟩⟩
theorem cvRX7_254 : pg_CV RX7 254 mX7_pairs 0 := ⟨in_t5 (List.mem_of_getElem? (i := 131) rfl) rfl, in_t5 (List.mem_of_getElem? (i := 133) rfl) rfl, in_s4 (List.mem_of_getElem? (i := 4) rfl) rfl, in_t1 (List.mem_of_getElem? (i := 8) rfl) rfl, kX7_pairs, by decide, ⟨by decide +kernel, by decide +kernel, by decide +kernel⟩⟩
theorem csRX7_248 : pg_CS RX7 248 mX7_ones 1 := ⟨in_t5 (List.mem_of_getElem? (i := 135) rfl) rfl, in_t5 (List.mem_of_getElem? (i := 136) rfl) rfl, in_t1 (List.mem_of_getElem? (i := 8) rfl) rfl, kX7_ones, by decide, ⟨by decide +kernel, by decide +kernel, by decide +kernel⟩⟩
theorem cvRL_84 : pg_CV RL 84 mX7_seed 1 := ⟨in_t5 (List.mem_of_getElem? (i := 138) rfl) rfl, in_t5 (List.mem_of_getElem? (i := 139) rfl) rfl, in_t5 (List.mem_of_getElem? (i := 140) rfl) rfl, in_t1 (List.mem_of_getElem? (i := 8) rfl) rfl, kX7_seed, by decide, ⟨by decide +kernel, by decide +kernel, by decide +kernel⟩⟩
theorem cvRL_88 : pg_CV RL 88 mX7_hour 0 := ⟨in_t5 (List.mem_of_getElem? (i := 142) rfl) rfl, in_t5 (List.mem_of_getElem? (i := 143) rfl) rfl, in_t5 (List.mem_of_getElem? (i := 144) rfl) rfl, in_t1 (List.mem_of_getElem? (i := 8) rfl) rfl, kX7_hour, by decide, ⟨by decide +kernel, by decide +kernel, by decide +kernel⟩⟩
theorem cvRX7_261 : pg_CV RX7 261 mX7_hourByDraws 0 := ⟨in_t5 (List.mem_of_getElem? (i := 146) rfl) rfl, in_t5 (List.mem_of_getElem? (i := 148) rfl) rfl, in_s4 (List.mem_of_getElem? (i := 5) rfl) rfl, in_t1 (List.mem_of_getElem? (i := 8) rfl) rfl, kX7_hourByDraws, by decide, ⟨by decide +kernel, by decide +kernel, by decide +kernel⟩⟩
theorem cvRX7_258 : pg_CV RX7 258 mX7_drawn 0 := ⟨in_t5 (List.mem_of_getElem? (i := 150) rfl) rfl, in_t5 (List.mem_of_getElem? (i := 152) rfl) rfl, in_s4 (List.mem_of_getElem? (i := 6) rfl) rfl, in_t1 (List.mem_of_getElem? (i := 8) rfl) rfl, kX7_drawn, by decide, ⟨by decide +kernel, by decide +kernel, by decide +kernel⟩⟩
theorem cvRL_92 : pg_CV RL 92 mX7_found 1 := ⟨in_t5 (List.mem_of_getElem? (i := 155) rfl) rfl, in_t5 (List.mem_of_getElem? (i := 156) rfl) rfl, in_t5 (List.mem_of_getElem? (i := 157) rfl) rfl, in_t1 (List.mem_of_getElem? (i := 8) rfl) rfl, kX7_found, by decide, ⟨by decide +kernel, by decide +kernel, by decide +kernel⟩⟩
theorem cvRL_96 : pg_CV RL 96 mX7_state 1 := ⟨in_t5 (List.mem_of_getElem? (i := 159) rfl) rfl, in_t5 (List.mem_of_getElem? (i := 160) rfl) rfl, in_t5 (List.mem_of_getElem? (i := 161) rfl) rfl, in_t1 (List.mem_of_getElem? (i := 8) rfl) rfl, kX7_state, by decide, ⟨by decide +kernel, by decide +kernel, by decide +kernel⟩⟩
theorem cvRX7_267 : pg_CV RX7 267 mX7_lonelySet 0 := ⟨in_t5 (List.mem_of_getElem? (i := 163) rfl) rfl, in_t5 (List.mem_of_getElem? (i := 165) rfl) rfl, in_s4 (List.mem_of_getElem? (i := 7) rfl) rfl, in_t1 (List.mem_of_getElem? (i := 8) rfl) rfl, kX7_lonelySet, by decide, ⟨by decide +kernel, by decide +kernel, by decide +kernel⟩⟩
theorem cvRX7_270 : pg_CV RX7 270 mX7_placeSet 0 := ⟨in_t5 (List.mem_of_getElem? (i := 167) rfl) rfl, in_t5 (List.mem_of_getElem? (i := 169) rfl) rfl, in_s4 (List.mem_of_getElem? (i := 8) rfl) rfl, in_t1 (List.mem_of_getElem? (i := 8) rfl) rfl, kX7_placeSet, by decide, ⟨by decide +kernel, by decide +kernel, by decide +kernel⟩⟩
theorem cvRX7_273 : pg_CV RX7 273 mX7_circles 0 := ⟨in_t5 (List.mem_of_getElem? (i := 171) rfl) rfl, in_t5 (List.mem_of_getElem? (i := 173) rfl) rfl, in_s4 (List.mem_of_getElem? (i := 9) rfl) rfl, in_t1 (List.mem_of_getElem? (i := 8) rfl) rfl, kX7_circles, by decide, ⟨by decide +kernel, by decide +kernel, by decide +kernel⟩⟩
theorem cvRX7_264 : pg_CV RX7 264 mX7_circleOf 1 := ⟨in_t5 (List.mem_of_getElem? (i := 175) rfl) rfl, in_t5 (List.mem_of_getElem? (i := 177) rfl) rfl, in_s4 (List.mem_of_getElem? (i := 10) rfl) rfl, in_t1 (List.mem_of_getElem? (i := 8) rfl) rfl, kX7_circleOf, by decide, ⟨by decide +kernel, by decide +kernel, by decide +kernel⟩⟩
theorem cvRX7_276 : pg_CV RX7 276 mX7_weights 0 := ⟨in_t5 (List.mem_of_getElem? (i := 179) rfl) rfl, in_t5 (List.mem_of_getElem? (i := 181) rfl) rfl, in_s4 (List.mem_of_getElem? (i := 11) rfl) rfl, in_t1 (List.mem_of_getElem? (i := 8) rfl) rfl, kX7_weights, by decide, ⟨by decide +kernel, by decide +kernel, by decide +kernel⟩⟩
theorem cvRL_100 : pg_CV RL 100 mX7_ahead 3 := ⟨in_t5 (List.mem_of_getElem? (i := 183) rfl) rfl, in_t5 (List.mem_of_getElem? (i := 184) rfl) rfl, in_t5 (List.mem_of_getElem? (i := 185) rfl) rfl, in_t1 (List.mem_of_getElem? (i := 8) rfl) rfl, kX7_ahead, by decide, ⟨by decide +kernel, by decide +kernel, by decide +kernel⟩⟩
theorem cvRX7_279 : pg_CV RX7 279 mX7_behind 3 := ⟨in_t5 (List.mem_of_getElem? (i := 187) rfl) rfl, in_t5 (List.mem_of_getElem? (i := 189) rfl) rfl, in_s4 (List.mem_of_getElem? (i := 12) rfl) rfl, in_t1 (List.mem_of_getElem? (i := 8) rfl) rfl, kX7_behind, by decide, ⟨by decide +kernel, by decide +kernel, by decide +kernel⟩⟩
theorem cvRL_104 : pg_CV RL 104 mX7_meet 2 := ⟨in_t5 (List.mem_of_getElem? (i := 191) rfl) rfl, in_t5 (List.mem_of_getElem? (i := 192) rfl) rfl, in_t5 (List.mem_of_getElem? (i := 193) rfl) rfl, in_t1 (List.mem_of_getElem? (i := 8) rfl) rfl, kX7_meet, by decide, ⟨by decide +kernel, by decide +kernel, by decide +kernel⟩⟩
theorem cvRL_108 : pg_CV RL 108 mX7_gather 0 := ⟨in_t5 (List.mem_of_getElem? (i := 195) rfl) rfl, in_t5 (List.mem_of_getElem? (i := 196) rfl) rfl, in_t5 (List.mem_of_getElem? (i := 197) rfl) rfl, in_t1 (List.mem_of_getElem? (i := 8) rfl) rfl, kX7_gather, by decide, ⟨by decide +kernel, by decide +kernel, by decide +kernel⟩⟩
theorem cvRL_112 : pg_CV RL 112 mX7_alone 1 := ⟨in_t5 (List.mem_of_getElem? (i := 199) rfl) rfl, in_t5 (List.mem_of_getElem? (i := 200) rfl) rfl, in_t5 (List.mem_of_getElem? (i := 201) rfl) rfl, in_t1 (List.mem_of_getElem? (i := 8) rfl) rfl, kX7_alone, by decide, ⟨by decide +kernel, by decide +kernel, by decide +kernel⟩⟩
theorem cvRL_116 : pg_CV RL 116 mX7_pegFor 2 := ⟨in_t5 (List.mem_of_getElem? (i := 203) rfl) rfl, in_t5 (List.mem_of_getElem? (i := 204) rfl) rfl, in_t5 (List.mem_of_getElem? (i := 205) rfl) rfl, in_t1 (List.mem_of_getElem? (i := 8) rfl) rfl, kX7_pegFor, by decide, ⟨by decide +kernel, by decide +kernel, by decide +kernel⟩⟩
theorem cvRX7_283 : pg_CV RX7 283 mX7_bestOf 4 := ⟨in_t5 (List.mem_of_getElem? (i := 207) rfl) rfl, in_t5 (List.mem_of_getElem? (i := 209) rfl) rfl, in_s4 (List.mem_of_getElem? (i := 13) rfl) rfl, in_t1 (List.mem_of_getElem? (i := 8) rfl) rfl, kX7_bestOf, by decide, ⟨by decide +kernel, by decide +kernel, by decide +kernel⟩⟩
theorem cvRL_120 : pg_CV RL 120 mX7_kindFor 2 := ⟨in_t5 (List.mem_of_getElem? (i := 211) rfl) rfl, in_t5 (List.mem_of_getElem? (i := 212) rfl) rfl, in_t5 (List.mem_of_getElem? (i := 213) rfl) rfl, in_t1 (List.mem_of_getElem? (i := 8) rfl) rfl, kX7_kindFor, by decide, ⟨by decide +kernel, by decide +kernel, by decide +kernel⟩⟩
theorem cvRL_124 : pg_CV RL 124 mX7_placeFor 2 := ⟨in_t5 (List.mem_of_getElem? (i := 215) rfl) rfl, in_t5 (List.mem_of_getElem? (i := 216) rfl) rfl, in_t5 (List.mem_of_getElem? (i := 217) rfl) rfl, in_t1 (List.mem_of_getElem? (i := 8) rfl) rfl, kX7_placeFor, by decide, ⟨by decide +kernel, by decide +kernel, by decide +kernel⟩⟩
theorem cvRL_128 : pg_CV RL 128 mX7_circle 1 := ⟨in_t5 (List.mem_of_getElem? (i := 219) rfl) rfl, in_t5 (List.mem_of_getElem? (i := 220) rfl) rfl, in_t5 (List.mem_of_getElem? (i := 221) rfl) rfl, in_t1 (List.mem_of_getElem? (i := 8) rfl) rfl, kX7_circle, by decide, ⟨by decide +kernel, by decide +kernel, by decide +kernel⟩⟩
theorem cvRL_132 : pg_CV RL 132 mX7_apart 0 := ⟨in_t5 (List.mem_of_getElem? (i := 223) rfl) rfl, in_t5 (List.mem_of_getElem? (i := 224) rfl) rfl, in_t5 (List.mem_of_getElem? (i := 225) rfl) rfl, in_t1 (List.mem_of_getElem? (i := 8) rfl) rfl, kX7_apart, by decide, ⟨by decide +kernel, by decide +kernel, by decide +kernel⟩⟩
theorem cvRX7_287 : pg_CV RX7 287 mX7_unlikeAt 2 := ⟨in_t5 (List.mem_of_getElem? (i := 227) rfl) rfl, in_t5 (List.mem_of_getElem? (i := 229) rfl) rfl, in_s4 (List.mem_of_getElem? (i := 14) rfl) rfl, in_t1 (List.mem_of_getElem? (i := 8) rfl) rfl, kX7_unlikeAt, by decide, ⟨by decide +kernel, by decide +kernel, by decide +kernel⟩⟩
theorem cvRX7_290 : pg_CV RX7 290 mX7_areApart 1 := ⟨in_t5 (List.mem_of_getElem? (i := 231) rfl) rfl, in_t5 (List.mem_of_getElem? (i := 233) rfl) rfl, in_s4 (List.mem_of_getElem? (i := 15) rfl) rfl, in_t1 (List.mem_of_getElem? (i := 8) rfl) rfl, kX7_areApart, by decide, ⟨by decide +kernel, by decide +kernel, by decide +kernel⟩⟩
theorem cvRL_136 : pg_CV RL 136 mX7_fits 3 := ⟨in_t5 (List.mem_of_getElem? (i := 235) rfl) rfl, in_t5 (List.mem_of_getElem? (i := 236) rfl) rfl, in_t5 (List.mem_of_getElem? (i := 237) rfl) rfl, in_t1 (List.mem_of_getElem? (i := 8) rfl) rfl, kX7_fits, by decide, ⟨by decide +kernel, by decide +kernel, by decide +kernel⟩⟩
theorem csRX7_293 : pg_CS RX7 293 mX7_isShelf 1 := ⟨in_t5 (List.mem_of_getElem? (i := 239) rfl) rfl, in_t6 (List.mem_of_getElem? (i := 0) rfl) rfl, in_t1 (List.mem_of_getElem? (i := 8) rfl) rfl, kX7_isShelf, by decide, ⟨by decide +kernel, by decide +kernel, by decide +kernel⟩⟩
theorem cvRX7_296 : pg_CV RX7 296 mX7_isSo 2 := ⟨in_t6 (List.mem_of_getElem? (i := 2) rfl) rfl, in_t6 (List.mem_of_getElem? (i := 4) rfl) rfl, in_s5 (List.mem_of_getElem? (i := 0) rfl) rfl, in_t1 (List.mem_of_getElem? (i := 8) rfl) rfl, kX7_isSo, by decide, ⟨by decide +kernel, by decide +kernel, by decide +kernel⟩⟩
theorem cvRL_141 : pg_CV RL 141 mX7_odds 3 := ⟨in_t6 (List.mem_of_getElem? (i := 6) rfl) rfl, in_t6 (List.mem_of_getElem? (i := 7) rfl) rfl, in_t6 (List.mem_of_getElem? (i := 8) rfl) rfl, in_t1 (List.mem_of_getElem? (i := 8) rfl) rfl, kX7_odds, by decide, ⟨by decide +kernel, by decide +kernel, by decide +kernel⟩⟩
theorem csRX7_299 : pg_CS RX7 299 mX7_powerOf 2 := ⟨in_t6 (List.mem_of_getElem? (i := 10) rfl) rfl, in_t6 (List.mem_of_getElem? (i := 11) rfl) rfl, in_t1 (List.mem_of_getElem? (i := 8) rfl) rfl, kX7_powerOf, by decide, ⟨by decide +kernel, by decide +kernel, by decide +kernel⟩⟩
theorem csRX7_303 : pg_CS RX7 303 mX7_lowest 3 := ⟨in_t6 (List.mem_of_getElem? (i := 13) rfl) rfl, in_t6 (List.mem_of_getElem? (i := 14) rfl) rfl, in_t1 (List.mem_of_getElem? (i := 8) rfl) rfl, kX7_lowest, by decide, ⟨by decide +kernel, by decide +kernel, by decide +kernel⟩⟩
theorem cvRL_146 : pg_CV RL 146 mX7_hope 2 := ⟨in_t6 (List.mem_of_getElem? (i := 16) rfl) rfl, in_t6 (List.mem_of_getElem? (i := 17) rfl) rfl, in_t6 (List.mem_of_getElem? (i := 18) rfl) rfl, in_t1 (List.mem_of_getElem? (i := 8) rfl) rfl, kX7_hope, by decide, ⟨by decide +kernel, by decide +kernel, by decide +kernel⟩⟩
theorem cvRL_150 : pg_CV RL 150 mX7_prove 2 := ⟨in_t6 (List.mem_of_getElem? (i := 21) rfl) rfl, in_t6 (List.mem_of_getElem? (i := 22) rfl) rfl, in_t6 (List.mem_of_getElem? (i := 23) rfl) rfl, in_t1 (List.mem_of_getElem? (i := 8) rfl) rfl, kX7_prove, by decide, ⟨by decide +kernel, by decide +kernel, by decide +kernel⟩⟩
theorem cvRX7_309 : pg_CV RX7 309 mX7_findRows 2 := ⟨in_t6 (List.mem_of_getElem? (i := 25) rfl) rfl, in_t6 (List.mem_of_getElem? (i := 27) rfl) rfl, in_s5 (List.mem_of_getElem? (i := 1) rfl) rfl, in_t1 (List.mem_of_getElem? (i := 8) rfl) rfl, kX7_findRows, by decide, ⟨by decide +kernel, by decide +kernel, by decide +kernel⟩⟩
theorem cvRL_154 : pg_CV RL 154 mX7_row 2 := ⟨in_t6 (List.mem_of_getElem? (i := 29) rfl) rfl, in_t6 (List.mem_of_getElem? (i := 30) rfl) rfl, in_t6 (List.mem_of_getElem? (i := 31) rfl) rfl, in_t1 (List.mem_of_getElem? (i := 8) rfl) rfl, kX7_row, by decide, ⟨by decide +kernel, by decide +kernel, by decide +kernel⟩⟩
theorem cvRX7_313 : pg_CV RX7 313 mX7_isRow 2 := ⟨in_t6 (List.mem_of_getElem? (i := 33) rfl) rfl, in_t6 (List.mem_of_getElem? (i := 35) rfl) rfl, in_s5 (List.mem_of_getElem? (i := 2) rfl) rfl, in_t1 (List.mem_of_getElem? (i := 8) rfl) rfl, kX7_isRow, by decide, ⟨by decide +kernel, by decide +kernel, by decide +kernel⟩⟩
theorem cvRL_158 : pg_CV RL 158 mX7_alterRow 3 := ⟨in_t6 (List.mem_of_getElem? (i := 37) rfl) rfl, in_t6 (List.mem_of_getElem? (i := 38) rfl) rfl, in_t6 (List.mem_of_getElem? (i := 39) rfl) rfl, in_t1 (List.mem_of_getElem? (i := 8) rfl) rfl, kX7_alterRow, by decide, ⟨by decide +kernel, by decide +kernel, by decide +kernel⟩⟩
theorem cvRL_162 : pg_CV RL 162 mX7_judge 1 := ⟨in_t6 (List.mem_of_getElem? (i := 41) rfl) rfl, in_t6 (List.mem_of_getElem? (i := 42) rfl) rfl, in_t6 (List.mem_of_getElem? (i := 43) rfl) rfl, in_t1 (List.mem_of_getElem? (i := 8) rfl) rfl, kX7_judge, by decide, ⟨by decide +kernel, by decide +kernel, by decide +kernel⟩⟩
theorem cvRL_166 : pg_CV RL 166 mX7_minds 4 := ⟨in_t6 (List.mem_of_getElem? (i := 45) rfl) rfl, in_t6 (List.mem_of_getElem? (i := 46) rfl) rfl, in_t6 (List.mem_of_getElem? (i := 47) rfl) rfl, in_t1 (List.mem_of_getElem? (i := 8) rfl) rfl, kX7_minds, by decide, ⟨by decide +kernel, by decide +kernel, by decide +kernel⟩⟩
theorem cvRX7_316 : pg_CV RX7 316 mX7_lacksSort 2 := ⟨in_t6 (List.mem_of_getElem? (i := 49) rfl) rfl, in_t6 (List.mem_of_getElem? (i := 51) rfl) rfl, in_s5 (List.mem_of_getElem? (i := 3) rfl) rfl, in_t1 (List.mem_of_getElem? (i := 8) rfl) rfl, kX7_lacksSort, by decide, ⟨by decide +kernel, by decide +kernel, by decide +kernel⟩⟩
theorem csRX7_319 : pg_CS RX7 319 mX7_held 3 := ⟨in_t6 (List.mem_of_getElem? (i := 53) rfl) rfl, in_t6 (List.mem_of_getElem? (i := 54) rfl) rfl, in_t1 (List.mem_of_getElem? (i := 8) rfl) rfl, kX7_held, by decide, ⟨by decide +kernel, by decide +kernel, by decide +kernel⟩⟩
theorem cvRL_170 : pg_CV RL 170 mX7_sheet 3 := ⟨in_t6 (List.mem_of_getElem? (i := 56) rfl) rfl, in_t6 (List.mem_of_getElem? (i := 57) rfl) rfl, in_t6 (List.mem_of_getElem? (i := 58) rfl) rfl, in_t1 (List.mem_of_getElem? (i := 8) rfl) rfl, kX7_sheet, by decide, ⟨by decide +kernel, by decide +kernel, by decide +kernel⟩⟩
theorem cvRL_174 : pg_CV RL 174 mX7_put 3 := ⟨in_t6 (List.mem_of_getElem? (i := 60) rfl) rfl, in_t6 (List.mem_of_getElem? (i := 61) rfl) rfl, in_t6 (List.mem_of_getElem? (i := 62) rfl) rfl, in_t1 (List.mem_of_getElem? (i := 8) rfl) rfl, kX7_put, by decide, ⟨by decide +kernel, by decide +kernel, by decide +kernel⟩⟩
theorem cvRL_178 : pg_CV RL 178 mX7_item 3 := ⟨in_t6 (List.mem_of_getElem? (i := 64) rfl) rfl, in_t6 (List.mem_of_getElem? (i := 65) rfl) rfl, in_t6 (List.mem_of_getElem? (i := 66) rfl) rfl, in_t1 (List.mem_of_getElem? (i := 8) rfl) rfl, kX7_item, by decide, ⟨by decide +kernel, by decide +kernel, by decide +kernel⟩⟩
theorem cvRL_182 : pg_CV RL 182 mX7_shelf 3 := ⟨in_t6 (List.mem_of_getElem? (i := 68) rfl) rfl, in_t6 (List.mem_of_getElem? (i := 69) rfl) rfl, in_t6 (List.mem_of_getElem? (i := 70) rfl) rfl, in_t1 (List.mem_of_getElem? (i := 8) rfl) rfl, kX7_shelf, by decide, ⟨by decide +kernel, by decide +kernel, by decide +kernel⟩⟩
theorem cvRX7_322 : pg_CV RX7 322 mX7_isHeld 2 := ⟨in_t6 (List.mem_of_getElem? (i := 72) rfl) rfl, in_t6 (List.mem_of_getElem? (i := 74) rfl) rfl, in_s5 (List.mem_of_getElem? (i := 4) rfl) rfl, in_t1 (List.mem_of_getElem? (i := 8) rfl) rfl, kX7_isHeld, by decide, ⟨by decide +kernel, by decide +kernel, by decide +kernel⟩⟩
theorem cvRL_186 : pg_CV RL 186 mX7_taken 2 := ⟨in_t6 (List.mem_of_getElem? (i := 76) rfl) rfl, in_t6 (List.mem_of_getElem? (i := 77) rfl) rfl, in_t6 (List.mem_of_getElem? (i := 78) rfl) rfl, in_t1 (List.mem_of_getElem? (i := 8) rfl) rfl, kX7_taken, by decide, ⟨by decide +kernel, by decide +kernel, by decide +kernel⟩⟩
theorem cvRX7_325 : pg_CV RX7 325 mX7_kindOn 1 := ⟨in_t6 (List.mem_of_getElem? (i := 80) rfl) rfl, in_t6 (List.mem_of_getElem? (i := 82) rfl) rfl, in_s5 (List.mem_of_getElem? (i := 5) rfl) rfl, in_t1 (List.mem_of_getElem? (i := 8) rfl) rfl, kX7_kindOn, by decide, ⟨by decide +kernel, by decide +kernel, by decide +kernel⟩⟩
theorem csRX7_328 : pg_CS RX7 328 mX7_isUnder 2 := ⟨in_t6 (List.mem_of_getElem? (i := 84) rfl) rfl, in_t6 (List.mem_of_getElem? (i := 85) rfl) rfl, in_t1 (List.mem_of_getElem? (i := 8) rfl) rfl, kX7_isUnder, by decide, ⟨by decide +kernel, by decide +kernel, by decide +kernel⟩⟩
theorem cvRL_190 : pg_CV RL 190 mX7_act 3 := ⟨in_t6 (List.mem_of_getElem? (i := 87) rfl) rfl, in_t6 (List.mem_of_getElem? (i := 88) rfl) rfl, in_t6 (List.mem_of_getElem? (i := 89) rfl) rfl, in_t1 (List.mem_of_getElem? (i := 8) rfl) rfl, kX7_act, by decide, ⟨by decide +kernel, by decide +kernel, by decide +kernel⟩⟩
theorem cvRX7_349 : pg_CV RX7 349 mX7_hooksIt 1 := ⟨in_t6 (List.mem_of_getElem? (i := 91) rfl) rfl, in_t6 (List.mem_of_getElem? (i := 93) rfl) rfl, in_s5 (List.mem_of_getElem? (i := 6) rfl) rfl, in_t1 (List.mem_of_getElem? (i := 8) rfl) rfl, kX7_hooksIt, by decide, ⟨by decide +kernel, by decide +kernel, by decide +kernel⟩⟩
theorem cvRX7_346 : pg_CV RX7 346 mX7_burglarHooks 1 := ⟨in_t6 (List.mem_of_getElem? (i := 95) rfl) rfl, in_t6 (List.mem_of_getElem? (i := 97) rfl) rfl, in_s5 (List.mem_of_getElem? (i := 7) rfl) rfl, in_t1 (List.mem_of_getElem? (i := 8) rfl) rfl, kX7_burglarHooks, by decide, ⟨by decide +kernel, by decide +kernel, by decide +kernel⟩⟩
theorem cvRX7_334 : pg_CV RX7 334 mX7_ran 1 := ⟨in_t6 (List.mem_of_getElem? (i := 99) rfl) rfl, in_t6 (List.mem_of_getElem? (i := 101) rfl) rfl, in_s5 (List.mem_of_getElem? (i := 8) rfl) rfl, in_t1 (List.mem_of_getElem? (i := 8) rfl) rfl, kX7_ran, by decide, ⟨by decide +kernel, by decide +kernel, by decide +kernel⟩⟩
theorem cvRX7_340 : pg_CV RX7 340 mX7_plainHooks 1 := ⟨in_t6 (List.mem_of_getElem? (i := 103) rfl) rfl, in_t6 (List.mem_of_getElem? (i := 105) rfl) rfl, in_s5 (List.mem_of_getElem? (i := 9) rfl) rfl, in_t1 (List.mem_of_getElem? (i := 8) rfl) rfl, kX7_plainHooks, by decide, ⟨by decide +kernel, by decide +kernel, by decide +kernel⟩⟩
theorem cvRX7_364 : pg_CV RX7 364 mX7_leansIt 1 := ⟨in_t6 (List.mem_of_getElem? (i := 107) rfl) rfl, in_t6 (List.mem_of_getElem? (i := 109) rfl) rfl, in_s5 (List.mem_of_getElem? (i := 10) rfl) rfl, in_t1 (List.mem_of_getElem? (i := 8) rfl) rfl, kX7_leansIt, by decide, ⟨by decide +kernel, by decide +kernel, by decide +kernel⟩⟩
theorem cvRX7_355 : pg_CV RX7 355 mX7_plainLeans 1 := ⟨in_t6 (List.mem_of_getElem? (i := 111) rfl) rfl, in_t6 (List.mem_of_getElem? (i := 113) rfl) rfl, in_s5 (List.mem_of_getElem? (i := 11) rfl) rfl, in_t1 (List.mem_of_getElem? (i := 8) rfl) rfl, kX7_plainLeans, by decide, ⟨by decide +kernel, by decide +kernel, by decide +kernel⟩⟩
theorem cvRX7_370 : pg_CV RX7 370 mX7_partsIt 1 := ⟨in_t6 (List.mem_of_getElem? (i := 115) rfl) rfl, in_t6 (List.mem_of_getElem? (i := 117) rfl) rfl, in_s5 (List.mem_of_getElem? (i := 12) rfl) rfl, in_t1 (List.mem_of_getElem? (i := 8) rfl) rfl, kX7_partsIt, by decide, ⟨by decide +kernel, by decide +kernel, by decide +kernel⟩⟩
theorem cvRX7_361 : pg_CV RX7 361 mX7_plainParts 1 := ⟨in_t6 (List.mem_of_getElem? (i := 119) rfl) rfl, in_t6 (List.mem_of_getElem? (i := 121) rfl) rfl, in_s5 (List.mem_of_getElem? (i := 13) rfl) rfl, in_t1 (List.mem_of_getElem? (i := 8) rfl) rfl, kX7_plainParts, by decide, ⟨by decide +kernel, by decide +kernel, by decide +kernel⟩⟩
theorem cvRX7_373 : pg_CV RX7 373 mX7_callsIt 1 := ⟨in_t6 (List.mem_of_getElem? (i := 123) rfl) rfl, in_t6 (List.mem_of_getElem? (i := 125) rfl) rfl, in_s5 (List.mem_of_getElem? (i := 14) rfl) rfl, in_t1 (List.mem_of_getElem? (i := 8) rfl) rfl, kX7_callsIt, by decide, ⟨by decide +kernel, by decide +kernel, by decide +kernel⟩⟩
theorem cvRX7_367 : pg_CV RX7 367 mX7_plainCalls 1 := ⟨in_t6 (List.mem_of_getElem? (i := 127) rfl) rfl, in_t6 (List.mem_of_getElem? (i := 129) rfl) rfl, in_s5 (List.mem_of_getElem? (i := 15) rfl) rfl, in_t1 (List.mem_of_getElem? (i := 8) rfl) rfl, kX7_plainCalls, by decide, ⟨by decide +kernel, by decide +kernel, by decide +kernel⟩⟩
theorem cvRL_194 : pg_CV RL 194 mX7_trace 1 := ⟨in_t6 (List.mem_of_getElem? (i := 131) rfl) rfl, in_t6 (List.mem_of_getElem? (i := 132) rfl) rfl, in_t6 (List.mem_of_getElem? (i := 133) rfl) rfl, in_t1 (List.mem_of_getElem? (i := 8) rfl) rfl, kX7_trace, by decide, ⟨by decide +kernel, by decide +kernel, by decide +kernel⟩⟩
theorem cvRL_198 : pg_CV RL 198 mX7_many 1 := ⟨in_t6 (List.mem_of_getElem? (i := 135) rfl) rfl, in_t6 (List.mem_of_getElem? (i := 136) rfl) rfl, in_t6 (List.mem_of_getElem? (i := 137) rfl) rfl, in_t1 (List.mem_of_getElem? (i := 8) rfl) rfl, kX7_many, by decide, ⟨by decide +kernel, by decide +kernel, by decide +kernel⟩⟩
theorem cvRX7_376 : pg_CV RX7 376 mX7_pegsHad 0 := ⟨in_t6 (List.mem_of_getElem? (i := 139) rfl) rfl, in_t6 (List.mem_of_getElem? (i := 141) rfl) rfl, in_s6 (List.mem_of_getElem? (i := 0) rfl) rfl, in_t1 (List.mem_of_getElem? (i := 8) rfl) rfl, kX7_pegsHad, by decide, ⟨by decide +kernel, by decide +kernel, by decide +kernel⟩⟩
theorem cvRL_202 : pg_CV RL 202 mX7_keep 0 := ⟨in_t6 (List.mem_of_getElem? (i := 143) rfl) rfl, in_t6 (List.mem_of_getElem? (i := 144) rfl) rfl, in_t6 (List.mem_of_getElem? (i := 145) rfl) rfl, in_t1 (List.mem_of_getElem? (i := 8) rfl) rfl, kX7_keep, by decide, ⟨by decide +kernel, by decide +kernel, by decide +kernel⟩⟩
theorem cvRL_206 : pg_CV RL 206 mX7_again 0 := ⟨in_t6 (List.mem_of_getElem? (i := 147) rfl) rfl, in_t6 (List.mem_of_getElem? (i := 148) rfl) rfl, in_t6 (List.mem_of_getElem? (i := 149) rfl) rfl, in_t1 (List.mem_of_getElem? (i := 8) rfl) rfl, kX7_again, by decide, ⟨by decide +kernel, by decide +kernel, by decide +kernel⟩⟩
theorem cnRX1_18 : pg_CN RX1 18 mX6_upTo 2 := ⟨in_t2 (List.mem_of_getElem? (i := 124) rfl) rfl, in_t1 (List.mem_of_getElem? (i := 1) rfl) rfl, kX6_upTo, by decide, ⟨by decide +kernel, by decide +kernel, by decide +kernel⟩⟩
