theorem r_fr : room_1.frames = 2048 := rfl
theorem r_lo : room_1.locals = 84000 := rfl
theorem r_ce : room_1.cells = 600000 := rfl
theorem r_sl : room_1.slots = 7302250 := rfl
theorem ap_C (ws : va_W) (x : Nat × va_E) {n : Nat} (h : ws.length = n) : [n].map (fun i => (ws ++ [x])[i]?) = [x].map some := by
  subst h
  simp
theorem ap_R (ws : va_W) (x : Nat × va_E) {n : Nat} (h : ws.length = n) : (List.range n).map (fun i => (ws ++ [x])[i]?) = ws.map some := by
  subst h
  apply List.ext_getElem?
  intro k
  rw [List.getElem?_map, List.getElem?_map]
  by_cases hk : k < ws.length
  · rw [List.getElem?_range hk, List.getElem?_eq_getElem hk]
    show some ((ws ++ [x])[k]?) = _
    rw [List.getElem?_append_left hk, List.getElem?_eq_getElem hk]
    rfl
  · rw [List.getElem?_eq_none (by rw [List.length_range]; omega), List.getElem?_eq_none (by omega)]
    rfl
theorem len59 (ad : Nat → Nat) (cA : Nat → ClassId) (g : pg_S) : ((pg_ws ad cA g).take 59).length = 59 := by
  rw [List.length_take]
  unfold pg_ws
  rw [List.length_mapIdx, show pg_sh.length = 75 from rfl]
  rfl
theorem wL_7 : Cond.classLink RL 7 RX6 ∈ pg_tb := in_t1 (List.mem_of_getElem? (i := 16) rfl) rfl
theorem wL_10 : Cond.classLink RL 10 RX7 ∈ pg_tb := in_t4 (List.mem_of_getElem? (i := 57) rfl) rfl
theorem iwL_6 : Cond.instantiable RX6 10 ∈ pg_tb := in_t1 (List.mem_of_getElem? (i := 17) rfl) rfl
theorem iwL_7 : Cond.instantiable RX7 29 ∈ pg_tb := in_t4 (List.mem_of_getElem? (i := 58) rfl) rfl
theorem nwL_6 : Cond.initialized RX6 ∈ pg_tb := in_t1 (List.mem_of_getElem? (i := 1) rfl) rfl
theorem nwL_7 : Cond.initialized RX7 ∈ pg_tb := in_t1 (List.mem_of_getElem? (i := 8) rfl) rfl
theorem mlL_9 : Cond.methodLink RL 9 mX6_init.1 ∈ pg_tb := in_t1 (List.mem_of_getElem? (i := 18) rfl) rfl
theorem mlL_12 : Cond.methodLink RL 12 mX7_init.1 ∈ pg_tb := in_t4 (List.mem_of_getElem? (i := 59) rfl) rfl
theorem miL_6 : Cond.instanceMethod mX6_init.1 ∈ pg_tb := in_t1 (List.mem_of_getElem? (i := 19) rfl) rfl
theorem miL_7 : Cond.instanceMethod mX7_init.1 ∈ pg_tb := in_t4 (List.mem_of_getElem? (i := 60) rfl) rfl
theorem mnL_6 : Cond.initialized mX6_init.1.cls ∈ pg_tb := nwL_6
theorem mnL_7 : Cond.initialized mX7_init.1.cls ∈ pg_tb := nwL_7
set_option maxHeartbeats 4000000 in
set_option maxRecDepth 20000 in
theorem whole_start {p : Program} {e : Env} {s : State} {m : MethodId} {below : List Frame} {meth : Method} {c : Code} (l : Launch) {b L : Nat} {xs : Nat → Int32} (hL : L ≤ 2560) (C0 : lw_At p s m meth c b L xs) : W p l e room_1 s m #[Value.ref b] below meth c s.heap [] 0 0 (lw_Z below #[Value.ref b] s) (entryFrame m ([Value.ref b] : List Value).toArray 4) := by
  obtain ⟨hx, hb, hr, hml, hown, hts, hX, hbl, hlocks, hgv⟩ := id C0
  obtain ⟨D, cA, hK⟩ := k_start hts
  have hAO := an_start hts
  obtain ⟨rd, hrd, hRO⟩ := ro_start hts hX hbl hL hgv
  have htb : ∀ w ∈ pg_tb, w.before #[Value.ref b] s = true := fun w h => hts w (pg_tb_in h)
  have hown : s.vm.findClass RL = some m.cls := hown
  have hA : ∀ q : Nat, s.heap.size ≤ q → (fun q : Nat => s.heap.size ≤ q) q := fun _ h => h
  have hS : va_S (fun q : Nat => s.heap.size ≤ q) s.heap s.heap [] := va_S.rf
  have hP : va_P D vwCl [] s.heap := fun k q h => (by cases h)
  have hD : va_D (fun q : Nat => s.heap.size ≤ q) [] := ⟨fun i j p q h => (by cases h), fun k q h => (by cases h)⟩
  have hl := lv_entry ([.ref b]) (n := 4) (Nat.le_of_ble_eq_true rfl)
  rw [lg_entry_eq]
  generalize (lg_sl ([.ref b]) ++ List.replicate (4 - (lg_sl ([.ref b])).length) Slot.unset).toArray = ls at hl ⊢
  have hl : lv_has ls 4 [(0, .ref b)] := hl
  refine va_new (ci := 6) (fs := [.null, .null, .null, .int 0, .null, .null, .null, .null, .null, .null]) (C := RX6) (T := TX6) (N := 10) hx hb htb in_ws6 tyX6 tyX6_ok hown (htb _ wL_7) (htb _ iwL_6) (htb _ nwL_6) hK hP hD hS hA rfl (fun j hj => by
    match j, hj with
    | 0, _ => rfl
    | 1, _ => rfl
    | 2, _ => rfl
    | 3, _ => rfl
    | 4, _ => rfl
    | 5, _ => rfl
    | 6, _ => rfl
    | 7, _ => rfl
    | 8, _ => rfl
    | 9, _ => rfl
    | j + 10, h => omega) (by rw [r_ce]; omega) (by rw [r_sl]; omega) dL_law_0 (fun q1 H hP hD hS => ?_)
  have hP : va_P D vwCl [(q1, .inr (6, [.null, .null, .null, .int 0, .null, .null, .null, .null, .null, .null]))] H := hP
  have hD : va_D (fun q : Nat => s.heap.size ≤ q) [(q1, .inr (6, [.null, .null, .null, .int 0, .null, .null, .null, .null, .null, .null]))] := hD
  refine lv_dup hx hb dL_law_3 rfl ?_
  refine qg_callI (H0 := s.heap) (M' := mX6_init) (b := q1) (wc := [(q1, .inr (6, [.null, .null, .null, .int 0, .null, .null, .null, .null, .null, .null]))]) (wr := []) (rest := [.ref q1]) hx hb hml hl.1 hown htb hK hRO hAO hA hP hD hS (iX6_init q1) mlL_9 miL_6 mnL_6 kX6_init rfl ⟨by decide +kernel, by decide +kernel, by decide +kernel⟩ ⟨⟨by rw [r_fr]; decide, by rw [r_lo]; decide⟩, by rw [r_ce]; omega, by rw [r_sl]; omega⟩ rfl [0] [] rfl rfl (by decide) (by decide) (by decide) (Nat.le_of_ble_eq_true rfl) dL_law_4 (fun u6 H locs hu hP hD hS => ?_)
  rw [List.nil_append] at hP hD
  obtain ⟨ea6, ini6⟩ := hu
  have hlen := len59 u6.1 cA u6.2
  obtain ⟨w6, hw6⟩ : ∃ w6, w6 = (pg_ws u6.1 cA u6.2).take 59 := ⟨_, rfl⟩
  rw [← hw6] at hP hD hlen
  refine lv_astore_n (lv' := [(1, .ref q1), (0, .ref b)]) hx hb dL_law_7 rfl hl (by decide) rfl (fun ls hl => ?_)
  refine va_new (ci := 7) (fs := [.null, .null, .null, .null, .int 0, .null, .int 0, .int 0, .int 0, .int 0, .long 0, .int 0, .int 0, .null, .null, .null, .int 0, .null, .null, .null, .null, .null, .null, .int 0, .int 0, .int 0, .null, .int 0, .int 0]) (C := RX7) (T := TX7) (N := 29) hx hb htb in_ws7 tyX7 tyX7_ok hown (htb _ wL_10) (htb _ iwL_7) (htb _ nwL_7) hK hP hD hS hA rfl (fun j hj => by
    match j, hj with
    | 0, _ => rfl
    | 1, _ => rfl
    | 2, _ => rfl
    | 3, _ => rfl
    | 4, _ => rfl
    | 5, _ => rfl
    | 6, _ => rfl
    | 7, _ => rfl
    | 8, _ => rfl
    | 9, _ => rfl
    | 10, _ => rfl
    | 11, _ => rfl
    | 12, _ => rfl
    | 13, _ => rfl
    | 14, _ => rfl
    | 15, _ => rfl
    | 16, _ => rfl
    | 17, _ => rfl
    | 18, _ => rfl
    | 19, _ => rfl
    | 20, _ => rfl
    | 21, _ => rfl
    | 22, _ => rfl
    | 23, _ => rfl
    | 24, _ => rfl
    | 25, _ => rfl
    | 26, _ => rfl
    | 27, _ => rfl
    | 28, _ => rfl
    | j + 29, h => omega) (by rw [r_ce]; omega) (by rw [r_sl]; omega) dL_law_8 (fun q2 H hP hD hS => ?_)
  refine lv_dup hx hb dL_law_11 rfl ?_
  refine qg_callI (H0 := s.heap) (M' := mX7_init) (b := q2) (wc := [(q2, .inr (7, [.null, .null, .null, .null, .int 0, .null, .int 0, .int 0, .int 0, .int 0, .long 0, .int 0, .int 0, .null, .null, .null, .int 0, .null, .null, .null, .null, .null, .null, .int 0, .int 0, .int 0, .null, .int 0, .int 0]))]) (wr := w6) (rest := [.ref q2]) hx hb hml hl.1 hown htb hK hRO hAO hA hP hD hS (iX7_init q2) mlL_12 miL_7 mnL_7 kX7_init rfl ⟨by decide +kernel, by decide +kernel, by decide +kernel⟩ ⟨⟨by rw [r_fr]; decide, by rw [r_lo]; decide⟩, by rw [r_ce]; omega, by rw [r_sl]; omega⟩ rfl [59] (List.range 59) (ap_C w6 _ hlen) (ap_R w6 _ hlen) (by decide) (by decide) (by decide) (Nat.le_of_ble_eq_true rfl) dL_law_12 (fun u7 H locs hu hP hD hS => ?_)
  obtain ⟨ea7, ini7⟩ := hu
  rw [hw6] at hP hD
  refine lv_astore_n (lv' := [(2, .ref q2), (1, .ref q1), (0, .ref b)]) hx hb dL_law_15 rfl hl (by decide) rfl (fun ls hl => ?_)
  refine lv_iconst (v := 0) hx hb dL_law_16 (by decide) ?_
  refine lv_istore_n (lv' := [(3, .int 0), (2, .ref q2), (1, .ref q1), (0, .ref b)]) hx hb dL_law_17 rfl hl (by decide) rfl (fun ls hl => ?_)
  obtain ⟨ad, hadE⟩ : ∃ ad : Nat → Nat, ad = fun k => if k < 59 then u6.1 k else if k < 75 then u7.1 k else rd k := ⟨_, rfl⟩
  obtain ⟨g, hgE⟩ : ∃ g : pg_S, g = (fun k => if k < 59 then u6.2.1 k else u7.2.1 k, fun k => if k < 59 then u6.2.2 k else u7.2.2 k) := ⟨_, rfl⟩
  have ha6 : ∀ k, k < 59 → ad k = u6.1 k := fun k hk => by rw [hadE]; exact if_pos hk
  have ha7 : ∀ k, 59 ≤ k → k < 75 → ad k = u7.1 k := fun k h1 h2 => by rw [hadE]; exact (if_neg (by omega)).trans (if_pos h2)
  have har : ∀ k, 75 ≤ k → ad k = rd k := fun k h1 => by rw [hadE]; exact (if_neg (by omega)).trans (if_neg (by omega))
  have hg6 : ∀ k, k < 59 → g.1 k = u6.2.1 k := fun k hk => by rw [hgE]; exact if_pos hk
  have hg6b : ∀ k, k < 59 → g.2 k = u6.2.2 k := fun k hk => by rw [hgE]; exact if_pos hk
  have hg7 : ∀ k, 59 ≤ k → k < 75 → g.1 k = u7.2.1 k := fun k h1 h2 => by rw [hgE]; exact if_neg (by omega)
  have hg7b : ∀ k, 59 ≤ k → k < 75 → g.2 k = u7.2.2 k := fun k h1 h2 => by rw [hgE]; exact if_neg (by omega)
  have ew : (pg_ws u6.1 cA u6.2).take 59 ++ (pg_ws u7.1 cA u7.2).drop 59 = pg_ws ad cA g := by
    rw [← ws_take (cA := cA) ha6 hg6 hg6b, ← ws_drop (cA := cA) ha7 hg7 hg7b, List.take_append_drop]
  rw [ew] at hP hD
  have I : INV g := inv_start ini6 ini7 hg6 hg7
  have hRO2 : pg_RO (L, xs) ad (fun q => s.heap.size ≤ q) s s.heap := by
    unfold pg_RO at hRO ⊢
    rw [har 900 (by decide), har 901 (by decide), har 902 (by decide), har 903 (by decide), har 904 (by decide), har 905 (by decide), har 906 (by decide), har 907 (by decide)]
    exact hRO
  have hl2 : lv_has ls 4 (([(0, .ref 906), (1, .ref 0), (2, .ref 59), (3, .int (nI 0))] : pg_Lv).map (pg_tq ad)) := by
    have : (([(0, .ref 906), (1, .ref 0), (2, .ref 59), (3, .int (nI 0))] : pg_Lv).map (pg_tq ad)) = [(0, .ref b), (1, .ref q1), (2, .ref q2), (3, .int 0)] := by
      show [(0, Value.ref (ad 906)), (1, Value.ref (ad 0)), (2, Value.ref (ad 59)), (3, Value.int (nI 0))] = _
      rw [har 906 (by decide), hrd, ha6 0 (by decide), ea6, ha7 59 (by decide) (by decide), ea7]
      rfl
    rw [this]
    exact lv_sub hl [3, 2, 1, 0] rfl
  have hgo := law_loop (sc := (L, xs)) L 0 g hL (Nat.zero_le L) (by show L ≤ 0 + L; omega) I
  refine hgo p l e room_1 s m _ below meth c _ _ D cA ad (fun q => s.heap.size ≤ q) _ H locs ls ⟨hx, hb, hml, hown, htb, ⟨by rw [r_fr]; decide, by rw [r_lo]; decide, by rw [r_ce]; omega, by rw [r_sl]; omega⟩, hK, hA, hRO2, ?_, ?_, ?_⟩ hP hD hS hl2
  · intro pc ls H locs r g hd _ hq _ _ hS
    have hq : r = 1 := hq
    subst hq
    refine va_forget (fun q hq => hS.2.2 q hq) ?_
    refine W.widen (k := 600000) (n := 7302250) (by omega) (by omega) ?_
    exact lw_ret hx hb hr hlocks hd
  · intro pc ls H locs r g _ h
    cases h
  · intro pc ls H locs g _ h
    cases h
