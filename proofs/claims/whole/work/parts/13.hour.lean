theorem fa_and (a b : Nat) : nI a &&& nI b = nI (a &&& b) := by
  apply Int32.toBitVec_inj.1
  show BitVec.ofNat 32 a &&& BitVec.ofNat 32 b = BitVec.ofNat 32 (a &&& b)
  apply BitVec.eq_of_getLsbD_eq
  intro i hi
  simp [hi]
theorem fa_or (a b : Nat) : nI a ||| nI b = nI (a ||| b) := by
  apply Int32.toBitVec_inj.1
  show BitVec.ofNat 32 a ||| BitVec.ofNat 32 b = BitVec.ofNat 32 (a ||| b)
  apply BitVec.eq_of_getLsbD_eq
  intro i hi
  simp [hi]
theorem fa_lit (n : Nat) : (OfNat.ofNat n : Int32) = nI n := rfl
theorem pg_bit : ∀ k, k < 31 → (1 : Int32) <<< (nI k &&& 31) = nI (2 ^ k) := by decide +kernel
theorem pg_sh31 : ∀ k, k < 32 → ((nI k &&& 31).toBitVec.smod 32).toNat = k := by decide +kernel
theorem pg_shr {v k : Nat} (hv : v < 2 ^ 31) (hk : k < 32) : nI v >>> (nI k &&& 31) = nI (v / 2 ^ k) := pk_shrN hv _ k (pg_sh31 k hk)
/-- fewer locals are enough -/
theorem go_sub {sc : pg_Sc} {d : Nat} {M : MI} {pc : Nat} {lv lv' : pg_Lv} {st : List Value} {g : pg_S} {Q : pg_Q} (ks : List Nat) (h : lv_pick lv ks = lv') (k : pg_Go sc d M pc lv' st g Q) : pg_Go sc d M pc lv st g Q := by
  intro p l e R s m args below meth c cells slots D cA ad A Z H locs ls cx hP hD hS hl
  refine k p l e R s m args below meth c cells slots D cA ad A Z H locs ls cx hP hD hS ⟨hl.1, hl.2.1, fun q hq => hl.2.2 q ?_⟩
  obtain ⟨x, hx, rfl⟩ := List.mem_map.mp hq
  rw [← h] at hx
  obtain ⟨i, -, hi⟩ := List.mem_filterMap.mp hx
  exact List.mem_map.mpr ⟨x, List.mem_of_getElem? hi, rfl⟩
/-! changes of one cell of a town -/
theorem CR.put {g : pg_S} {t n a i : Nat} {T : TW} {v : Int32} (h : CR g t T n) (ha : 2 ≤ a) (hb : a < 7) : CR (pg_ui g.1 (t + 1 + a) i v, g.2) t (tu T a i v) n := by
  obtain ⟨h1, h2, h3, h4, h5⟩ := h
  refine ⟨?_, fun j hj => ?_, fun j hj => ?_, fun j hj => ?_, fun b hb1 hb2 j hj => ?_⟩
  · rw [tu_na (by omega)]; exact h1
  · show pg_ui g.1 (t + 1 + a) i v t (8 + j) = _
    rw [pg_ui_at, if_neg (by omega), tu_na (by omega)]; exact h2 j hj
  · show pg_ui g.1 (t + 1 + a) i v (t + 1) j = _
    rw [pg_ui_at, if_neg (by omega), tu_na (by omega)]; exact h3 j hj
  · show pg_ui g.1 (t + 1 + a) i v (t + 2) j = _
    rw [pg_ui_at, if_neg (by omega), tu_na (by omega)]; exact h4 j hj
  · show pg_ui g.1 (t + 1 + a) i v (t + 1 + b) j = _
    rw [pg_ui_at]
    unfold tu
    by_cases e : b = a ∧ j = i
    · rw [if_pos (by omega), if_pos e]
    · rw [if_neg (by omega), if_neg e]; exact h5 b hb1 hb2 j hj
theorem CR.law {g : pg_S} {t n i : Nat} {T : TW} {v : Int32} (h : CR g t T n) : CR (pg_ui g.1 (t + 1) i v, g.2) t (tu T 0 i v) n := by
  obtain ⟨h1, h2, h3, h4, h5⟩ := h
  refine ⟨?_, fun j hj => ?_, fun j hj => ?_, fun j hj => ?_, fun b hb1 hb2 j hj => ?_⟩
  · rw [tu_na (by omega)]; exact h1
  · show pg_ui g.1 (t + 1) i v t (8 + j) = _
    rw [pg_ui_at, if_neg (by omega), tu_na (by omega)]; exact h2 j hj
  · show pg_ui g.1 (t + 1) i v (t + 1) j = _
    rw [pg_ui_at]
    unfold tu
    by_cases e : j = i
    · rw [if_pos (by omega), if_pos (by omega)]
    · rw [if_neg (by omega), if_neg (by omega)]; exact h3 j hj
  · show pg_ui g.1 (t + 1) i v (t + 2) j = _
    rw [pg_ui_at, if_neg (by omega), tu_na (by omega)]; exact h4 j hj
  · show pg_ui g.1 (t + 1) i v (t + 1 + b) j = _
    rw [pg_ui_at, if_neg (by omega), tu_na (by omega)]; exact h5 b hb1 hb2 j hj
theorem CR.weight {g : pg_S} {t n i : Nat} {T : TW} {v : Int32} (h : CR g t T n) : CR (pg_ui g.1 (t + 2) i v, g.2) t (tu T 1 i v) n := by
  obtain ⟨h1, h2, h3, h4, h5⟩ := h
  refine ⟨?_, fun j hj => ?_, fun j hj => ?_, fun j hj => ?_, fun b hb1 hb2 j hj => ?_⟩
  · rw [tu_na (by omega)]; exact h1
  · show pg_ui g.1 (t + 2) i v t (8 + j) = _
    rw [pg_ui_at, if_neg (by omega), tu_na (by omega)]; exact h2 j hj
  · show pg_ui g.1 (t + 2) i v (t + 1) j = _
    rw [pg_ui_at, if_neg (by omega), tu_na (by omega)]; exact h3 j hj
  · show pg_ui g.1 (t + 2) i v (t + 2) j = _
    rw [pg_ui_at]
    unfold tu
    by_cases e : j = i
    · rw [if_pos (by omega), if_pos (by omega)]
    · rw [if_neg (by omega), if_neg (by omega)]; exact h4 j hj
  · show pg_ui g.1 (t + 2) i v (t + 1 + b) j = _
    rw [pg_ui_at, if_neg (by omega), tu_na (by omega)]; exact h5 b hb1 hb2 j hj
theorem CR.scal {g : pg_S} {t n i : Nat} {T : TW} {v : Int32} (h : CR g t T n) (hi : 1 ≤ i) : CR (pg_ui g.1 t (8 + i) v, g.2) t (tu T 8 i v) n := by
  obtain ⟨h1, h2, h3, h4, h5⟩ := h
  refine ⟨?_, fun j hj => ?_, fun j hj => ?_, fun j hj => ?_, fun b hb1 hb2 j hj => ?_⟩
  · rw [tu_ni (by omega)]; exact h1
  · show pg_ui g.1 t (8 + i) v t (8 + j) = _
    rw [pg_ui_at]
    unfold tu
    by_cases e : j = i
    · rw [if_pos (by omega), if_pos (by omega)]
    · rw [if_neg (by omega), if_neg (by omega)]; exact h2 j hj
  · show pg_ui g.1 t (8 + i) v (t + 1) j = _
    rw [pg_ui_at, if_neg (by omega), tu_na (by omega)]; exact h3 j hj
  · show pg_ui g.1 t (8 + i) v (t + 2) j = _
    rw [pg_ui_at, if_neg (by omega), tu_na (by omega)]; exact h4 j hj
  · show pg_ui g.1 t (8 + i) v (t + 1 + b) j = _
    rw [pg_ui_at, if_neg (by omega), tu_na (by omega)]; exact h5 b hb1 hb2 j hj
theorem CR.lean {g : pg_S} {t n i : Nat} {T : TW} {v : Int32} (h : CR g t T n) : CR (pg_ui g.1 (t + 8) i v, g.2) t T n := by
  obtain ⟨h1, h2, h3, h4, h5⟩ := h
  refine ⟨h1, fun j hj => ?_, fun j hj => ?_, fun j hj => ?_, fun b hb1 hb2 j hj => ?_⟩
  · show pg_ui g.1 (t + 8) i v t (8 + j) = _
    rw [pg_ui_at, if_neg (by omega)]; exact h2 j hj
  · show pg_ui g.1 (t + 8) i v (t + 1) j = _
    rw [pg_ui_at, if_neg (by omega)]; exact h3 j hj
  · show pg_ui g.1 (t + 8) i v (t + 2) j = _
    rw [pg_ui_at, if_neg (by omega)]; exact h4 j hj
  · show pg_ui g.1 (t + 8) i v (t + 1 + b) j = _
    rw [pg_ui_at, if_neg (by omega)]; exact h5 b hb1 hb2 j hj
theorem MR.put {g : pg_S} {r n a i : Nat} {T : TW} {v : Int32} (h : MR g r T n) (ha : a < 5) : MR (pg_ui g.1 r (13 + 5 * i + a) v, g.2) r (tu T (2 + a) i v) n := by
  obtain ⟨h1, h2, h3, h4, h5⟩ := h
  refine ⟨?_, ⟨?_, ?_, ?_⟩, fun j hj => ?_, fun j hj => ?_, fun b hb j hj => ?_⟩
  · rw [tu_na (by omega)]; exact h1
  · show pg_ui g.1 r (13 + 5 * i + a) v r 5 = _
    rw [pg_ui_at, if_neg (by omega), tu_na (by omega)]; exact h2.1
  · show pg_ui g.1 r (13 + 5 * i + a) v r 4 = _
    rw [pg_ui_at, if_neg (by omega), tu_na (by omega)]; exact h2.2.1
  · show pg_ui g.1 r (13 + 5 * i + a) v r 6 = _
    rw [pg_ui_at, if_neg (by omega), tu_na (by omega)]; exact h2.2.2
  · show pg_ui g.1 r (13 + 5 * i + a) v r j = _
    rw [pg_ui_at, if_neg (by omega), tu_na (by omega)]; exact h3 j hj
  · show pg_ui g.1 r (13 + 5 * i + a) v r (7 + j) = _
    rw [pg_ui_at, if_neg (by omega), tu_na (by omega)]; exact h4 j hj
  · show pg_ui g.1 r (13 + 5 * i + a) v r (13 + 5 * j + b) = _
    rw [pg_ui_at]
    unfold tu
    by_cases e : b = a ∧ j = i
    · rw [if_pos (by omega), if_pos (by omega)]
    · rw [if_neg (by omega), if_neg (by omega)]; exact h5 b hb j hj
theorem MR.law {g : pg_S} {r n i : Nat} {T : TW} {v : Int32} (h : MR g r T n) (hi : i < 4) : MR (pg_ui g.1 r i v, g.2) r (tu T 0 i v) n := by
  obtain ⟨h1, h2, h3, h4, h5⟩ := h
  refine ⟨?_, ⟨?_, ?_, ?_⟩, fun j hj => ?_, fun j hj => ?_, fun b hb j hj => ?_⟩
  · rw [tu_na (by omega)]; exact h1
  · show pg_ui g.1 r i v r 5 = _
    rw [pg_ui_at, if_neg (by omega), tu_na (by omega)]; exact h2.1
  · show pg_ui g.1 r i v r 4 = _
    rw [pg_ui_at, if_neg (by omega), tu_na (by omega)]; exact h2.2.1
  · show pg_ui g.1 r i v r 6 = _
    rw [pg_ui_at, if_neg (by omega), tu_na (by omega)]; exact h2.2.2
  · show pg_ui g.1 r i v r j = _
    rw [pg_ui_at]
    unfold tu
    by_cases e : j = i
    · rw [if_pos (by omega), if_pos (by omega)]
    · rw [if_neg (by omega), if_neg (by omega)]; exact h3 j hj
  · show pg_ui g.1 r i v r (7 + j) = _
    rw [pg_ui_at, if_neg (by omega), tu_na (by omega)]; exact h4 j hj
  · show pg_ui g.1 r i v r (13 + 5 * j + b) = _
    rw [pg_ui_at, if_neg (by omega), tu_na (by omega)]; exact h5 b hb j hj
theorem MR.weight {g : pg_S} {r n i : Nat} {T : TW} {v : Int32} (h : MR g r T n) (hi : i < 6) : MR (pg_ui g.1 r (7 + i) v, g.2) r (tu T 1 i v) n := by
  obtain ⟨h1, h2, h3, h4, h5⟩ := h
  refine ⟨?_, ⟨?_, ?_, ?_⟩, fun j hj => ?_, fun j hj => ?_, fun b hb j hj => ?_⟩
  · rw [tu_na (by omega)]; exact h1
  · show pg_ui g.1 r (7 + i) v r 5 = _
    rw [pg_ui_at, if_neg (by omega), tu_na (by omega)]; exact h2.1
  · show pg_ui g.1 r (7 + i) v r 4 = _
    rw [pg_ui_at, if_neg (by omega), tu_na (by omega)]; exact h2.2.1
  · show pg_ui g.1 r (7 + i) v r 6 = _
    rw [pg_ui_at, if_neg (by omega), tu_na (by omega)]; exact h2.2.2
  · show pg_ui g.1 r (7 + i) v r j = _
    rw [pg_ui_at, if_neg (by omega), tu_na (by omega)]; exact h3 j hj
  · show pg_ui g.1 r (7 + i) v r (7 + j) = _
    rw [pg_ui_at]
    unfold tu
    by_cases e : j = i
    · rw [if_pos (by omega), if_pos (by omega)]
    · rw [if_neg (by omega), if_neg (by omega)]; exact h4 j hj
  · show pg_ui g.1 r (7 + i) v r (13 + 5 * j + b) = _
    rw [pg_ui_at, if_neg (by omega), tu_na (by omega)]; exact h5 b hb j hj
theorem MR.hour {g : pg_S} {r n : Nat} {T : TW} {v : Int32} (h : MR g r T n) : MR (pg_ui g.1 r 4 v, g.2) r (tu T 8 1 v) n := by
  obtain ⟨h1, h2, h3, h4, h5⟩ := h
  refine ⟨?_, ⟨?_, ?_, ?_⟩, fun j hj => ?_, fun j hj => ?_, fun b hb j hj => ?_⟩
  · rw [tu_ni (by omega)]; exact h1
  · show pg_ui g.1 r 4 v r 5 = _
    rw [pg_ui_at, if_neg (by omega), tu_ni (by omega)]; exact h2.1
  · show pg_ui g.1 r 4 v r 4 = _
    rw [pg_ui_at, if_pos (by omega), tu_eq]
  · show pg_ui g.1 r 4 v r 6 = _
    rw [pg_ui_at, if_neg (by omega), tu_ni (by omega)]; exact h2.2.2
  · show pg_ui g.1 r 4 v r j = _
    rw [pg_ui_at, if_neg (by omega), tu_na (by omega)]; exact h3 j hj
  · show pg_ui g.1 r 4 v r (7 + j) = _
    rw [pg_ui_at, if_neg (by omega), tu_na (by omega)]; exact h4 j hj
  · show pg_ui g.1 r 4 v r (13 + 5 * j + b) = _
    rw [pg_ui_at, if_neg (by omega), tu_na (by omega)]; exact h5 b hb j hj
theorem MR.z {g : pg_S} {r n : Nat} {T : TW} {v : Int32} (h : MR g r T n) : MR (pg_ui g.1 r 6 v, g.2) r (tu T 8 2 v) n := by
  obtain ⟨h1, h2, h3, h4, h5⟩ := h
  refine ⟨?_, ⟨?_, ?_, ?_⟩, fun j hj => ?_, fun j hj => ?_, fun b hb j hj => ?_⟩
  · rw [tu_ni (by omega)]; exact h1
  · show pg_ui g.1 r 6 v r 5 = _
    rw [pg_ui_at, if_neg (by omega), tu_ni (by omega)]; exact h2.1
  · show pg_ui g.1 r 6 v r 4 = _
    rw [pg_ui_at, if_neg (by omega), tu_ni (by omega)]; exact h2.2.1
  · show pg_ui g.1 r 6 v r 6 = _
    rw [pg_ui_at, if_pos (by omega), tu_eq]
  · show pg_ui g.1 r 6 v r j = _
    rw [pg_ui_at, if_neg (by omega), tu_na (by omega)]; exact h3 j hj
  · show pg_ui g.1 r 6 v r (7 + j) = _
    rw [pg_ui_at, if_neg (by omega), tu_na (by omega)]; exact h4 j hj
  · show pg_ui g.1 r 6 v r (13 + 5 * j + b) = _
    rw [pg_ui_at, if_neg (by omega), tu_na (by omega)]; exact h5 b hb j hj
/-! ranges -/
theorem WF.pull {T : TW} {n : Nat} (h : WF T n) : ∃ v, v ≤ 9 ∧ T 0 1 = nI v := h.2.1 1 (by omega)
theorem WF.room {T : TW} {n : Nat} (h : WF T n) : ∃ v, v ≤ 9 ∧ T 0 2 = nI v := h.2.1 2 (by omega)
theorem WF.stride {T : TW} {n p : Nat} (h : WF T n) (hp : p < n) : ∃ u, u < 22 ∧ strideF T p = nI u - 1 := by
  obtain ⟨v, hv, ev⟩ := h.pull
  obtain ⟨k, hk, ek⟩ := h.kind hp
  have d1 : ∀ v, v ≤ 9 → (1 : Int32) + nI v = nI (v + 2) - 1 := by decide +kernel
  have d2 : ∀ v, v ≤ 9 → ((1 : Int32) + nI v) * 2 = nI (2 * v + 3) - 1 := by decide +kernel
  rcases pg_sw1_5 (T 2 p) with e | e | e | e | e | e
  · exact ⟨3, by omega, (strideF_1 e).trans (by decide)⟩
  · exact ⟨v + 2, by omega, by rw [strideF_2 e, ev]; exact d1 v hv⟩
  · exact ⟨0, by omega, (strideF_3 e).trans (by decide)⟩
  · exact ⟨2 * v + 3, by omega, by rw [strideF_4 e, ev]; exact d2 v hv⟩
  · exact ⟨1, by omega, (strideF_5 e).trans (by decide)⟩
  · exact ⟨2, by omega, (strideF_0 e).trans (by decide)⟩
theorem WF.tenth {T : TW} {n p : Nat} (h : WF T n) (hp : p < n) : ∃ u, u < 10 ∧ T 1 (T 3 p).toNatClampNeg / 10 = nI u := by
  obtain ⟨v, hv, ev⟩ := h.peg hp
  obtain ⟨x, hx, ex⟩ := h.2.2.2.1 v hv
  have d1 : ∀ x, x ≤ 99 → nI x / 10 = nI (x / 10) := by decide +kernel
  rw [ev, nI_clamp (by omega), ex]
  exact ⟨x / 10, by omega, d1 x hx⟩
theorem WF.lean {T : TW} {n p : Nat} {hr : Int32} (h : WF T n) (hp : p < n) : ∃ u, u < 22 ∧ leanF T p hr = nI u - 1 := by
  obtain ⟨u, hu, eu⟩ := h.tenth hp
  obtain ⟨y, hy, ey⟩ := h.age hp
  have hpl : ∃ q, q < 10 ∧ plainF T p hr = nI q := by
    unfold plainF
    split
    · exact ⟨u, hu, eu⟩
    · exact ⟨0, by omega, rfl⟩
  obtain ⟨q, hq, eq⟩ := hpl
  have d1 : ∀ q, q < 10 → nI q + 1 = nI (q + 2) - 1 := by decide +kernel
  have d2 : ∀ q, q < 10 → (nI q + 1) * 2 = nI (2 * q + 3) - 1 := by decide +kernel
  have d4 : ∀ q, q < 10 → ∀ y, y ≤ 99 → nI q - 1 + nI y / 10 = nI (q + y / 10) - 1 := by decide +kernel
  have d5 : ∀ q, q < 10 → nI q = nI (q + 1) - 1 := by decide +kernel
  rcases pg_sw1_5 (T 2 p) with e | e | e | e | e | e
  · exact ⟨q + 2, by omega, by rw [leanF_1 e, eq]; exact d1 q hq⟩
  · exact ⟨q, by omega, by rw [leanF_2 e, eq]⟩
  · exact ⟨2 * q + 3, by omega, by rw [leanF_3 e, eq]; exact d2 q hq⟩
  · exact ⟨q + y / 10, by omega, by rw [leanF_4 e, eq, ey]; exact d4 q hq y hy⟩
  · exact ⟨u + 1, by omega, by rw [leanF_5 e, eu]; exact d5 u hu⟩
  · exact ⟨q + 1, by omega, by rw [leanF_0 e, eq]; exact d5 q hq⟩
/-! the hour -/
def placeF (T : TW) (p : Nat) : Int32 := remF (T 5 p + strideF T p + 24) 12
theorem WF.fm {T : TW} {n p : Nat} (h : WF T n) (hp : p < n) : fmF (T 5 p + strideF T p) 12 = placeF T p ∧ ∃ w, w < 12 ∧ placeF T p = nI w := by
  obtain ⟨u, hu, eu⟩ := h.stride hp
  obtain ⟨v, hv, ev⟩ := h.place hp
  have d1 : ∀ v, v < 12 → ∀ u, u < 22 → fmF (nI v + (nI u - 1)) 12 = remF (nI v + (nI u - 1) + 24) 12 ∧ remF (nI v + (nI u - 1) + 24) 12 = nI ((v + u + 23) % 12) := by decide +kernel
  unfold placeF
  rw [eu, ev]
  exact ⟨(d1 v hv u hu).1, _, Nat.mod_lt _ (by omega), (d1 v hv u hu).2⟩
theorem leanF_eq {T T' : TW} {p : Nat} {hr : Int32} (h : ∀ a, a < 5 → T' a = T a) : leanF T' p hr = leanF T p hr := by
  unfold leanF plainF
  rw [h 0 (by omega), h 1 (by omega), h 2 (by omega), h 3 (by omega), h 4 (by omega)]
theorem strideF_eq {T T' : TW} {p : Nat} (h : ∀ a, a < 5 → T' a = T a) : strideF T' p = strideF T p := by
  unfold strideF
  rw [h 0 (by omega), h 2 (by omega)]
def T1F (T : TW) (i : Nat) : TW := fun a j => if a = 5 ∧ j < i then placeF T j else T a j
theorem T1F_ne {T : TW} {i a : Nat} (h : a ≠ 5) : T1F T i a = T a := by
  funext j
  exact if_neg (fun q => h q.1)
theorem T1F_ge {T : TW} {i a j : Nat} (h : i ≤ j) : T1F T i a j = T a j := if_neg (fun q => by omega)
theorem T1F_0 (T : TW) : T1F T 0 = T := by
  funext a j
  exact if_neg (fun q => by omega)
theorem T1F_s (T : TW) (i : Nat) : T1F T (i + 1) = tu (T1F T i) 5 i (placeF T i) := by
  funext a j
  show (if a = 5 ∧ j < i + 1 then placeF T j else T a j) = if a = 5 ∧ j = i then placeF T i else if a = 5 ∧ j < i then placeF T j else T a j
  by_cases ha : a = 5
  · by_cases hj : j = i
    · subst hj; rw [if_pos ⟨ha, by omega⟩, if_pos ⟨ha, rfl⟩]
    · by_cases hl : j < i
      · rw [if_pos ⟨ha, by omega⟩, if_neg (fun q => hj q.2), if_pos ⟨ha, hl⟩]
      · rw [if_neg (by omega), if_neg (by omega), if_neg (by omega)]
  · rw [if_neg (fun q => ha q.1), if_neg (fun q => ha q.1), if_neg (fun q => ha q.1)]
theorem T1F_lean (T : TW) (i p : Nat) (hr : Int32) : leanF (T1F T i) p hr = leanF T p hr := leanF_eq (fun a h => T1F_ne (by omega))
theorem T1F_stride (T : TW) (i p : Nat) : strideF (T1F T i) p = strideF T p := strideF_eq (fun a h => T1F_ne (by omega))
theorem T1F_wf {T : TW} {n i : Nat} (h : WF T n) : WF (T1F T i) n := by
  obtain ⟨h1, h2, h3, h4, h5⟩ := id h
  refine ⟨h1, ?_, ?_, ?_, fun p hp => ?_⟩
  · rw [T1F_ne (by omega)]; exact h2
  · rw [T1F_ne (by omega)]; exact h3
  · rw [T1F_ne (by omega)]; exact h4
  · obtain ⟨q1, q2, q3, q4, q5⟩ := h5 p hp
    rw [T1F_ne (by omega), T1F_ne (by omega), T1F_ne (by omega), T1F_ne (a := 6) (by omega)]
    refine ⟨q1, q2, q3, ?_, q5⟩
    unfold T1F
    split
    · exact (h.fm hp).2
    · exact q4
def metF (T : TW) (i j : Nat) : Bool := decide (T 5 i = T 5 j ∧ (T 3 i = T 3 j ∨ T 3 i = 5 ∨ T 3 j = 5) ∧ leanF T i (T 8 1) ≠ 0 ∧ leanF T j (T 8 1) ≠ 0 ∧ absF (leanF T i (T 8 1) - leanF T j (T 8 1)) ≤ T 0 2)
theorem metF_iff {T : TW} {i j : Nat} : metF T i j = true ↔ T 5 i = T 5 j ∧ (T 3 i = T 3 j ∨ T 3 i = 5 ∨ T 3 j = 5) ∧ leanF T i (T 8 1) ≠ 0 ∧ leanF T j (T 8 1) ≠ 0 ∧ absF (leanF T i (T 8 1) - leanF T j (T 8 1)) ≤ T 0 2 := decide_eq_true_iff
def acqF (T : TW) (i j : Nat) : TW := tu (tu T 6 i (T 6 i ||| (1 : Int32) <<< (nI j &&& 31))) 6 j (tu T 6 i (T 6 i ||| (1 : Int32) <<< (nI j &&& 31)) 6 j ||| (1 : Int32) <<< (nI i &&& 31))
def pairJ (i : Nat) : Nat → Nat → TW → TW
  | 0, _, T => T
  | m + 1, j, T => pairJ i m (j + 1) (if metF T i j = true then acqF T i j else T)
def pairI (n : Nat) : Nat → Nat → TW → TW
  | 0, _, T => T
  | m + 1, i, T => pairI n m (i + 1) (pairJ i (n - (i + 1)) (i + 1) T)
def hourF (n : Nat) (T : TW) : TW := tu (pairI n n 0 (T1F T n)) 8 1 (pairI n n 0 (T1F T n) 8 1 + 1)
theorem WF.tu6 {T : TW} {n i v : Nat} (h : WF T n) (hv : v < 2 ^ n) : WF (tu T 6 i (nI v)) n := by
  obtain ⟨h1, h2, h3, h4, h5⟩ := h
  refine ⟨h1, fun j hj => ?_, ?_, fun j hj => ?_, fun p hp => ?_⟩
  · rw [tu_na (by omega)]; exact h2 j hj
  · rw [tu_na (by omega)]; exact h3
  · rw [tu_na (by omega)]; exact h4 j hj
  · obtain ⟨q1, q2, q3, q4, q5⟩ := h5 p hp
    rw [tu_na (by omega), tu_na (by omega), tu_na (by omega), tu_na (by omega)]
    refine ⟨q1, q2, q3, q4, ?_⟩
    unfold tu
    split
    · exact ⟨v, hv, rfl⟩
    · exact q5
theorem WF.acq1 {T : TW} {n i j : Nat} (h : WF T n) (hi : i < n) (hj : j < n) : WF (tu T 6 i (T 6 i ||| (1 : Int32) <<< (nI j &&& 31))) n := by
  obtain ⟨v, hv, ev⟩ := h.knows hi
  have hn := h.1
  rw [ev, pg_bit j (by omega), fa_or]
  exact h.tu6 (Nat.or_lt_two_pow hv (Nat.pow_lt_pow_right (by omega) hj))
theorem WF.acq {T : TW} {n i j : Nat} (h : WF T n) (hi : i < n) (hj : j < n) : WF (acqF T i j) n := (h.acq1 hi hj).acq1 hj hi
theorem pairJ_wf {n i : Nat} (hi : i < n) : ∀ (m j : Nat) (T : TW), j + m ≤ n → WF T n → WF (pairJ i m j T) n
  | 0, _, _, _, h => h
  | m + 1, j, T, hj, h => by
    unfold pairJ
    refine pairJ_wf hi m (j + 1) _ (by omega) ?_
    split
    · exact h.acq hi (by omega)
    · exact h
theorem pairI_wf {n : Nat} : ∀ (m i : Nat) (T : TW), i + m ≤ n → WF T n → WF (pairI n m i T) n
  | 0, _, _, _, h => h
  | m + 1, i, T, hi, h => by
    unfold pairI
    exact pairI_wf m (i + 1) _ (by omega) (pairJ_wf (by omega) _ _ _ (by omega) h)
theorem WF.tu8 {T : TW} {n j : Nat} {v : Int32} (h : WF T n) : WF (tu T 8 j v) n := by
  obtain ⟨h1, h2, h3, h4, h5⟩ := h
  refine ⟨h1, fun j hj => ?_, ?_, fun j hj => ?_, fun p hp => ?_⟩
  · rw [tu_na (by omega)]; exact h2 j hj
  · rw [tu_na (by omega)]; exact h3
  · rw [tu_na (by omega)]; exact h4 j hj
  · rw [tu_na (by omega), tu_na (by omega), tu_na (by omega), tu_na (by omega), tu_na (by omega)]
    exact h5 p hp
theorem WF.hour {T : TW} {n : Nat} (h : WF T n) : WF (hourF n T) n := (pairI_wf n 0 _ (by omega) (T1F_wf h)).tu8
theorem acqF_lo {T : TW} {i j a : Nat} (h : a ≠ 6) : acqF T i j a = T a := by
  funext x
  unfold acqF
  rw [tu_na h, tu_na h]
theorem acqF_lean {T : TW} {i j p : Nat} {hr : Int32} : leanF (acqF T i j) p hr = leanF T p hr := leanF_eq (fun a h => acqF_lo (by omega))
/-- what two lean differs by at most some room: two ways to say it -/
theorem room_eq : ∀ u, u < 22 → ∀ w, w < 22 → ∀ v, v ≤ 9 → (absF (nI u - 1 - (nI w - 1)) ≤ nI v ↔ -nI v ≤ nI u - 1 - (nI w - 1) ∧ nI u - 1 - (nI w - 1) ≤ nI v) := by decide +kernel
