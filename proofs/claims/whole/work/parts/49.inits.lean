def pg_NW (U : State) : Prop := va_Nw (.methodLinkNest RX6 28 mX4_init.1 "PicturePegs") U ∧ va_Nw (.methodLinkNest RX6 35 mX1_init.1 "PicturePegs") U ∧ va_Nw (.methodLinkNest RX6 42 mX0_init.1 "PicturePegs") U ∧ va_Nw (.methodLinkNest RX6 63 mX2_init.1 "PicturePegs") U ∧ va_Nw (.methodLinkNest RX6 64 mX3_init.1 "PicturePegs") U
def pg_AN (U : State) : Prop := pg_AO U ∧ pg_NW U
theorem pg_AN.warm {s U : State} (hW : s.WarmedH U.vm) (h : pg_AN s) : pg_AN U := ⟨h.1.moved hW.alike, h.2.1.warmM hW, h.2.2.1.warmM hW, h.2.2.2.1.warmM hW, h.2.2.2.2.1.warmM hW, h.2.2.2.2.2.warmM hW⟩
theorem pg_AN.same {u U : State} (h : pg_AN u) (hv : u.vm = U.vm) : pg_AN U := ⟨h.1.moved (by rw [hv]; exact Vm.Alike.refl _), va_Nw.same rfl hv h.2.1, va_Nw.same rfl hv h.2.2.1, va_Nw.same rfl hv h.2.2.2.1, va_Nw.same rfl hv h.2.2.2.2.1, va_Nw.same rfl hv h.2.2.2.2.2⟩
def qg_Pre (sc : pg_Sc) (ad : Nat → Nat) (D : va_G) (cA : Nat → ClassId) (ws : va_W) (sz : Nat) : State → Prop := fun U => U.heap.size = sz ∧ va_P D vwCl ws U.heap ∧ va_K D vwCl (pg_tys cA) U ∧ va_D (fun _ => True) ws ∧ pg_RO sc ad (va_A ws sz) U U.heap ∧ pg_AN U
def qg_B (D : va_G) (cA : Nat → ClassId) (A : Nat → Prop) (ws : va_W) (t : State) : Prop := va_P D vwCl ws t.heap ∧ va_K D vwCl (pg_tys cA) t ∧ va_D A ws
def qg_rm (d mc ms : Nat) : Room := { frames := d, cells := mc, slots := ms, locals := 64 * d }
def qg_C (sc : pg_Sc) (M : MI) (d mc ms : Nat) (av : List Value) (ad : Nat → Nat) (D : va_G) (cA : Nat → ClassId) (ws : va_W) {S : Type} (post : S → Prop) (W1 : S → va_W) : Prop :=
  ∀ (l : Launch) (sz : Nat), Met l M.1 (Cond.code M.1 M.2.1 M.2.2.1 M.2.2.2 :: pg_tb) (qg_rm d mc ms) (va_Pc av (qg_Pre sc ad D cA ws sz)) (va_Qv post (fun u t => qg_B D cA (va_A ws sz) (W1 u) t) (va_A ws sz)) mc ms (va_A ws sz)
def qg_F (sc : pg_Sc) (M : MI) (ad : Nat → Nat) (D : va_G) (cA : Nat → ClassId) (A : Nat → Prop) (p : Program) (s : State) (m : MethodId) (args : Array Value) (meth : Method) (c : Code) : Prop :=
  p.tables.exec = Jvm.exec ∧ c.code = M.2.1 ∧ c.maxLocals = M.2.2.1 ∧ s.vm.findClass M.1.cls = some m.cls ∧ (∀ w ∈ pg_tb, w.before args s = true) ∧ va_K D vwCl (pg_tys cA) s ∧ (∀ q, s.heap.size ≤ q → A q) ∧ pg_RO sc ad A s s.heap ∧ pg_AN s ∧ meth.name = M.1.name
theorem qg_fm {α β : Type} {f : α → Option β} : ∀ {l : List α} {r : List β}, l.map f = r.map some → l.filterMap f = r
  | [], [], _ => rfl
  | [], _ :: _, h => by cases h
  | _ :: _, [], h => by cases h
  | a :: l, b :: r, h => by
    obtain ⟨h1, h2⟩ := List.cons.inj h
    have h1 : f a = some b := h1
    rw [List.filterMap_cons, h1, qg_fm h2]
theorem qg_blind {sc : pg_Sc} {ad : Nat → Nat} {D : va_G} {cA : Nat → ClassId} {av : List Value} {ws : va_W} {sz : Nat} : FrameBlind (va_Pc av (qg_Pre sc ad D cA ws sz)) := by
  intro a U f mk q
  obtain ⟨q0, q1, qP, qK, qD, qR, qO⟩ := q
  exact ⟨q0, q1, qP, va_K.moved (u := U) (U := U.calling f mk a) (Vm.Alike.refl U.vm) qK, qD, pg_RO.same (U := U.calling f mk a) qR rfl, pg_AN.same (U := U.calling f mk a) qO rfl⟩
theorem qg_pre {sc : pg_Sc} {ad : Nat → Nat} {D : va_G} {cA : Nat → ClassId} {av : List Value} {wc : va_W} {A : Nat → Prop} {s : State} {H : Heap} {locs : List Loc} (hK : va_K D vwCl (pg_tys cA) s) (hRO : pg_RO sc ad A s s.heap) (hAO : pg_AN s) (hA : ∀ q, s.heap.size ≤ q → A q) (hP : va_P D vwCl wc H) (hD : va_D A wc) (hS : va_S A s.heap H locs) (hF : ∀ q, va_A wc H.size q → A q) : ∀ U : State, U.heap = H → s.WarmedH U.vm → va_Pc av (qg_Pre sc ad D cA wc H.size) av.toArray U := by
  intro U hU hW
  exact ⟨rfl, by rw [hU], by rw [hU]; exact hP, va_K.moved hW.alike hK, ⟨hD.1, fun _ _ _ => trivial⟩, by rw [hU]; exact hRO.go hW hS.2.1 hF, pg_AN.warm hW hAO⟩
set_option maxHeartbeats 1000000 in
theorem qg_C.of {sc : pg_Sc} {M : MI} {d mc ms : Nat} {av : List Value} {ad : Nat → Nat} {D : va_G} {cA : Nat → ClassId} {ws : va_W} {S : Type} {post : S → Prop} {W1 : S → va_W} {lv : List (Nat × Value)} (hy : plainName M.1.cls = true) (hn : (lg_sl av).length ≤ M.2.2.1) (hret : M.2.2.2 = none) (hlv : lv_args 0 av = lv)
    (k : ∀ (p : Program) (l : Launch) (e : Env) (s : State) (m : MethodId) (args : Array Value) (below : List Frame) (meth : Method) (c : Code) (A : Nat → Prop) (Z : State → Prop) (ls : Array Slot), qg_F sc M ad D cA A p s m args meth c → va_P D vwCl ws s.heap → va_D A ws → lv_has ls M.2.2.1 lv →
      (∀ (pc : Nat) (ls : Array Slot) (H : Heap) (locs : List Loc) (u : S), decode M.2.1 pc = .ok (.return_, 1) → post u → va_P D vwCl (W1 u) H → va_D A (W1 u) → va_S A s.heap H locs → W p l e (qg_rm d mc ms) s m args below meth c H locs mc ms Z (F0 m pc ls [])) →
      W p l e (qg_rm d mc ms) s m args below meth c s.heap [] 0 0 Z (F0 m 0 ls [])) : qg_C sc M d mc ms av ad D cA ws post W1 := by
  intro l sz
  subst hlv
  refine Met.ofW (cc := M.2.1) (maxL := M.2.2.1) (ret := M.2.2.2) hy rfl ?_
  intro p e s m args below meth c s₁ B hml hv
  obtain ⟨rfl, hsz, hP, hK, hD0, hR, hO⟩ := hv
  have hx := B.exec
  have hb := B.bytes
  have hr := B.returns
  have hts := atoms_spec (ws := Cond.code M.1 M.2.1 M.2.2.1 M.2.2.2 :: pg_tb) B.pre
  have hown : s.vm.findClass M.1.cls = some m.cls := findClass_of_methodNamed B.named
  have hin : meth.name = M.1.name := (name_of_methodNamed B.named B.method).1
  subst hsz
  have hD := hD0.self (sz := s.heap.size)
  generalize hAe : va_A ws s.heap.size = A at hD hR ⊢
  have hA : ∀ q : Nat, s.heap.size ≤ q → A q := fun q h => by rw [← hAe]; exact Or.inr h
  have hl := lv_entry av (n := M.2.2.1) hn
  rw [lg_entry_eq]
  generalize (lg_sl av ++ List.replicate (M.2.2.1 - (lg_sl av).length) Slot.unset).toArray = ls at hl ⊢
  refine k p l e s m _ below meth c A _ ls ⟨hx, hb, hml, hown, fun w h => hts w (List.mem_cons_of_mem _ h), hK, hA, hR, hO, hin⟩ hP hD hl (fun pc ls H locs u hd hp hP hD hS => ?_)
  exact W.vret hx hb (hr.trans hret) (fun t ht hW => ⟨⟨u, rfl, hp, by rw [ht]; exact hP, va_K.moved hW.alike hK, hD⟩, hS.F ht⟩) hS.2.2 hd
set_option maxHeartbeats 1000000 in
theorem qg_callI {p : Program} {l : Launch} {e : Env} {R : Room} {s : State} {m : MethodId} {args : Array Value} {below : List Frame} {meth : Method} {c : Code} {H : Heap} {locs : List Loc} {cells slots : Nat} {Q : State → Prop} {cc : ByteArray} {pc : Nat} {ls : Array Slot} {rest : List Value} {D : va_G} {cA : Nat → ClassId} {A : Nat → Prop} {ws : va_W} {H0 : Heap} {sc : pg_Sc} {ad : Nat → Nat} {M' : MI} {own : String} {idx nL d mc ms b : Nat} {wc wr : va_W} {S : Type} {post : S → Prop} {W1 : S → va_W} (hx : p.tables.exec = Jvm.exec) (hb : c.code = cc) (hml : c.maxLocals = nL) (hsz : ls.size = nL) (hown : s.vm.findClass own = some m.cls) (htb : ∀ w ∈ pg_tb, w.before args s = true) (hK : va_K D vwCl (pg_tys cA) s) (hRO : pg_RO sc ad A s s.heap) (hAO : pg_AN s) (hA : ∀ q, s.heap.size ≤ q → A q) (hP : va_P D vwCl ws H) (hD : va_D A ws) (hS : va_S A s.heap H locs) (hM : qg_C sc M' d mc ms [.ref b] ad D cA wc post W1) (w1 : Cond.methodLink own idx M'.1 ∈ pg_tb) (w2 : Cond.instanceMethod M'.1 ∈ pg_tb) (w3 : Cond.initialized M'.1.cls ∈ pg_tb) (w4 : Cond.code M'.1 M'.2.1 M'.2.2.1 M'.2.2.2 ∈ pg_tb) (hret : M'.2.2.2 = none) (hdsc : M'.1.cls ≠ "java/lang/invoke/MethodHandle" ∧ M'.1.cls ≠ "java/lang/invoke/VarHandle" ∧ (parseMethodDescriptor M'.1.desc).map (fun d => d.parameters.length) = some 0) (hroom : (d + 1 ≤ R.frames ∧ 8 + (M'.2.2.1 + 11) + 64 * d ≤ R.locals) ∧ cells + mc ≤ R.cells ∧ slots + ms ≤ R.slots) (hnm : M'.1.name = "<init>") (isC isR : List Nat) (hC : isC.map (fun i => ws[i]?) = wc.map some) (hCr : isR.map (fun i => ws[i]?) = wr.map some) (hn1 : va_nd isC = true) (hn : va_nd isR = true) (hdis : ∀ i ∈ isR, i ∉ isC) (hst : (rest.map fun v => v.category).sum ≤ 8) (hdg : decode cc pc = .ok (.invokespecial idx, 3)) (kk : ∀ (u : S) (H1 : Heap) (locs1 : List Loc), post u → va_P D vwCl (wr ++ W1 u) H1 → va_D A (wr ++ W1 u) → va_S A s.heap H1 locs1 → W p l e R s m args below meth c H1 locs1 (cells + mc) (slots + ms) Q (F0 m (pc + 3) ls rest)) : W p l e R s m args below meth c H locs cells slots Q (F0 m pc ls (.ref b :: rest)) := by
  have hPc : va_P D vwCl wc H := hP.sub isC (qg_fm hC)
  have hDc := hD.sub (ws' := wc) isC hn1 hC
  have hFc := va_free (wc := wc) hD hS hA isC hC
  refine va_callv (va_runI (As := []) (rest := rest) ⟨hx, hb, hml, hown, htb⟩ (hM l H.size) ⟨callB_of 0 htb (pg_good w4) (by rw [hret]) rfl rfl (htb _ w3) (htb _ w1) hdsc hroom.1, hnm, htb _ w2⟩ ⟨qg_blind, qg_pre hK hRO hAO hA hPc hDc hS hFc⟩ rfl rfl hsz rfl (lv_room hst) hdg hroom.2) hS (fun q _ h => hFc q h) hFc (fun u t H1 locs1 ht hvm hw hB hz1 hk1 hS => ?_)
  obtain ⟨hP1, hK1, hD1⟩ := hB
  rw [ht] at hP1
  obtain ⟨hP', hD'⟩ := va_join (wr := wr) (w1 := W1 u) hP hD isC isR hC hCr hn hdis hk1 hFc hP1 hD1
  exact kk u H1 locs1 hw hP' hD' hS
set_option maxHeartbeats 1000000 in
theorem qg_callIN {p : Program} {l : Launch} {e : Env} {R : Room} {s : State} {m : MethodId} {args : Array Value} {below : List Frame} {meth : Method} {c : Code} {H : Heap} {locs : List Loc} {cells slots : Nat} {Q : State → Prop} {cc : ByteArray} {pc : Nat} {ls : Array Slot} {rest : List Value} {D : va_G} {cA : Nat → ClassId} {A : Nat → Prop} {ws : va_W} {H0 : Heap} {sc : pg_Sc} {ad : Nat → Nat} {M' : MI} {own : String} {idx nL d mc ms b : Nat} {wc wr : va_W} {S : Type} {post : S → Prop} {W1 : S → va_W} (hx : p.tables.exec = Jvm.exec) (hb : c.code = cc) (hml : c.maxLocals = nL) (hsz : ls.size = nL) (hown : s.vm.findClass own = some m.cls) (htb : ∀ w ∈ pg_tb, w.before args s = true) (hK : va_K D vwCl (pg_tys cA) s) (hRO : pg_RO sc ad A s s.heap) (hAO : pg_AN s) (hA : ∀ q, s.heap.size ≤ q → A q) (hP : va_P D vwCl ws H) (hD : va_D A ws) (hS : va_S A s.heap H locs) (hM : qg_C sc M' d mc ms [.ref b] ad D cA wc post W1) (w1 : va_Nw (.methodLinkNest own idx M'.1 "PicturePegs") s) (w2 : Cond.instanceMethod M'.1 ∈ pg_tb) (w3 : Cond.initialized M'.1.cls ∈ pg_tb) (w4 : Cond.code M'.1 M'.2.1 M'.2.2.1 M'.2.2.2 ∈ pg_tb) (hret : M'.2.2.2 = none) (hdsc : M'.1.cls ≠ "java/lang/invoke/MethodHandle" ∧ M'.1.cls ≠ "java/lang/invoke/VarHandle" ∧ (parseMethodDescriptor M'.1.desc).map (fun d => d.parameters.length) = some 0) (hroom : (d + 1 ≤ R.frames ∧ 8 + (M'.2.2.1 + 11) + 64 * d ≤ R.locals) ∧ cells + mc ≤ R.cells ∧ slots + ms ≤ R.slots) (hnm : M'.1.name = "<init>") (isC isR : List Nat) (hC : isC.map (fun i => ws[i]?) = wc.map some) (hCr : isR.map (fun i => ws[i]?) = wr.map some) (hn1 : va_nd isC = true) (hn : va_nd isR = true) (hdis : ∀ i ∈ isR, i ∉ isC) (hst : (rest.map fun v => v.category).sum ≤ 8) (hdg : decode cc pc = .ok (.invokespecial idx, 3)) (kk : ∀ (u : S) (H1 : Heap) (locs1 : List Loc), post u → va_P D vwCl (wr ++ W1 u) H1 → va_D A (wr ++ W1 u) → va_S A s.heap H1 locs1 → W p l e R s m args below meth c H1 locs1 (cells + mc) (slots + ms) Q (F0 m (pc + 3) ls rest)) : W p l e R s m args below meth c H locs cells slots Q (F0 m pc ls (.ref b :: rest)) := by
  have hPc : va_P D vwCl wc H := hP.sub isC (qg_fm hC)
  have hDc := hD.sub (ws' := wc) isC hn1 hC
  have hFc := va_free (wc := wc) hD hS hA isC hC
  refine va_callv (va_runIN (As := []) (rest := rest) ⟨hx, hb, hml, hown, htb⟩ (hM l H.size) ⟨va_cnB 0 htb (pg_good w4) (by rw [hret]) rfl rfl w1 (htb _ w3) hdsc hroom.1, hnm, htb _ w2⟩ ⟨qg_blind, qg_pre hK hRO hAO hA hPc hDc hS hFc⟩ rfl rfl hsz rfl (lv_room hst) hdg hroom.2) hS (fun q _ h => hFc q h) hFc (fun u t H1 locs1 ht hvm hw hB hz1 hk1 hS => ?_)
  obtain ⟨hP1, hK1, hD1⟩ := hB
  rw [ht] at hP1
  obtain ⟨hP', hD'⟩ := va_join (wr := wr) (w1 := W1 u) hP hD isC isR hC hCr hn hdis hk1 hFc hP1 hD1
  exact kk u H1 locs1 hw hP' hD' hS
set_option maxHeartbeats 1000000 in
theorem qg_callV {p : Program} {l : Launch} {e : Env} {R : Room} {s : State} {m : MethodId} {args : Array Value} {below : List Frame} {meth : Method} {c : Code} {H : Heap} {locs : List Loc} {cells slots : Nat} {Q : State → Prop} {cc : ByteArray} {pc : Nat} {ls : Array Slot} {rest : List Value} {D : va_G} {cA : Nat → ClassId} {A : Nat → Prop} {ws : va_W} {H0 : Heap} {sc : pg_Sc} {ad : Nat → Nat} {M' : MI} {own : String} {idx nL d mc ms b : Nat} {wc wr : va_W} {S : Type} {post : S → Prop} {W1 : S → va_W} (hx : p.tables.exec = Jvm.exec) (hb : c.code = cc) (hml : c.maxLocals = nL) (hsz : ls.size = nL) (hown : s.vm.findClass own = some m.cls) (htb : ∀ w ∈ pg_tb, w.before args s = true) (hK : va_K D vwCl (pg_tys cA) s) (hRO : pg_RO sc ad A s s.heap) (hAO : pg_AN s) (hA : ∀ q, s.heap.size ≤ q → A q) (hP : va_P D vwCl ws H) (hD : va_D A ws) (hS : va_S A s.heap H locs) (hM : qg_C sc M' d mc ms [.ref b] ad D cA wc post W1) (w1 : Cond.methodLink own idx M'.1 ∈ pg_tb) (w2 : Cond.instanceMethod M'.1 ∈ pg_tb) (w3 : Cond.initialized M'.1.cls ∈ pg_tb) (w4 : Cond.code M'.1 M'.2.1 M'.2.2.1 M'.2.2.2 ∈ pg_tb) (hret : M'.2.2.2 = none) (hdsc : M'.1.cls ≠ "java/lang/invoke/MethodHandle" ∧ M'.1.cls ≠ "java/lang/invoke/VarHandle" ∧ (parseMethodDescriptor M'.1.desc).map (fun d => d.parameters.length) = some 0) (hroom : (d + 1 ≤ R.frames ∧ 8 + (M'.2.2.1 + 11) + 64 * d ≤ R.locals) ∧ cells + mc ≤ R.cells ∧ slots + ms ≤ R.slots) (w5 : Cond.selects M'.1.cls M'.1 M'.1 ∈ pg_tb) {kb cn : Nat} {fs : List Value} (hbk : ws[kb]? = some (b, .inr (cn, fs))) (hcl : (vwCl[cn]?).map (fun r => r.1) = some M'.1.cls) (isC isR : List Nat) (hC : isC.map (fun i => ws[i]?) = wc.map some) (hCr : isR.map (fun i => ws[i]?) = wr.map some) (hn1 : va_nd isC = true) (hn : va_nd isR = true) (hdis : ∀ i ∈ isR, i ∉ isC) (hst : (rest.map fun v => v.category).sum ≤ 8) (hdg : decode cc pc = .ok (.invokevirtual idx, 3)) (kk : ∀ (u : S) (H1 : Heap) (locs1 : List Loc), post u → va_P D vwCl (wr ++ W1 u) H1 → va_D A (wr ++ W1 u) → va_S A s.heap H1 locs1 → W p l e R s m args below meth c H1 locs1 (cells + mc) (slots + ms) Q (F0 m (pc + 3) ls rest)) : W p l e R s m args below meth c H locs cells slots Q (F0 m pc ls (.ref b :: rest)) := by
  obtain ⟨rc, rc1, rc2⟩ : ∃ rc : vw_C, vwCl[cn]? = some rc ∧ rc.1 = M'.1.cls := by
    cases hr : vwCl[cn]? with
    | none => rw [hr] at hcl; cases hcl
    | some rc => rw [hr] at hcl; exact ⟨rc, rfl, Option.some.inj hcl⟩
  have hrecv := va_recv (ci := cn) hK hP rc1 hbk
  rw [rc2] at hrecv
  have hPc : va_P D vwCl wc H := hP.sub isC (qg_fm hC)
  have hDc := hD.sub (ws' := wc) isC hn1 hC
  have hFc := va_free (wc := wc) hD hS hA isC hC
  refine va_callv (va_runV (As := []) (rest := rest) ⟨hx, hb, hml, hown, htb⟩ (hM l H.size) ⟨callB_of 0 htb (pg_good w4) (by rw [hret]) rfl rfl (htb _ w3) (htb _ w1) hdsc hroom.1, htb _ w2, htb _ w5⟩ ⟨qg_blind, hrecv, qg_pre hK hRO hAO hA hPc hDc hS hFc⟩ rfl rfl hsz rfl (lv_room hst) hdg hroom.2) hS (fun q _ h => hFc q h) hFc (fun u t H1 locs1 ht hvm hw hB hz1 hk1 hS => ?_)
  obtain ⟨hP1, hK1, hD1⟩ := hB
  rw [ht] at hP1
  obtain ⟨hP', hD'⟩ := va_join (wr := wr) (w1 := W1 u) hP hD isC isR hC hCr hn hdis hk1 hFc hP1 hD1
  exact kk u H1 locs1 hw hP' hD' hS
set_option maxHeartbeats 1000000 in
theorem qg_callS {p : Program} {l : Launch} {e : Env} {R : Room} {s : State} {m : MethodId} {args : Array Value} {below : List Frame} {meth : Method} {c : Code} {H : Heap} {locs : List Loc} {cells slots : Nat} {Q : State → Prop} {cc : ByteArray} {pc : Nat} {ls : Array Slot} {rest : List Value} {D : va_G} {cA : Nat → ClassId} {A : Nat → Prop} {ws : va_W} {H0 : Heap} {sc : pg_Sc} {ad : Nat → Nat} {M' : MI} {own : String} {idx nL d mc ms b : Nat} {wc wr : va_W} {S : Type} {post : S → Prop} {W1 : S → va_W} (hx : p.tables.exec = Jvm.exec) (hb : c.code = cc) (hml : c.maxLocals = nL) (hsz : ls.size = nL) (hown : s.vm.findClass own = some m.cls) (htb : ∀ w ∈ pg_tb, w.before args s = true) (hK : va_K D vwCl (pg_tys cA) s) (hRO : pg_RO sc ad A s s.heap) (hAO : pg_AN s) (hA : ∀ q, s.heap.size ≤ q → A q) (hP : va_P D vwCl ws H) (hD : va_D A ws) (hS : va_S A s.heap H locs) (hM : qg_C sc M' d mc ms [.ref b] ad D cA wc post W1) (w1 : Cond.methodLink own idx M'.1 ∈ pg_tb) (w2 : Cond.static M'.1 ∈ pg_tb) (w3 : Cond.initialized M'.1.cls ∈ pg_tb) (w4 : Cond.code M'.1 M'.2.1 M'.2.2.1 M'.2.2.2 ∈ pg_tb) (hret : M'.2.2.2 = none) (hdsc : M'.1.cls ≠ "java/lang/invoke/MethodHandle" ∧ M'.1.cls ≠ "java/lang/invoke/VarHandle" ∧ (parseMethodDescriptor M'.1.desc).map (fun d => d.parameters.length) = some 1) (hroom : (d + 1 ≤ R.frames ∧ 8 + (M'.2.2.1 + 11) + 64 * d ≤ R.locals) ∧ cells + mc ≤ R.cells ∧ slots + ms ≤ R.slots) (isC isR : List Nat) (hC : isC.map (fun i => ws[i]?) = wc.map some) (hCr : isR.map (fun i => ws[i]?) = wr.map some) (hn1 : va_nd isC = true) (hn : va_nd isR = true) (hdis : ∀ i ∈ isR, i ∉ isC) (hst : (rest.map fun v => v.category).sum ≤ 8) (hdg : decode cc pc = .ok (.invokestatic idx, 3)) (kk : ∀ (u : S) (H1 : Heap) (locs1 : List Loc), post u → va_P D vwCl (wr ++ W1 u) H1 → va_D A (wr ++ W1 u) → va_S A s.heap H1 locs1 → W p l e R s m args below meth c H1 locs1 (cells + mc) (slots + ms) Q (F0 m (pc + 3) ls rest)) : W p l e R s m args below meth c H locs cells slots Q (F0 m pc ls (.ref b :: rest)) := by
  have hPc : va_P D vwCl wc H := hP.sub isC (qg_fm hC)
  have hDc := hD.sub (ws' := wc) isC hn1 hC
  have hFc := va_free (wc := wc) hD hS hA isC hC
  refine va_callv (va_runS (As := [.ref b]) (rest := rest) ⟨hx, hb, hml, hown, htb⟩ (hM l H.size) ⟨callB_of 1 htb (pg_good w4) (by rw [hret]) rfl rfl (htb _ w3) (htb _ w1) hdsc hroom.1, htb _ w2⟩ ⟨qg_blind, qg_pre hK hRO hAO hA hPc hDc hS hFc⟩ rfl rfl hsz rfl (lv_room hst) hdg hroom.2) hS (fun q _ h => hFc q h) hFc (fun u t H1 locs1 ht hvm hw hB hz1 hk1 hS => ?_)
  obtain ⟨hP1, hK1, hD1⟩ := hB
  rw [ht] at hP1
  obtain ⟨hP', hD'⟩ := va_join (wr := wr) (w1 := W1 u) hP hD isC isR hC hCr hn hdis hk1 hFc hP1 hD1
  exact kk u H1 locs1 hw hP' hD' hS
