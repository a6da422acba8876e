/-! calls, in one form -/
section
variable {p : Program} {l : Launch} {e : Env} {R : Room} {s : State} {m : MethodId} {args : Array Value} {below : List Frame} {meth : Method} {c : Code} {H : Heap} {locs : List Loc} {Q : State → Prop}
variable {cc bytes : ByteArray} {nL maxL index n : Nat} {Ts ws ws' : List Cond} {own C : String} {y : MethodName} {ret : Option FieldType} {rm : Room} {D : va_G} {cy : ClassId × ClassId × ClassId × ClassId} {b : Nat} {av As rest st : List Value} {pc : Nat} {ls : Array Slot} {A : Nat → Prop} {H0 : Heap} {WS WC WR : va_W} {a : Array Value}
theorem co_blind {sz : Nat} : FrameBlind (va_Pc av (fun U => U.heap.size = sz ∧ va_P D vwCl WS U.heap ∧ KK D cy U ∧ va_D (fun _ => True) WS)) := fun a U g mk q => by
  obtain ⟨q0, q1, qP, qK, qD⟩ := q
  exact ⟨q0, q1, qP, qK.call, qD⟩
theorem ro_blind : FrameBlind (va_Pc av (fun U => va_P D vwCl WS U.heap ∧ KK D cy U)) := fun a U g mk q => by
  obtain ⟨q0, qP, qK⟩ := q
  exact ⟨q0, qP, qK.call⟩
theorem st_sub {is : List Nat} {ws ws' : va_W} (h : is.map (fun i => ws[i]?) = ws'.map some) : is.filterMap (fun i => ws[i]?) = ws' := by
  have h2 : ∀ (is : List Nat), is.filterMap (fun i => ws[i]?) = (is.map (fun i => ws[i]?)).filterMap id := fun is => by rw [List.filterMap_map]; rfl
  rw [h2, h, List.filterMap_map]
  exact List.filterMap_some
abbrev Bst {S : Type} (D : va_G) (WC : va_W) (WCp : S → va_W) (sz : Nat) : S → State → Prop := fun u t => va_P D vwCl (WCp u) t.heap ∧ va_D (va_A WC sz) (WCp u)
theorem st_callI {S : Type} {WCp WSn : S → va_W} {post : Int32 → S → Prop} (hr : va_Run p l e R s m args below meth c H locs 0 0 0 0 (F0 m pc ls st) rest (va_Qi post (Bst D WC WCp H.size) (va_A WC H.size) a) (va_A WC H.size))
    (hP : va_P D vwCl WS H) (hD : va_D A WS) (hS : va_S A H0 H locs) (hA : ∀ q, H0.size ≤ q → A q) (isC isR isN : List Nat) (hC : isC.map (fun i => WS[i]?) = WC.map some) (hRR : isR.map (fun i => WS[i]?) = WR.map some) (hn : (va_nd isR && isR.all (fun i => decide (i ∉ isC)) && va_nd isN) = true) (hN : ∀ u, isN.map (fun i => (WR ++ WCp u)[i]?) = (WSn u).map some)
    (kk : ∀ (r : Int32) (u : S) (H1 : Heap) (locs1 : List Loc), post r u → va_P D vwCl (WSn u) H1 → va_D A (WSn u) → va_S A H0 H1 locs1 → W p l e R s m args below meth c H1 locs1 0 0 Q (F0 m (pc + 3) ls (.int r :: rest))) : W p l e R s m args below meth c H locs 0 0 Q (F0 m pc ls st) := by
  have hFc := va_free (wc := WC) hD hS hA isC hC
  simp only [Bool.and_eq_true, List.all_eq_true, decide_eq_true_eq] at hn
  refine va_calli hr hS (fun q _ h => hFc q h) hFc (fun r u t H1 locs1 ht hvm hw hB hz1 hk1 hS1 => ?_)
  obtain ⟨hP1, hD1⟩ := hB
  rw [ht] at hP1
  obtain ⟨hPj, hDj⟩ := va_join (wr := WR) (w1 := WCp u) hP hD isC isR hC hRR hn.1.1 hn.1.2 hk1 hFc hP1 hD1
  exact kk r u H1 locs1 hw (hPj.sub isN (st_sub (hN u))) (hDj.sub isN hn.2 (hN u)) hS1
theorem st_callL {S : Type} {WCp WSn : S → va_W} {post : Int64 → S → Prop} (hr : va_Run p l e R s m args below meth c H locs 0 0 0 0 (F0 m pc ls st) rest (va_Ql post (Bst D WC WCp H.size) (va_A WC H.size) a) (va_A WC H.size))
    (hP : va_P D vwCl WS H) (hD : va_D A WS) (hS : va_S A H0 H locs) (hA : ∀ q, H0.size ≤ q → A q) (isC isR isN : List Nat) (hC : isC.map (fun i => WS[i]?) = WC.map some) (hRR : isR.map (fun i => WS[i]?) = WR.map some) (hn : (va_nd isR && isR.all (fun i => decide (i ∉ isC)) && va_nd isN) = true) (hN : ∀ u, isN.map (fun i => (WR ++ WCp u)[i]?) = (WSn u).map some)
    (kk : ∀ (r : Int64) (u : S) (H1 : Heap) (locs1 : List Loc), post r u → va_P D vwCl (WSn u) H1 → va_D A (WSn u) → va_S A H0 H1 locs1 → W p l e R s m args below meth c H1 locs1 0 0 Q (F0 m (pc + 3) ls (.long r :: rest))) : W p l e R s m args below meth c H locs 0 0 Q (F0 m pc ls st) := by
  have hFc := va_free (wc := WC) hD hS hA isC hC
  simp only [Bool.and_eq_true, List.all_eq_true, decide_eq_true_eq] at hn
  refine va_calll hr hS (fun q _ h => hFc q h) hFc (fun r u t H1 locs1 ht hvm hw hB hz1 hk1 hS1 => ?_)
  obtain ⟨hP1, hD1⟩ := hB
  rw [ht] at hP1
  obtain ⟨hPj, hDj⟩ := va_join (wr := WR) (w1 := WCp u) hP hD isC isR hC hRR hn.1.1 hn.1.2 hk1 hFc hP1 hD1
  exact kk r u H1 locs1 hw (hPj.sub isN (st_sub (hN u))) (hDj.sub isN hn.2 (hN u)) hS1
theorem st_callV {S : Type} {WCp WSn : S → va_W} {post : S → Prop} (hr : va_Run p l e R s m args below meth c H locs 0 0 0 0 (F0 m pc ls st) rest (va_Qv post (Bst D WC WCp H.size) (va_A WC H.size) a) (va_A WC H.size))
    (hP : va_P D vwCl WS H) (hD : va_D A WS) (hS : va_S A H0 H locs) (hA : ∀ q, H0.size ≤ q → A q) (isC isR isN : List Nat) (hC : isC.map (fun i => WS[i]?) = WC.map some) (hRR : isR.map (fun i => WS[i]?) = WR.map some) (hn : (va_nd isR && isR.all (fun i => decide (i ∉ isC)) && va_nd isN) = true) (hN : ∀ u, isN.map (fun i => (WR ++ WCp u)[i]?) = (WSn u).map some)
    (kk : ∀ (u : S) (H1 : Heap) (locs1 : List Loc), post u → va_P D vwCl (WSn u) H1 → va_D A (WSn u) → va_S A H0 H1 locs1 → W p l e R s m args below meth c H1 locs1 0 0 Q (F0 m (pc + 3) ls rest)) : W p l e R s m args below meth c H locs 0 0 Q (F0 m pc ls st) := by
  have hFc := va_free (wc := WC) hD hS hA isC hC
  simp only [Bool.and_eq_true, List.all_eq_true, decide_eq_true_eq] at hn
  refine va_callv hr hS (fun q _ h => hFc q h) hFc (fun u t H1 locs1 ht hvm hw hB hz1 hk1 hS1 => ?_)
  obtain ⟨hP1, hD1⟩ := hB
  rw [ht] at hP1
  obtain ⟨hPj, hDj⟩ := va_join (wr := WR) (w1 := WCp u) hP hD isC isR hC hRR hn.1.1 hn.1.2 hk1 hFc hP1 hD1
  exact kk u H1 locs1 hw (hPj.sub isN (st_sub (hN u))) (hDj.sub isN hn.2 (hN u)) hS1
theorem st_callRI {post : Int32 → Prop} (hr : va_Run p l e R s m args below meth c H locs 0 0 0 0 (F0 m pc ls st) rest (vp_Si post a) (fun _ => False))
    (kk : ∀ r : Int32, post r → W p l e R s m args below meth c H locs 0 0 Q (F0 m (pc + 3) ls (.int r :: rest))) : W p l e R s m args below meth c H locs 0 0 Q (F0 m pc ls st) := by
  intro T hT X
  obtain ⟨v, st₀, t, T', L, h0, X', hL, e1, e2, ⟨r, hv, hp, hh⟩, st⟩ := hr T hT X
  cases hv
  obtain ⟨t2, a1, b1⟩ := kk r hp T' (by rw [e1, hh, h0]) (Stand.forget X' (fun q h => (hL q h).elim))
  exact ⟨t2, st t2 a1, b1⟩
theorem st_callRL {post : Int64 → Prop} (hr : va_Run p l e R s m args below meth c H locs 0 0 0 0 (F0 m pc ls st) rest (vp_Sl post a) (fun _ => False))
    (kk : ∀ r : Int64, post r → W p l e R s m args below meth c H locs 0 0 Q (F0 m (pc + 3) ls (.long r :: rest))) : W p l e R s m args below meth c H locs 0 0 Q (F0 m pc ls st) := by
  intro T hT X
  obtain ⟨v, st₀, t, T', L, h0, X', hL, e1, e2, ⟨r, hv, hp, hh⟩, st⟩ := hr T hT X
  cases hv
  obtain ⟨t2, a1, b1⟩ := kk r hp T' (by rw [e1, hh, h0]) (Stand.forget X' (fun q h => (hL q h).elim))
  exact ⟨t2, st t2 a1, b1⟩
/-- the places of a callee's cells among the caller's -/
abbrev plc (is : List Nat) (WS WC : va_W) : Prop := is.map (fun i => WS[i]?) = WC.map some
/-- what a virtual call needs beside the contract -/
abbrev rV (R : Room) (rm : Room) (maxL : Nat) : Bool := rm.cells == 0 && rm.slots == 0 && Nat.ble (rm.frames + 1) R.frames && Nat.ble (8 + (maxL + 11) + rm.locals) R.locals
theorem rV_ok {R rm : Room} {maxL : Nat} (h : rV R rm maxL = true) : rm.cells = 0 ∧ rm.slots = 0 ∧ rm.frames + 1 ≤ R.frames ∧ 8 + (maxL + 11) + rm.locals ≤ R.locals := by
  simp only [rV, Bool.and_eq_true, beq_iff_eq, Nat.ble_eq] at h
  exact ⟨h.1.1.1, h.1.1.2, h.1.2, h.2⟩
theorem st_runV {Qc : Array Value → State → Outcome → State → Prop} {free : Addr → Prop} {sz : Nat} (F : CallFix p m c cc nL s args Ts own) (hM : Met l y ws rm (va_Pc (.ref b :: As) (fun U => U.heap.size = sz ∧ va_P D vwCl WC U.heap ∧ KK D cy U ∧ va_D (fun _ => True) WC)) Qc 0 0 free) (hsz : H.size = sz) (hG : GoodIn Ts (wsV own index C y ws)) (hw : ws = Cond.code y bytes maxL ret :: ws') (hd : y.cls = C ∧ y.cls ≠ "java/lang/invoke/MethodHandle" ∧ y.cls ≠ "java/lang/invoke/VarHandle" ∧ (parseMethodDescriptor y.desc).map (fun d => d.parameters.length) = some n) (hR : rV R rm maxL = true)
    (hK : KK D cy s) (hP : va_P D vwCl WS H) (hD : va_D A WS) (isC : List Nat) (hC : plc isC WS WC) (hnd : va_nd isC = true) {q0 ci : Nat} {fs : List Value} {T : u_T} {N : Nat} (he : WC[q0]? = some (b, .inr (ci, fs))) (hcl : vwCl[ci]? = some (C, T, N)) (hn : As.length = n) (hls : ls.size = nL) (hst : st = As.reverse ++ .ref b :: rest) (hW : (rest.map fun v => v.category).sum ≤ 8) (hdg : decode cc pc = .ok (.invokevirtual index, 3)) :
    va_Run p l e R s m args below meth c H locs 0 0 0 0 (F0 m pc ls st) rest (Qc (Value.ref b :: As).toArray) free := by
  obtain ⟨r1, r2, r3, r4⟩ := rV_ok hR
  have hPc : va_P D vwCl WC H := hP.sub isC (st_sub hC)
  have hDc : va_D A WC := hD.sub isC hnd hC
  exact va_runV F hM (cwV n F.2.2.2.2 hG hw r1 r2 hd ⟨r3, r4⟩) ⟨co_blind, va_recv hK.1 hPc hcl he, fun U hU hW => ⟨rfl, by rw [hU]; exact hsz, by rw [hU]; exact hPc, hK.warm hW, hDc.weaken (fun _ _ _ _ => trivial)⟩⟩ rfl hn hls hst (lv_room hW) hdg ⟨Nat.zero_le _, Nat.zero_le _⟩
theorem st_runVR {Qc : Array Value → State → Outcome → State → Prop} {free : Addr → Prop} (F : CallFix p m c cc nL s args Ts own) (hM : Met l y ws rm (va_Pc (.ref b :: As) (fun U => va_P D vwCl WC U.heap ∧ KK D cy U)) Qc 0 0 free) (hG : GoodIn Ts (wsV own index C y ws)) (hw : ws = Cond.code y bytes maxL ret :: ws') (hd : y.cls = C ∧ y.cls ≠ "java/lang/invoke/MethodHandle" ∧ y.cls ≠ "java/lang/invoke/VarHandle" ∧ (parseMethodDescriptor y.desc).map (fun d => d.parameters.length) = some n) (hR : rV R rm maxL = true)
    (hK : KK D cy s) (hP : va_P D vwCl WS H) (isC : List Nat) (hC : plc isC WS WC) {q0 ci : Nat} {fs : List Value} {T : u_T} {N : Nat} (he : WC[q0]? = some (b, .inr (ci, fs))) (hcl : vwCl[ci]? = some (C, T, N)) (hn : As.length = n) (hls : ls.size = nL) (hst : st = As.reverse ++ .ref b :: rest) (hW : (rest.map fun v => v.category).sum ≤ 8) (hdg : decode cc pc = .ok (.invokevirtual index, 3)) :
    va_Run p l e R s m args below meth c H locs 0 0 0 0 (F0 m pc ls st) rest (Qc (Value.ref b :: As).toArray) free := by
  obtain ⟨r1, r2, r3, r4⟩ := rV_ok hR
  have hPc : va_P D vwCl WC H := hP.sub isC (st_sub hC)
  exact va_runV F hM (cwV n F.2.2.2.2 hG hw r1 r2 hd ⟨r3, r4⟩) ⟨ro_blind, va_recv hK.1 hPc hcl he, fun U hU hW => ⟨rfl, by rw [hU]; exact hPc, hK.warm hW⟩⟩ rfl hn hls hst (lv_room hW) hdg ⟨Nat.zero_le _, Nat.zero_le _⟩
theorem st_runS {Qc : Array Value → State → Outcome → State → Prop} {free : Addr → Prop} {sz : Nat} (F : CallFix p m c cc nL s args Ts own) (hM : Met l y ws rm (va_Pc As (fun U => U.heap.size = sz ∧ va_P D vwCl WC U.heap ∧ KK D cy U ∧ va_D (fun _ => True) WC)) Qc 0 0 free) (hsz : H.size = sz) (hG : GoodIn Ts (va_wsS own index y ws)) (hw : ws = Cond.code y bytes maxL ret :: ws') (hd : y.cls ≠ "java/lang/invoke/MethodHandle" ∧ y.cls ≠ "java/lang/invoke/VarHandle" ∧ (parseMethodDescriptor y.desc).map (fun d => d.parameters.length) = some n) (hR : rV R rm maxL = true)
    (hK : KK D cy s) (hP : va_P D vwCl WS H) (hD : va_D A WS) (isC : List Nat) (hC : plc isC WS WC) (hnd : va_nd isC = true) (hn : As.length = n) (hls : ls.size = nL) (hst : st = As.reverse ++ rest) (hW : (rest.map fun v => v.category).sum ≤ 8) (hdg : decode cc pc = .ok (.invokestatic index, 3)) :
    va_Run p l e R s m args below meth c H locs 0 0 0 0 (F0 m pc ls st) rest (Qc As.toArray) free := by
  obtain ⟨r1, r2, r3, r4⟩ := rV_ok hR
  have hPc : va_P D vwCl WC H := hP.sub isC (st_sub hC)
  have hDc : va_D A WC := hD.sub isC hnd hC
  exact va_runS F hM (va_cwS n F.2.2.2.2 hG hw r1 r2 hd ⟨r3, r4⟩) ⟨co_blind, fun U hU hW => ⟨rfl, by rw [hU]; exact hsz, by rw [hU]; exact hPc, hK.warm hW, hDc.weaken (fun _ _ _ _ => trivial)⟩⟩ rfl hn hls hst (lv_room hW) hdg ⟨Nat.zero_le _, Nat.zero_le _⟩
theorem st_runSR {Qc : Array Value → State → Outcome → State → Prop} {free : Addr → Prop} (F : CallFix p m c cc nL s args Ts own) (hM : Met l y ws rm (va_Pc As (fun U => va_P D vwCl WC U.heap ∧ KK D cy U)) Qc 0 0 free) (hG : GoodIn Ts (va_wsS own index y ws)) (hw : ws = Cond.code y bytes maxL ret :: ws') (hd : y.cls ≠ "java/lang/invoke/MethodHandle" ∧ y.cls ≠ "java/lang/invoke/VarHandle" ∧ (parseMethodDescriptor y.desc).map (fun d => d.parameters.length) = some n) (hR : rV R rm maxL = true)
    (hK : KK D cy s) (hP : va_P D vwCl WS H) (isC : List Nat) (hC : plc isC WS WC) (hn : As.length = n) (hls : ls.size = nL) (hst : st = As.reverse ++ rest) (hW : (rest.map fun v => v.category).sum ≤ 8) (hdg : decode cc pc = .ok (.invokestatic index, 3)) :
    va_Run p l e R s m args below meth c H locs 0 0 0 0 (F0 m pc ls st) rest (Qc As.toArray) free := by
  obtain ⟨r1, r2, r3, r4⟩ := rV_ok hR
  have hPc : va_P D vwCl WC H := hP.sub isC (st_sub hC)
  exact va_runS F hM (va_cwS n F.2.2.2.2 hG hw r1 r2 hd ⟨r3, r4⟩) ⟨ro_blind, fun U hU hW => ⟨rfl, by rw [hU]; exact hPc, hK.warm hW⟩⟩ rfl hn hls hst (lv_room hW) hdg ⟨Nat.zero_le _, Nat.zero_le _⟩
theorem st_runSNR {Qc : Array Value → State → Outcome → State → Prop} {free : Addr → Prop} {host : String} (F : CallFix p m c cc nL s args Ts own) (hM : Met l y ws rm (va_Pc As (fun U => va_P D vwCl WC U.heap ∧ KK D cy U)) Qc 0 0 free) (hG : GoodIn Ts ws) (hw : ws = Cond.code y bytes maxL ret :: ws') (hl : va_Nw (.methodLinkNest own index y host) s) (hini : (Cond.initialized y.cls).before args s = true) (hst0 : (Cond.static y).before args s = true) (hd : y.cls ≠ "java/lang/invoke/MethodHandle" ∧ y.cls ≠ "java/lang/invoke/VarHandle" ∧ (parseMethodDescriptor y.desc).map (fun d => d.parameters.length) = some n) (hR : rV R rm maxL = true)
    (hK : KK D cy s) (hP : va_P D vwCl WS H) (isC : List Nat) (hC : plc isC WS WC) (hn : As.length = n) (hls : ls.size = nL) (hst : st = As.reverse ++ rest) (hW : (rest.map fun v => v.category).sum ≤ 8) (hdg : decode cc pc = .ok (.invokestatic index, 3)) :
    va_Run p l e R s m args below meth c H locs 0 0 0 0 (F0 m pc ls st) rest (Qc As.toArray) free := by
  obtain ⟨r1, r2, r3, r4⟩ := rV_ok hR
  have hPc : va_P D vwCl WC H := hP.sub isC (st_sub hC)
  exact va_runSN F hM ⟨va_cnB n F.2.2.2.2 hG hw r1 r2 hl hini hd ⟨r3, r4⟩, hst0, trivial⟩ ⟨ro_blind, fun U hU hW => ⟨rfl, by rw [hU]; exact hPc, hK.warm hW⟩⟩ rfl hn hls hst (lv_room hW) hdg ⟨Nat.zero_le _, Nat.zero_le _⟩
end
