/-! constructors: contracts that make cells -/
def CoN {S : Type} (l : Launch) (y : MethodName) (ws : List Cond) (rm : Room) (D : va_G) (cy : ClassId × ClassId × ClassId × ClassId) (av : List Value) (WS : va_W) (WSp : S → va_W) (mc ms : Nat) : Prop :=
  ∀ sz : Nat, Met l y ws rm (va_Pc av (fun U => U.heap.size = sz ∧ va_P D vwCl WS U.heap ∧ KK D cy U ∧ va_D (fun _ => True) WS)) (va_Qv (fun _ : S => True) (fun u t => va_P D vwCl (WSp u) t.heap ∧ va_D (va_A WS sz) (WSp u)) (va_A WS sz)) mc ms (va_A WS sz)
section
variable {l : Launch} {y : MethodName} {ws ws' : List Cond} {rm : Room} {cc : ByteArray} {maxL : Nat} {D : va_G} {cy : ClassId × ClassId × ClassId × ClassId} {av : List Value} {WS : va_W}
theorem st_metN {S : Type} {WSp : S → va_W} {mc ms : Nat} (own : String) (hy : plainName y.cls = true) (hoc : y.cls = own) (hyn : y.name = "<init>") (hw : ws = Cond.code y cc maxL none :: ws') (hav : (lg_sl av).length ≤ maxL)
    (body : ∀ (p : Program) (e : Env) (s : State) (m : MethodId) (args : Array Value) (below : List Frame) (meth : Method) (c : Code) (A : Nat → Prop) (QQ : State → Prop) (ls : Array Slot), CallFix p m c cc maxL s args ws own → meth.name = "<init>" → (∀ q, s.heap.size ≤ q → A q) → KK D cy s → va_P D vwCl WS s.heap → va_D A WS → va_S A s.heap s.heap [] → lv_has ls maxL (lv_args 0 av) →
      (∀ (u : S) (H : Heap) (locs : List Loc) (pc : Nat) (ls : Array Slot), va_P D vwCl (WSp u) H → va_D A (WSp u) → va_S A s.heap H locs → decode cc pc = .ok (.return_, 1) → W p l e rm s m args below meth c H locs mc ms QQ (F0 m pc ls [])) →
      W p l e rm s m args below meth c s.heap [] 0 0 QQ (F0 m 0 ls [])) : CoN l y ws rm D cy av WS WSp mc ms := by
  intro sz
  refine Met.ofW (cc := cc) (maxL := maxL) (ret := none) hy hw ?_
  intro p e s m args below meth c s₁ B hml hv
  obtain ⟨rfl, hsz, hP, hK, hD0⟩ := hv
  have hts := atoms_spec (ws := ws) B.pre
  have hown : s.vm.findClass own = some m.cls := by rw [← hoc]; exact findClass_of_methodNamed B.named
  have hlocks := B.notSynchronized
  have hr := B.returns
  have hin : meth.name = "<init>" := by rw [← hyn]; exact (name_of_methodNamed B.named B.method).1
  subst hsz
  refine st_ent hav (fun ls hl => ?_)
  refine body p e s m av.toArray below meth c (va_A WS s.heap.size) _ ls ⟨B.exec, B.bytes, hml, hown, hts⟩ hin (fun q h => Or.inr h) hK hP hD0.self va_S.rf hl ?_
  intro u H locs pc ls hP hD hS hdg
  exact W.vret B.exec B.bytes hr (fun t ht hW => ⟨⟨u, rfl, trivial, by rw [ht]; exact hP, hD⟩, hS.F ht⟩) hS.2.2 hdg
end
section
variable {p : Program} {l : Launch} {e : Env} {R : Room} {s : State} {m : MethodId} {args : Array Value} {below : List Frame} {meth : Method} {c : Code} {H : Heap} {locs : List Loc} {Q : State → Prop} {cells slots : Nat}
variable {cc bytes : ByteArray} {nL maxL index n : Nat} {Ts ws ws' : List Cond} {own C : String} {y : MethodName} {rm : Room} {D : va_G} {cy : ClassId × ClassId × ClassId × ClassId} {b : Nat} {av As rest st : List Value} {pc : Nat} {ls : Array Slot} {A : Nat → Prop} {H0 : Heap} {WS WC WR : va_W}
theorem st_callN {S : Type} {WCp WSn : S → va_W} {mc ms : Nat} (F : CallFix p m c cc nL s args Ts own) (hM : CoN l y ws rm D cy (.ref b :: As) WC WCp mc ms) (hG : GoodIn Ts ws) (hw : ws = Cond.code y bytes maxL none :: ws') (hrc : rm.cells = mc) (hrs : rm.slots = ms) (hini : (Cond.initialized y.cls).before args s = true) (hlk : (Cond.methodLink own index y).before args s = true) (hinm : (Cond.instanceMethod y).before args s = true) (hy1 : y.name = "<init>")
    (hd : y.cls ≠ "java/lang/invoke/MethodHandle" ∧ y.cls ≠ "java/lang/invoke/VarHandle" ∧ (parseMethodDescriptor y.desc).map (fun d => d.parameters.length) = some n) (hR : rm.frames + 1 ≤ R.frames ∧ 8 + (maxL + 11) + rm.locals ≤ R.locals)
    (hK : KK D cy s) (hP : va_P D vwCl WS H) (hD : va_D A WS) (hS : va_S A H0 H locs) (hA : ∀ q, H0.size ≤ q → A q) (isC isR isN : List Nat) (hC : isC.map (fun i => WS[i]?) = WC.map some) (hRR : isR.map (fun i => WS[i]?) = WR.map some) (hn : (va_nd isR && isR.all (fun i => decide (i ∉ isC)) && va_nd isN && va_nd isC) = true) (hN : ∀ u, isN.map (fun i => (WR ++ WCp u)[i]?) = (WSn u).map some)
    (hnn : As.length = n) (hls : ls.size = nL) (hst : st = As.reverse ++ .ref b :: rest) (hW : (rest.map fun v => v.category).sum ≤ 8) (hdg : decode cc pc = .ok (.invokespecial index, 3)) (hf : cells + mc ≤ R.cells ∧ slots + ms ≤ R.slots)
    (kk : ∀ (u : S) (H1 : Heap) (locs1 : List Loc), va_P D vwCl (WSn u) H1 → va_D A (WSn u) → va_S A H0 H1 locs1 → W p l e R s m args below meth c H1 locs1 (cells + mc) (slots + ms) Q (F0 m (pc + 3) ls rest)) : W p l e R s m args below meth c H locs cells slots Q (F0 m pc ls st) := by
  have hFc := va_free (wc := WC) hD hS hA isC hC
  simp only [Bool.and_eq_true, List.all_eq_true, decide_eq_true_eq] at hn
  have hPc : va_P D vwCl WC H := hP.sub isC (st_sub hC)
  have hDc : va_D A WC := hD.sub isC hn.2 hC
  refine va_callv (va_runI F (hM H.size) (cwI n F.2.2.2.2 hG hw hrc hrs hini hlk hinm hy1 hd hR) ⟨co_blind, fun U hU hW => ⟨rfl, by rw [hU], by rw [hU]; exact hPc, hK.warm hW, hDc.weaken (fun _ _ _ _ => trivial)⟩⟩ rfl hnn hls hst (lv_room hW) hdg hf) hS (fun q _ h => hFc q h) hFc (fun u t H1 locs1 ht hvm hw hB hz1 hk1 hS1 => ?_)
  obtain ⟨hP1, hD1⟩ := hB
  rw [ht] at hP1
  obtain ⟨hPj, hDj⟩ := va_join (wr := WR) (w1 := WCp u) hP hD isC isR hC hRR hn.1.1.1 hn.1.1.2 hk1 hFc hP1 hD1
  exact kk u H1 locs1 (hPj.sub isN (st_sub (hN u))) (hDj.sub isN hn.1.2 (hN u)) hS1
theorem st_newI (hexec : p.tables.exec = Jvm.exec) (hb : c.code = cc) (harr : (Cond.arrayClass .int).before args s = true) (hK : KK D cy s) (hP : va_P D vwCl WS H) (hD : va_D A WS) (hS : va_S A H0 H locs) (hA : ∀ q, H0.size ≤ q → A q) {n : Int32} {N' : Nat} (hn : ¬ n < 0) (hN : n.toNatClampNeg = N') (hbytes : N' ≤ 100000) (hcells : cells + 1 ≤ R.cells) (hslots : slots + N' ≤ R.slots) (hdg : decode cc pc = .ok (.newarray .int, 2))
    (kk : ∀ (q : Nat) (H1 : Heap), va_P D vwCl (WS ++ [(q, .inl (cy.2.1, N', .inl (fun _ => 0)))]) H1 → va_D A (WS ++ [(q, .inl (cy.2.1, N', .inl (fun _ => 0)))]) → va_S A H0 H1 locs → W p l e R s m args below meth c H1 locs (cells + 1) (slots + N') Q (F0 m (pc + 2) ls (.ref q :: rest))) : W p l e R s m args below meth c H locs cells slots Q (F0 m pc ls (.int n :: rest)) := by
  refine va_newa (atype := .int) (a0 := (N', .inl (fun _ => 0))) hexec hb harr rfl hK.1 hP hD hS hA (fun _ => rfl) hn hN (by show N' * 4 ≤ _; omega) hcells hslots hdg (fun q cA H1 hK' hP hD hS => ?_)
  have e : cA = cy.2.1 := Option.some.inj ((show s.vm.findClass _ = some cA from (hK'.2 4 (cA, .int) rfl).2).symm.trans (hK.1.2 1 (cy.2.1, .int) rfl).2)
  subst e
  exact kk q H1 hP hD hS
theorem st_newB (hexec : p.tables.exec = Jvm.exec) (hb : c.code = cc) (harr : (Cond.arrayClass .byte).before args s = true) (hK : KK D cy s) (hP : va_P D vwCl WS H) (hD : va_D A WS) (hS : va_S A H0 H locs) (hA : ∀ q, H0.size ≤ q → A q) {n : Int32} {N' : Nat} (hn : ¬ n < 0) (hN : n.toNatClampNeg = N') (hbytes : N' ≤ 100000) (hcells : cells + 1 ≤ R.cells) (hslots : slots + N' ≤ R.slots) (hdg : decode cc pc = .ok (.newarray .byte, 2))
    (kk : ∀ (q : Nat) (H1 : Heap), va_P D vwCl (WS ++ [(q, .inl (cy.1, N', .inl (fun _ => 0)))]) H1 → va_D A (WS ++ [(q, .inl (cy.1, N', .inl (fun _ => 0)))]) → va_S A H0 H1 locs → W p l e R s m args below meth c H1 locs (cells + 1) (slots + N') Q (F0 m (pc + 2) ls (.ref q :: rest))) : W p l e R s m args below meth c H locs cells slots Q (F0 m pc ls (.int n :: rest)) := by
  refine va_newa (atype := .byte) (a0 := (N', .inl (fun _ => 0))) hexec hb harr rfl hK.1 hP hD hS hA (fun _ => rfl) hn hN (by show N' * 1 ≤ _; omega) hcells hslots hdg (fun q cA H1 hK' hP hD hS => ?_)
  have e : cA = cy.1 := Option.some.inj ((show s.vm.findClass _ = some cA from (hK'.2 4 (cA, .byte) rfl).2).symm.trans (hK.1.2 0 (cy.1, .byte) rfl).2)
  subst e
  exact kk q H1 hP hD hS
theorem st_newZ (hexec : p.tables.exec = Jvm.exec) (hb : c.code = cc) (harr : (Cond.arrayClass .boolean).before args s = true) (hK : KK D cy s) (hP : va_P D vwCl WS H) (hD : va_D A WS) (hS : va_S A H0 H locs) (hA : ∀ q, H0.size ≤ q → A q) {n : Int32} {N' : Nat} (hn : ¬ n < 0) (hN : n.toNatClampNeg = N') (hbytes : N' ≤ 100000) (hcells : cells + 1 ≤ R.cells) (hslots : slots + N' ≤ R.slots) (hdg : decode cc pc = .ok (.newarray .boolean, 2))
    (kk : ∀ (q : Nat) (H1 : Heap), va_P D vwCl (WS ++ [(q, .inl (cy.2.2.1, N', .inl (fun _ => 0)))]) H1 → va_D A (WS ++ [(q, .inl (cy.2.2.1, N', .inl (fun _ => 0)))]) → va_S A H0 H1 locs → W p l e R s m args below meth c H1 locs (cells + 1) (slots + N') Q (F0 m (pc + 2) ls (.ref q :: rest))) : W p l e R s m args below meth c H locs cells slots Q (F0 m pc ls (.int n :: rest)) := by
  refine va_newa (atype := .boolean) (a0 := (N', .inl (fun _ => 0))) hexec hb harr rfl hK.1 hP hD hS hA (fun _ => rfl) hn hN (by show N' * 1 ≤ _; omega) hcells hslots hdg (fun q cA H1 hK' hP hD hS => ?_)
  have e : cA = cy.2.2.1 := Option.some.inj ((show s.vm.findClass _ = some cA from (hK'.2 4 (cA, .boolean) rfl).2).symm.trans (hK.1.2 2 (cy.2.2.1, .boolean) rfl).2)
  subst e
  exact kk q H1 hP hD hS
theorem st_newP (hexec : p.tables.exec = Jvm.exec) (hb : c.code = cc) (hown : s.vm.findClass own = some m.cls) (hclink : (Cond.classLink own index "RasherCase$Parish").before args s = true) (hK : KK D cy s) (hP : va_P D vwCl WS H) (hD : va_D A WS) (hS : va_S A H0 H locs) (hA : ∀ q, H0.size ≤ q → A q) {n : Int32} {N' : Nat} (hn : ¬ n < 0) (hN : n.toNatClampNeg = N') (hbytes : N' ≤ 100000) (hcells : cells + 1 ≤ R.cells) (hslots : slots + N' ≤ R.slots) (hdg : decode cc pc = .ok (.anewarray index, 3))
    (kk : ∀ (q : Nat) (H1 : Heap), va_P D vwCl (WS ++ [(q, .inl (cy.2.2.2, N', .inr (.inr (.inr (.inr (fun _ => none))))))]) H1 → va_D A (WS ++ [(q, .inl (cy.2.2.2, N', .inr (.inr (.inr (.inr (fun _ => none))))))]) → va_S A H0 H1 locs → W p l e R s m args below meth c H1 locs (cells + 1) (slots + N') Q (F0 m (pc + 3) ls (.ref q :: rest))) : W p l e R s m args below meth c H locs cells slots Q (F0 m pc ls (.int n :: rest)) := by
  refine va_newq hexec hb hown hclink hK.2.2 hK.1 hP hD hS hA hn hN (by omega) hcells hslots hdg (fun q cA H1 hK' hP hD hS => ?_)
  obtain ⟨k1, c1, g1, g2, g3, g4⟩ := (show va_RA s cA (.object "RasherCase$Parish") from (hK'.2 4 (cA, .object "RasherCase$Parish") rfl).2)
  obtain ⟨k2, c2, f1, f2, f3, f4⟩ := (show va_RA s cy.2.2.2 (.object "RasherCase$Parish") from (hK.1.2 3 (cy.2.2.2, .object "RasherCase$Parish") rfl).2)
  have e : cA = cy.2.2.2 := Option.some.inj (g4.symm.trans f4)
  subst e
  exact kk q H1 hP hD hS
end
