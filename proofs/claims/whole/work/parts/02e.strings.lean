/-! String constants: where they lie, what they hold; length and charAt of the JDK, walked -/
def lenJ : List Nat := [6, 6, 6, 3, 4]
def bytJ : List (List Int32) := [[112, 97, 114, 105, 115, 104], [102, 108, 105, 116, 99, 104], [102, 97, 109, 105, 108, 121], [111, 117, 116], [100, 97, 121, 115]]
def strL (k : Nat) : Int32 := Int32.ofNat (lenJ.getD k 0)
def strC (k : Nat) (i : Int32) : Int32 := (((bytJ.getD k []).getD i.toNatClampNeg 0 &&& 255).toUInt32 % 65536).toInt32
def SP (adK adV : Nat → Nat) (A : Nat → Prop) (U : State) (H : Heap) : Prop := vk_S 5 lenJ bytJ adK adV A U H ∧ va_Z "java/lang/String" "COMPACT_STRINGS" "Z" (.int 1) A U H ∧ va_Zq "jdk/internal/util/Preconditions" "SIOOBE_FORMATTER" "Ljava/util/function/BiFunction;" A U H ∧ vk_R RX7 110 "parish" (adK 0) U ∧ vk_R RX7 116 "flitch" (adK 1) U ∧ vk_R RX7 118 "family" (adK 2) U ∧ vk_R RX7 120 "out" (adK 3) U ∧ vk_R RX7 122 "days" (adK 4) U
theorem SP.keptH {adK adV : Nat → Nat} {A : Nat → Prop} {U : State} {H H1 : Heap} {locs : List Loc} (h : SP adK adV A U H) (hS : va_S A H H1 locs) : SP adK adV A U H1 := ⟨h.1.kept hS.2.1, h.2.1.kept hS.2.1, h.2.2.1.kept hS.2.1, h.2.2.2⟩
theorem SP.narrow {adK adV : Nat → Nat} {A B : Nat → Prop} {U : State} {H : Heap} (h : SP adK adV A U H) (hAB : ∀ q, B q → A q) : SP adK adV B U H := ⟨h.1.narrow hAB, h.2.1.narrow hAB, h.2.2.1.narrow hAB, h.2.2.2⟩
theorem SP.none {adK adV : Nat → Nat} {A : Nat → Prop} {U : State} {H : Heap} (h : SP adK adV A U H) : SP adK adV (fun _ => False) U H := h.narrow (fun _ z => z.elim)
theorem SP.warm {adK adV : Nat → Nat} {A : Nat → Prop} {s U : State} {H : Heap} (hW : s.WarmedH U.vm) (h : SP adK adV A s H) : SP adK adV A U H := ⟨vk_S.moved hW.alike h.1, va_Z.moved hW.alike h.2.1, va_Zq.moved hW.alike h.2.2.1, h.2.2.2.1.warm hW, h.2.2.2.2.1.warm hW, h.2.2.2.2.2.1.warm hW, h.2.2.2.2.2.2.1.warm hW, h.2.2.2.2.2.2.2.warm hW⟩
theorem SP.call {adK adV : Nat → Nat} {A : Nat → Prop} {U : State} {H : Heap} {gg : JFrame} {mk : MethodId} {a : Array Value} (h : SP adK adV A U H) : SP adK adV A (U.calling gg mk a) H := ⟨vk_S.moved (u := U) (U := U.calling gg mk a) (Vm.Alike.refl U.vm) h.1, va_Z.moved (u := U) (U := U.calling gg mk a) (Vm.Alike.refl U.vm) h.2.1, va_Zq.moved (u := U) (U := U.calling gg mk a) (Vm.Alike.refl U.vm) h.2.2.1, vk_R.same rfl h.2.2.2.1, vk_R.same rfl h.2.2.2.2.1, vk_R.same rfl h.2.2.2.2.2.1, vk_R.same rfl h.2.2.2.2.2.2.1, vk_R.same rfl h.2.2.2.2.2.2.2⟩
/-- a reader over any picture KX of the state -/
def RoG (l : Launch) (y : MethodName) (ws : List Cond) (rm : Room) (av : List Value) (KX : State → Prop) (post : Int32 → Prop) : Prop := Met l y ws rm (va_Pc av KX) (vp_Si post) 0 0 (fun _ => False)
def RoGv (l : Launch) (y : MethodName) (ws : List Cond) (rm : Room) (av : List Value) (KX : State → Prop) : Prop := Met l y ws rm (va_Pc av KX) (va_Sv (fun _ => True)) 0 0 (fun _ => False)
section
variable {l : Launch} {y : MethodName} {ws ws' : List Cond} {rm : Room} {cc : ByteArray} {maxL : Nat} {av : List Value} {KX : State → Prop}
theorem st_metG {post : Int32 → Prop} {ty : FieldType} (own : String) (hy : plainName y.cls = true) (hoc : y.cls = own) (hw : ws = Cond.code y cc maxL (some ty) :: ws') (hav : (lg_sl av).length ≤ maxL)
    (body : ∀ (p : Program) (e : Env) (s : State) (m : MethodId) (args : Array Value) (below : List Frame) (meth : Method) (c : Code) (QQ : State → Prop) (ls : Array Slot), CallFix p m c cc maxL s args ws own → KX s → lv_has ls maxL (lv_args 0 av) →
      (∀ (v : Int32) (pc : Nat) (ls : Array Slot), narrow ty (.int v) = .int v → post v → decode cc pc = .ok (.ireturn, 1) → W p l e rm s m args below meth c s.heap [] 0 0 QQ (F0 m pc ls [.int v])) →
      W p l e rm s m args below meth c s.heap [] 0 0 QQ (F0 m 0 ls [])) : RoG l y ws rm av KX post := by
  refine Met.ofW (cc := cc) (maxL := maxL) (ret := some ty) hy hw ?_
  intro p e s m args below meth c s₁ B hml hv
  obtain ⟨rfl, hK⟩ := hv
  have hts := atoms_spec (ws := ws) B.pre
  have hown : s.vm.findClass own = some m.cls := by rw [← hoc]; exact findClass_of_methodNamed B.named
  have hlocks := B.notSynchronized
  have hr := B.returns
  refine st_ent hav (fun ls hl => ?_)
  refine body p e s m av.toArray below meth c _ ls ⟨B.exec, B.bytes, hml, hown, hts⟩ hK hl ?_
  intro v pc ls hn hp hdg
  exact W.zret (v := v) B.exec B.bytes hr hn (fun t ht hW => ⟨v, rfl, hp, ht⟩) (fun q hq => by cases hq) hdg
theorem st_metGv (own : String) (hy : plainName y.cls = true) (hoc : y.cls = own) (hw : ws = Cond.code y cc maxL none :: ws') (hav : (lg_sl av).length ≤ maxL)
    (body : ∀ (p : Program) (e : Env) (s : State) (m : MethodId) (args : Array Value) (below : List Frame) (meth : Method) (c : Code) (QQ : State → Prop) (ls : Array Slot), CallFix p m c cc maxL s args ws own → KX s → lv_has ls maxL (lv_args 0 av) →
      (∀ (pc : Nat) (ls : Array Slot), decode cc pc = .ok (.return_, 1) → W p l e rm s m args below meth c s.heap [] 0 0 QQ (F0 m pc ls [])) →
      W p l e rm s m args below meth c s.heap [] 0 0 QQ (F0 m 0 ls [])) : RoGv l y ws rm av KX := by
  refine Met.ofW (cc := cc) (maxL := maxL) (ret := none) hy hw ?_
  intro p e s m args below meth c s₁ B hml hv
  obtain ⟨rfl, hK⟩ := hv
  have hts := atoms_spec (ws := ws) B.pre
  have hown : s.vm.findClass own = some m.cls := by rw [← hoc]; exact findClass_of_methodNamed B.named
  have hlocks := B.notSynchronized
  have hr := B.returns
  refine st_ent hav (fun ls hl => ?_)
  refine body p e s m av.toArray below meth c _ ls ⟨B.exec, B.bytes, hml, hown, hts⟩ hK hl ?_
  intro pc ls hdg
  exact W.vret B.exec B.bytes hr (fun t ht hW => ⟨rfl, trivial, ht⟩) (fun q hq => by cases hq) hdg
end
section
variable {p : Program} {l : Launch} {e : Env} {R : Room} {s : State} {m : MethodId} {args : Array Value} {below : List Frame} {meth : Method} {c : Code} {H : Heap} {locs : List Loc} {Q : State → Prop}
variable {cc bytes : ByteArray} {nL maxL index n : Nat} {Ts ws ws' : List Cond} {own C : String} {y : MethodName} {ret : Option FieldType} {rm : Room} {b : Nat} {As rest st : List Value} {pc : Nat} {ls : Array Slot} {KX : State → Prop} {Qc : Array Value → State → Outcome → State → Prop} {free : Addr → Prop} {a : Array Value}
theorem st_runGV (F : CallFix p m c cc nL s args Ts own) (hM : Met l y ws rm (va_Pc (.ref b :: As) KX) Qc 0 0 free) (hbl : ∀ (U : State) (g : JFrame) (mk : MethodId) (a : Array Value), KX U → KX (U.calling g mk a)) (hrec : ∃ cellB : Cell, H[b]? = some cellB ∧ cellB.vm.isStatics = false ∧ s.vm.findClass C = some cellB.cls) (hpre : ∀ U : State, U.heap = H → s.WarmedH U.vm → KX U) (hG : GoodIn Ts (wsV own index C y ws)) (hw : ws = Cond.code y bytes maxL ret :: ws') (hd : y.cls = C ∧ y.cls ≠ "java/lang/invoke/MethodHandle" ∧ y.cls ≠ "java/lang/invoke/VarHandle" ∧ (parseMethodDescriptor y.desc).map (fun d => d.parameters.length) = some n) (hR : rV R rm maxL = true)
    (hn : As.length = n) (hls : ls.size = nL) (hst : st = As.reverse ++ .ref b :: rest) (hW : (rest.map fun v => v.category).sum ≤ 8) (hdg : decode cc pc = .ok (.invokevirtual index, 3)) :
    va_Run p l e R s m args below meth c H locs 0 0 0 0 (F0 m pc ls st) rest (Qc (Value.ref b :: As).toArray) free := by
  obtain ⟨r1, r2, r3, r4⟩ := rV_ok hR
  exact va_runV F hM (cwV n F.2.2.2.2 hG hw r1 r2 hd ⟨r3, r4⟩) ⟨fun a U g mk q => ⟨q.1, hbl U g mk a q.2⟩, hrec, fun U hU hW => ⟨rfl, hpre U hU hW⟩⟩ rfl hn hls hst (lv_room hW) hdg ⟨Nat.zero_le _, Nat.zero_le _⟩
theorem st_runGS (F : CallFix p m c cc nL s args Ts own) (hM : Met l y ws rm (va_Pc As KX) Qc 0 0 free) (hbl : ∀ (U : State) (g : JFrame) (mk : MethodId) (a : Array Value), KX U → KX (U.calling g mk a)) (hpre : ∀ U : State, U.heap = H → s.WarmedH U.vm → KX U) (hG : GoodIn Ts (va_wsS own index y ws)) (hw : ws = Cond.code y bytes maxL ret :: ws') (hd : y.cls ≠ "java/lang/invoke/MethodHandle" ∧ y.cls ≠ "java/lang/invoke/VarHandle" ∧ (parseMethodDescriptor y.desc).map (fun d => d.parameters.length) = some n) (hR : rV R rm maxL = true)
    (hn : As.length = n) (hls : ls.size = nL) (hst : st = As.reverse ++ rest) (hW : (rest.map fun v => v.category).sum ≤ 8) (hdg : decode cc pc = .ok (.invokestatic index, 3)) :
    va_Run p l e R s m args below meth c H locs 0 0 0 0 (F0 m pc ls st) rest (Qc As.toArray) free := by
  obtain ⟨r1, r2, r3, r4⟩ := rV_ok hR
  exact va_runS F hM (va_cwS n F.2.2.2.2 hG hw r1 r2 hd ⟨r3, r4⟩) ⟨fun a U g mk q => ⟨q.1, hbl U g mk a q.2⟩, fun U hU hW => ⟨rfl, hpre U hU hW⟩⟩ rfl hn hls hst (lv_room hW) hdg ⟨Nat.zero_le _, Nat.zero_le _⟩
theorem st_callGv (hr : va_Run p l e R s m args below meth c H locs 0 0 0 0 (F0 m pc ls st) rest (va_Sv (fun _ => True) a) (fun _ => False))
    (kk : W p l e R s m args below meth c H locs 0 0 Q (F0 m (pc + 3) ls rest)) : W p l e R s m args below meth c H locs 0 0 Q (F0 m pc ls st) := by
  intro T hT X
  obtain ⟨v, st₀, t, T', L, h0, X', hL, e1, e2, ⟨hv, -, hh⟩, st⟩ := hr T hT X
  cases hv
  obtain ⟨t2, a1, b1⟩ := kk T' (by rw [e1, hh, h0]) (Stand.forget X' (fun q h => (hL q h).elim))
  exact ⟨t2, st t2 a1, b1⟩
end
abbrev rm_J0 : Room := { frames := 0, cells := 0, slots := 0, locals := 0 }
abbrev rm_J1 : Room := { frames := 1, cells := 0, slots := 0, locals := 60 }
abbrev rm_J2 : Room := { frames := 2, cells := 0, slots := 0, locals := 120 }
abbrev rm_J3 : Room := { frames := 3, cells := 0, slots := 0, locals := 180 }
abbrev rm_J4 : Room := { frames := 4, cells := 0, slots := 0, locals := 240 }
abbrev KS (adK adV : Nat → Nat) : State → Prop := fun U => SP adK adV (fun _ => False) U U.heap
theorem KS.bl {adK adV : Nat → Nat} : ∀ (U : State) (g : JFrame) (mk : MethodId) (a : Array Value), KS adK adV U → KS adK adV (U.calling g mk a) := fun U g mk a h => SP.call h
theorem KS.pre {adK adV : Nat → Nat} {s : State} (h : KS adK adV s) : ∀ U : State, U.heap = s.heap → s.WarmedH U.vm → KS adK adV U := fun U hU hW => by
  show SP adK adV _ U U.heap
  rw [hU]
  exact SP.warm hW h
set_option maxHeartbeats 4000000 in
set_option maxRecDepth 100000 in
theorem co_Str_coder (l : Launch) (adK adV : Nat → Nat) (k : Nat) (hk : k < 5) : RoG l yJ0_coder_7d493 wsJ0_coder_7d493 rm_J0 [.ref (adK k)] (KS adK adV) (fun r => r = 0) := by
  refine st_metG (cc := cJ0_coder_7d493) (maxL := 1) (ty := .byte) RJ0 (by decide) rfl rfl (Nat.le_of_ble_eq_true rfl) ?_
  intro p e s m args below meth c QQ ls F hSP hl hret
  have hx := F.1
  have hb := F.2.1
  have hown := F.2.2.2.1
  have hts := F.2.2.2.2
  have hS : va_S (fun _ => False) s.heap s.heap [] := va_S.rf
  have hl : lv_has ls 1 [(0, .ref (adK k))] := hl
  refine va_gets hx hb hSP.2.1 hS hown (hts (.fieldLink RJ0 38 "java/lang/String" "COMPACT_STRINGS" "Z") (List.mem_of_getElem? (i := 1) rfl)) (fun _ h9 => h9) dJ0_coder_7d493_0 ?_
  refine lv_if_eq (tgt := 13) hx hb dJ0_coder_7d493_3 (by decide) (fun c1 => absurd c1 (by decide)) (fun _ => ?_)
  refine lv_aload_n hx hb dJ0_coder_7d493_6 rfl (lv_at hl 0 rfl) ?_
  refine vk_getf hx hb (hSP.1.1 k hk).2.1 hS hown (hts (.fieldLink RJ0 15 "java/lang/String" "coder" "B") (List.mem_of_getElem? (i := 2) rfl)) (fun _ h9 => h9) dJ0_coder_7d493_7 ?_
  refine lv_goto (tgt := 14) hx hb dJ0_coder_7d493_10 (by decide) ?_
  exact hret _ _ _ rfl rfl dJ0_coder_7d493_14
set_option maxHeartbeats 4000000 in
set_option maxRecDepth 100000 in
theorem co_Str_length (l : Launch) (adK adV : Nat → Nat) (k : Nat) (hk : k < 5) : RoG l yJ0_length_8abf5 wsJ0_length_8abf5 rm_J1 [.ref (adK k)] (KS adK adV) (fun r => r = ishr (strL k) 0) := by
  refine st_metG (cc := cJ0_length_8abf5) (maxL := 1) (ty := .int) RJ0 (by decide) rfl rfl (Nat.le_of_ble_eq_true rfl) ?_
  intro p e s m args below meth c QQ ls F hSP hl hret
  have hx := F.1
  have hb := F.2.1
  have hown := F.2.2.2.1
  have hts := F.2.2.2.2
  have hS : va_S (fun _ => False) s.heap s.heap [] := va_S.rf
  have hl : lv_has ls 1 [(0, .ref (adK k))] := hl
  refine lv_aload_n hx hb dJ0_length_8abf5_0 rfl (lv_at hl 0 rfl) ?_
  refine vk_getf hx hb (hSP.1.1 k hk).2.2.1 hS hown (hts (.fieldLink RJ0 9 "java/lang/String" "value" "[B") (List.mem_of_getElem? (i := 1) rfl)) (fun _ h9 => h9) dJ0_length_8abf5_1 ?_
  refine va_tlen (v := strL k) hx hb (hSP.1.1 k hk).2.2.2 hS rfl dJ0_length_8abf5_4 ?_
  refine lv_aload_n hx hb dJ0_length_8abf5_5 rfl (lv_at hl 0 rfl) ?_
  refine st_callRI (st_runGV (n := 0) (As := []) (rest := [.int (strL k)]) F (co_Str_coder l adK adV k hk) KS.bl (vk_recv hSP.1 hk hS) (KS.pre hSP) gJ0_length_8abf5_J0_coder_7d493 rfl (by decide +kernel) rfl rfl hl.1 rfl (Nat.le_of_ble_eq_true rfl) dJ0_length_8abf5_6) (fun r h => ?_)
  subst h
  refine lv_ishr hx hb dJ0_length_8abf5_9 ?_
  exact hret _ _ _ rfl rfl dJ0_length_8abf5_10
set_option maxHeartbeats 4000000 in
set_option maxRecDepth 100000 in
theorem co_Str_isLatin1 (l : Launch) (adK adV : Nat → Nat) (k : Nat) (hk : k < 5) : RoG l yJ0_isLatin1_aae02 wsJ0_isLatin1_aae02 rm_J0 [.ref (adK k)] (KS adK adV) (fun r => r = 1) := by
  refine st_metG (cc := cJ0_isLatin1_aae02) (maxL := 1) (ty := .boolean) RJ0 (by decide) rfl rfl (Nat.le_of_ble_eq_true rfl) ?_
  intro p e s m args below meth c QQ ls F hSP hl hret
  have hx := F.1
  have hb := F.2.1
  have hown := F.2.2.2.1
  have hts := F.2.2.2.2
  have hS : va_S (fun _ => False) s.heap s.heap [] := va_S.rf
  have hl : lv_has ls 1 [(0, .ref (adK k))] := hl
  refine va_gets hx hb hSP.2.1 hS hown (hts (.fieldLink RJ0 38 "java/lang/String" "COMPACT_STRINGS" "Z") (List.mem_of_getElem? (i := 1) rfl)) (fun _ h9 => h9) dJ0_isLatin1_aae02_0 ?_
  refine lv_if_eq (tgt := 17) hx hb dJ0_isLatin1_aae02_3 (by decide) (fun c1 => absurd c1 (by decide)) (fun _ => ?_)
  refine lv_aload_n hx hb dJ0_isLatin1_aae02_6 rfl (lv_at hl 0 rfl) ?_
  refine vk_getf hx hb (hSP.1.1 k hk).2.1 hS hown (hts (.fieldLink RJ0 15 "java/lang/String" "coder" "B") (List.mem_of_getElem? (i := 2) rfl)) (fun _ h9 => h9) dJ0_isLatin1_aae02_7 ?_
  refine lv_if_ne (tgt := 17) hx hb dJ0_isLatin1_aae02_10 (by decide) (fun c1 => absurd rfl c1) (fun _ => ?_)
  refine lv_iconst (v := 1) hx hb dJ0_isLatin1_aae02_13 (by decide) ?_
  refine lv_goto (tgt := 18) hx hb dJ0_isLatin1_aae02_14 (by decide) ?_
  exact hret _ _ _ rfl rfl dJ0_isLatin1_aae02_18
set_option maxHeartbeats 4000000 in
set_option maxRecDepth 100000 in
theorem co_Str_pre (l : Launch) (adK adV : Nat → Nat) (i n : Int32) (v : Value) (hv : v.category = 1) (h0 : ¬ i < 0) (h1 : i < n) : RoG l yJ3_checkIndex_8e157 wsJ3_checkIndex_8e157 rm_J0 [.int i, .int n, v] (KS adK adV) (fun r => r = i) := by
  refine st_metG (cc := cJ3_checkIndex_8e157) (maxL := 3) (ty := .int) RJ3 (by decide) rfl rfl (by cases v <;> first | exact Nat.le_of_ble_eq_true rfl | exact absurd hv (by simp [Value.category])) ?_
  intro p e s m args below meth c QQ ls F hSP hl hret
  have hx := F.1
  have hb := F.2.1
  have hown := F.2.2.2.1
  have hts := F.2.2.2.2
  have hS : va_S (fun _ => False) s.heap s.heap [] := va_S.rf
  have hl : lv_has ls 3 [(0, .int i), (1, .int n), (2, v)] := hl
  refine lv_iload_n hx hb dJ3_checkIndex_8e157_0 rfl (lv_at hl 0 rfl) ?_
  refine lv_if_lt (tgt := 9) hx hb dJ3_checkIndex_8e157_1 (by decide) (fun c1 => absurd c1 h0) (fun _ => ?_)
  refine lv_iload_n hx hb dJ3_checkIndex_8e157_4 rfl (lv_at hl 0 rfl) ?_
  refine lv_iload_n hx hb dJ3_checkIndex_8e157_5 rfl (lv_at hl 1 rfl) ?_
  refine lv_icmp_lt (tgt := 16) hx hb dJ3_checkIndex_8e157_6 (by decide) (fun _ => ?_) (fun c1 => absurd h1 c1)
  refine lv_iload_n hx hb dJ3_checkIndex_8e157_16 rfl (lv_at hl 0 rfl) ?_
  exact hret _ _ _ rfl rfl dJ3_checkIndex_8e157_17
set_option maxHeartbeats 4000000 in
set_option maxRecDepth 100000 in
theorem co_Str_check (l : Launch) (adK adV : Nat → Nat) (i n : Int32) (h0 : ¬ i < 0) (h1 : i < n) : RoGv l yJ0_checkIndex_df160 wsJ0_checkIndex_df160 rm_J1 [.int i, .int n] (KS adK adV) := by
  refine st_metGv (cc := cJ0_checkIndex_df160) (maxL := 2) RJ0 (by decide) rfl rfl (Nat.le_of_ble_eq_true rfl) ?_
  intro p e s m args below meth c QQ ls F hSP hl hret
  have hx := F.1
  have hb := F.2.1
  have hown := F.2.2.2.1
  have hts := F.2.2.2.2
  have hS : va_S (fun _ => False) s.heap s.heap [] := va_S.rf
  have hl : lv_has ls 2 [(0, .int i), (1, .int n)] := hl
  refine lv_iload_n hx hb dJ0_checkIndex_df160_0 rfl (lv_at hl 0 rfl) ?_
  refine lv_iload_n hx hb dJ0_checkIndex_df160_1 rfl (lv_at hl 1 rfl) ?_
  have key : ∀ v : Value, v.category = 1 → W p l e rm_J1 s m args below meth c s.heap [] 0 0 QQ (F0 m 5 ls [v, .int n, .int i]) := by
    intro v hv
    refine st_callRI (st_runGS (n := 3) (As := [.int i, .int n, v]) (rest := []) F (co_Str_pre l adK adV i n v hv h0 h1) KS.bl (KS.pre hSP) gJ0_checkIndex_df160_J3_checkIndex_8e157 rfl (by decide +kernel) rfl rfl hl.1 rfl (Nat.le_of_ble_eq_true rfl) dJ0_checkIndex_df160_5) (fun r h => ?_)
    refine lv_pop hx hb dJ0_checkIndex_df160_8 rfl ?_
    exact hret _ _ dJ0_checkIndex_df160_9
  rcases hSP.2.2.1 with hz | ⟨t, hz⟩
  · refine va_gets hx hb hz hS hown (hts (.fieldLink RJ0 1053 "jdk/internal/util/Preconditions" "SIOOBE_FORMATTER" "Ljava/util/function/BiFunction;") (List.mem_of_getElem? (i := 1) rfl)) (fun _ h9 => h9) dJ0_checkIndex_df160_2 ?_
    exact key _ rfl
  · refine va_gets hx hb hz hS hown (hts (.fieldLink RJ0 1053 "jdk/internal/util/Preconditions" "SIOOBE_FORMATTER" "Ljava/util/function/BiFunction;") (List.mem_of_getElem? (i := 1) rfl)) (fun _ h9 => h9) dJ0_checkIndex_df160_2 ?_
    exact key _ rfl
set_option maxHeartbeats 4000000 in
set_option maxRecDepth 100000 in
theorem co_Str_l1 (l : Launch) (adK adV : Nat → Nat) (k : Nat) (hk : k < 5) (i : Int32) (hi : vp_in i (lenJ.getD k 0)) : RoG l yJ1_charAt_3b067 wsJ1_charAt_3b067 rm_J2 [.ref (adV k), .int i] (KS adK adV) (fun r => r = strC k i) := by
  refine st_metG (cc := cJ1_charAt_3b067) (maxL := 2) (ty := .char) RJ1 (by decide) rfl rfl (Nat.le_of_ble_eq_true rfl) ?_
  intro p e s m args below meth c QQ ls F hSP hl hret
  have hx := F.1
  have hb := F.2.1
  have hown := F.2.2.2.1
  have hts := F.2.2.2.2
  have hS : va_S (fun _ => False) s.heap s.heap [] := va_S.rf
  have hl : lv_has ls 2 [(0, .ref (adV k)), (1, .int i)] := hl
  have h0 : ¬ i < 0 := fun q => hi (Or.inl q)
  have hL : lenJ.getD k 0 < 2 ^ 31 := by rcases (show k = 0 ∨ k = 1 ∨ k = 2 ∨ k = 3 ∨ k = 4 by omega) with rfl | rfl | rfl | rfl | rfl <;> decide
  have h1 : i < strL k := by
    obtain ⟨j, hj, rfl⟩ := vp_in_of hi hL
    exact nI_lt hj hL
  refine lv_iload_n hx hb dJ1_charAt_3b067_0 rfl (lv_at hl 1 rfl) ?_
  refine lv_aload_n hx hb dJ1_charAt_3b067_1 rfl (lv_at hl 0 rfl) ?_
  refine va_tlen (v := strL k) hx hb (hSP.1.1 k hk).2.2.2 hS rfl dJ1_charAt_3b067_2 ?_
  refine st_callGv (st_runGS (n := 2) (As := [.int i, .int (strL k)]) (rest := []) F (co_Str_check l adK adV i (strL k) h0 h1) KS.bl (KS.pre hSP) gJ1_charAt_3b067_J0_checkIndex_df160 rfl (by decide +kernel) rfl rfl hl.1 rfl (Nat.le_of_ble_eq_true rfl) dJ1_charAt_3b067_3) ?_
  refine lv_aload_n hx hb dJ1_charAt_3b067_6 rfl (lv_at hl 0 rfl) ?_
  refine lv_iload_n hx hb dJ1_charAt_3b067_7 rfl (lv_at hl 1 rfl) ?_
  refine va_tb hx hb (hSP.1.1 k hk).2.2.2 hS hi rfl dJ1_charAt_3b067_8 ?_
  refine lv_sipush (v := 255) hx hb dJ1_charAt_3b067_9 (by decide) ?_
  refine lv_iand hx hb dJ1_charAt_3b067_12 ?_
  refine lv_i2c hx hb dJ1_charAt_3b067_13 rfl ?_
  exact hret _ _ _ (pk_nc _) rfl dJ1_charAt_3b067_14
set_option maxHeartbeats 4000000 in
set_option maxRecDepth 100000 in
theorem co_Str_charAt (l : Launch) (adK adV : Nat → Nat) (k : Nat) (hk : k < 5) (i : Int32) (hi : vp_in i (lenJ.getD k 0)) : RoG l yJ0_charAt_5068e wsJ0_charAt_5068e rm_J3 [.ref (adK k), .int i] (KS adK adV) (fun r => r = strC k i) := by
  refine st_metG (cc := cJ0_charAt_5068e) (maxL := 2) (ty := .char) RJ0 (by decide) rfl rfl (Nat.le_of_ble_eq_true rfl) ?_
  intro p e s m args below meth c QQ ls F hSP hl hret
  have hx := F.1
  have hb := F.2.1
  have hown := F.2.2.2.1
  have hts := F.2.2.2.2
  have hS : va_S (fun _ => False) s.heap s.heap [] := va_S.rf
  have hl : lv_has ls 2 [(0, .ref (adK k)), (1, .int i)] := hl
  refine lv_aload_n hx hb dJ0_charAt_5068e_0 rfl (lv_at hl 0 rfl) ?_
  refine st_callRI (st_runGV (n := 0) (As := []) (rest := []) F (co_Str_isLatin1 l adK adV k hk) KS.bl (vk_recv hSP.1 hk hS) (KS.pre hSP) gJ0_charAt_5068e_J0_isLatin1_aae02 rfl (by decide +kernel) rfl rfl hl.1 rfl (Nat.le_of_ble_eq_true rfl) dJ0_charAt_5068e_1) (fun r h => ?_)
  subst h
  refine lv_if_eq (tgt := 16) hx hb dJ0_charAt_5068e_4 (by decide) (fun c1 => absurd c1 (by decide)) (fun _ => ?_)
  refine lv_aload_n hx hb dJ0_charAt_5068e_7 rfl (lv_at hl 0 rfl) ?_
  refine vk_getf hx hb (hSP.1.1 k hk).2.2.1 hS hown (hts (.fieldLink RJ0 9 "java/lang/String" "value" "[B") (List.mem_of_getElem? (i := 1) rfl)) (fun _ h9 => h9) dJ0_charAt_5068e_8 ?_
  refine lv_iload_n hx hb dJ0_charAt_5068e_11 rfl (lv_at hl 1 rfl) ?_
  refine st_callRI (st_runGS (n := 2) (As := [.ref (adV k), .int i]) (rest := []) F (co_Str_l1 l adK adV k hk i hi) KS.bl (KS.pre hSP) gJ0_charAt_5068e_J1_charAt_3b067 rfl (by decide +kernel) rfl rfl hl.1 rfl (Nat.le_of_ble_eq_true rfl) dJ0_charAt_5068e_12) (fun r h => ?_)
  subst h
  exact hret _ _ _ (pk_nc _) rfl dJ0_charAt_5068e_15
/-- readers and writers that need the String constants -/
abbrev KXs (D : va_G) (cy : ClassId × ClassId × ClassId × ClassId) (adK adV : Nat → Nat) (WS : va_W) : State → Prop := fun U => va_P D vwCl WS U.heap ∧ KK D cy U ∧ SP adK adV (fun _ => False) U U.heap
theorem KXs.bl {D : va_G} {cy : ClassId × ClassId × ClassId × ClassId} {adK adV : Nat → Nat} {WS : va_W} : ∀ (U : State) (g : JFrame) (mk : MethodId) (a : Array Value), KXs D cy adK adV WS U → KXs D cy adK adV WS (U.calling g mk a) := fun U g mk a h => ⟨h.1, h.2.1.call, SP.call h.2.2⟩
theorem KXs.pre {D : va_G} {cy : ClassId × ClassId × ClassId × ClassId} {adK adV : Nat → Nat} {WS : va_W} {s : State} {H : Heap} (hP : va_P D vwCl WS H) (hK : KK D cy s) (h : SP adK adV (fun _ => False) s H) : ∀ U : State, U.heap = H → s.WarmedH U.vm → KXs D cy adK adV WS U := fun U hU hW => by
  show va_P D vwCl WS U.heap ∧ KK D cy U ∧ SP adK adV _ U U.heap
  rw [hU]
  exact ⟨hP, hK.warm hW, SP.warm hW h⟩
def CoIs {S : Type} (l : Launch) (y : MethodName) (ws : List Cond) (rm : Room) (D : va_G) (cy : ClassId × ClassId × ClassId × ClassId) (adK adV : Nat → Nat) (av : List Value) (WS : va_W) (WSp : S → va_W) (post : Int32 → S → Prop) : Prop :=
  ∀ sz : Nat, Met l y ws rm (va_Pc av (fun U => U.heap.size = sz ∧ va_P D vwCl WS U.heap ∧ KK D cy U ∧ va_D (fun _ => True) WS ∧ SP adK adV (va_A WS sz) U U.heap)) (va_Qi post (fun u t => va_P D vwCl (WSp u) t.heap ∧ va_D (va_A WS sz) (WSp u)) (va_A WS sz)) 0 0 (va_A WS sz)
theorem st_metIs {l : Launch} {y : MethodName} {ws ws' : List Cond} {rm : Room} {cc : ByteArray} {maxL : Nat} {D : va_G} {cy : ClassId × ClassId × ClassId × ClassId} {adK adV : Nat → Nat} {av : List Value} {WS : va_W} {S : Type} {WSp : S → va_W} {post : Int32 → S → Prop} (own : String) (hy : plainName y.cls = true) (hoc : y.cls = own) (hw : ws = Cond.code y cc maxL (some .int) :: ws') (hav : (lg_sl av).length ≤ maxL)
    (body : ∀ (p : Program) (e : Env) (s : State) (m : MethodId) (args : Array Value) (below : List Frame) (meth : Method) (c : Code) (A : Nat → Prop) (QQ : State → Prop) (ls : Array Slot), CallFix p m c cc maxL s args ws own → (∀ q, s.heap.size ≤ q → A q) → KK D cy s → SP adK adV A s s.heap → va_P D vwCl WS s.heap → va_D A WS → va_S A s.heap s.heap [] → lv_has ls maxL (lv_args 0 av) →
      (∀ (v : Int32) (u : S) (H : Heap) (locs : List Loc) (pc : Nat) (ls : Array Slot), post v u → va_P D vwCl (WSp u) H → va_D A (WSp u) → va_S A s.heap H locs → decode cc pc = .ok (.ireturn, 1) → W p l e rm s m args below meth c H locs 0 0 QQ (F0 m pc ls [.int v])) →
      W p l e rm s m args below meth c s.heap [] 0 0 QQ (F0 m 0 ls [])) : CoIs l y ws rm D cy adK adV av WS WSp post := by
  intro sz
  refine Met.ofW (cc := cc) (maxL := maxL) (ret := some .int) hy hw ?_
  intro p e s m args below meth c s₁ B hml hv
  obtain ⟨rfl, hsz, hP, hK, hD0, hSP⟩ := hv
  have hts := atoms_spec (ws := ws) B.pre
  have hown : s.vm.findClass own = some m.cls := by rw [← hoc]; exact findClass_of_methodNamed B.named
  have hlocks := B.notSynchronized
  have hr := B.returns
  subst hsz
  refine st_ent hav (fun ls hl => ?_)
  refine body p e s m av.toArray below meth c (va_A WS s.heap.size) _ ls ⟨B.exec, B.bytes, hml, hown, hts⟩ (fun q h => Or.inr h) hK hSP hP hD0.self va_S.rf hl ?_
  intro v u H locs pc ls hp hP hD hS hdg
  exact W.iret (v := v) B.exec B.bytes hr (fun t ht hW => ⟨⟨v, u, rfl, hp, by rw [ht]; exact hP, hD⟩, hS.F ht⟩) hS.2.2 hdg
theorem st_runVs {p : Program} {l : Launch} {e : Env} {R : Room} {s : State} {m : MethodId} {args : Array Value} {below : List Frame} {meth : Method} {c : Code} {H : Heap} {locs : List Loc} {cc bytes : ByteArray} {nL maxL index n : Nat} {Ts ws ws' : List Cond} {own C : String} {y : MethodName} {ret : Option FieldType} {rm : Room} {D : va_G} {cy : ClassId × ClassId × ClassId × ClassId} {adK adV : Nat → Nat} {b : Nat} {As rest st : List Value} {pc : Nat} {ls : Array Slot} {A : Nat → Prop} {H0 : Heap} {WS WC : va_W} {Qc : Array Value → State → Outcome → State → Prop} {free : Addr → Prop} {sz : Nat} (F : CallFix p m c cc nL s args Ts own) (hM : Met l y ws rm (va_Pc (.ref b :: As) (fun U => U.heap.size = sz ∧ va_P D vwCl WC U.heap ∧ KK D cy U ∧ va_D (fun _ => True) WC ∧ SP adK adV (va_A WC sz) U U.heap)) Qc 0 0 free) (hsz : H.size = sz) (hG : GoodIn Ts (wsV own index C y ws)) (hw : ws = Cond.code y bytes maxL ret :: ws') (hd : y.cls = C ∧ y.cls ≠ "java/lang/invoke/MethodHandle" ∧ y.cls ≠ "java/lang/invoke/VarHandle" ∧ (parseMethodDescriptor y.desc).map (fun d => d.parameters.length) = some n) (hR : rV R rm maxL = true)
    (hK : KK D cy s) (hSP : SP adK adV A s H0) (hP : va_P D vwCl WS H) (hD : va_D A WS) (hS : va_S A H0 H locs) (hA : ∀ q, H0.size ≤ q → A q) (isC : List Nat) (hC : plc isC WS WC) (hnd : va_nd isC = true) {q0 ci : Nat} {fs : List Value} {T : u_T} {N : Nat} (he : WC[q0]? = some (b, .inr (ci, fs))) (hcl : vwCl[ci]? = some (C, T, N)) (hn : As.length = n) (hls : ls.size = nL) (hst : st = As.reverse ++ .ref b :: rest) (hW : (rest.map fun v => v.category).sum ≤ 8) (hdg : decode cc pc = .ok (.invokevirtual index, 3)) :
    va_Run p l e R s m args below meth c H locs 0 0 0 0 (F0 m pc ls st) rest (Qc (Value.ref b :: As).toArray) free := by
  obtain ⟨r1, r2, r3, r4⟩ := rV_ok hR
  have hPc : va_P D vwCl WC H := hP.sub isC (st_sub hC)
  have hDc : va_D A WC := hD.sub isC hnd hC
  have hFc := va_free (wc := WC) hD hS hA isC hC
  subst hsz
  refine va_runV F hM (cwV n F.2.2.2.2 hG hw r1 r2 hd ⟨r3, r4⟩) ⟨fun a U g mk q => ⟨q.1, q.2.1, q.2.2.1, q.2.2.2.1.call, q.2.2.2.2.1, SP.call q.2.2.2.2.2⟩, va_recv hK.1 hPc hcl he, fun U hU hW => ⟨rfl, by rw [hU], by rw [hU]; exact hPc, hK.warm hW, hDc.weaken (fun _ _ _ _ => trivial), ?_⟩⟩ rfl hn hls hst (lv_room hW) hdg ⟨Nat.zero_le _, Nat.zero_le _⟩
  rw [hU]
  exact SP.warm hW ((hSP.keptH hS).narrow hFc)
