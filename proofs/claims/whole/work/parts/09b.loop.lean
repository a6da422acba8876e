/-! the body of the law's loop, and the loop -/
set_option maxHeartbeats 4000000 in
set_option maxRecDepth 100000 in
theorem law_body {p : Program} {e : Env} {s : State} {m : MethodId} {below : List Frame} {meth : Method} {c : Code} {cells slots : Nat} {QQ : State → Prop} (l : Launch) {b L : Nat} {xs : Nat → Int32} {D : va_G} {cy : ClassId × ClassId × ClassId × ClassId} {adK adV : Nat → Nat} {A : Nat → Prop} {ax am : Nat} {ux um : Nat → Nat} (F : CallFix p m c cL_law 4 s #[Value.ref b] wsL_law RL) (hKK : KK D cy s) (hSP : SP adK adV A s s.heap) (hA : ∀ q, s.heap.size ≤ q → A q) (hX : va_X b L xs s s.heap) (hbl : b < s.heap.size) (hbA : ¬ A b) (hL : L ≤ 384) (hf : cells ≤ room_1.cells ∧ slots ≤ room_1.slots) {H : Heap} {locs : List Loc} {i : Nat} (hi : i + 6 ≤ L) {ls : Array Slot} (hl : lv_has ls 4 [(0, .ref b), (1, .ref ax), (2, .ref am), (3, .int (nI i))]) (hS : va_S A s.heap H locs) (h : LwI D cy A ax am ux um H) (kk : ∀ H1 locs1, LwI D cy A ax am ux um H1 → va_S A s.heap H1 locs1 → W p l e room_1 s m #[Value.ref b] below meth c H1 locs1 cells slots QQ (F0 m 1330 ls [])) : W p l e room_1 s m #[Value.ref b] below meth c H locs cells slots QQ (F0 m 27 ls []) := by
  have hx := F.1
  have hb := F.2.1
  refine lv_aload_n hx hb dL_law_27 rfl (lv_at hl 0 rfl) ?_
  refine lv_iload_n hx hb dL_law_28 rfl (lv_at hl 3 rfl) ?_
  refine va_sld hx hb hX hbl hbA hS (i := nI i) (vp_in_nI (by omega) (by omega)) dL_law_29 ?_
  refine lv_bipush (v := 63) hx hb dL_law_30 (by decide) ?_
  refine lv_iand hx hb dL_law_32 ?_
  obtain ⟨j, hj, ej⟩ := pk_andE (xs (Int32.toNatClampNeg (nI i))) (m := 63) 6 (by decide)
  rw [ej]
  rcases (show j = 0 ∨ j = 1 ∨ j = 2 ∨ j = 3 ∨ j = 4 ∨ j = 5 ∨ j = 6 ∨ j = 7 ∨ j = 8 ∨ j = 9 ∨ j = 10 ∨ j = 11 ∨ j = 12 ∨ j = 13 ∨ j = 14 ∨ j = 15 ∨ j = 16 ∨ j = 17 ∨ j = 18 ∨ j = 19 ∨ j = 20 ∨ j = 21 ∨ j = 22 ∨ j = 23 ∨ j = 24 ∨ j = 25 ∨ j = 26 ∨ j = 27 ∨ j = 28 ∨ j = 29 ∨ j = 30 ∨ j = 31 ∨ j = 32 ∨ j = 33 ∨ j = 34 ∨ j = 35 ∨ j = 36 ∨ j = 37 ∨ j = 38 ∨ j = 39 ∨ 40 ≤ j by omega) with rfl | rfl | rfl | rfl | rfl | rfl | rfl | rfl | rfl | rfl | rfl | rfl | rfl | rfl | rfl | rfl | rfl | rfl | rfl | rfl | rfl | rfl | rfl | rfl | rfl | rfl | rfl | rfl | rfl | rfl | rfl | rfl | rfl | rfl | rfl | rfl | rfl | rfl | rfl | rfl | hj40
  · refine lv_tableIn (tgt := 208) hx hb dL_law_33 (by decide) (by decide) (by rfl) (by decide) ?_
    exact cs_parish l F hKK hSP hA hX hbl hbA hL hf hi hl hS h kk
  · refine lv_tableIn (tgt := 221) hx hb dL_law_33 (by decide) (by decide) (by rfl) (by decide) ?_
    exact cs_flitch l F hKK hSP hA hX hbl hbA hL hf hi hl hS h kk
  · refine lv_tableIn (tgt := 264) hx hb dL_law_33 (by decide) (by decide) (by rfl) (by decide) ?_
    exact cs_family l F hKK hSP hA hX hbl hbA hL hf hi hl hS h kk
  · refine lv_tableIn (tgt := 317) hx hb dL_law_33 (by decide) (by decide) (by rfl) (by decide) ?_
    exact cs_type l F hKK hSP hA hX hbl hbA hL hf hi hl hS h kk
  · refine lv_tableIn (tgt := 340) hx hb dL_law_33 (by decide) (by decide) (by rfl) (by decide) ?_
    exact cs_clear l F hKK hSP hA hX hbl hbA hL hf hi hl hS h kk
  · refine lv_tableIn (tgt := 353) hx hb dL_law_33 (by decide) (by decide) (by rfl) (by decide) ?_
    exact cs_read l F hKK hSP hA hX hbl hbA hL hf hi hl hS h kk
  · refine lv_tableIn (tgt := 366) hx hb dL_law_33 (by decide) (by decide) (by rfl) (by decide) ?_
    exact cs_days l F hKK hSP hA hX hbl hbA hL hf hi hl hS h kk
  · refine lv_tableIn (tgt := 389) hx hb dL_law_33 (by decide) (by decide) (by rfl) (by decide) ?_
    exact cs_goes l F hKK hSP hA hX hbl hbA hL hf hi hl hS h kk
  · refine lv_tableIn (tgt := 422) hx hb dL_law_33 (by decide) (by decide) (by rfl) (by decide) ?_
    exact cs_turnip l F hKK hSP hA hX hbl hbA hL hf hi hl hS h kk
  · refine lv_tableIn (tgt := 445) hx hb dL_law_33 (by decide) (by decide) (by rfl) (by decide) ?_
    exact cs_outs l F hKK hSP hA hX hbl hbA hL hf hi hl hS h kk
  · refine lv_tableIn (tgt := 468) hx hb dL_law_33 (by decide) (by decide) (by rfl) (by decide) ?_
    exact cs_undo l F hKK hSP hA hX hbl hbA hL hf hi hl hS h kk
  · refine lv_tableIn (tgt := 481) hx hb dL_law_33 (by decide) (by decide) (by rfl) (by decide) ?_
    exact cs_of l F hKK hSP hA hX hbl hbA hL hf hi hl hS h kk
  · refine lv_tableIn (tgt := 514) hx hb dL_law_33 (by decide) (by decide) (by rfl) (by decide) ?_
    exact cs_about l F hKK hSP hA hX hbl hbA hL hf hi hl hS h kk
  · refine lv_tableIn (tgt := 547) hx hb dL_law_33 (by decide) (by decide) (by rfl) (by decide) ?_
    exact cs_smell l F hKK hSP hA hX hbl hbA hL hf hi hl hS h kk
  · refine lv_tableIn (tgt := 580) hx hb dL_law_33 (by decide) (by decide) (by rfl) (by decide) ?_
    exact cs_then l F hKK hSP hA hX hbl hbA hL hf hi hl hS h kk
  · refine lv_tableIn (tgt := 613) hx hb dL_law_33 (by decide) (by decide) (by rfl) (by decide) ?_
    exact cs_when l F hKK hSP hA hX hbl hbA hL hf hi hl hS h kk
  · refine lv_tableIn (tgt := 636) hx hb dL_law_33 (by decide) (by decide) (by rfl) (by decide) ?_
    exact cs_right l F hKK hSP hA hX hbl hbA hL hf hi hl hS h kk
  · refine lv_tableIn (tgt := 649) hx hb dL_law_33 (by decide) (by decide) (by rfl) (by decide) ?_
    exact cs_ends l F hKK hSP hA hX hbl hbA hL hf hi hl hS h kk
  · refine lv_tableIn (tgt := 672) hx hb dL_law_33 (by decide) (by decide) (by rfl) (by decide) ?_
    exact cs_way l F hKK hSP hA hX hbl hbA hL hf hi hl hS h kk
  · refine lv_tableIn (tgt := 715) hx hb dL_law_33 (by decide) (by decide) (by rfl) (by decide) ?_
    exact cs_home l F hKK hSP hA hX hbl hbA hL hf hi hl hS h kk
  · refine lv_tableIn (tgt := 738) hx hb dL_law_33 (by decide) (by decide) (by rfl) (by decide) ?_
    exact cs_quiet l F hKK hSP hA hX hbl hbA hL hf hi hl hS h kk
  · refine lv_tableIn (tgt := 761) hx hb dL_law_33 (by decide) (by decide) (by rfl) (by decide) ?_
    exact cs_marry l F hKK hSP hA hX hbl hbA hL hf hi hl hS h kk
  · refine lv_tableIn (tgt := 784) hx hb dL_law_33 (by decide) (by decide) (by rfl) (by decide) ?_
    exact cs_seen l F hKK hSP hA hX hbl hbA hL hf hi hl hS h kk
  · refine lv_tableIn (tgt := 827) hx hb dL_law_33 (by decide) (by decide) (by rfl) (by decide) ?_
    exact cs_wills l F hKK hSP hA hX hbl hbA hL hf hi hl hS h kk
  · refine lv_tableIn (tgt := 860) hx hb dL_law_33 (by decide) (by decide) (by rfl) (by decide) ?_
    exact cs_note l F hKK hSP hA hX hbl hbA hL hf hi hl hS h kk
  · refine lv_tableIn (tgt := 923) hx hb dL_law_33 (by decide) (by decide) (by rfl) (by decide) ?_
    exact cs_mark l F hKK hSP hA hX hbl hbA hL hf hi hl hS h kk
  · refine lv_tableIn (tgt := 976) hx hb dL_law_33 (by decide) (by decide) (by rfl) (by decide) ?_
    exact cs_forget l F hKK hSP hA hX hbl hbA hL hf hi hl hS h kk
  · refine lv_tableIn (tgt := 999) hx hb dL_law_33 (by decide) (by decide) (by rfl) (by decide) ?_
    exact cs_is l F hKK hSP hA hX hbl hbA hL hf hi hl hS h kk
  · refine lv_tableIn (tgt := 1022) hx hb dL_law_33 (by decide) (by decide) (by rfl) (by decide) ?_
    exact cs_look l F hKK hSP hA hX hbl hbA hL hf hi hl hS h kk
  · refine lv_tableIn (tgt := 1045) hx hb dL_law_33 (by decide) (by decide) (by rfl) (by decide) ?_
    exact cs_kinds l F hKK hSP hA hX hbl hbA hL hf hi hl hS h kk
  · refine lv_tableIn (tgt := 1068) hx hb dL_law_33 (by decide) (by decide) (by rfl) (by decide) ?_
    exact cs_ask l F hKK hSP hA hX hbl hbA hL hf hi hl hS h kk
  · refine lv_tableIn (tgt := 1091) hx hb dL_law_33 (by decide) (by decide) (by rfl) (by decide) ?_
    exact cs_brothers l F hKK hSP hA hX hbl hbA hL hf hi hl hS h kk
  · refine lv_tableIn (tgt := 1124) hx hb dL_law_33 (by decide) (by decide) (by rfl) (by decide) ?_
    exact cs_mornings l F hKK hSP hA hX hbl hbA hL hf hi hl hS h kk
  · refine lv_tableIn (tgt := 1167) hx hb dL_law_33 (by decide) (by decide) (by rfl) (by decide) ?_
    exact cs_years l F hKK hSP hA hX hbl hbA hL hf hi hl hS h kk
  · refine lv_tableIn (tgt := 1200) hx hb dL_law_33 (by decide) (by decide) (by rfl) (by decide) ?_
    exact cs_part l F hKK hSP hA hX hbl hbA hL hf hi hl hS h kk
  · refine lv_tableIn (tgt := 1224) hx hb dL_law_33 (by decide) (by decide) (by rfl) (by decide) ?_
    exact cs_image l F hKK hSP hA hX hbl hbA hL hf hi hl hS h kk
  · refine lv_tableIn (tgt := 1247) hx hb dL_law_33 (by decide) (by decide) (by rfl) (by decide) ?_
    exact cs_from l F hKK hSP hA hX hbl hbA hL hf hi hl hS h kk
  · refine lv_tableIn (tgt := 1270) hx hb dL_law_33 (by decide) (by decide) (by rfl) (by decide) ?_
    exact cs_status l F hKK hSP hA hX hbl hbA hL hf hi hl hS h kk
  · refine lv_tableIn (tgt := 1293) hx hb dL_law_33 (by decide) (by decide) (by rfl) (by decide) ?_
    exact cs_count l F hKK hSP hA hX hbl hbA hL hf hi hl hS h kk
  · refine lv_tableIn (tgt := 1316) hx hb dL_law_33 (by decide) (by decide) (by rfl) (by decide) ?_
    exact cs_digest l F hKK hSP hA hX hbl hbA hL hf hi hl hS h kk
  · refine lv_tableOut (tgt := 1330) hx hb dL_law_33 (Or.inr ?_) (by decide) (kk _ _ h hS)
    rw [nI_toInt (by omega)]
    omega
set_option maxHeartbeats 4000000 in
set_option maxRecDepth 100000 in
theorem law_loop {p : Program} {e : Env} {s : State} {m : MethodId} {below : List Frame} {meth : Method} {c : Code} {cells slots : Nat} {QQ : State → Prop} (l : Launch) {b L : Nat} {xs : Nat → Int32} {D : va_G} {cy : ClassId × ClassId × ClassId × ClassId} {adK adV : Nat → Nat} {A : Nat → Prop} {ax am : Nat} {ux um : Nat → Nat} (F : CallFix p m c cL_law 4 s #[Value.ref b] wsL_law RL) (hKK : KK D cy s) (hSP : SP adK adV A s s.heap) (hA : ∀ q, s.heap.size ≤ q → A q) (hX : va_X b L xs s s.heap) (hbl : b < s.heap.size) (hbA : ¬ A b) (hL : L ≤ 384) (hf : cells ≤ room_1.cells ∧ slots ≤ room_1.slots) (hend : ∀ H locs ls, va_S A s.heap H locs → W p l e room_1 s m #[Value.ref b] below meth c H locs cells slots QQ (F0 m 1336 ls [])) : ∀ n i, L - i < n → i ≤ L → ∀ (H : Heap) (locs : List Loc) (ls : Array Slot), va_S A s.heap H locs → LwI D cy A ax am ux um H → lv_has ls 4 [(0, .ref b), (1, .ref ax), (2, .ref am), (3, .int (nI i))] → W p l e room_1 s m #[Value.ref b] below meth c H locs cells slots QQ (F0 m 18 ls []) := by
  have hx := F.1
  have hb := F.2.1
  intro n
  induction n with
  | zero => intro i h; exact absurd h (Nat.not_lt_zero _)
  | succ n ih =>
    intro i hn hiL H locs ls hS h hl
    refine lv_iload_n hx hb dL_law_18 rfl (lv_at hl 3 rfl) ?_
    refine lv_aload_n hx hb dL_law_19 rfl (lv_at hl 0 rfl) ?_
    refine va_slen hx hb hX hbl hbA hS dL_law_20 ?_
    refine lv_bipush (v := 6) hx hb dL_law_21 (by decide) ?_
    refine lv_isub hx hb dL_law_23 ?_
    have et : (Int32.ofNat L - 6).toInt = (L : Int) - 6 := pk_sub_toInt (a := L) (b := 6) (by omega) (by omega)
    refine lv_icmp_gt (tgt := 1336) hx hb dL_law_24 (by decide) (fun _ => hend _ _ _ hS) (fun q => ?_)
    have hi : i + 6 ≤ L := by
      rw [Int32.lt_iff_toInt_lt, et, nI_toInt (by omega)] at q
      omega
    refine law_body l F hKK hSP hA hX hbl hbA hL hf hi hl hS h (fun H1 locs1 h1 hS1 => ?_)
    refine lv_iinc (v := nI (i + 6)) (lv' := [(3, .int (nI (i + 6))), (0, .ref b), (1, .ref ax), (2, .ref am)]) hx hb dL_law_1330 hl (k := 3) rfl (nI_add i 6) (by decide) rfl (fun ls hl => ?_)
    refine lv_goto (tgt := 18) hx hb dL_law_1333 (by decide) ?_
    exact ih (i + 6) (by omega) hi _ _ _ hS1 h1 (lv_sub hl [1, 2, 3, 0] rfl)
