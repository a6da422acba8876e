abbrev Wd_Mo_years (cy : ClassId × ClassId × ClassId × ClassId) (a_this a_refused a_row a_isKept a_text a_words a_cost a_steps a_mates a_bestMates a_comes : Nat) (s_above : Int64) (s_below : Int64) (s_length : Int32) (s_at : Int32) (s_behind : Int32) (s_readFlitches : Int32) (s_readFamilies : Int32) (s_doing : Int32) (s_refused : Nat → Int32) (s_row : Nat → Int32) : va_W := [(a_this, .inr (8, [.ref a_row, .ref a_isKept, .ref a_refused, .long s_above, .long s_below, .ref a_text, .int s_length, .ref a_words, .int s_at, .int s_behind, .int s_readFlitches, .int s_readFamilies, .int s_doing, .ref a_cost, .ref a_steps, .ref a_mates, .ref a_bestMates, .ref a_comes])), (a_refused, .inl (cy.2.1, 3, .inl s_refused)), (a_row, .inl (cy.2.1, 770, .inl s_row))]
abbrev rm_Mo_years : Room := { frames := 5, cells := 0, slots := 0, locals := 114 }
def wp_Mo_years (x1 : Int32) (x2 : Int32) (s_refused : Nat → Int32) (s_row : Nat → Int32) (Q : Int32 → (Nat → Int32) → (Nat → Int32) → Prop) : Prop := wp_Mo_in x1 0 999999 (fun (r_1 : Int32) => jn0 (fun (J20 : Prop) => ((r_1 = 0 → J20) ∧ (¬ r_1 = 0 → wp_Mo_in x2 0 60 (fun (r_6 : Int32) => ((¬ r_6 = 0 → wp_Mo_layTried s_row (fun (s_row_9 : Nat → Int32) => ∀ x3_10 : Int64, x3_10 = (Int32.toInt64 x1) → ∃ n : Nat, lpw3 (fun (B37 : Int64 → Int32 → (Nat → Int32) → Prop) (x3_11 : Int64) (x5_12 : Int32) (s_row_13 : Nat → Int32) => ((x2 ≤ x5_12 → wp_Mo_bits (s_row_13 (Int32.toNatClampNeg 760)) (fun (r_16 : Int32) => Q r_16 s_refused s_row_13)) ∧ (¬ x2 ≤ x5_12 → ∀ x3_17 : Int64, x3_17 = (lrem ((x3_11 * 1103515245) + 12345) 2147483648) → ∀ x6_18 : Int32, x6_18 = (Int64.toInt32 (lrem (x3_17 / 65536) 7)) → wp_Mo_isFamily x6_18 s_row_13 (fun (r_19 : Int32) => jn1 (fun (J99 : (Nat → Int32) → Prop) => ((r_19 = 0 → J99 s_row_13) ∧ (¬ r_19 = 0 → vp_in (761 + x6_18) 770 ∧ ∀ s_row_27 : Nat → Int32, s_row_27 = upd s_row_13 (Int32.toNatClampNeg (761 + x6_18)) (Int64.toInt32 (lrem (x3_17 / 1048576) 25)) → J99 s_row_27))) (fun (s_row_20 : Nat → Int32) => wp_Mo_passTried 1 s_row_20 (fun (s_row_23 : Nat → Int32) => ∀ x5_24 : Int32, x5_24 = x5_12 + 1 → B37 x3_17 x5_24 s_row_23)))))) n x3_10 0 s_row_9)) ∧ (r_6 = 0 → J20)))))) (wp_Mo_refuse (-2) s_refused (fun (r_3 : Int32) (s_refused_4 : Nat → Int32) => Q r_3 s_refused_4 s_row)))
set_option maxHeartbeats 4000000 in
set_option maxRecDepth 100000 in
theorem co_Mo_years (l : Launch) (D : va_G) (cy : ClassId × ClassId × ClassId × ClassId) (a_this a_refused a_row a_isKept a_text a_words a_cost a_steps a_mates a_bestMates a_comes : Nat) (s_above : Int64) (s_below : Int64) (s_length : Int32) (s_at : Int32) (s_behind : Int32) (s_readFlitches : Int32) (s_readFamilies : Int32) (s_doing : Int32) (s_refused : Nat → Int32) (s_row : Nat → Int32) (x1 : Int32) (x2 : Int32) (Q : Int32 → (Nat → Int32) → (Nat → Int32) → Prop) (h : wp_Mo_years x1 x2 s_refused s_row Q) : CoI l yX9_years wsX9_years rm_Mo_years D cy [.ref a_this, .int x1, .int x2] (Wd_Mo_years cy a_this a_refused a_row a_isKept a_text a_words a_cost a_steps a_mates a_bestMates a_comes s_above s_below s_length s_at s_behind s_readFlitches s_readFamilies s_doing s_refused s_row) (fun u : (Nat → Int32) × (Nat → Int32) => (Wd_Mo_years cy a_this a_refused a_row a_isKept a_text a_words a_cost a_steps a_mates a_bestMates a_comes s_above s_below s_length s_at s_behind s_readFlitches s_readFamilies s_doing u.1 u.2)) (fun (r : Int32) (u : (Nat → Int32) × (Nat → Int32)) => Q r u.1 u.2) := by
  refine st_metI (cc := cX9_years) (maxL := 7) RX9 (by decide) rfl rfl (Nat.le_of_ble_eq_true rfl) ?_
  intro p e s m args below meth c A QQ ls F hA hKK hP hD hS hl hret
  have hK := hKK.1
  have hnest := hKK.2.1
  have hx := F.1
  have hb := F.2.1
  have hown := F.2.2.2.1
  have hts := F.2.2.2.2
  have in_X9 : ∀ w ∈ u_ws RX9 TX9 18, w ∈ wsX9_years := (fun _ h => List.mem_cons_of_mem _ (List.mem_append_right _ h))
  have fl_7 := (hts (.fieldLink RX9 7 "RasherCaseModel" "row" "[I") (List.mem_of_getElem? (i := 7) rfl))
  have hl : lv_has ls 7 [(0, .ref a_this), (1, .int x1), (2, .int x2)] := hl
  unfold wp_Mo_years at h
  refine lv_iload_n hx hb dX9_years_0 rfl (lv_at hl 1 rfl) ?_
  refine lv_iconst (v := 0) hx hb dX9_years_1 (by decide) ?_
  refine lv_ldc (v := 999999) hx hb hown (hts (.constant RX9 241 (999999)) (List.mem_of_getElem? (i := 1) rfl)) dX9_years_2 ?_
  refine st_callRI (st_runSR (n := 3) (As := [.int x1, .int 0, .int 999999]) (rest := []) F (co_Mo_in l D cy x1 0 999999 _ h) gX9_years_X9_in rfl (by decide +kernel) rfl hKK hP [] rfl rfl hl.1 rfl (Nat.le_of_ble_eq_true rfl) dX9_years_4) (fun r_1 h => ?_)
  obtain ⟨J20, hJ20, h⟩ := jn0_ex h
  have kJ20_1 : ∀  (H : Heap) (locs : List Loc) (ls : Array Slot), J20 → va_P D vwCl (Wd_Mo_years cy a_this a_refused a_row a_isKept a_text a_words a_cost a_steps a_mates a_bestMates a_comes s_above s_below s_length s_at s_behind s_readFlitches s_readFamilies s_doing s_refused s_row) H → va_D A (Wd_Mo_years cy a_this a_refused a_row a_isKept a_text a_words a_cost a_steps a_mates a_bestMates a_comes s_above s_below s_length s_at s_behind s_readFlitches s_readFamilies s_doing s_refused s_row) → va_S A s.heap H locs → lv_has ls 7 [(0, .ref a_this)] → W p l e rm_Mo_years s m args below meth c H locs 0 0 QQ (F0 m 20 ls []) := by
    intro  H locs ls h hP hD hS hl
    have h := hJ20  h
    refine lv_aload_n hx hb dX9_years_20 rfl (lv_at hl 0 rfl) ?_
    refine lv_bipush (v := (-2)) hx hb dX9_years_21 (by decide) ?_
    refine st_callI (WR := [2].filterMap (fun i => (Wd_Mo_years cy a_this a_refused a_row a_isKept a_text a_words a_cost a_steps a_mates a_bestMates a_comes s_above s_below s_length s_at s_behind s_readFlitches s_readFamilies s_doing s_refused s_row)[i]?)) (WSn := fun u => (Wd_Mo_years cy a_this a_refused a_row a_isKept a_text a_words a_cost a_steps a_mates a_bestMates a_comes s_above s_below s_length s_at s_behind s_readFlitches s_readFamilies s_doing u s_row)) (st_runV (n := 1) (As := [.int (-2)]) (rest := []) (q0 := 0) F ((co_Mo_refuse l D cy a_this a_refused a_row a_isKept a_text a_words a_cost a_steps a_mates a_bestMates a_comes s_above s_below s_length s_at s_behind s_readFlitches s_readFamilies s_doing s_refused (-2) _ h) _) rfl gX9_years_X9_refuse rfl (by decide +kernel) rfl hKK hP hD [0, 1] rfl rfl rfl rfl rfl hl.1 rfl (Nat.le_of_ble_eq_true rfl) dX9_years_23) hP hD hS hA [0, 1] [2] [1, 2, 0] rfl rfl rfl (fun _ => rfl) (fun r_3 u H locs h hP hD hS => ?_)
    obtain ⟨s_refused_4, rfl⟩ : ∃ z, z = u := ⟨_, rfl⟩
    have hP : va_P D vwCl (Wd_Mo_years cy a_this a_refused a_row a_isKept a_text a_words a_cost a_steps a_mates a_bestMates a_comes s_above s_below s_length s_at s_behind s_readFlitches s_readFamilies s_doing s_refused_4 s_row) H := hP
    have hD : va_D A (Wd_Mo_years cy a_this a_refused a_row a_isKept a_text a_words a_cost a_steps a_mates a_bestMates a_comes s_above s_below s_length s_at s_behind s_readFlitches s_readFamilies s_doing s_refused_4 s_row) := hD
    exact hret _ (s_refused_4, s_row) _ _ _ _ h hP hD hS dX9_years_26
  refine lv_if_eq (tgt := 20) hx hb dX9_years_7 (by decide) (fun c_5 => ?_) (fun c_5 => ?_)
  · have h := h.1 c_5
    exact kJ20_1  _ _ _ h hP hD hS (lv_sub hl [0] rfl)
  · have h := h.2 c_5
    refine lv_iload_n hx hb dX9_years_10 rfl (lv_at hl 2 rfl) ?_
    refine lv_iconst (v := 0) hx hb dX9_years_11 (by decide) ?_
    refine lv_bipush (v := 60) hx hb dX9_years_12 (by decide) ?_
    refine st_callRI (st_runSR (n := 3) (As := [.int x2, .int 0, .int 60]) (rest := []) F (co_Mo_in l D cy x2 0 60 _ h) gX9_years_X9_in rfl (by decide +kernel) rfl hKK hP [] rfl rfl hl.1 rfl (Nat.le_of_ble_eq_true rfl) dX9_years_14) (fun r_6 h => ?_)
    refine lv_if_ne (tgt := 27) hx hb dX9_years_17 (by decide) (fun c_7 => ?_) (fun c_7 => ?_)
    · have h := h.1 c_7
      refine lv_aload_n hx hb dX9_years_27 rfl (lv_at hl 0 rfl) ?_
      refine st_callV (WR := [1].filterMap (fun i => (Wd_Mo_years cy a_this a_refused a_row a_isKept a_text a_words a_cost a_steps a_mates a_bestMates a_comes s_above s_below s_length s_at s_behind s_readFlitches s_readFamilies s_doing s_refused s_row)[i]?)) (WSn := fun u => (Wd_Mo_years cy a_this a_refused a_row a_isKept a_text a_words a_cost a_steps a_mates a_bestMates a_comes s_above s_below s_length s_at s_behind s_readFlitches s_readFamilies s_doing s_refused u)) (st_runV (n := 0) (As := []) (rest := []) (q0 := 0) F ((co_Mo_layTried l D cy a_this a_row a_isKept a_refused a_text a_words a_cost a_steps a_mates a_bestMates a_comes s_above s_below s_length s_at s_behind s_readFlitches s_readFamilies s_doing s_row _ h) _) rfl gX9_years_X9_layTried rfl (by decide +kernel) rfl hKK hP hD [0, 2] rfl rfl rfl rfl rfl hl.1 rfl (Nat.le_of_ble_eq_true rfl) dX9_years_28) hP hD hS hA [0, 2] [1] [1, 0, 2] rfl rfl rfl (fun _ => rfl) (fun u H locs h hP hD hS => ?_)
      obtain ⟨s_row_9, rfl⟩ : ∃ z, z = u := ⟨_, rfl⟩
      have hP : va_P D vwCl (Wd_Mo_years cy a_this a_refused a_row a_isKept a_text a_words a_cost a_steps a_mates a_bestMates a_comes s_above s_below s_length s_at s_behind s_readFlitches s_readFamilies s_doing s_refused s_row_9) H := hP
      have hD : va_D A (Wd_Mo_years cy a_this a_refused a_row a_isKept a_text a_words a_cost a_steps a_mates a_bestMates a_comes s_above s_below s_length s_at s_behind s_readFlitches s_readFamilies s_doing s_refused s_row_9) := hD
      refine lv_iload_n hx hb dX9_years_31 rfl (lv_at hl 1 rfl) ?_
      refine lv_i2l hx hb dX9_years_32 rfl ?_
      refine lv_topl (fun x3_10 ex3_10 => ?_)
      have h := h x3_10 ex3_10
      refine lv_lstore_n (lv' := [(3, .long x3_10), (0, .ref a_this), (1, .int x1), (2, .int x2)]) hx hb dX9_years_33 rfl hl (by decide) rfl (fun ls hl => ?_)
      refine lv_iconst (v := 0) hx hb dX9_years_34 (by decide) ?_
      refine lv_istore (lv' := [(5, .int 0), (3, .long x3_10), (0, .ref a_this), (1, .int x1), (2, .int x2)]) hx hb dX9_years_35 hl (by decide) rfl (fun ls hl => ?_)
      obtain ⟨T37_13, hz37_13, hs37_13, n37_13, h⟩ := lpw3_use h
      have kT37_13 : ∀ (n : Nat) (x3_11 : Int64) (x5_12 : Int32) (s_row_13 : Nat → Int32) (H : Heap) (locs : List Loc) (ls : Array Slot), T37_13 n x3_11 x5_12 s_row_13 → va_P D vwCl (Wd_Mo_years cy a_this a_refused a_row a_isKept a_text a_words a_cost a_steps a_mates a_bestMates a_comes s_above s_below s_length s_at s_behind s_readFlitches s_readFamilies s_doing s_refused s_row_13) H → va_D A (Wd_Mo_years cy a_this a_refused a_row a_isKept a_text a_words a_cost a_steps a_mates a_bestMates a_comes s_above s_below s_length s_at s_behind s_readFlitches s_readFamilies s_doing s_refused s_row_13) → va_S A s.heap H locs → lv_has ls 7 [(0, .ref a_this), (2, .int x2), (3, .long x3_11), (5, .int x5_12)] → W p l e rm_Mo_years s m args below meth c H locs 0 0 QQ (F0 m 37 ls []) := by
        intro n
        induction n with
        | zero => intro x3_11 x5_12 s_row_13 H locs ls h; exact absurd h (hz37_13 _ _ _)
        | succ n ih37_13 =>
          intro x3_11 x5_12 s_row_13 H locs ls h hP hD hS hl
          have h := hs37_13 _ _ _ _ h
          refine lv_iload hx hb dX9_years_37 (lv_at hl 3 rfl) ?_
          refine lv_iload_n hx hb dX9_years_39 rfl (lv_at hl 1 rfl) ?_
          refine lv_icmp_ge (tgt := 110) hx hb dX9_years_40 (by decide) (fun c_15 => ?_) (fun c_15 => ?_)
          · have h := h.1 c_15
            refine lv_aload_n hx hb dX9_years_110 rfl (lv_at hl 0 rfl) ?_
            refine va_get (D := D) (ci := 8) (v := .ref a_row) (C := RX9) (T := TX9) (N := 18) hx hb hts in_X9 hown hK hP 0 rfl rfl 0 (by decide) fl_7 (fun _ h9 => h9) rfl dX9_years_111 ?_
            refine lv_sipush (v := 760) hx hb dX9_years_114 (by decide) ?_
            refine va_iald hx hb hK hP 2 1 rfl rfl (by unfold vp_in; decide) dX9_years_117 ?_
            refine st_callRI (st_runSR (n := 1) (As := [.int (s_row_13 (Int32.toNatClampNeg 760))]) (rest := []) F (co_Mo_bits l D cy (s_row_13 (Int32.toNatClampNeg 760)) _ h) gX9_years_X9_bits rfl (by decide +kernel) rfl hKK hP [] rfl rfl hl.1 rfl (Nat.le_of_ble_eq_true rfl) dX9_years_118) (fun r_16 h => ?_)
            exact hret _ (s_refused, s_row_13) _ _ _ _ h hP hD hS dX9_years_121
          · have h := h.2 c_15
            refine lv_lload_n hx hb dX9_years_43 rfl (lv_at hl 2 rfl) ?_
            refine lv_ldc2 (v := 1103515245) hx hb hown (hts (.constantLong RX9 242 (1103515245)) (List.mem_of_getElem? (i := 2) rfl)) dX9_years_44 ?_
            refine lv_lmul hx hb dX9_years_47 ?_
            refine lv_ldc2 (v := 12345) hx hb hown (hts (.constantLong RX9 244 (12345)) (List.mem_of_getElem? (i := 3) rfl)) dX9_years_48 ?_
            refine lv_ladd hx hb dX9_years_51 ?_
            refine lv_ldc2 (v := 2147483648) hx hb hown (hts (.constantLong RX9 246 (2147483648)) (List.mem_of_getElem? (i := 4) rfl)) dX9_years_52 ?_
            refine lv_lrem hx hb dX9_years_55 (by decide) ?_
            refine lv_topl (fun x3_17 ex3_17 => ?_)
            have h := h x3_17 ex3_17
            refine lv_lstore_n (lv' := [(3, .long x3_17), (0, .ref a_this), (2, .int x2), (5, .int x5_12)]) hx hb dX9_years_56 rfl hl (by decide) rfl (fun ls hl => ?_)
            refine lv_lload_n hx hb dX9_years_57 rfl (lv_at hl 0 rfl) ?_
            refine lv_ldc2 (v := 65536) hx hb hown (hts (.constantLong RX9 248 (65536)) (List.mem_of_getElem? (i := 5) rfl)) dX9_years_58 ?_
            refine lv_ldiv hx hb dX9_years_61 (by decide) ?_
            refine lv_ldc2 (v := 7) hx hb hown (hts (.constantLong RX9 250 (7)) (List.mem_of_getElem? (i := 6) rfl)) dX9_years_62 ?_
            refine lv_lrem hx hb dX9_years_65 (by decide) ?_
            refine lv_l2i hx hb dX9_years_66 rfl ?_
            refine lv_topi (fun x6_18 ex6_18 => ?_)
            have h := h x6_18 ex6_18
            refine lv_istore (lv' := [(6, .int x6_18), (3, .long x3_17), (0, .ref a_this), (2, .int x2), (5, .int x5_12)]) hx hb dX9_years_67 hl (by decide) rfl (fun ls hl => ?_)
            refine lv_aload_n hx hb dX9_years_69 rfl (lv_at hl 2 rfl) ?_
            refine lv_iload hx hb dX9_years_70 (lv_at hl 0 rfl) ?_
            refine st_callRI (st_runVR (n := 1) (As := [.int x6_18]) (rest := []) (q0 := 0) F (co_Mo_isFamily l D cy a_this a_row a_isKept a_refused a_text a_words a_cost a_steps a_mates a_bestMates a_comes s_above s_below s_length s_at s_behind s_readFlitches s_readFamilies s_doing s_row_13 x6_18 _ h) gX9_years_X9_isFamily rfl (by decide +kernel) rfl hKK hP [0, 2] rfl rfl rfl rfl hl.1 rfl (Nat.le_of_ble_eq_true rfl) dX9_years_72) (fun r_19 h => ?_)
            obtain ⟨J99, hJ99, h⟩ := jn1_ex h
            have kJ99_20 : ∀ (s_row_20 : Nat → Int32) (H : Heap) (locs : List Loc) (ls : Array Slot), J99 s_row_20 → va_P D vwCl (Wd_Mo_years cy a_this a_refused a_row a_isKept a_text a_words a_cost a_steps a_mates a_bestMates a_comes s_above s_below s_length s_at s_behind s_readFlitches s_readFamilies s_doing s_refused s_row_20) H → va_D A (Wd_Mo_years cy a_this a_refused a_row a_isKept a_text a_words a_cost a_steps a_mates a_bestMates a_comes s_above s_below s_length s_at s_behind s_readFlitches s_readFamilies s_doing s_refused s_row_20) → va_S A s.heap H locs → lv_has ls 7 [(0, .ref a_this), (2, .int x2), (3, .long x3_17), (5, .int x5_12)] → W p l e rm_Mo_years s m args below meth c H locs 0 0 QQ (F0 m 99 ls []) := by
              intro s_row_20 H locs ls h hP hD hS hl
              have h := hJ99 _ h
              refine lv_aload_n hx hb dX9_years_99 rfl (lv_at hl 0 rfl) ?_
              refine lv_iconst (v := 1) hx hb dX9_years_100 (by decide) ?_
              refine st_callV (WR := [1].filterMap (fun i => (Wd_Mo_years cy a_this a_refused a_row a_isKept a_text a_words a_cost a_steps a_mates a_bestMates a_comes s_above s_below s_length s_at s_behind s_readFlitches s_readFamilies s_doing s_refused s_row_20)[i]?)) (WSn := fun u => (Wd_Mo_years cy a_this a_refused a_row a_isKept a_text a_words a_cost a_steps a_mates a_bestMates a_comes s_above s_below s_length s_at s_behind s_readFlitches s_readFamilies s_doing s_refused u)) (st_runV (n := 1) (As := [.int 1]) (rest := []) (q0 := 0) F ((co_Mo_passTried l D cy a_this a_row a_isKept a_refused a_text a_words a_cost a_steps a_mates a_bestMates a_comes s_above s_below s_length s_at s_behind s_readFlitches s_readFamilies s_doing s_row_20 1 _ h) _) rfl gX9_years_X9_passTried rfl (by decide +kernel) rfl hKK hP hD [0, 2] rfl rfl rfl rfl rfl hl.1 rfl (Nat.le_of_ble_eq_true rfl) dX9_years_101) hP hD hS hA [0, 2] [1] [1, 0, 2] rfl rfl rfl (fun _ => rfl) (fun u H locs h hP hD hS => ?_)
              obtain ⟨s_row_23, rfl⟩ : ∃ z, z = u := ⟨_, rfl⟩
              have hP : va_P D vwCl (Wd_Mo_years cy a_this a_refused a_row a_isKept a_text a_words a_cost a_steps a_mates a_bestMates a_comes s_above s_below s_length s_at s_behind s_readFlitches s_readFamilies s_doing s_refused s_row_23) H := hP
              have hD : va_D A (Wd_Mo_years cy a_this a_refused a_row a_isKept a_text a_words a_cost a_steps a_mates a_bestMates a_comes s_above s_below s_length s_at s_behind s_readFlitches s_readFamilies s_doing s_refused s_row_23) := hD
              obtain ⟨x5_24, ex5_24⟩ : ∃ y : Int32, y = x5_12 + 1 := ⟨_, rfl⟩
              have h := h x5_24 ex5_24
              refine lv_iinc (v := x5_24) (lv' := [(5, .int x5_24), (0, .ref a_this), (2, .int x2), (3, .long x3_17)]) hx hb dX9_years_104 hl (k := 3) rfl (by rw [ex5_24]; rfl) (by decide) rfl (fun ls hl => ?_)
              refine lv_goto (tgt := 37) hx hb dX9_years_107 (by decide) ?_
              exact ih37_13 _ _ _ _ _ _ h hP hD hS (lv_sub hl [1, 2, 3, 0] rfl)
            refine lv_if_eq (tgt := 99) hx hb dX9_years_75 (by decide) (fun c_25 => ?_) (fun c_25 => ?_)
            · have h := h.1 c_25
              exact kJ99_20 _ _ _ _ h hP hD hS (lv_sub hl [2, 3, 1, 4] rfl)
            · have h := h.2 c_25
              refine lv_aload_n hx hb dX9_years_78 rfl (lv_at hl 2 rfl) ?_
              refine va_get (D := D) (ci := 8) (v := .ref a_row) (C := RX9) (T := TX9) (N := 18) hx hb hts in_X9 hown hK hP 0 rfl rfl 0 (by decide) fl_7 (fun _ h9 => h9) rfl dX9_years_79 ?_
              refine lv_sipush (v := 761) hx hb dX9_years_82 (by decide) ?_
              refine lv_iload hx hb dX9_years_85 (lv_at hl 0 rfl) ?_
              refine lv_iadd hx hb dX9_years_87 ?_
              refine lv_lload_n hx hb dX9_years_88 rfl (lv_at hl 1 rfl) ?_
              refine lv_ldc2 (v := 1048576) hx hb hown (hts (.constantLong RX9 252 (1048576)) (List.mem_of_getElem? (i := 8) rfl)) dX9_years_89 ?_
              refine lv_ldiv hx hb dX9_years_92 (by decide) ?_
              refine lv_ldc2 (v := 25) hx hb hown (hts (.constantLong RX9 254 (25)) (List.mem_of_getElem? (i := 9) rfl)) dX9_years_93 ?_
              refine lv_lrem hx hb dX9_years_96 (by decide) ?_
              refine lv_l2i hx hb dX9_years_97 rfl ?_
              obtain ⟨hi_26, h⟩ := h
              refine va_iast hx hb hK hP hD hS 2 1 rfl rfl hi_26 dX9_years_98 (fun H locs hP hD hS => ?_)
              obtain ⟨s_row_27, es_row_27⟩ : ∃ f : Nat → Int32, f = upd s_row_13 (Int32.toNatClampNeg (761 + x6_18)) (Int64.toInt32 (lrem (x3_17 / 1048576) 25)) := ⟨_, rfl⟩
              have hP : va_P D vwCl (Wd_Mo_years cy a_this a_refused a_row a_isKept a_text a_words a_cost a_steps a_mates a_bestMates a_comes s_above s_below s_length s_at s_behind s_readFlitches s_readFamilies s_doing s_refused s_row_27) H := by rw [es_row_27]; exact hP
              have hD : va_D A (Wd_Mo_years cy a_this a_refused a_row a_isKept a_text a_words a_cost a_steps a_mates a_bestMates a_comes s_above s_below s_length s_at s_behind s_readFlitches s_readFamilies s_doing s_refused s_row_27) := by rw [es_row_27]; exact hD
              have h := h s_row_27 es_row_27
              exact kJ99_20 _ _ _ _ h hP hD hS (lv_sub hl [2, 3, 1, 4] rfl)
      exact kT37_13 n37_13 _ _ _ _ _ _ h hP hD hS (lv_sub hl [2, 4, 1, 0] rfl)
    · have h := h.2 c_7
      exact kJ20_1  _ _ _ h hP hD hS (lv_sub hl [0] rfl)
abbrev Wd_Mo_part (cy : ClassId × ClassId × ClassId × ClassId) (a_this a_refused a_row a_isKept a_text a_words a_cost a_steps a_mates a_bestMates a_comes : Nat) (s_above : Int64) (s_below : Int64) (s_length : Int32) (s_at : Int32) (s_behind : Int32) (s_readFlitches : Int32) (s_readFamilies : Int32) (s_doing : Int32) (s_refused : Nat → Int32) : va_W := [(a_this, .inr (8, [.ref a_row, .ref a_isKept, .ref a_refused, .long s_above, .long s_below, .ref a_text, .int s_length, .ref a_words, .int s_at, .int s_behind, .int s_readFlitches, .int s_readFamilies, .int s_doing, .ref a_cost, .ref a_steps, .ref a_mates, .ref a_bestMates, .ref a_comes])), (a_refused, .inl (cy.2.1, 3, .inl s_refused))]
abbrev rm_Mo_part : Room := { frames := 1, cells := 0, slots := 0, locals := 22 }
def wp_Mo_part (x1 : Int32) (s_above : Int64) (s_below : Int64) (s_refused : Nat → Int32) (Q : Int64 → (Nat → Int32) → Prop) : Prop := wp_Mo_in x1 0 1 (fun (r_1 : Int32) => ((¬ r_1 = 0 → ((¬ x1 = 0 → Q s_below s_refused) ∧ (x1 = 0 → Q s_above s_refused))) ∧ (r_1 = 0 → wp_Mo_refuse (-2) s_refused (fun (r_4 : Int32) (s_refused_5 : Nat → Int32) => Q (Int32.toInt64 r_4) s_refused_5))))
set_option maxHeartbeats 4000000 in
set_option maxRecDepth 100000 in
theorem co_Mo_part (l : Launch) (D : va_G) (cy : ClassId × ClassId × ClassId × ClassId) (a_this a_refused a_row a_isKept a_text a_words a_cost a_steps a_mates a_bestMates a_comes : Nat) (s_above : Int64) (s_below : Int64) (s_length : Int32) (s_at : Int32) (s_behind : Int32) (s_readFlitches : Int32) (s_readFamilies : Int32) (s_doing : Int32) (s_refused : Nat → Int32) (x1 : Int32) (Q : Int64 → (Nat → Int32) → Prop) (h : wp_Mo_part x1 s_above s_below s_refused Q) : CoL l yX9_part wsX9_part rm_Mo_part D cy [.ref a_this, .int x1] (Wd_Mo_part cy a_this a_refused a_row a_isKept a_text a_words a_cost a_steps a_mates a_bestMates a_comes s_above s_below s_length s_at s_behind s_readFlitches s_readFamilies s_doing s_refused) (fun u : (Nat → Int32) => (Wd_Mo_part cy a_this a_refused a_row a_isKept a_text a_words a_cost a_steps a_mates a_bestMates a_comes s_above s_below s_length s_at s_behind s_readFlitches s_readFamilies s_doing u)) (fun (r : Int64) (u : (Nat → Int32)) => Q r u) := by
  refine st_metL (cc := cX9_part) (maxL := 2) RX9 (by decide) rfl rfl (Nat.le_of_ble_eq_true rfl) ?_
  intro p e s m args below meth c A QQ ls F hA hKK hP hD hS hl hret
  have hK := hKK.1
  have hnest := hKK.2.1
  have hx := F.1
  have hb := F.2.1
  have hown := F.2.2.2.1
  have hts := F.2.2.2.2
  have in_X9 : ∀ w ∈ u_ws RX9 TX9 18, w ∈ wsX9_part := (fun _ h => List.mem_cons_of_mem _ (List.mem_append_right _ h))
  have fl_20 := (hts (.fieldLink RX9 20 "RasherCaseModel" "below" "J") (List.mem_of_getElem? (i := 2) rfl))
  have fl_234 := (hts (.fieldLink RX9 234 "RasherCaseModel" "above" "J") (List.mem_of_getElem? (i := 1) rfl))
  have hl : lv_has ls 2 [(0, .ref a_this), (1, .int x1)] := hl
  unfold wp_Mo_part at h
  refine lv_iload_n hx hb dX9_part_0 rfl (lv_at hl 1 rfl) ?_
  refine lv_iconst (v := 0) hx hb dX9_part_1 (by decide) ?_
  refine lv_iconst (v := 1) hx hb dX9_part_2 (by decide) ?_
  refine st_callRI (st_runSR (n := 3) (As := [.int x1, .int 0, .int 1]) (rest := []) F (co_Mo_in l D cy x1 0 1 _ h) gX9_part_X9_in rfl (by decide +kernel) rfl hKK hP [] rfl rfl hl.1 rfl (Nat.le_of_ble_eq_true rfl) dX9_part_3) (fun r_1 h => ?_)
  refine lv_if_ne (tgt := 17) hx hb dX9_part_6 (by decide) (fun c_2 => ?_) (fun c_2 => ?_)
  · have h := h.1 c_2
    refine lv_iload_n hx hb dX9_part_17 rfl (lv_at hl 1 rfl) ?_
    refine lv_if_ne (tgt := 28) hx hb dX9_part_18 (by decide) (fun c_3 => ?_) (fun c_3 => ?_)
    · have h := h.1 c_3
      refine lv_aload_n hx hb dX9_part_28 rfl (lv_at hl 0 rfl) ?_
      refine va_get (D := D) (ci := 8) (v := .long s_below) (C := RX9) (T := TX9) (N := 18) hx hb hts in_X9 hown hK hP 0 rfl rfl 4 (by decide) fl_20 (fun _ h9 => h9) rfl dX9_part_29 ?_
      exact hret _ (s_refused) _ _ _ _ h hP hD hS dX9_part_32
    · have h := h.2 c_3
      refine lv_aload_n hx hb dX9_part_21 rfl (lv_at hl 0 rfl) ?_
      refine va_get (D := D) (ci := 8) (v := .long s_above) (C := RX9) (T := TX9) (N := 18) hx hb hts in_X9 hown hK hP 0 rfl rfl 3 (by decide) fl_234 (fun _ h9 => h9) rfl dX9_part_22 ?_
      refine lv_goto (tgt := 32) hx hb dX9_part_25 (by decide) ?_
      exact hret _ (s_refused) _ _ _ _ h hP hD hS dX9_part_32
  · have h := h.2 c_2
    refine lv_aload_n hx hb dX9_part_9 rfl (lv_at hl 0 rfl) ?_
    refine lv_bipush (v := (-2)) hx hb dX9_part_10 (by decide) ?_
    refine st_callI (WR := []) (WSn := fun u => (Wd_Mo_part cy a_this a_refused a_row a_isKept a_text a_words a_cost a_steps a_mates a_bestMates a_comes s_above s_below s_length s_at s_behind s_readFlitches s_readFamilies s_doing u)) (st_runV (n := 1) (As := [.int (-2)]) (rest := []) (q0 := 0) F ((co_Mo_refuse l D cy a_this a_refused a_row a_isKept a_text a_words a_cost a_steps a_mates a_bestMates a_comes s_above s_below s_length s_at s_behind s_readFlitches s_readFamilies s_doing s_refused (-2) _ h) _) rfl gX9_part_X9_refuse rfl (by decide +kernel) rfl hKK hP hD [0, 1] rfl rfl rfl rfl rfl hl.1 rfl (Nat.le_of_ble_eq_true rfl) dX9_part_12) hP hD hS hA [0, 1] [] [0, 1] rfl rfl rfl (fun _ => rfl) (fun r_4 u H locs h hP hD hS => ?_)
    obtain ⟨s_refused_5, rfl⟩ : ∃ z, z = u := ⟨_, rfl⟩
    have hP : va_P D vwCl (Wd_Mo_part cy a_this a_refused a_row a_isKept a_text a_words a_cost a_steps a_mates a_bestMates a_comes s_above s_below s_length s_at s_behind s_readFlitches s_readFamilies s_doing s_refused_5) H := hP
    have hD : va_D A (Wd_Mo_part cy a_this a_refused a_row a_isKept a_text a_words a_cost a_steps a_mates a_bestMates a_comes s_above s_below s_length s_at s_behind s_readFlitches s_readFamilies s_doing s_refused_5) := hD
    refine lv_i2l hx hb dX9_part_15 rfl ?_
    exact hret _ (s_refused_5) _ _ _ _ h hP hD hS dX9_part_16
abbrev Wd_Mo_image (cy : ClassId × ClassId × ClassId × ClassId) (a_this a_isKept a_refused a_row a_text a_words a_cost a_steps a_mates a_bestMates a_comes : Nat) (s_above : Int64) (s_below : Int64) (s_length : Int32) (s_at : Int32) (s_behind : Int32) (s_readFlitches : Int32) (s_readFamilies : Int32) (s_doing : Int32) (s_isKept : Nat → Int32) (s_refused : Nat → Int32) (s_row : Nat → Int32) : va_W := [(a_this, .inr (8, [.ref a_row, .ref a_isKept, .ref a_refused, .long s_above, .long s_below, .ref a_text, .int s_length, .ref a_words, .int s_at, .int s_behind, .int s_readFlitches, .int s_readFamilies, .int s_doing, .ref a_cost, .ref a_steps, .ref a_mates, .ref a_bestMates, .ref a_comes])), (a_isKept, .inl (cy.2.2.1, 2, .inl s_isKept)), (a_refused, .inl (cy.2.1, 3, .inl s_refused)), (a_row, .inl (cy.2.1, 770, .inl s_row))]
abbrev rm_Mo_image : Room := { frames := 1, cells := 0, slots := 0, locals := 22 }
def wp_Mo_image (x1 : Int32) (s_isKept : Nat → Int32) (s_refused : Nat → Int32) (s_row : Nat → Int32) (Q : Int32 → (Nat → Int32) → (Nat → Int32) → (Nat → Int32) → Prop) : Prop := wp_Mo_in x1 0 1 (fun (r_1 : Int32) => ((¬ r_1 = 0 → ∃ n : Nat, lpw2 (fun (B18 : Int32 → (Nat → Int32) → Prop) (x2_3 : Int32) (s_row_4 : Nat → Int32) => ((251 ≤ x2_3 → vp_in x1 2 ∧ ∀ s_isKept_8 : Nat → Int32, s_isKept_8 = upd s_isKept (Int32.toNatClampNeg x1) (vp_nar .boolean 1) → Q 1 s_isKept_8 s_refused s_row_4) ∧ (¬ 251 ≤ x2_3 → vp_in x2_3 770 ∧ vp_in ((251 + (251 * x1)) + x2_3) 770 ∧ ∀ s_row_11 : Nat → Int32, s_row_11 = upd s_row_4 (Int32.toNatClampNeg ((251 + (251 * x1)) + x2_3)) (s_row_4 (Int32.toNatClampNeg x2_3)) → ∀ x2_12 : Int32, x2_12 = x2_3 + 1 → B18 x2_12 s_row_11))) n 0 s_row) ∧ (r_1 = 0 → wp_Mo_refuse (-2) s_refused (fun (r_13 : Int32) (s_refused_14 : Nat → Int32) => Q r_13 s_isKept s_refused_14 s_row))))
set_option maxHeartbeats 4000000 in
set_option maxRecDepth 100000 in
theorem co_Mo_image (l : Launch) (D : va_G) (cy : ClassId × ClassId × ClassId × ClassId) (a_this a_isKept a_refused a_row a_text a_words a_cost a_steps a_mates a_bestMates a_comes : Nat) (s_above : Int64) (s_below : Int64) (s_length : Int32) (s_at : Int32) (s_behind : Int32) (s_readFlitches : Int32) (s_readFamilies : Int32) (s_doing : Int32) (s_isKept : Nat → Int32) (s_refused : Nat → Int32) (s_row : Nat → Int32) (x1 : Int32) (Q : Int32 → (Nat → Int32) → (Nat → Int32) → (Nat → Int32) → Prop) (h : wp_Mo_image x1 s_isKept s_refused s_row Q) : CoI l yX9_image wsX9_image rm_Mo_image D cy [.ref a_this, .int x1] (Wd_Mo_image cy a_this a_isKept a_refused a_row a_text a_words a_cost a_steps a_mates a_bestMates a_comes s_above s_below s_length s_at s_behind s_readFlitches s_readFamilies s_doing s_isKept s_refused s_row) (fun u : (Nat → Int32) × (Nat → Int32) × (Nat → Int32) => (Wd_Mo_image cy a_this a_isKept a_refused a_row a_text a_words a_cost a_steps a_mates a_bestMates a_comes s_above s_below s_length s_at s_behind s_readFlitches s_readFamilies s_doing u.1 u.2.1 u.2.2)) (fun (r : Int32) (u : (Nat → Int32) × (Nat → Int32) × (Nat → Int32)) => Q r u.1 u.2.1 u.2.2) := by
  refine st_metI (cc := cX9_image) (maxL := 3) RX9 (by decide) rfl rfl (Nat.le_of_ble_eq_true rfl) ?_
  intro p e s m args below meth c A QQ ls F hA hKK hP hD hS hl hret
  have hK := hKK.1
  have hnest := hKK.2.1
  have hx := F.1
  have hb := F.2.1
  have hown := F.2.2.2.1
  have hts := F.2.2.2.2
  have in_X9 : ∀ w ∈ u_ws RX9 TX9 18, w ∈ wsX9_image := (fun _ h => List.mem_cons_of_mem _ (List.mem_append_right _ h))
  have fl_7 := (hts (.fieldLink RX9 7 "RasherCaseModel" "row" "[I") (List.mem_of_getElem? (i := 1) rfl))
  have fl_13 := (hts (.fieldLink RX9 13 "RasherCaseModel" "isKept" "[Z") (List.mem_of_getElem? (i := 2) rfl))
  have hl : lv_has ls 3 [(0, .ref a_this), (1, .int x1)] := hl
  unfold wp_Mo_image at h
  refine lv_iload_n hx hb dX9_image_0 rfl (lv_at hl 1 rfl) ?_
  refine lv_iconst (v := 0) hx hb dX9_image_1 (by decide) ?_
  refine lv_iconst (v := 1) hx hb dX9_image_2 (by decide) ?_
  refine st_callRI (st_runSR (n := 3) (As := [.int x1, .int 0, .int 1]) (rest := []) F (co_Mo_in l D cy x1 0 1 _ h) gX9_image_X9_in rfl (by decide +kernel) rfl hKK hP [] rfl rfl hl.1 rfl (Nat.le_of_ble_eq_true rfl) dX9_image_3) (fun r_1 h => ?_)
  refine lv_if_ne (tgt := 16) hx hb dX9_image_6 (by decide) (fun c_2 => ?_) (fun c_2 => ?_)
  · have h := h.1 c_2
    refine lv_iconst (v := 0) hx hb dX9_image_16 (by decide) ?_
    refine lv_istore_n (lv' := [(2, .int 0), (0, .ref a_this), (1, .int x1)]) hx hb dX9_image_17 rfl hl (by decide) rfl (fun ls hl => ?_)
    obtain ⟨T18_4, hz18_4, hs18_4, n18_4, h⟩ := lpw2_use h
    have kT18_4 : ∀ (n : Nat) (x2_3 : Int32) (s_row_4 : Nat → Int32) (H : Heap) (locs : List Loc) (ls : Array Slot), T18_4 n x2_3 s_row_4 → va_P D vwCl (Wd_Mo_image cy a_this a_isKept a_refused a_row a_text a_words a_cost a_steps a_mates a_bestMates a_comes s_above s_below s_length s_at s_behind s_readFlitches s_readFamilies s_doing s_isKept s_refused s_row_4) H → va_D A (Wd_Mo_image cy a_this a_isKept a_refused a_row a_text a_words a_cost a_steps a_mates a_bestMates a_comes s_above s_below s_length s_at s_behind s_readFlitches s_readFamilies s_doing s_isKept s_refused s_row_4) → va_S A s.heap H locs → lv_has ls 3 [(0, .ref a_this), (1, .int x1), (2, .int x2_3)] → W p l e rm_Mo_image s m args below meth c H locs 0 0 QQ (F0 m 18 ls []) := by
      intro n
      induction n with
      | zero => intro x2_3 s_row_4 H locs ls h; exact absurd h (hz18_4 _ _)
      | succ n ih18_4 =>
        intro x2_3 s_row_4 H locs ls h hP hD hS hl
        have h := hs18_4 _ _ _ h
        refine lv_iload_n hx hb dX9_image_18 rfl (lv_at hl 2 rfl) ?_
        refine lv_sipush (v := 251) hx hb dX9_image_19 (by decide) ?_
        refine lv_icmp_ge (tgt := 53) hx hb dX9_image_22 (by decide) (fun c_6 => ?_) (fun c_6 => ?_)
        · have h := h.1 c_6
          refine lv_aload_n hx hb dX9_image_53 rfl (lv_at hl 0 rfl) ?_
          refine va_get (D := D) (ci := 8) (v := .ref a_isKept) (C := RX9) (T := TX9) (N := 18) hx hb hts in_X9 hown hK hP 0 rfl rfl 1 (by decide) fl_13 (fun _ h9 => h9) rfl dX9_image_54 ?_
          refine lv_iload_n hx hb dX9_image_57 rfl (lv_at hl 1 rfl) ?_
          refine lv_iconst (v := 1) hx hb dX9_image_58 (by decide) ?_
          obtain ⟨hi_7, h⟩ := h
          refine va_zast hx hb hK hP hD hS 1 2 rfl rfl hi_7 dX9_image_59 (fun H locs hP hD hS => ?_)
          obtain ⟨s_isKept_8, es_isKept_8⟩ : ∃ f : Nat → Int32, f = upd s_isKept (Int32.toNatClampNeg x1) (vp_nar .boolean 1) := ⟨_, rfl⟩
          have hP : va_P D vwCl (Wd_Mo_image cy a_this a_isKept a_refused a_row a_text a_words a_cost a_steps a_mates a_bestMates a_comes s_above s_below s_length s_at s_behind s_readFlitches s_readFamilies s_doing s_isKept_8 s_refused s_row_4) H := by rw [es_isKept_8]; exact hP
          have hD : va_D A (Wd_Mo_image cy a_this a_isKept a_refused a_row a_text a_words a_cost a_steps a_mates a_bestMates a_comes s_above s_below s_length s_at s_behind s_readFlitches s_readFamilies s_doing s_isKept_8 s_refused s_row_4) := by rw [es_isKept_8]; exact hD
          have h := h s_isKept_8 es_isKept_8
          refine lv_iconst (v := 1) hx hb dX9_image_60 (by decide) ?_
          exact hret _ (s_isKept_8, s_refused, s_row_4) _ _ _ _ h hP hD hS dX9_image_61
        · have h := h.2 c_6
          refine lv_aload_n hx hb dX9_image_25 rfl (lv_at hl 0 rfl) ?_
          refine va_get (D := D) (ci := 8) (v := .ref a_row) (C := RX9) (T := TX9) (N := 18) hx hb hts in_X9 hown hK hP 0 rfl rfl 0 (by decide) fl_7 (fun _ h9 => h9) rfl dX9_image_26 ?_
          refine lv_sipush (v := 251) hx hb dX9_image_29 (by decide) ?_
          refine lv_sipush (v := 251) hx hb dX9_image_32 (by decide) ?_
          refine lv_iload_n hx hb dX9_image_35 rfl (lv_at hl 1 rfl) ?_
          refine lv_imul hx hb dX9_image_36 ?_
          refine lv_iadd hx hb dX9_image_37 ?_
          refine lv_iload_n hx hb dX9_image_38 rfl (lv_at hl 2 rfl) ?_
          refine lv_iadd hx hb dX9_image_39 ?_
          refine lv_aload_n hx hb dX9_image_40 rfl (lv_at hl 0 rfl) ?_
          refine va_get (D := D) (ci := 8) (v := .ref a_row) (C := RX9) (T := TX9) (N := 18) hx hb hts in_X9 hown hK hP 0 rfl rfl 0 (by decide) fl_7 (fun _ h9 => h9) rfl dX9_image_41 ?_
          refine lv_iload_n hx hb dX9_image_44 rfl (lv_at hl 2 rfl) ?_
          obtain ⟨hi_9, h⟩ := h
          refine va_iald hx hb hK hP 3 1 rfl rfl hi_9 dX9_image_45 ?_
          obtain ⟨hi_10, h⟩ := h
          refine va_iast hx hb hK hP hD hS 3 1 rfl rfl hi_10 dX9_image_46 (fun H locs hP hD hS => ?_)
          obtain ⟨s_row_11, es_row_11⟩ : ∃ f : Nat → Int32, f = upd s_row_4 (Int32.toNatClampNeg ((251 + (251 * x1)) + x2_3)) (s_row_4 (Int32.toNatClampNeg x2_3)) := ⟨_, rfl⟩
          have hP : va_P D vwCl (Wd_Mo_image cy a_this a_isKept a_refused a_row a_text a_words a_cost a_steps a_mates a_bestMates a_comes s_above s_below s_length s_at s_behind s_readFlitches s_readFamilies s_doing s_isKept s_refused s_row_11) H := by rw [es_row_11]; exact hP
          have hD : va_D A (Wd_Mo_image cy a_this a_isKept a_refused a_row a_text a_words a_cost a_steps a_mates a_bestMates a_comes s_above s_below s_length s_at s_behind s_readFlitches s_readFamilies s_doing s_isKept s_refused s_row_11) := by rw [es_row_11]; exact hD
          have h := h s_row_11 es_row_11
          obtain ⟨x2_12, ex2_12⟩ : ∃ y : Int32, y = x2_3 + 1 := ⟨_, rfl⟩
          have h := h x2_12 ex2_12
          refine lv_iinc (v := x2_12) (lv' := [(2, .int x2_12), (0, .ref a_this), (1, .int x1)]) hx hb dX9_image_47 hl (k := 2) rfl (by rw [ex2_12]; rfl) (by decide) rfl (fun ls hl => ?_)
          refine lv_goto (tgt := 18) hx hb dX9_image_50 (by decide) ?_
          exact ih18_4 _ _ _ _ _ h hP hD hS (lv_sub hl [1, 2, 0] rfl)
    exact kT18_4 n18_4 _ _ _ _ _ h hP hD hS (lv_sub hl [1, 2, 0] rfl)
  · have h := h.2 c_2
    refine lv_aload_n hx hb dX9_image_9 rfl (lv_at hl 0 rfl) ?_
    refine lv_bipush (v := (-2)) hx hb dX9_image_10 (by decide) ?_
    refine st_callI (WR := [1, 3].filterMap (fun i => (Wd_Mo_image cy a_this a_isKept a_refused a_row a_text a_words a_cost a_steps a_mates a_bestMates a_comes s_above s_below s_length s_at s_behind s_readFlitches s_readFamilies s_doing s_isKept s_refused s_row)[i]?)) (WSn := fun u => (Wd_Mo_image cy a_this a_isKept a_refused a_row a_text a_words a_cost a_steps a_mates a_bestMates a_comes s_above s_below s_length s_at s_behind s_readFlitches s_readFamilies s_doing s_isKept u s_row)) (st_runV (n := 1) (As := [.int (-2)]) (rest := []) (q0 := 0) F ((co_Mo_refuse l D cy a_this a_refused a_row a_isKept a_text a_words a_cost a_steps a_mates a_bestMates a_comes s_above s_below s_length s_at s_behind s_readFlitches s_readFamilies s_doing s_refused (-2) _ h) _) rfl gX9_image_X9_refuse rfl (by decide +kernel) rfl hKK hP hD [0, 2] rfl rfl rfl rfl rfl hl.1 rfl (Nat.le_of_ble_eq_true rfl) dX9_image_12) hP hD hS hA [0, 2] [1, 3] [2, 0, 3, 1] rfl rfl rfl (fun _ => rfl) (fun r_13 u H locs h hP hD hS => ?_)
    obtain ⟨s_refused_14, rfl⟩ : ∃ z, z = u := ⟨_, rfl⟩
    have hP : va_P D vwCl (Wd_Mo_image cy a_this a_isKept a_refused a_row a_text a_words a_cost a_steps a_mates a_bestMates a_comes s_above s_below s_length s_at s_behind s_readFlitches s_readFamilies s_doing s_isKept s_refused_14 s_row) H := hP
    have hD : va_D A (Wd_Mo_image cy a_this a_isKept a_refused a_row a_text a_words a_cost a_steps a_mates a_bestMates a_comes s_above s_below s_length s_at s_behind s_readFlitches s_readFamilies s_doing s_isKept s_refused_14 s_row) := hD
    exact hret _ (s_isKept, s_refused_14, s_row) _ _ _ _ h hP hD hS dX9_image_15
abbrev Wd_Mo_from (cy : ClassId × ClassId × ClassId × ClassId) (a_this a_isKept a_refused a_row a_text a_words a_cost a_steps a_mates a_bestMates a_comes : Nat) (s_above : Int64) (s_below : Int64) (s_length : Int32) (s_at : Int32) (s_behind : Int32) (s_readFlitches : Int32) (s_readFamilies : Int32) (s_doing : Int32) (s_isKept : Nat → Int32) (s_refused : Nat → Int32) (s_row : Nat → Int32) : va_W := [(a_this, .inr (8, [.ref a_row, .ref a_isKept, .ref a_refused, .long s_above, .long s_below, .ref a_text, .int s_length, .ref a_words, .int s_at, .int s_behind, .int s_readFlitches, .int s_readFamilies, .int s_doing, .ref a_cost, .ref a_steps, .ref a_mates, .ref a_bestMates, .ref a_comes])), (a_isKept, .inl (cy.2.2.1, 2, .inl s_isKept)), (a_refused, .inl (cy.2.1, 3, .inl s_refused)), (a_row, .inl (cy.2.1, 770, .inl s_row))]
abbrev rm_Mo_from : Room := { frames := 1, cells := 0, slots := 0, locals := 22 }
def wp_Mo_from (x1 : Int32) (s_isKept : Nat → Int32) (s_refused : Nat → Int32) (s_row : Nat → Int32) (Q : Int32 → (Nat → Int32) → (Nat → Int32) → Prop) : Prop := wp_Mo_in x1 0 1 (fun (r_1 : Int32) => ((¬ r_1 = 0 → vp_in x1 2 ∧ ((¬ (s_isKept (Int32.toNatClampNeg x1)) = 0 → ∃ n : Nat, lpw2 (fun (B34 : Int32 → (Nat → Int32) → Prop) (x2_5 : Int32) (s_row_6 : Nat → Int32) => ((251 ≤ x2_5 → Q 1 s_refused s_row_6) ∧ (¬ 251 ≤ x2_5 → vp_in ((251 + (251 * x1)) + x2_5) 770 ∧ vp_in x2_5 770 ∧ ∀ s_row_11 : Nat → Int32, s_row_11 = upd s_row_6 (Int32.toNatClampNeg x2_5) (s_row_6 (Int32.toNatClampNeg ((251 + (251 * x1)) + x2_5))) → ∀ x2_12 : Int32, x2_12 = x2_5 + 1 → B34 x2_12 s_row_11))) n 0 s_row) ∧ ((s_isKept (Int32.toNatClampNeg x1)) = 0 → wp_Mo_refuse (-3) s_refused (fun (r_13 : Int32) (s_refused_14 : Nat → Int32) => Q r_13 s_refused_14 s_row)))) ∧ (r_1 = 0 → wp_Mo_refuse (-2) s_refused (fun (r_15 : Int32) (s_refused_16 : Nat → Int32) => Q r_15 s_refused_16 s_row))))
set_option maxHeartbeats 4000000 in
set_option maxRecDepth 100000 in
theorem co_Mo_from (l : Launch) (D : va_G) (cy : ClassId × ClassId × ClassId × ClassId) (a_this a_isKept a_refused a_row a_text a_words a_cost a_steps a_mates a_bestMates a_comes : Nat) (s_above : Int64) (s_below : Int64) (s_length : Int32) (s_at : Int32) (s_behind : Int32) (s_readFlitches : Int32) (s_readFamilies : Int32) (s_doing : Int32) (s_isKept : Nat → Int32) (s_refused : Nat → Int32) (s_row : Nat → Int32) (x1 : Int32) (Q : Int32 → (Nat → Int32) → (Nat → Int32) → Prop) (h : wp_Mo_from x1 s_isKept s_refused s_row Q) : CoI l yX9_from wsX9_from rm_Mo_from D cy [.ref a_this, .int x1] (Wd_Mo_from cy a_this a_isKept a_refused a_row a_text a_words a_cost a_steps a_mates a_bestMates a_comes s_above s_below s_length s_at s_behind s_readFlitches s_readFamilies s_doing s_isKept s_refused s_row) (fun u : (Nat → Int32) × (Nat → Int32) => (Wd_Mo_from cy a_this a_isKept a_refused a_row a_text a_words a_cost a_steps a_mates a_bestMates a_comes s_above s_below s_length s_at s_behind s_readFlitches s_readFamilies s_doing s_isKept u.1 u.2)) (fun (r : Int32) (u : (Nat → Int32) × (Nat → Int32)) => Q r u.1 u.2) := by
  refine st_metI (cc := cX9_from) (maxL := 3) RX9 (by decide) rfl rfl (Nat.le_of_ble_eq_true rfl) ?_
  intro p e s m args below meth c A QQ ls F hA hKK hP hD hS hl hret
  have hK := hKK.1
  have hnest := hKK.2.1
  have hx := F.1
  have hb := F.2.1
  have hown := F.2.2.2.1
  have hts := F.2.2.2.2
  have in_X9 : ∀ w ∈ u_ws RX9 TX9 18, w ∈ wsX9_from := (fun _ h => List.mem_cons_of_mem _ (List.mem_append_right _ h))
  have fl_7 := (hts (.fieldLink RX9 7 "RasherCaseModel" "row" "[I") (List.mem_of_getElem? (i := 2) rfl))
  have fl_13 := (hts (.fieldLink RX9 13 "RasherCaseModel" "isKept" "[Z") (List.mem_of_getElem? (i := 1) rfl))
  have hl : lv_has ls 3 [(0, .ref a_this), (1, .int x1)] := hl
  unfold wp_Mo_from at h
  refine lv_iload_n hx hb dX9_from_0 rfl (lv_at hl 1 rfl) ?_
  refine lv_iconst (v := 0) hx hb dX9_from_1 (by decide) ?_
  refine lv_iconst (v := 1) hx hb dX9_from_2 (by decide) ?_
  refine st_callRI (st_runSR (n := 3) (As := [.int x1, .int 0, .int 1]) (rest := []) F (co_Mo_in l D cy x1 0 1 _ h) gX9_from_X9_in rfl (by decide +kernel) rfl hKK hP [] rfl rfl hl.1 rfl (Nat.le_of_ble_eq_true rfl) dX9_from_3) (fun r_1 h => ?_)
  refine lv_if_ne (tgt := 16) hx hb dX9_from_6 (by decide) (fun c_2 => ?_) (fun c_2 => ?_)
  · have h := h.1 c_2
    refine lv_aload_n hx hb dX9_from_16 rfl (lv_at hl 0 rfl) ?_
    refine va_get (D := D) (ci := 8) (v := .ref a_isKept) (C := RX9) (T := TX9) (N := 18) hx hb hts in_X9 hown hK hP 0 rfl rfl 1 (by decide) fl_13 (fun _ h9 => h9) rfl dX9_from_17 ?_
    refine lv_iload_n hx hb dX9_from_20 rfl (lv_at hl 1 rfl) ?_
    obtain ⟨hi_3, h⟩ := h
    refine va_zald hx hb hK hP 1 2 rfl rfl hi_3 dX9_from_21 ?_
    refine lv_if_ne (tgt := 32) hx hb dX9_from_22 (by decide) (fun c_4 => ?_) (fun c_4 => ?_)
    · have h := h.1 c_4
      refine lv_iconst (v := 0) hx hb dX9_from_32 (by decide) ?_
      refine lv_istore_n (lv' := [(2, .int 0), (0, .ref a_this), (1, .int x1)]) hx hb dX9_from_33 rfl hl (by decide) rfl (fun ls hl => ?_)
      obtain ⟨T34_6, hz34_6, hs34_6, n34_6, h⟩ := lpw2_use h
      have kT34_6 : ∀ (n : Nat) (x2_5 : Int32) (s_row_6 : Nat → Int32) (H : Heap) (locs : List Loc) (ls : Array Slot), T34_6 n x2_5 s_row_6 → va_P D vwCl (Wd_Mo_from cy a_this a_isKept a_refused a_row a_text a_words a_cost a_steps a_mates a_bestMates a_comes s_above s_below s_length s_at s_behind s_readFlitches s_readFamilies s_doing s_isKept s_refused s_row_6) H → va_D A (Wd_Mo_from cy a_this a_isKept a_refused a_row a_text a_words a_cost a_steps a_mates a_bestMates a_comes s_above s_below s_length s_at s_behind s_readFlitches s_readFamilies s_doing s_isKept s_refused s_row_6) → va_S A s.heap H locs → lv_has ls 3 [(0, .ref a_this), (1, .int x1), (2, .int x2_5)] → W p l e rm_Mo_from s m args below meth c H locs 0 0 QQ (F0 m 34 ls []) := by
        intro n
        induction n with
        | zero => intro x2_5 s_row_6 H locs ls h; exact absurd h (hz34_6 _ _)
        | succ n ih34_6 =>
          intro x2_5 s_row_6 H locs ls h hP hD hS hl
          have h := hs34_6 _ _ _ h
          refine lv_iload_n hx hb dX9_from_34 rfl (lv_at hl 2 rfl) ?_
          refine lv_sipush (v := 251) hx hb dX9_from_35 (by decide) ?_
          refine lv_icmp_ge (tgt := 69) hx hb dX9_from_38 (by decide) (fun c_8 => ?_) (fun c_8 => ?_)
          · have h := h.1 c_8
            refine lv_iconst (v := 1) hx hb dX9_from_69 (by decide) ?_
            exact hret _ (s_refused, s_row_6) _ _ _ _ h hP hD hS dX9_from_70
          · have h := h.2 c_8
            refine lv_aload_n hx hb dX9_from_41 rfl (lv_at hl 0 rfl) ?_
            refine va_get (D := D) (ci := 8) (v := .ref a_row) (C := RX9) (T := TX9) (N := 18) hx hb hts in_X9 hown hK hP 0 rfl rfl 0 (by decide) fl_7 (fun _ h9 => h9) rfl dX9_from_42 ?_
            refine lv_iload_n hx hb dX9_from_45 rfl (lv_at hl 2 rfl) ?_
            refine lv_aload_n hx hb dX9_from_46 rfl (lv_at hl 0 rfl) ?_
            refine va_get (D := D) (ci := 8) (v := .ref a_row) (C := RX9) (T := TX9) (N := 18) hx hb hts in_X9 hown hK hP 0 rfl rfl 0 (by decide) fl_7 (fun _ h9 => h9) rfl dX9_from_47 ?_
            refine lv_sipush (v := 251) hx hb dX9_from_50 (by decide) ?_
            refine lv_sipush (v := 251) hx hb dX9_from_53 (by decide) ?_
            refine lv_iload_n hx hb dX9_from_56 rfl (lv_at hl 1 rfl) ?_
            refine lv_imul hx hb dX9_from_57 ?_
            refine lv_iadd hx hb dX9_from_58 ?_
            refine lv_iload_n hx hb dX9_from_59 rfl (lv_at hl 2 rfl) ?_
            refine lv_iadd hx hb dX9_from_60 ?_
            obtain ⟨hi_9, h⟩ := h
            refine va_iald hx hb hK hP 3 1 rfl rfl hi_9 dX9_from_61 ?_
            obtain ⟨hi_10, h⟩ := h
            refine va_iast hx hb hK hP hD hS 3 1 rfl rfl hi_10 dX9_from_62 (fun H locs hP hD hS => ?_)
            obtain ⟨s_row_11, es_row_11⟩ : ∃ f : Nat → Int32, f = upd s_row_6 (Int32.toNatClampNeg x2_5) (s_row_6 (Int32.toNatClampNeg ((251 + (251 * x1)) + x2_5))) := ⟨_, rfl⟩
            have hP : va_P D vwCl (Wd_Mo_from cy a_this a_isKept a_refused a_row a_text a_words a_cost a_steps a_mates a_bestMates a_comes s_above s_below s_length s_at s_behind s_readFlitches s_readFamilies s_doing s_isKept s_refused s_row_11) H := by rw [es_row_11]; exact hP
            have hD : va_D A (Wd_Mo_from cy a_this a_isKept a_refused a_row a_text a_words a_cost a_steps a_mates a_bestMates a_comes s_above s_below s_length s_at s_behind s_readFlitches s_readFamilies s_doing s_isKept s_refused s_row_11) := by rw [es_row_11]; exact hD
            have h := h s_row_11 es_row_11
            obtain ⟨x2_12, ex2_12⟩ : ∃ y : Int32, y = x2_5 + 1 := ⟨_, rfl⟩
            have h := h x2_12 ex2_12
            refine lv_iinc (v := x2_12) (lv' := [(2, .int x2_12), (0, .ref a_this), (1, .int x1)]) hx hb dX9_from_63 hl (k := 2) rfl (by rw [ex2_12]; rfl) (by decide) rfl (fun ls hl => ?_)
            refine lv_goto (tgt := 34) hx hb dX9_from_66 (by decide) ?_
            exact ih34_6 _ _ _ _ _ h hP hD hS (lv_sub hl [1, 2, 0] rfl)
      exact kT34_6 n34_6 _ _ _ _ _ h hP hD hS (lv_sub hl [1, 2, 0] rfl)
    · have h := h.2 c_4
      refine lv_aload_n hx hb dX9_from_25 rfl (lv_at hl 0 rfl) ?_
      refine lv_bipush (v := (-3)) hx hb dX9_from_26 (by decide) ?_
      refine st_callI (WR := [1, 3].filterMap (fun i => (Wd_Mo_from cy a_this a_isKept a_refused a_row a_text a_words a_cost a_steps a_mates a_bestMates a_comes s_above s_below s_length s_at s_behind s_readFlitches s_readFamilies s_doing s_isKept s_refused s_row)[i]?)) (WSn := fun u => (Wd_Mo_from cy a_this a_isKept a_refused a_row a_text a_words a_cost a_steps a_mates a_bestMates a_comes s_above s_below s_length s_at s_behind s_readFlitches s_readFamilies s_doing s_isKept u s_row)) (st_runV (n := 1) (As := [.int (-3)]) (rest := []) (q0 := 0) F ((co_Mo_refuse l D cy a_this a_refused a_row a_isKept a_text a_words a_cost a_steps a_mates a_bestMates a_comes s_above s_below s_length s_at s_behind s_readFlitches s_readFamilies s_doing s_refused (-3) _ h) _) rfl gX9_from_X9_refuse rfl (by decide +kernel) rfl hKK hP hD [0, 2] rfl rfl rfl rfl rfl hl.1 rfl (Nat.le_of_ble_eq_true rfl) dX9_from_28) hP hD hS hA [0, 2] [1, 3] [2, 0, 3, 1] rfl rfl rfl (fun _ => rfl) (fun r_13 u H locs h hP hD hS => ?_)
      obtain ⟨s_refused_14, rfl⟩ : ∃ z, z = u := ⟨_, rfl⟩
      have hP : va_P D vwCl (Wd_Mo_from cy a_this a_isKept a_refused a_row a_text a_words a_cost a_steps a_mates a_bestMates a_comes s_above s_below s_length s_at s_behind s_readFlitches s_readFamilies s_doing s_isKept s_refused_14 s_row) H := hP
      have hD : va_D A (Wd_Mo_from cy a_this a_isKept a_refused a_row a_text a_words a_cost a_steps a_mates a_bestMates a_comes s_above s_below s_length s_at s_behind s_readFlitches s_readFamilies s_doing s_isKept s_refused_14 s_row) := hD
      exact hret _ (s_refused_14, s_row) _ _ _ _ h hP hD hS dX9_from_31
  · have h := h.2 c_2
    refine lv_aload_n hx hb dX9_from_9 rfl (lv_at hl 0 rfl) ?_
    refine lv_bipush (v := (-2)) hx hb dX9_from_10 (by decide) ?_
    refine st_callI (WR := [1, 3].filterMap (fun i => (Wd_Mo_from cy a_this a_isKept a_refused a_row a_text a_words a_cost a_steps a_mates a_bestMates a_comes s_above s_below s_length s_at s_behind s_readFlitches s_readFamilies s_doing s_isKept s_refused s_row)[i]?)) (WSn := fun u => (Wd_Mo_from cy a_this a_isKept a_refused a_row a_text a_words a_cost a_steps a_mates a_bestMates a_comes s_above s_below s_length s_at s_behind s_readFlitches s_readFamilies s_doing s_isKept u s_row)) (st_runV (n := 1) (As := [.int (-2)]) (rest := []) (q0 := 0) F ((co_Mo_refuse l D cy a_this a_refused a_row a_isKept a_text a_words a_cost a_steps a_mates a_bestMates a_comes s_above s_below s_length s_at s_behind s_readFlitches s_readFamilies s_doing s_refused (-2) _ h) _) rfl gX9_from_X9_refuse rfl (by decide +kernel) rfl hKK hP hD [0, 2] rfl rfl rfl rfl rfl hl.1 rfl (Nat.le_of_ble_eq_true rfl) dX9_from_12) hP hD hS hA [0, 2] [1, 3] [2, 0, 3, 1] rfl rfl rfl (fun _ => rfl) (fun r_15 u H locs h hP hD hS => ?_)
    obtain ⟨s_refused_16, rfl⟩ : ∃ z, z = u := ⟨_, rfl⟩
    have hP : va_P D vwCl (Wd_Mo_from cy a_this a_isKept a_refused a_row a_text a_words a_cost a_steps a_mates a_bestMates a_comes s_above s_below s_length s_at s_behind s_readFlitches s_readFamilies s_doing s_isKept s_refused_16 s_row) H := hP
    have hD : va_D A (Wd_Mo_from cy a_this a_isKept a_refused a_row a_text a_words a_cost a_steps a_mates a_bestMates a_comes s_above s_below s_length s_at s_behind s_readFlitches s_readFamilies s_doing s_isKept s_refused_16 s_row) := hD
    exact hret _ (s_refused_16, s_row) _ _ _ _ h hP hD hS dX9_from_15
abbrev Wd_Mo_status (cy : ClassId × ClassId × ClassId × ClassId) (a_this a_refused a_row a_isKept a_text a_words a_cost a_steps a_mates a_bestMates a_comes : Nat) (s_above : Int64) (s_below : Int64) (s_length : Int32) (s_at : Int32) (s_behind : Int32) (s_readFlitches : Int32) (s_readFamilies : Int32) (s_doing : Int32) (s_refused : Nat → Int32) : va_W := [(a_this, .inr (8, [.ref a_row, .ref a_isKept, .ref a_refused, .long s_above, .long s_below, .ref a_text, .int s_length, .ref a_words, .int s_at, .int s_behind, .int s_readFlitches, .int s_readFamilies, .int s_doing, .ref a_cost, .ref a_steps, .ref a_mates, .ref a_bestMates, .ref a_comes])), (a_refused, .inl (cy.2.1, 3, .inl s_refused))]
abbrev rm_Mo_status : Room := { frames := 2, cells := 0, slots := 0, locals := 42 }
def wp_Mo_status (x1 : Int32) (s_refused : Nat → Int32) (Q : Int32 → (Nat → Int32) → Prop) : Prop := wp_Mo_in x1 0 2 (fun (r_1 : Int32) => ((r_1 = 0 → wp_Mo_badAs (-1) s_refused (fun (r_3 : Int32) (s_refused_4 : Nat → Int32) => Q r_3 s_refused_4)) ∧ (¬ r_1 = 0 → vp_in x1 3 ∧ Q (s_refused (Int32.toNatClampNeg x1)) s_refused)))
set_option maxHeartbeats 4000000 in
set_option maxRecDepth 100000 in
theorem co_Mo_status (l : Launch) (D : va_G) (cy : ClassId × ClassId × ClassId × ClassId) (a_this a_refused a_row a_isKept a_text a_words a_cost a_steps a_mates a_bestMates a_comes : Nat) (s_above : Int64) (s_below : Int64) (s_length : Int32) (s_at : Int32) (s_behind : Int32) (s_readFlitches : Int32) (s_readFamilies : Int32) (s_doing : Int32) (s_refused : Nat → Int32) (x1 : Int32) (Q : Int32 → (Nat → Int32) → Prop) (h : wp_Mo_status x1 s_refused Q) : CoI l yX9_status wsX9_status rm_Mo_status D cy [.ref a_this, .int x1] (Wd_Mo_status cy a_this a_refused a_row a_isKept a_text a_words a_cost a_steps a_mates a_bestMates a_comes s_above s_below s_length s_at s_behind s_readFlitches s_readFamilies s_doing s_refused) (fun u : (Nat → Int32) => (Wd_Mo_status cy a_this a_refused a_row a_isKept a_text a_words a_cost a_steps a_mates a_bestMates a_comes s_above s_below s_length s_at s_behind s_readFlitches s_readFamilies s_doing u)) (fun (r : Int32) (u : (Nat → Int32)) => Q r u) := by
  refine st_metI (cc := cX9_status) (maxL := 2) RX9 (by decide) rfl rfl (Nat.le_of_ble_eq_true rfl) ?_
  intro p e s m args below meth c A QQ ls F hA hKK hP hD hS hl hret
  have hK := hKK.1
  have hnest := hKK.2.1
  have hx := F.1
  have hb := F.2.1
  have hown := F.2.2.2.1
  have hts := F.2.2.2.2
  have in_X9 : ∀ w ∈ u_ws RX9 TX9 18, w ∈ wsX9_status := (fun _ h => List.mem_cons_of_mem _ (List.mem_append_right _ h))
  have fl_17 := (hts (.fieldLink RX9 17 "RasherCaseModel" "refused" "[I") (List.mem_of_getElem? (i := 1) rfl))
  have hl : lv_has ls 2 [(0, .ref a_this), (1, .int x1)] := hl
  unfold wp_Mo_status at h
  refine lv_iload_n hx hb dX9_status_0 rfl (lv_at hl 1 rfl) ?_
  refine lv_iconst (v := 0) hx hb dX9_status_1 (by decide) ?_
  refine lv_iconst (v := 2) hx hb dX9_status_2 (by decide) ?_
  refine st_callRI (st_runSR (n := 3) (As := [.int x1, .int 0, .int 2]) (rest := []) F (co_Mo_in l D cy x1 0 2 _ h) gX9_status_X9_in rfl (by decide +kernel) rfl hKK hP [] rfl rfl hl.1 rfl (Nat.le_of_ble_eq_true rfl) dX9_status_3) (fun r_1 h => ?_)
  refine lv_if_eq (tgt := 18) hx hb dX9_status_6 (by decide) (fun c_2 => ?_) (fun c_2 => ?_)
  · have h := h.1 c_2
    refine lv_aload_n hx hb dX9_status_18 rfl (lv_at hl 0 rfl) ?_
    refine lv_iconst (v := (-1)) hx hb dX9_status_19 (by decide) ?_
    refine st_callI (WR := []) (WSn := fun u => (Wd_Mo_status cy a_this a_refused a_row a_isKept a_text a_words a_cost a_steps a_mates a_bestMates a_comes s_above s_below s_length s_at s_behind s_readFlitches s_readFamilies s_doing u)) (st_runV (n := 1) (As := [.int (-1)]) (rest := []) (q0 := 0) F ((co_Mo_badAs l D cy a_this a_refused a_row a_isKept a_text a_words a_cost a_steps a_mates a_bestMates a_comes s_above s_below s_length s_at s_behind s_readFlitches s_readFamilies s_doing s_refused (-1) _ h) _) rfl gX9_status_X9_badAs rfl (by decide +kernel) rfl hKK hP hD [0, 1] rfl rfl rfl rfl rfl hl.1 rfl (Nat.le_of_ble_eq_true rfl) dX9_status_20) hP hD hS hA [0, 1] [] [0, 1] rfl rfl rfl (fun _ => rfl) (fun r_3 u H locs h hP hD hS => ?_)
    obtain ⟨s_refused_4, rfl⟩ : ∃ z, z = u := ⟨_, rfl⟩
    have hP : va_P D vwCl (Wd_Mo_status cy a_this a_refused a_row a_isKept a_text a_words a_cost a_steps a_mates a_bestMates a_comes s_above s_below s_length s_at s_behind s_readFlitches s_readFamilies s_doing s_refused_4) H := hP
    have hD : va_D A (Wd_Mo_status cy a_this a_refused a_row a_isKept a_text a_words a_cost a_steps a_mates a_bestMates a_comes s_above s_below s_length s_at s_behind s_readFlitches s_readFamilies s_doing s_refused_4) := hD
    exact hret _ (s_refused_4) _ _ _ _ h hP hD hS dX9_status_23
  · have h := h.2 c_2
    refine lv_aload_n hx hb dX9_status_9 rfl (lv_at hl 0 rfl) ?_
    refine va_get (D := D) (ci := 8) (v := .ref a_refused) (C := RX9) (T := TX9) (N := 18) hx hb hts in_X9 hown hK hP 0 rfl rfl 2 (by decide) fl_17 (fun _ h9 => h9) rfl dX9_status_10 ?_
    refine lv_iload_n hx hb dX9_status_13 rfl (lv_at hl 1 rfl) ?_
    obtain ⟨hi_5, h⟩ := h
    refine va_iald hx hb hK hP 1 1 rfl rfl hi_5 dX9_status_14 ?_
    refine lv_goto (tgt := 23) hx hb dX9_status_15 (by decide) ?_
    exact hret _ (s_refused) _ _ _ _ h hP hD hS dX9_status_23
abbrev Wd_Mo_allWill (cy : ClassId × ClassId × ClassId × ClassId) (a_this a_row a_isKept a_refused a_text a_words a_cost a_steps a_mates a_bestMates a_comes : Nat) (s_above : Int64) (s_below : Int64) (s_length : Int32) (s_at : Int32) (s_behind : Int32) (s_readFlitches : Int32) (s_readFamilies : Int32) (s_doing : Int32) (s_row : Nat → Int32) : va_W := [(a_this, .inr (8, [.ref a_row, .ref a_isKept, .ref a_refused, .long s_above, .long s_below, .ref a_text, .int s_length, .ref a_words, .int s_at, .int s_behind, .int s_readFlitches, .int s_readFamilies, .int s_doing, .ref a_cost, .ref a_steps, .ref a_mates, .ref a_bestMates, .ref a_comes])), (a_row, .inl (cy.2.1, 770, .inl s_row))]
abbrev rm_Mo_allWill : Room := { frames := 0, cells := 0, slots := 0, locals := 0 }
def wp_Mo_allWill (s_row : Nat → Int32) (Q : Int32 → Prop) : Prop := ∃ n : Nat, lpw2 (fun (B4 : Int32 → Int32 → Prop) (x1_1 : Int32) (x2_2 : Int32) => ((7 ≤ x2_2 → Q x1_1) ∧ (¬ 7 ≤ x2_2 → vp_in (0 + x2_2) 770 ∧ ∀ x1_6 : Int32, x1_6 = (x1_1 + (s_row (Int32.toNatClampNeg (0 + x2_2)))) → ∀ x2_7 : Int32, x2_7 = x2_2 + 1 → B4 x1_6 x2_7))) n 0 0
set_option maxHeartbeats 4000000 in
set_option maxRecDepth 100000 in
theorem co_Mo_allWill (l : Launch) (D : va_G) (cy : ClassId × ClassId × ClassId × ClassId) (a_this a_row a_isKept a_refused a_text a_words a_cost a_steps a_mates a_bestMates a_comes : Nat) (s_above : Int64) (s_below : Int64) (s_length : Int32) (s_at : Int32) (s_behind : Int32) (s_readFlitches : Int32) (s_readFamilies : Int32) (s_doing : Int32) (s_row : Nat → Int32) (Q : Int32 → Prop) (h : wp_Mo_allWill s_row Q) : RoI l yX9_allWill wsX9_allWill rm_Mo_allWill D cy [.ref a_this] (Wd_Mo_allWill cy a_this a_row a_isKept a_refused a_text a_words a_cost a_steps a_mates a_bestMates a_comes s_above s_below s_length s_at s_behind s_readFlitches s_readFamilies s_doing s_row) Q := by
  refine st_metRI (cc := cX9_allWill) (maxL := 3) RX9 (by decide) rfl rfl (Nat.le_of_ble_eq_true rfl) ?_
  intro p e s m args below meth c QQ ls F hKK hP hl hret
  have hK := hKK.1
  have hnest := hKK.2.1
  have hx := F.1
  have hb := F.2.1
  have hown := F.2.2.2.1
  have hts := F.2.2.2.2
  have in_X9 : ∀ w ∈ u_ws RX9 TX9 18, w ∈ wsX9_allWill := (fun _ h => List.mem_cons_of_mem _ (List.mem_append_right _ h))
  have fl_7 := (hts (.fieldLink RX9 7 "RasherCaseModel" "row" "[I") (List.mem_of_getElem? (i := 1) rfl))
  have hl : lv_has ls 3 [(0, .ref a_this)] := hl
  unfold wp_Mo_allWill at h
  refine lv_iconst (v := 0) hx hb dX9_allWill_0 (by decide) ?_
  refine lv_istore_n (lv' := [(1, .int 0), (0, .ref a_this)]) hx hb dX9_allWill_1 rfl hl (by decide) rfl (fun ls hl => ?_)
  refine lv_iconst (v := 0) hx hb dX9_allWill_2 (by decide) ?_
  refine lv_istore_n (lv' := [(2, .int 0), (1, .int 0), (0, .ref a_this)]) hx hb dX9_allWill_3 rfl hl (by decide) rfl (fun ls hl => ?_)
  obtain ⟨T4_2, hz4_2, hs4_2, n4_2, h⟩ := lpw2_use h
  have kT4_2 : ∀ (n : Nat) (x1_1 : Int32) (x2_2 : Int32) (ls : Array Slot), T4_2 n x1_1 x2_2 → lv_has ls 3 [(0, .ref a_this), (1, .int x1_1), (2, .int x2_2)] → W p l e rm_Mo_allWill s m args below meth c s.heap [] 0 0 QQ (F0 m 4 ls []) := by
    intro n
    induction n with
    | zero => intro x1_1 x2_2 ls h; exact absurd h (hz4_2 _ _)
    | succ n ih4_2 =>
      intro x1_1 x2_2 ls h hl
      have h := hs4_2 _ _ _ h
      refine lv_iload_n hx hb dX9_allWill_4 rfl (lv_at hl 2 rfl) ?_
      refine lv_bipush (v := 7) hx hb dX9_allWill_5 (by decide) ?_
      refine lv_icmp_ge (tgt := 27) hx hb dX9_allWill_7 (by decide) (fun c_4 => ?_) (fun c_4 => ?_)
      · have h := h.1 c_4
        refine lv_iload_n hx hb dX9_allWill_27 rfl (lv_at hl 1 rfl) ?_
        exact hret _ _ _ h dX9_allWill_28
      · have h := h.2 c_4
        refine lv_iload_n hx hb dX9_allWill_10 rfl (lv_at hl 1 rfl) ?_
        refine lv_aload_n hx hb dX9_allWill_11 rfl (lv_at hl 0 rfl) ?_
        refine va_get (D := D) (ci := 8) (v := .ref a_row) (C := RX9) (T := TX9) (N := 18) hx hb hts in_X9 hown hK hP 0 rfl rfl 0 (by decide) fl_7 (fun _ h9 => h9) rfl dX9_allWill_12 ?_
        refine lv_iconst (v := 0) hx hb dX9_allWill_15 (by decide) ?_
        refine lv_iload_n hx hb dX9_allWill_16 rfl (lv_at hl 2 rfl) ?_
        refine lv_iadd hx hb dX9_allWill_17 ?_
        obtain ⟨hi_5, h⟩ := h
        refine va_iald hx hb hK hP 1 1 rfl rfl hi_5 dX9_allWill_18 ?_
        refine lv_iadd hx hb dX9_allWill_19 ?_
        refine lv_topi (fun x1_6 ex1_6 => ?_)
        have h := h x1_6 ex1_6
        refine lv_istore_n (lv' := [(1, .int x1_6), (0, .ref a_this), (2, .int x2_2)]) hx hb dX9_allWill_20 rfl hl (by decide) rfl (fun ls hl => ?_)
        obtain ⟨x2_7, ex2_7⟩ : ∃ y : Int32, y = x2_2 + 1 := ⟨_, rfl⟩
        have h := h x2_7 ex2_7
        refine lv_iinc (v := x2_7) (lv' := [(2, .int x2_7), (1, .int x1_6), (0, .ref a_this)]) hx hb dX9_allWill_21 hl (k := 2) rfl (by rw [ex2_7]; rfl) (by decide) rfl (fun ls hl => ?_)
        refine lv_goto (tgt := 4) hx hb dX9_allWill_24 (by decide) ?_
        exact ih4_2 _ _ _ h (lv_sub hl [2, 1, 0] rfl)
  exact kT4_2 n4_2 _ _ _ h (lv_sub hl [2, 1, 0] rfl)
abbrev Wd_Mo_countOf (cy : ClassId × ClassId × ClassId × ClassId) (a_this a_row a_isKept a_refused a_text a_words a_cost a_steps a_mates a_bestMates a_comes : Nat) (s_above : Int64) (s_below : Int64) (s_length : Int32) (s_at : Int32) (s_behind : Int32) (s_readFlitches : Int32) (s_readFamilies : Int32) (s_doing : Int32) (s_row : Nat → Int32) : va_W := [(a_this, .inr (8, [.ref a_row, .ref a_isKept, .ref a_refused, .long s_above, .long s_below, .ref a_text, .int s_length, .ref a_words, .int s_at, .int s_behind, .int s_readFlitches, .int s_readFamilies, .int s_doing, .ref a_cost, .ref a_steps, .ref a_mates, .ref a_bestMates, .ref a_comes])), (a_row, .inl (cy.2.1, 770, .inl s_row))]
abbrev rm_Mo_countOf : Room := { frames := 1, cells := 0, slots := 0, locals := 22 }
def wp_Mo_countOf (x1 : Int32) (s_length : Int32) (s_row : Nat → Int32) (Q : Int32 → Prop) : Prop := ((x1 = 0 → Q (s_row (Int32.toNatClampNeg 27))) ∧ (¬ x1 = 0 → ((x1 = 1 → Q (s_row (Int32.toNatClampNeg 17))) ∧ (¬ x1 = 1 → ((x1 = 2 → wp_Mo_bits (s_row (Int32.toNatClampNeg 15)) (fun (r_4 : Int32) => Q r_4)) ∧ (¬ x1 = 2 → ((x1 = 3 → wp_Mo_bits (s_row (Int32.toNatClampNeg 7)) (fun (r_6 : Int32) => Q r_6)) ∧ (¬ x1 = 3 → ((x1 = 4 → Q (s_row (Int32.toNatClampNeg 16))) ∧ (¬ x1 = 4 → ((x1 = 5 → wp_Mo_allWill s_row (fun (r_9 : Int32) => Q r_9)) ∧ (¬ x1 = 5 → ((x1 = 6 → Q (s_row (Int32.toNatClampNeg 42))) ∧ (¬ x1 = 6 → ((x1 = 7 → Q (s_row (Int32.toNatClampNeg 58))) ∧ (¬ x1 = 7 → ((x1 = 8 → Q (s_row (Int32.toNatClampNeg 89))) ∧ (¬ x1 = 8 → ((x1 = 9 → Q (s_row (Int32.toNatClampNeg 114))) ∧ (¬ x1 = 9 → Q s_length))))))))))))))))))))
set_option maxHeartbeats 4000000 in
set_option maxRecDepth 100000 in
theorem co_Mo_countOf (l : Launch) (D : va_G) (cy : ClassId × ClassId × ClassId × ClassId) (a_this a_row a_isKept a_refused a_text a_words a_cost a_steps a_mates a_bestMates a_comes : Nat) (s_above : Int64) (s_below : Int64) (s_length : Int32) (s_at : Int32) (s_behind : Int32) (s_readFlitches : Int32) (s_readFamilies : Int32) (s_doing : Int32) (s_row : Nat → Int32) (x1 : Int32) (Q : Int32 → Prop) (h : wp_Mo_countOf x1 s_length s_row Q) : RoI l yX9_countOf wsX9_countOf rm_Mo_countOf D cy [.ref a_this, .int x1] (Wd_Mo_countOf cy a_this a_row a_isKept a_refused a_text a_words a_cost a_steps a_mates a_bestMates a_comes s_above s_below s_length s_at s_behind s_readFlitches s_readFamilies s_doing s_row) Q := by
  refine st_metRI (cc := cX9_countOf) (maxL := 2) RX9 (by decide) rfl rfl (Nat.le_of_ble_eq_true rfl) ?_
  intro p e s m args below meth c QQ ls F hKK hP hl hret
  have hK := hKK.1
  have hnest := hKK.2.1
  have hx := F.1
  have hb := F.2.1
  have hown := F.2.2.2.1
  have hts := F.2.2.2.2
  have in_X9 : ∀ w ∈ u_ws RX9 TX9 18, w ∈ wsX9_countOf := (fun _ h => List.mem_cons_of_mem _ (List.mem_append_right _ h))
  have fl_7 := (hts (.fieldLink RX9 7 "RasherCaseModel" "row" "[I") (List.mem_of_getElem? (i := 1) rfl))
  have fl_64 := (hts (.fieldLink RX9 64 "RasherCaseModel" "length" "I") (List.mem_of_getElem? (i := 2) rfl))
  have hl : lv_has ls 2 [(0, .ref a_this), (1, .int x1)] := hl
  unfold wp_Mo_countOf at h
  refine lv_iload_n hx hb dX9_countOf_0 rfl (lv_at hl 1 rfl) ?_
  by_cases c_1 : x1 = 0
  · have h := h.1 c_1
    refine lv_tableIn (tgt := 56) hx hb dX9_countOf_1 (by rw [c_1]; decide) (by rw [c_1]; decide) (by rw [c_1]; rfl) (by decide) ?_
    refine lv_aload_n hx hb dX9_countOf_56 rfl (lv_at hl 0 rfl) ?_
    refine va_get (D := D) (ci := 8) (v := .ref a_row) (C := RX9) (T := TX9) (N := 18) hx hb hts in_X9 hown hK hP 0 rfl rfl 0 (by decide) fl_7 (fun _ h9 => h9) rfl dX9_countOf_57 ?_
    refine lv_bipush (v := 27) hx hb dX9_countOf_60 (by decide) ?_
    refine va_iald hx hb hK hP 1 1 rfl rfl (by unfold vp_in; decide) dX9_countOf_62 ?_
    exact hret _ _ _ h dX9_countOf_63
  · have h := h.2 c_1
    by_cases c_2 : x1 = 1
    · have h := h.1 c_2
      refine lv_tableIn (tgt := 64) hx hb dX9_countOf_1 (by rw [c_2]; decide) (by rw [c_2]; decide) (by rw [c_2]; rfl) (by decide) ?_
      refine lv_aload_n hx hb dX9_countOf_64 rfl (lv_at hl 0 rfl) ?_
      refine va_get (D := D) (ci := 8) (v := .ref a_row) (C := RX9) (T := TX9) (N := 18) hx hb hts in_X9 hown hK hP 0 rfl rfl 0 (by decide) fl_7 (fun _ h9 => h9) rfl dX9_countOf_65 ?_
      refine lv_bipush (v := 17) hx hb dX9_countOf_68 (by decide) ?_
      refine va_iald hx hb hK hP 1 1 rfl rfl (by unfold vp_in; decide) dX9_countOf_70 ?_
      exact hret _ _ _ h dX9_countOf_71
    · have h := h.2 c_2
      by_cases c_3 : x1 = 2
      · have h := h.1 c_3
        refine lv_tableIn (tgt := 72) hx hb dX9_countOf_1 (by rw [c_3]; decide) (by rw [c_3]; decide) (by rw [c_3]; rfl) (by decide) ?_
        refine lv_aload_n hx hb dX9_countOf_72 rfl (lv_at hl 0 rfl) ?_
        refine va_get (D := D) (ci := 8) (v := .ref a_row) (C := RX9) (T := TX9) (N := 18) hx hb hts in_X9 hown hK hP 0 rfl rfl 0 (by decide) fl_7 (fun _ h9 => h9) rfl dX9_countOf_73 ?_
        refine lv_bipush (v := 15) hx hb dX9_countOf_76 (by decide) ?_
        refine va_iald hx hb hK hP 1 1 rfl rfl (by unfold vp_in; decide) dX9_countOf_78 ?_
        refine st_callRI (st_runSR (n := 1) (As := [.int (s_row (Int32.toNatClampNeg 15))]) (rest := []) F (co_Mo_bits l D cy (s_row (Int32.toNatClampNeg 15)) _ h) gX9_countOf_X9_bits rfl (by decide +kernel) rfl hKK hP [] rfl rfl hl.1 rfl (Nat.le_of_ble_eq_true rfl) dX9_countOf_79) (fun r_4 h => ?_)
        exact hret _ _ _ h dX9_countOf_82
      · have h := h.2 c_3
        by_cases c_5 : x1 = 3
        · have h := h.1 c_5
          refine lv_tableIn (tgt := 83) hx hb dX9_countOf_1 (by rw [c_5]; decide) (by rw [c_5]; decide) (by rw [c_5]; rfl) (by decide) ?_
          refine lv_aload_n hx hb dX9_countOf_83 rfl (lv_at hl 0 rfl) ?_
          refine va_get (D := D) (ci := 8) (v := .ref a_row) (C := RX9) (T := TX9) (N := 18) hx hb hts in_X9 hown hK hP 0 rfl rfl 0 (by decide) fl_7 (fun _ h9 => h9) rfl dX9_countOf_84 ?_
          refine lv_bipush (v := 7) hx hb dX9_countOf_87 (by decide) ?_
          refine va_iald hx hb hK hP 1 1 rfl rfl (by unfold vp_in; decide) dX9_countOf_89 ?_
          refine st_callRI (st_runSR (n := 1) (As := [.int (s_row (Int32.toNatClampNeg 7))]) (rest := []) F (co_Mo_bits l D cy (s_row (Int32.toNatClampNeg 7)) _ h) gX9_countOf_X9_bits rfl (by decide +kernel) rfl hKK hP [] rfl rfl hl.1 rfl (Nat.le_of_ble_eq_true rfl) dX9_countOf_90) (fun r_6 h => ?_)
          exact hret _ _ _ h dX9_countOf_93
        · have h := h.2 c_5
          by_cases c_7 : x1 = 4
          · have h := h.1 c_7
            refine lv_tableIn (tgt := 94) hx hb dX9_countOf_1 (by rw [c_7]; decide) (by rw [c_7]; decide) (by rw [c_7]; rfl) (by decide) ?_
            refine lv_aload_n hx hb dX9_countOf_94 rfl (lv_at hl 0 rfl) ?_
            refine va_get (D := D) (ci := 8) (v := .ref a_row) (C := RX9) (T := TX9) (N := 18) hx hb hts in_X9 hown hK hP 0 rfl rfl 0 (by decide) fl_7 (fun _ h9 => h9) rfl dX9_countOf_95 ?_
            refine lv_bipush (v := 16) hx hb dX9_countOf_98 (by decide) ?_
            refine va_iald hx hb hK hP 1 1 rfl rfl (by unfold vp_in; decide) dX9_countOf_100 ?_
            exact hret _ _ _ h dX9_countOf_101
          · have h := h.2 c_7
            by_cases c_8 : x1 = 5
            · have h := h.1 c_8
              refine lv_tableIn (tgt := 102) hx hb dX9_countOf_1 (by rw [c_8]; decide) (by rw [c_8]; decide) (by rw [c_8]; rfl) (by decide) ?_
              refine lv_aload_n hx hb dX9_countOf_102 rfl (lv_at hl 0 rfl) ?_
              refine st_callRI (st_runVR (n := 0) (As := []) (rest := []) (q0 := 0) F (co_Mo_allWill l D cy a_this a_row a_isKept a_refused a_text a_words a_cost a_steps a_mates a_bestMates a_comes s_above s_below s_length s_at s_behind s_readFlitches s_readFamilies s_doing s_row _ h) gX9_countOf_X9_allWill rfl (by decide +kernel) rfl hKK hP [0, 1] rfl rfl rfl rfl hl.1 rfl (Nat.le_of_ble_eq_true rfl) dX9_countOf_103) (fun r_9 h => ?_)
              exact hret _ _ _ h dX9_countOf_106
            · have h := h.2 c_8
              by_cases c_10 : x1 = 6
              · have h := h.1 c_10
                refine lv_tableIn (tgt := 107) hx hb dX9_countOf_1 (by rw [c_10]; decide) (by rw [c_10]; decide) (by rw [c_10]; rfl) (by decide) ?_
                refine lv_aload_n hx hb dX9_countOf_107 rfl (lv_at hl 0 rfl) ?_
                refine va_get (D := D) (ci := 8) (v := .ref a_row) (C := RX9) (T := TX9) (N := 18) hx hb hts in_X9 hown hK hP 0 rfl rfl 0 (by decide) fl_7 (fun _ h9 => h9) rfl dX9_countOf_108 ?_
                refine lv_bipush (v := 42) hx hb dX9_countOf_111 (by decide) ?_
                refine va_iald hx hb hK hP 1 1 rfl rfl (by unfold vp_in; decide) dX9_countOf_113 ?_
                exact hret _ _ _ h dX9_countOf_114
              · have h := h.2 c_10
                by_cases c_11 : x1 = 7
                · have h := h.1 c_11
                  refine lv_tableIn (tgt := 115) hx hb dX9_countOf_1 (by rw [c_11]; decide) (by rw [c_11]; decide) (by rw [c_11]; rfl) (by decide) ?_
                  refine lv_aload_n hx hb dX9_countOf_115 rfl (lv_at hl 0 rfl) ?_
                  refine va_get (D := D) (ci := 8) (v := .ref a_row) (C := RX9) (T := TX9) (N := 18) hx hb hts in_X9 hown hK hP 0 rfl rfl 0 (by decide) fl_7 (fun _ h9 => h9) rfl dX9_countOf_116 ?_
                  refine lv_bipush (v := 58) hx hb dX9_countOf_119 (by decide) ?_
                  refine va_iald hx hb hK hP 1 1 rfl rfl (by unfold vp_in; decide) dX9_countOf_121 ?_
                  exact hret _ _ _ h dX9_countOf_122
                · have h := h.2 c_11
                  by_cases c_12 : x1 = 8
                  · have h := h.1 c_12
                    refine lv_tableIn (tgt := 123) hx hb dX9_countOf_1 (by rw [c_12]; decide) (by rw [c_12]; decide) (by rw [c_12]; rfl) (by decide) ?_
                    refine lv_aload_n hx hb dX9_countOf_123 rfl (lv_at hl 0 rfl) ?_
                    refine va_get (D := D) (ci := 8) (v := .ref a_row) (C := RX9) (T := TX9) (N := 18) hx hb hts in_X9 hown hK hP 0 rfl rfl 0 (by decide) fl_7 (fun _ h9 => h9) rfl dX9_countOf_124 ?_
                    refine lv_bipush (v := 89) hx hb dX9_countOf_127 (by decide) ?_
                    refine va_iald hx hb hK hP 1 1 rfl rfl (by unfold vp_in; decide) dX9_countOf_129 ?_
                    exact hret _ _ _ h dX9_countOf_130
                  · have h := h.2 c_12
                    by_cases c_13 : x1 = 9
                    · have h := h.1 c_13
                      refine lv_tableIn (tgt := 131) hx hb dX9_countOf_1 (by rw [c_13]; decide) (by rw [c_13]; decide) (by rw [c_13]; rfl) (by decide) ?_
                      refine lv_aload_n hx hb dX9_countOf_131 rfl (lv_at hl 0 rfl) ?_
                      refine va_get (D := D) (ci := 8) (v := .ref a_row) (C := RX9) (T := TX9) (N := 18) hx hb hts in_X9 hown hK hP 0 rfl rfl 0 (by decide) fl_7 (fun _ h9 => h9) rfl dX9_countOf_132 ?_
                      refine lv_bipush (v := 114) hx hb dX9_countOf_135 (by decide) ?_
                      refine va_iald hx hb hK hP 1 1 rfl rfl (by unfold vp_in; decide) dX9_countOf_137 ?_
                      exact hret _ _ _ h dX9_countOf_138
                    · have h := h.2 c_13
                      have nc_1 := lv_neT c_1 (a := 0) (by decide)
                      have nc_2 := lv_neT c_2 (a := 1) (by decide)
                      have nc_3 := lv_neT c_3 (a := 2) (by decide)
                      have nc_5 := lv_neT c_5 (a := 3) (by decide)
                      have nc_7 := lv_neT c_7 (a := 4) (by decide)
                      have nc_8 := lv_neT c_8 (a := 5) (by decide)
                      have nc_10 := lv_neT c_10 (a := 6) (by decide)
                      have nc_11 := lv_neT c_11 (a := 7) (by decide)
                      have nc_12 := lv_neT c_12 (a := 8) (by decide)
                      have nc_13 := lv_neT c_13 (a := 9) (by decide)
                      refine lv_tableOut (tgt := 139) hx hb dX9_countOf_1 (by omega) (by decide) ?_
                      refine lv_aload_n hx hb dX9_countOf_139 rfl (lv_at hl 0 rfl) ?_
                      refine va_get (D := D) (ci := 8) (v := .int s_length) (C := RX9) (T := TX9) (N := 18) hx hb hts in_X9 hown hK hP 0 rfl rfl 6 (by decide) fl_64 (fun _ h9 => h9) rfl dX9_countOf_140 ?_
                      exact hret _ _ _ h dX9_countOf_143
abbrev Wd_Mo_count (cy : ClassId × ClassId × ClassId × ClassId) (a_this a_refused a_row a_isKept a_text a_words a_cost a_steps a_mates a_bestMates a_comes : Nat) (s_above : Int64) (s_below : Int64) (s_length : Int32) (s_at : Int32) (s_behind : Int32) (s_readFlitches : Int32) (s_readFamilies : Int32) (s_doing : Int32) (s_refused : Nat → Int32) (s_row : Nat → Int32) : va_W := [(a_this, .inr (8, [.ref a_row, .ref a_isKept, .ref a_refused, .long s_above, .long s_below, .ref a_text, .int s_length, .ref a_words, .int s_at, .int s_behind, .int s_readFlitches, .int s_readFamilies, .int s_doing, .ref a_cost, .ref a_steps, .ref a_mates, .ref a_bestMates, .ref a_comes])), (a_refused, .inl (cy.2.1, 3, .inl s_refused)), (a_row, .inl (cy.2.1, 770, .inl s_row))]
abbrev rm_Mo_count : Room := { frames := 2, cells := 0, slots := 0, locals := 43 }
def wp_Mo_count (x1 : Int32) (s_length : Int32) (s_refused : Nat → Int32) (s_row : Nat → Int32) (Q : Int32 → (Nat → Int32) → Prop) : Prop := wp_Mo_in x1 0 10 (fun (r_1 : Int32) => ((r_1 = 0 → wp_Mo_refuse (-2) s_refused (fun (r_3 : Int32) (s_refused_4 : Nat → Int32) => Q r_3 s_refused_4)) ∧ (¬ r_1 = 0 → wp_Mo_countOf x1 s_length s_row (fun (r_5 : Int32) => Q r_5 s_refused))))
set_option maxHeartbeats 4000000 in
set_option maxRecDepth 100000 in
theorem co_Mo_count (l : Launch) (D : va_G) (cy : ClassId × ClassId × ClassId × ClassId) (a_this a_refused a_row a_isKept a_text a_words a_cost a_steps a_mates a_bestMates a_comes : Nat) (s_above : Int64) (s_below : Int64) (s_length : Int32) (s_at : Int32) (s_behind : Int32) (s_readFlitches : Int32) (s_readFamilies : Int32) (s_doing : Int32) (s_refused : Nat → Int32) (s_row : Nat → Int32) (x1 : Int32) (Q : Int32 → (Nat → Int32) → Prop) (h : wp_Mo_count x1 s_length s_refused s_row Q) : CoI l yX9_count wsX9_count rm_Mo_count D cy [.ref a_this, .int x1] (Wd_Mo_count cy a_this a_refused a_row a_isKept a_text a_words a_cost a_steps a_mates a_bestMates a_comes s_above s_below s_length s_at s_behind s_readFlitches s_readFamilies s_doing s_refused s_row) (fun u : (Nat → Int32) => (Wd_Mo_count cy a_this a_refused a_row a_isKept a_text a_words a_cost a_steps a_mates a_bestMates a_comes s_above s_below s_length s_at s_behind s_readFlitches s_readFamilies s_doing u s_row)) (fun (r : Int32) (u : (Nat → Int32)) => Q r u) := by
  refine st_metI (cc := cX9_count) (maxL := 2) RX9 (by decide) rfl rfl (Nat.le_of_ble_eq_true rfl) ?_
  intro p e s m args below meth c A QQ ls F hA hKK hP hD hS hl hret
  have hK := hKK.1
  have hnest := hKK.2.1
  have hx := F.1
  have hb := F.2.1
  have hown := F.2.2.2.1
  have hts := F.2.2.2.2
  have hl : lv_has ls 2 [(0, .ref a_this), (1, .int x1)] := hl
  unfold wp_Mo_count at h
  refine lv_iload_n hx hb dX9_count_0 rfl (lv_at hl 1 rfl) ?_
  refine lv_iconst (v := 0) hx hb dX9_count_1 (by decide) ?_
  refine lv_bipush (v := 10) hx hb dX9_count_2 (by decide) ?_
  refine st_callRI (st_runSR (n := 3) (As := [.int x1, .int 0, .int 10]) (rest := []) F (co_Mo_in l D cy x1 0 10 _ h) gX9_count_X9_in rfl (by decide +kernel) rfl hKK hP [] rfl rfl hl.1 rfl (Nat.le_of_ble_eq_true rfl) dX9_count_4) (fun r_1 h => ?_)
  refine lv_if_eq (tgt := 18) hx hb dX9_count_7 (by decide) (fun c_2 => ?_) (fun c_2 => ?_)
  · have h := h.1 c_2
    refine lv_aload_n hx hb dX9_count_18 rfl (lv_at hl 0 rfl) ?_
    refine lv_bipush (v := (-2)) hx hb dX9_count_19 (by decide) ?_
    refine st_callI (WR := [2].filterMap (fun i => (Wd_Mo_count cy a_this a_refused a_row a_isKept a_text a_words a_cost a_steps a_mates a_bestMates a_comes s_above s_below s_length s_at s_behind s_readFlitches s_readFamilies s_doing s_refused s_row)[i]?)) (WSn := fun u => (Wd_Mo_count cy a_this a_refused a_row a_isKept a_text a_words a_cost a_steps a_mates a_bestMates a_comes s_above s_below s_length s_at s_behind s_readFlitches s_readFamilies s_doing u s_row)) (st_runV (n := 1) (As := [.int (-2)]) (rest := []) (q0 := 0) F ((co_Mo_refuse l D cy a_this a_refused a_row a_isKept a_text a_words a_cost a_steps a_mates a_bestMates a_comes s_above s_below s_length s_at s_behind s_readFlitches s_readFamilies s_doing s_refused (-2) _ h) _) rfl gX9_count_X9_refuse rfl (by decide +kernel) rfl hKK hP hD [0, 1] rfl rfl rfl rfl rfl hl.1 rfl (Nat.le_of_ble_eq_true rfl) dX9_count_21) hP hD hS hA [0, 1] [2] [1, 2, 0] rfl rfl rfl (fun _ => rfl) (fun r_3 u H locs h hP hD hS => ?_)
    obtain ⟨s_refused_4, rfl⟩ : ∃ z, z = u := ⟨_, rfl⟩
    have hP : va_P D vwCl (Wd_Mo_count cy a_this a_refused a_row a_isKept a_text a_words a_cost a_steps a_mates a_bestMates a_comes s_above s_below s_length s_at s_behind s_readFlitches s_readFamilies s_doing s_refused_4 s_row) H := hP
    have hD : va_D A (Wd_Mo_count cy a_this a_refused a_row a_isKept a_text a_words a_cost a_steps a_mates a_bestMates a_comes s_above s_below s_length s_at s_behind s_readFlitches s_readFamilies s_doing s_refused_4 s_row) := hD
    exact hret _ (s_refused_4) _ _ _ _ h hP hD hS dX9_count_24
  · have h := h.2 c_2
    refine lv_aload_n hx hb dX9_count_10 rfl (lv_at hl 0 rfl) ?_
    refine lv_iload_n hx hb dX9_count_11 rfl (lv_at hl 1 rfl) ?_
    refine st_callRI (st_runVR (n := 1) (As := [.int x1]) (rest := []) (q0 := 0) F (co_Mo_countOf l D cy a_this a_row a_isKept a_refused a_text a_words a_cost a_steps a_mates a_bestMates a_comes s_above s_below s_length s_at s_behind s_readFlitches s_readFamilies s_doing s_row x1 _ h) gX9_count_X9_countOf rfl (by decide +kernel) rfl hKK hP [0, 2] rfl rfl rfl rfl hl.1 rfl (Nat.le_of_ble_eq_true rfl) dX9_count_12) (fun r_5 h => ?_)
    refine lv_goto (tgt := 24) hx hb dX9_count_15 (by decide) ?_
    exact hret _ (s_refused) _ _ _ _ h hP hD hS dX9_count_24
abbrev Wd_Mo_join (cy : ClassId × ClassId × ClassId × ClassId) (a_this a_row a_isKept a_refused a_text a_words a_cost a_steps a_mates a_bestMates a_comes : Nat) (s_above : Int64) (s_below : Int64) (s_length : Int32) (s_at : Int32) (s_behind : Int32) (s_readFlitches : Int32) (s_readFamilies : Int32) (s_doing : Int32) (s_row : Nat → Int32) : va_W := [(a_this, .inr (8, [.ref a_row, .ref a_isKept, .ref a_refused, .long s_above, .long s_below, .ref a_text, .int s_length, .ref a_words, .int s_at, .int s_behind, .int s_readFlitches, .int s_readFamilies, .int s_doing, .ref a_cost, .ref a_steps, .ref a_mates, .ref a_bestMates, .ref a_comes])), (a_row, .inl (cy.2.1, 770, .inl s_row))]
abbrev rm_Mo_join : Room := { frames := 0, cells := 0, slots := 0, locals := 0 }
def wp_Mo_join (x1 : Int64) (x3 : Int32) (x4 : Int32) (s_row : Nat → Int32) (Q : Int64 → Prop) : Prop := ∃ n : Nat, lpw2 (fun (B6 : Int64 → Int32 → Prop) (x5_1 : Int64) (x7_2 : Int32) => (((x3 + x4) ≤ x7_2 → Q x5_1) ∧ (¬ (x3 + x4) ≤ x7_2 → vp_in x7_2 770 ∧ ∀ x5_6 : Int64, x5_6 = ((31 * x5_1) + (Int32.toInt64 (s_row (Int32.toNatClampNeg x7_2)))) → ∀ x7_7 : Int32, x7_7 = x7_2 + 1 → B6 x5_6 x7_7))) n x1 x3
set_option maxHeartbeats 4000000 in
set_option maxRecDepth 100000 in
theorem co_Mo_join (l : Launch) (D : va_G) (cy : ClassId × ClassId × ClassId × ClassId) (a_this a_row a_isKept a_refused a_text a_words a_cost a_steps a_mates a_bestMates a_comes : Nat) (s_above : Int64) (s_below : Int64) (s_length : Int32) (s_at : Int32) (s_behind : Int32) (s_readFlitches : Int32) (s_readFamilies : Int32) (s_doing : Int32) (s_row : Nat → Int32) (x1 : Int64) (x3 : Int32) (x4 : Int32) (Q : Int64 → Prop) (h : wp_Mo_join x1 x3 x4 s_row Q) : RoL l yX9_join wsX9_join rm_Mo_join D cy [.ref a_this, .long x1, .int x3, .int x4] (Wd_Mo_join cy a_this a_row a_isKept a_refused a_text a_words a_cost a_steps a_mates a_bestMates a_comes s_above s_below s_length s_at s_behind s_readFlitches s_readFamilies s_doing s_row) Q := by
  refine st_metRL (cc := cX9_join) (maxL := 8) RX9 (by decide) rfl rfl (Nat.le_of_ble_eq_true rfl) ?_
  intro p e s m args below meth c QQ ls F hKK hP hl hret
  have hK := hKK.1
  have hnest := hKK.2.1
  have hx := F.1
  have hb := F.2.1
  have hown := F.2.2.2.1
  have hts := F.2.2.2.2
  have in_X9 : ∀ w ∈ u_ws RX9 TX9 18, w ∈ wsX9_join := (fun _ h => List.mem_cons_of_mem _ (List.mem_append_right _ h))
  have fl_7 := (hts (.fieldLink RX9 7 "RasherCaseModel" "row" "[I") (List.mem_of_getElem? (i := 2) rfl))
  have hl : lv_has ls 8 [(0, .ref a_this), (1, .long x1), (3, .int x3), (4, .int x4)] := hl
  unfold wp_Mo_join at h
  refine lv_lload_n hx hb dX9_join_0 rfl (lv_at hl 1 rfl) ?_
  refine lv_lstore (lv' := [(5, .long x1), (0, .ref a_this), (1, .long x1), (3, .int x3), (4, .int x4)]) hx hb dX9_join_1 hl (by decide) rfl (fun ls hl => ?_)
  refine lv_iload_n hx hb dX9_join_3 rfl (lv_at hl 3 rfl) ?_
  refine lv_istore (lv' := [(7, .int x3), (5, .long x1), (0, .ref a_this), (1, .long x1), (3, .int x3), (4, .int x4)]) hx hb dX9_join_4 hl (by decide) rfl (fun ls hl => ?_)
  obtain ⟨T6_2, hz6_2, hs6_2, n6_2, h⟩ := lpw2_use h
  have kT6_2 : ∀ (n : Nat) (x5_1 : Int64) (x7_2 : Int32) (ls : Array Slot), T6_2 n x5_1 x7_2 → lv_has ls 8 [(0, .ref a_this), (3, .int x3), (4, .int x4), (5, .long x5_1), (7, .int x7_2)] → W p l e rm_Mo_join s m args below meth c s.heap [] 0 0 QQ (F0 m 6 ls []) := by
    intro n
    induction n with
    | zero => intro x5_1 x7_2 ls h; exact absurd h (hz6_2 _ _)
    | succ n ih6_2 =>
      intro x5_1 x7_2 ls h hl
      have h := hs6_2 _ _ _ h
      refine lv_iload hx hb dX9_join_6 (lv_at hl 4 rfl) ?_
      refine lv_iload_n hx hb dX9_join_8 rfl (lv_at hl 1 rfl) ?_
      refine lv_iload hx hb dX9_join_9 (lv_at hl 2 rfl) ?_
      refine lv_iadd hx hb dX9_join_11 ?_
      refine lv_icmp_ge (tgt := 38) hx hb dX9_join_12 (by decide) (fun c_4 => ?_) (fun c_4 => ?_)
      · have h := h.1 c_4
        refine lv_lload hx hb dX9_join_38 (lv_at hl 3 rfl) ?_
        exact hret _ _ _ h dX9_join_40
      · have h := h.2 c_4
        refine lv_ldc2 (v := 31) hx hb hown (hts (.constantLong RX9 262 (31)) (List.mem_of_getElem? (i := 1) rfl)) dX9_join_15 ?_
        refine lv_lload hx hb dX9_join_18 (lv_at hl 3 rfl) ?_
        refine lv_lmul hx hb dX9_join_20 ?_
        refine lv_aload_n hx hb dX9_join_21 rfl (lv_at hl 0 rfl) ?_
        refine va_get (D := D) (ci := 8) (v := .ref a_row) (C := RX9) (T := TX9) (N := 18) hx hb hts in_X9 hown hK hP 0 rfl rfl 0 (by decide) fl_7 (fun _ h9 => h9) rfl dX9_join_22 ?_
        refine lv_iload hx hb dX9_join_25 (lv_at hl 4 rfl) ?_
        obtain ⟨hi_5, h⟩ := h
        refine va_iald hx hb hK hP 1 1 rfl rfl hi_5 dX9_join_27 ?_
        refine lv_i2l hx hb dX9_join_28 rfl ?_
        refine lv_ladd hx hb dX9_join_29 ?_
        refine lv_topl (fun x5_6 ex5_6 => ?_)
        have h := h x5_6 ex5_6
        refine lv_lstore (lv' := [(5, .long x5_6), (0, .ref a_this), (3, .int x3), (4, .int x4), (7, .int x7_2)]) hx hb dX9_join_30 hl (by decide) rfl (fun ls hl => ?_)
        obtain ⟨x7_7, ex7_7⟩ : ∃ y : Int32, y = x7_2 + 1 := ⟨_, rfl⟩
        have h := h x7_7 ex7_7
        refine lv_iinc (v := x7_7) (lv' := [(7, .int x7_7), (5, .long x5_6), (0, .ref a_this), (3, .int x3), (4, .int x4)]) hx hb dX9_join_32 hl (k := 4) rfl (by rw [ex7_7]; rfl) (by decide) rfl (fun ls hl => ?_)
        refine lv_goto (tgt := 6) hx hb dX9_join_35 (by decide) ?_
        exact ih6_2 _ _ _ h (lv_sub hl [2, 3, 4, 1, 0] rfl)
  exact kT6_2 n6_2 _ _ _ h (lv_sub hl [2, 4, 5, 1, 0] rfl)
abbrev Wd_Mo_digest (cy : ClassId × ClassId × ClassId × ClassId) (a_this a_row a_isKept a_refused a_text a_words a_cost a_steps a_mates a_bestMates a_comes : Nat) (s_above : Int64) (s_below : Int64) (s_length : Int32) (s_at : Int32) (s_behind : Int32) (s_readFlitches : Int32) (s_readFamilies : Int32) (s_doing : Int32) (s_row : Nat → Int32) : va_W := [(a_this, .inr (8, [.ref a_row, .ref a_isKept, .ref a_refused, .long s_above, .long s_below, .ref a_text, .int s_length, .ref a_words, .int s_at, .int s_behind, .int s_readFlitches, .int s_readFamilies, .int s_doing, .ref a_cost, .ref a_steps, .ref a_mates, .ref a_bestMates, .ref a_comes])), (a_row, .inl (cy.2.1, 770, .inl s_row))]
abbrev rm_Mo_digest : Room := { frames := 5, cells := 0, slots := 0, locals := 110 }
def wp_Mo_digest (s_above : Int64) (s_below : Int64) (s_length : Int32) (s_row : Nat → Int32) (Q : Int64 → Prop) : Prop := ∃ n : Nat, lpw2 (fun (B6 : Int64 → Int32 → Prop) (x1_1 : Int64) (x3_2 : Int32) => ((11 ≤ x3_2 → ∃ n : Nat, lpw2 (fun (B33 : Int64 → Int32 → Prop) (x1_5 : Int64) (x3_6 : Int32) => (((4 * (s_row (Int32.toNatClampNeg 17))) ≤ x3_6 → ∃ n : Nat, lpw2 (fun (B72 : Int64 → Int32 → Prop) (x1_9 : Int64) (x3_10 : Int32) => (((5 * (s_row (Int32.toNatClampNeg 27))) ≤ x3_10 → wp_Mo_join x1_9 43 (3 * (s_row (Int32.toNatClampNeg 42))) s_row (fun (r_13 : Int64) => wp_Mo_join r_13 59 (5 * (s_row (Int32.toNatClampNeg 58))) s_row (fun (r_14 : Int64) => wp_Mo_join r_14 90 (4 * (s_row (Int32.toNatClampNeg 89))) s_row (fun (r_15 : Int64) => Q ((31 * ((31 * r_15) + s_above)) + s_below))))) ∧ (¬ (5 * (s_row (Int32.toNatClampNeg 27))) ≤ x3_10 → wp_Mo_toldOf (x3_10 / 5) (irem x3_10 5) s_row (fun (r_16 : Int32) => ∀ x1_17 : Int64, x1_17 = ((31 * x1_9) + (Int32.toInt64 r_16)) → ∀ x3_18 : Int32, x3_18 = x3_10 + 1 → B72 x1_17 x3_18)))) n x1_5 0) ∧ (¬ (4 * (s_row (Int32.toNatClampNeg 17))) ≤ x3_6 → wp_Mo_toldAbout (x3_6 / 4) (irem x3_6 4) s_row (fun (r_19 : Int32) => ∀ x1_20 : Int64, x1_20 = ((31 * x1_5) + (Int32.toInt64 r_19)) → ∀ x3_21 : Int32, x3_21 = x3_6 + 1 → B33 x1_20 x3_21)))) n x1_1 0) ∧ (¬ 11 ≤ x3_2 → wp_Mo_countOf x3_2 s_length s_row (fun (r_22 : Int32) => ∀ x1_23 : Int64, x1_23 = ((31 * x1_1) + (Int32.toInt64 r_22)) → ∀ x3_24 : Int32, x3_24 = x3_2 + 1 → B6 x1_23 x3_24)))) n 1667 0
set_option maxHeartbeats 4000000 in
set_option maxRecDepth 100000 in
theorem co_Mo_digest (l : Launch) (D : va_G) (cy : ClassId × ClassId × ClassId × ClassId) (a_this a_row a_isKept a_refused a_text a_words a_cost a_steps a_mates a_bestMates a_comes : Nat) (s_above : Int64) (s_below : Int64) (s_length : Int32) (s_at : Int32) (s_behind : Int32) (s_readFlitches : Int32) (s_readFamilies : Int32) (s_doing : Int32) (s_row : Nat → Int32) (Q : Int64 → Prop) (h : wp_Mo_digest s_above s_below s_length s_row Q) : RoL l yX9_digest wsX9_digest rm_Mo_digest D cy [.ref a_this] (Wd_Mo_digest cy a_this a_row a_isKept a_refused a_text a_words a_cost a_steps a_mates a_bestMates a_comes s_above s_below s_length s_at s_behind s_readFlitches s_readFamilies s_doing s_row) Q := by
  refine st_metRL (cc := cX9_digest) (maxL := 4) RX9 (by decide) rfl rfl (Nat.le_of_ble_eq_true rfl) ?_
  intro p e s m args below meth c QQ ls F hKK hP hl hret
  have hK := hKK.1
  have hnest := hKK.2.1
  have hx := F.1
  have hb := F.2.1
  have hown := F.2.2.2.1
  have hts := F.2.2.2.2
  have in_X9 : ∀ w ∈ u_ws RX9 TX9 18, w ∈ wsX9_digest := (fun _ h => List.mem_cons_of_mem _ (List.mem_append_right _ h))
  have fl_7 := (hts (.fieldLink RX9 7 "RasherCaseModel" "row" "[I") (List.mem_of_getElem? (i := 3) rfl))
  have fl_20 := (hts (.fieldLink RX9 20 "RasherCaseModel" "below" "J") (List.mem_of_getElem? (i := 5) rfl))
  have fl_234 := (hts (.fieldLink RX9 234 "RasherCaseModel" "above" "J") (List.mem_of_getElem? (i := 4) rfl))
  have hl : lv_has ls 4 [(0, .ref a_this)] := hl
  unfold wp_Mo_digest at h
  refine lv_ldc2 (v := 1667) hx hb hown (hts (.constantLong RX9 264 (1667)) (List.mem_of_getElem? (i := 1) rfl)) dX9_digest_0 ?_
  refine lv_lstore_n (lv' := [(1, .long 1667), (0, .ref a_this)]) hx hb dX9_digest_3 rfl hl (by decide) rfl (fun ls hl => ?_)
  refine lv_iconst (v := 0) hx hb dX9_digest_4 (by decide) ?_
  refine lv_istore_n (lv' := [(3, .int 0), (1, .long 1667), (0, .ref a_this)]) hx hb dX9_digest_5 rfl hl (by decide) rfl (fun ls hl => ?_)
  obtain ⟨T6_2, hz6_2, hs6_2, n6_2, h⟩ := lpw2_use h
  have kT6_2 : ∀ (n : Nat) (x1_1 : Int64) (x3_2 : Int32) (ls : Array Slot), T6_2 n x1_1 x3_2 → lv_has ls 4 [(0, .ref a_this), (1, .long x1_1), (3, .int x3_2)] → W p l e rm_Mo_digest s m args below meth c s.heap [] 0 0 QQ (F0 m 6 ls []) := by
    intro n
    induction n with
    | zero => intro x1_1 x3_2 ls h; exact absurd h (hz6_2 _ _)
    | succ n ih6_2 =>
      intro x1_1 x3_2 ls h hl
      have h := hs6_2 _ _ _ h
      refine lv_iload_n hx hb dX9_digest_6 rfl (lv_at hl 2 rfl) ?_
      refine lv_bipush (v := 11) hx hb dX9_digest_7 (by decide) ?_
      refine lv_icmp_ge (tgt := 31) hx hb dX9_digest_9 (by decide) (fun c_4 => ?_) (fun c_4 => ?_)
      · have h := h.1 c_4
        refine lv_iconst (v := 0) hx hb dX9_digest_31 (by decide) ?_
        refine lv_istore_n (lv' := [(3, .int 0), (0, .ref a_this), (1, .long x1_1)]) hx hb dX9_digest_32 rfl hl (by decide) rfl (fun ls hl => ?_)
        obtain ⟨T33_6, hz33_6, hs33_6, n33_6, h⟩ := lpw2_use h
        have kT33_6 : ∀ (n : Nat) (x1_5 : Int64) (x3_6 : Int32) (ls : Array Slot), T33_6 n x1_5 x3_6 → lv_has ls 4 [(0, .ref a_this), (1, .long x1_5), (3, .int x3_6)] → W p l e rm_Mo_digest s m args below meth c s.heap [] 0 0 QQ (F0 m 33 ls []) := by
          intro n
          induction n with
          | zero => intro x1_5 x3_6 ls h; exact absurd h (hz33_6 _ _)
          | succ n ih33_6 =>
            intro x1_5 x3_6 ls h hl
            have h := hs33_6 _ _ _ h
            refine lv_iload_n hx hb dX9_digest_33 rfl (lv_at hl 2 rfl) ?_
            refine lv_iconst (v := 4) hx hb dX9_digest_34 (by decide) ?_
            refine lv_aload_n hx hb dX9_digest_35 rfl (lv_at hl 0 rfl) ?_
            refine va_get (D := D) (ci := 8) (v := .ref a_row) (C := RX9) (T := TX9) (N := 18) hx hb hts in_X9 hown hK hP 0 rfl rfl 0 (by decide) fl_7 (fun _ h9 => h9) rfl dX9_digest_36 ?_
            refine lv_bipush (v := 17) hx hb dX9_digest_39 (by decide) ?_
            refine va_iald hx hb hK hP 1 1 rfl rfl (by unfold vp_in; decide) dX9_digest_41 ?_
            refine lv_imul hx hb dX9_digest_42 ?_
            refine lv_icmp_ge (tgt := 70) hx hb dX9_digest_43 (by decide) (fun c_8 => ?_) (fun c_8 => ?_)
            · have h := h.1 c_8
              refine lv_iconst (v := 0) hx hb dX9_digest_70 (by decide) ?_
              refine lv_istore_n (lv' := [(3, .int 0), (0, .ref a_this), (1, .long x1_5)]) hx hb dX9_digest_71 rfl hl (by decide) rfl (fun ls hl => ?_)
              obtain ⟨T72_10, hz72_10, hs72_10, n72_10, h⟩ := lpw2_use h
              have kT72_10 : ∀ (n : Nat) (x1_9 : Int64) (x3_10 : Int32) (ls : Array Slot), T72_10 n x1_9 x3_10 → lv_has ls 4 [(0, .ref a_this), (1, .long x1_9), (3, .int x3_10)] → W p l e rm_Mo_digest s m args below meth c s.heap [] 0 0 QQ (F0 m 72 ls []) := by
                intro n
                induction n with
                | zero => intro x1_9 x3_10 ls h; exact absurd h (hz72_10 _ _)
                | succ n ih72_10 =>
                  intro x1_9 x3_10 ls h hl
                  have h := hs72_10 _ _ _ h
                  refine lv_iload_n hx hb dX9_digest_72 rfl (lv_at hl 2 rfl) ?_
                  refine lv_iconst (v := 5) hx hb dX9_digest_73 (by decide) ?_
                  refine lv_aload_n hx hb dX9_digest_74 rfl (lv_at hl 0 rfl) ?_
                  refine va_get (D := D) (ci := 8) (v := .ref a_row) (C := RX9) (T := TX9) (N := 18) hx hb hts in_X9 hown hK hP 0 rfl rfl 0 (by decide) fl_7 (fun _ h9 => h9) rfl dX9_digest_75 ?_
                  refine lv_bipush (v := 27) hx hb dX9_digest_78 (by decide) ?_
                  refine va_iald hx hb hK hP 1 1 rfl rfl (by unfold vp_in; decide) dX9_digest_80 ?_
                  refine lv_imul hx hb dX9_digest_81 ?_
                  refine lv_icmp_ge (tgt := 109) hx hb dX9_digest_82 (by decide) (fun c_12 => ?_) (fun c_12 => ?_)
                  · have h := h.1 c_12
                    refine lv_aload_n hx hb dX9_digest_109 rfl (lv_at hl 0 rfl) ?_
                    refine lv_lload_n hx hb dX9_digest_110 rfl (lv_at hl 1 rfl) ?_
                    refine lv_bipush (v := 43) hx hb dX9_digest_111 (by decide) ?_
                    refine lv_iconst (v := 3) hx hb dX9_digest_113 (by decide) ?_
                    refine lv_aload_n hx hb dX9_digest_114 rfl (lv_at hl 0 rfl) ?_
                    refine va_get (D := D) (ci := 8) (v := .ref a_row) (C := RX9) (T := TX9) (N := 18) hx hb hts in_X9 hown hK hP 0 rfl rfl 0 (by decide) fl_7 (fun _ h9 => h9) rfl dX9_digest_115 ?_
                    refine lv_bipush (v := 42) hx hb dX9_digest_118 (by decide) ?_
                    refine va_iald hx hb hK hP 1 1 rfl rfl (by unfold vp_in; decide) dX9_digest_120 ?_
                    refine lv_imul hx hb dX9_digest_121 ?_
                    refine st_callRL (st_runVR (n := 3) (As := [.long x1_9, .int 43, .int (3 * (s_row (Int32.toNatClampNeg 42)))]) (rest := []) (q0 := 0) F (co_Mo_join l D cy a_this a_row a_isKept a_refused a_text a_words a_cost a_steps a_mates a_bestMates a_comes s_above s_below s_length s_at s_behind s_readFlitches s_readFamilies s_doing s_row x1_9 43 (3 * (s_row (Int32.toNatClampNeg 42))) _ h) gX9_digest_X9_join rfl (by decide +kernel) rfl hKK hP [0, 1] rfl rfl rfl rfl hl.1 rfl (Nat.le_of_ble_eq_true rfl) dX9_digest_122) (fun r_13 h => ?_)
                    refine lv_lstore_n (lv' := [(1, .long r_13), (0, .ref a_this), (3, .int x3_10)]) hx hb dX9_digest_125 rfl hl (by decide) rfl (fun ls hl => ?_)
                    refine lv_aload_n hx hb dX9_digest_126 rfl (lv_at hl 1 rfl) ?_
                    refine lv_lload_n hx hb dX9_digest_127 rfl (lv_at hl 0 rfl) ?_
                    refine lv_bipush (v := 59) hx hb dX9_digest_128 (by decide) ?_
                    refine lv_iconst (v := 5) hx hb dX9_digest_130 (by decide) ?_
                    refine lv_aload_n hx hb dX9_digest_131 rfl (lv_at hl 1 rfl) ?_
                    refine va_get (D := D) (ci := 8) (v := .ref a_row) (C := RX9) (T := TX9) (N := 18) hx hb hts in_X9 hown hK hP 0 rfl rfl 0 (by decide) fl_7 (fun _ h9 => h9) rfl dX9_digest_132 ?_
                    refine lv_bipush (v := 58) hx hb dX9_digest_135 (by decide) ?_
                    refine va_iald hx hb hK hP 1 1 rfl rfl (by unfold vp_in; decide) dX9_digest_137 ?_
                    refine lv_imul hx hb dX9_digest_138 ?_
                    refine st_callRL (st_runVR (n := 3) (As := [.long r_13, .int 59, .int (5 * (s_row (Int32.toNatClampNeg 58)))]) (rest := []) (q0 := 0) F (co_Mo_join l D cy a_this a_row a_isKept a_refused a_text a_words a_cost a_steps a_mates a_bestMates a_comes s_above s_below s_length s_at s_behind s_readFlitches s_readFamilies s_doing s_row r_13 59 (5 * (s_row (Int32.toNatClampNeg 58))) _ h) gX9_digest_X9_join rfl (by decide +kernel) rfl hKK hP [0, 1] rfl rfl rfl rfl hl.1 rfl (Nat.le_of_ble_eq_true rfl) dX9_digest_139) (fun r_14 h => ?_)
                    refine lv_lstore_n (lv' := [(1, .long r_14), (0, .ref a_this), (3, .int x3_10)]) hx hb dX9_digest_142 rfl hl (by decide) rfl (fun ls hl => ?_)
                    refine lv_aload_n hx hb dX9_digest_143 rfl (lv_at hl 1 rfl) ?_
                    refine lv_lload_n hx hb dX9_digest_144 rfl (lv_at hl 0 rfl) ?_
                    refine lv_bipush (v := 90) hx hb dX9_digest_145 (by decide) ?_
                    refine lv_iconst (v := 4) hx hb dX9_digest_147 (by decide) ?_
                    refine lv_aload_n hx hb dX9_digest_148 rfl (lv_at hl 1 rfl) ?_
                    refine va_get (D := D) (ci := 8) (v := .ref a_row) (C := RX9) (T := TX9) (N := 18) hx hb hts in_X9 hown hK hP 0 rfl rfl 0 (by decide) fl_7 (fun _ h9 => h9) rfl dX9_digest_149 ?_
                    refine lv_bipush (v := 89) hx hb dX9_digest_152 (by decide) ?_
                    refine va_iald hx hb hK hP 1 1 rfl rfl (by unfold vp_in; decide) dX9_digest_154 ?_
                    refine lv_imul hx hb dX9_digest_155 ?_
                    refine st_callRL (st_runVR (n := 3) (As := [.long r_14, .int 90, .int (4 * (s_row (Int32.toNatClampNeg 89)))]) (rest := []) (q0 := 0) F (co_Mo_join l D cy a_this a_row a_isKept a_refused a_text a_words a_cost a_steps a_mates a_bestMates a_comes s_above s_below s_length s_at s_behind s_readFlitches s_readFamilies s_doing s_row r_14 90 (4 * (s_row (Int32.toNatClampNeg 89))) _ h) gX9_digest_X9_join rfl (by decide +kernel) rfl hKK hP [0, 1] rfl rfl rfl rfl hl.1 rfl (Nat.le_of_ble_eq_true rfl) dX9_digest_156) (fun r_15 h => ?_)
                    refine lv_lstore_n (lv' := [(1, .long r_15), (0, .ref a_this), (3, .int x3_10)]) hx hb dX9_digest_159 rfl hl (by decide) rfl (fun ls hl => ?_)
                    refine lv_ldc2 (v := 31) hx hb hown (hts (.constantLong RX9 262 (31)) (List.mem_of_getElem? (i := 2) rfl)) dX9_digest_160 ?_
                    refine lv_ldc2 (v := 31) hx hb hown (hts (.constantLong RX9 262 (31)) (List.mem_of_getElem? (i := 2) rfl)) dX9_digest_163 ?_
                    refine lv_lload_n hx hb dX9_digest_166 rfl (lv_at hl 0 rfl) ?_
                    refine lv_lmul hx hb dX9_digest_167 ?_
                    refine lv_aload_n hx hb dX9_digest_168 rfl (lv_at hl 1 rfl) ?_
                    refine va_get (D := D) (ci := 8) (v := .long s_above) (C := RX9) (T := TX9) (N := 18) hx hb hts in_X9 hown hK hP 0 rfl rfl 3 (by decide) fl_234 (fun _ h9 => h9) rfl dX9_digest_169 ?_
                    refine lv_ladd hx hb dX9_digest_172 ?_
                    refine lv_lmul hx hb dX9_digest_173 ?_
                    refine lv_aload_n hx hb dX9_digest_174 rfl (lv_at hl 1 rfl) ?_
                    refine va_get (D := D) (ci := 8) (v := .long s_below) (C := RX9) (T := TX9) (N := 18) hx hb hts in_X9 hown hK hP 0 rfl rfl 4 (by decide) fl_20 (fun _ h9 => h9) rfl dX9_digest_175 ?_
                    refine lv_ladd hx hb dX9_digest_178 ?_
                    exact hret _ _ _ h dX9_digest_179
                  · have h := h.2 c_12
                    refine lv_ldc2 (v := 31) hx hb hown (hts (.constantLong RX9 262 (31)) (List.mem_of_getElem? (i := 2) rfl)) dX9_digest_85 ?_
                    refine lv_lload_n hx hb dX9_digest_88 rfl (lv_at hl 1 rfl) ?_
                    refine lv_lmul hx hb dX9_digest_89 ?_
                    refine lv_aload_n hx hb dX9_digest_90 rfl (lv_at hl 0 rfl) ?_
                    refine lv_iload_n hx hb dX9_digest_91 rfl (lv_at hl 2 rfl) ?_
                    refine lv_iconst (v := 5) hx hb dX9_digest_92 (by decide) ?_
                    refine lv_idiv hx hb dX9_digest_93 (by decide) ?_
                    refine lv_iload_n hx hb dX9_digest_94 rfl (lv_at hl 2 rfl) ?_
                    refine lv_iconst (v := 5) hx hb dX9_digest_95 (by decide) ?_
                    refine lv_irem hx hb dX9_digest_96 (by decide) ?_
                    refine st_callRI (st_runVR (n := 2) (As := [.int (x3_10 / 5), .int (irem x3_10 5)]) (rest := [.long (31 * x1_9)]) (q0 := 0) F (co_Mo_toldOf l D cy a_this a_row a_isKept a_refused a_text a_words a_cost a_steps a_mates a_bestMates a_comes s_above s_below s_length s_at s_behind s_readFlitches s_readFamilies s_doing s_row (x3_10 / 5) (irem x3_10 5) _ h) gX9_digest_X9_toldOf rfl (by decide +kernel) rfl hKK hP [0, 1] rfl rfl rfl rfl hl.1 rfl (Nat.le_of_ble_eq_true rfl) dX9_digest_97) (fun r_16 h => ?_)
                    refine lv_i2l hx hb dX9_digest_100 rfl ?_
                    refine lv_ladd hx hb dX9_digest_101 ?_
                    refine lv_topl (fun x1_17 ex1_17 => ?_)
                    have h := h x1_17 ex1_17
                    refine lv_lstore_n (lv' := [(1, .long x1_17), (0, .ref a_this), (3, .int x3_10)]) hx hb dX9_digest_102 rfl hl (by decide) rfl (fun ls hl => ?_)
                    obtain ⟨x3_18, ex3_18⟩ : ∃ y : Int32, y = x3_10 + 1 := ⟨_, rfl⟩
                    have h := h x3_18 ex3_18
                    refine lv_iinc (v := x3_18) (lv' := [(3, .int x3_18), (1, .long x1_17), (0, .ref a_this)]) hx hb dX9_digest_103 hl (k := 2) rfl (by rw [ex3_18]; rfl) (by decide) rfl (fun ls hl => ?_)
                    refine lv_goto (tgt := 72) hx hb dX9_digest_106 (by decide) ?_
                    exact ih72_10 _ _ _ h (lv_sub hl [2, 1, 0] rfl)
              exact kT72_10 n72_10 _ _ _ h (lv_sub hl [1, 2, 0] rfl)
            · have h := h.2 c_8
              refine lv_ldc2 (v := 31) hx hb hown (hts (.constantLong RX9 262 (31)) (List.mem_of_getElem? (i := 2) rfl)) dX9_digest_46 ?_
              refine lv_lload_n hx hb dX9_digest_49 rfl (lv_at hl 1 rfl) ?_
              refine lv_lmul hx hb dX9_digest_50 ?_
              refine lv_aload_n hx hb dX9_digest_51 rfl (lv_at hl 0 rfl) ?_
              refine lv_iload_n hx hb dX9_digest_52 rfl (lv_at hl 2 rfl) ?_
              refine lv_iconst (v := 4) hx hb dX9_digest_53 (by decide) ?_
              refine lv_idiv hx hb dX9_digest_54 (by decide) ?_
              refine lv_iload_n hx hb dX9_digest_55 rfl (lv_at hl 2 rfl) ?_
              refine lv_iconst (v := 4) hx hb dX9_digest_56 (by decide) ?_
              refine lv_irem hx hb dX9_digest_57 (by decide) ?_
              refine st_callRI (st_runVR (n := 2) (As := [.int (x3_6 / 4), .int (irem x3_6 4)]) (rest := [.long (31 * x1_5)]) (q0 := 0) F (co_Mo_toldAbout l D cy a_this a_row a_isKept a_refused a_text a_words a_cost a_steps a_mates a_bestMates a_comes s_above s_below s_length s_at s_behind s_readFlitches s_readFamilies s_doing s_row (x3_6 / 4) (irem x3_6 4) _ h) gX9_digest_X9_toldAbout rfl (by decide +kernel) rfl hKK hP [0, 1] rfl rfl rfl rfl hl.1 rfl (Nat.le_of_ble_eq_true rfl) dX9_digest_58) (fun r_19 h => ?_)
              refine lv_i2l hx hb dX9_digest_61 rfl ?_
              refine lv_ladd hx hb dX9_digest_62 ?_
              refine lv_topl (fun x1_20 ex1_20 => ?_)
              have h := h x1_20 ex1_20
              refine lv_lstore_n (lv' := [(1, .long x1_20), (0, .ref a_this), (3, .int x3_6)]) hx hb dX9_digest_63 rfl hl (by decide) rfl (fun ls hl => ?_)
              obtain ⟨x3_21, ex3_21⟩ : ∃ y : Int32, y = x3_6 + 1 := ⟨_, rfl⟩
              have h := h x3_21 ex3_21
              refine lv_iinc (v := x3_21) (lv' := [(3, .int x3_21), (1, .long x1_20), (0, .ref a_this)]) hx hb dX9_digest_64 hl (k := 2) rfl (by rw [ex3_21]; rfl) (by decide) rfl (fun ls hl => ?_)
              refine lv_goto (tgt := 33) hx hb dX9_digest_67 (by decide) ?_
              exact ih33_6 _ _ _ h (lv_sub hl [2, 1, 0] rfl)
        exact kT33_6 n33_6 _ _ _ h (lv_sub hl [1, 2, 0] rfl)
      · have h := h.2 c_4
        refine lv_ldc2 (v := 31) hx hb hown (hts (.constantLong RX9 262 (31)) (List.mem_of_getElem? (i := 2) rfl)) dX9_digest_12 ?_
        refine lv_lload_n hx hb dX9_digest_15 rfl (lv_at hl 1 rfl) ?_
        refine lv_lmul hx hb dX9_digest_16 ?_
        refine lv_aload_n hx hb dX9_digest_17 rfl (lv_at hl 0 rfl) ?_
        refine lv_iload_n hx hb dX9_digest_18 rfl (lv_at hl 2 rfl) ?_
        refine st_callRI (st_runVR (n := 1) (As := [.int x3_2]) (rest := [.long (31 * x1_1)]) (q0 := 0) F (co_Mo_countOf l D cy a_this a_row a_isKept a_refused a_text a_words a_cost a_steps a_mates a_bestMates a_comes s_above s_below s_length s_at s_behind s_readFlitches s_readFamilies s_doing s_row x3_2 _ h) gX9_digest_X9_countOf rfl (by decide +kernel) rfl hKK hP [0, 1] rfl rfl rfl rfl hl.1 rfl (Nat.le_of_ble_eq_true rfl) dX9_digest_19) (fun r_22 h => ?_)
        refine lv_i2l hx hb dX9_digest_22 rfl ?_
        refine lv_ladd hx hb dX9_digest_23 ?_
        refine lv_topl (fun x1_23 ex1_23 => ?_)
        have h := h x1_23 ex1_23
        refine lv_lstore_n (lv' := [(1, .long x1_23), (0, .ref a_this), (3, .int x3_2)]) hx hb dX9_digest_24 rfl hl (by decide) rfl (fun ls hl => ?_)
        obtain ⟨x3_24, ex3_24⟩ : ∃ y : Int32, y = x3_2 + 1 := ⟨_, rfl⟩
        have h := h x3_24 ex3_24
        refine lv_iinc (v := x3_24) (lv' := [(3, .int x3_24), (1, .long x1_23), (0, .ref a_this)]) hx hb dX9_digest_25 hl (k := 2) rfl (by rw [ex3_24]; rfl) (by decide) rfl (fun ls hl => ?_)
        refine lv_goto (tgt := 6) hx hb dX9_digest_28 (by decide) ?_
        exact ih6_2 _ _ _ h (lv_sub hl [2, 1, 0] rfl)
  exact kT6_2 n6_2 _ _ _ h (lv_sub hl [2, 1, 0] rfl)
