abbrev Wd_Mo_readsFlitch (cy : ClassId × ClassId × ClassId × ClassId) (a_this a_row a_text a_isKept a_refused a_words a_cost a_steps a_mates a_bestMates a_comes : Nat) (s_above : Int64) (s_below : Int64) (s_length : Int32) (s_at : Int32) (s_behind : Int32) (s_readFlitches : Int32) (s_readFamilies : Int32) (s_doing : Int32) (s_row : Nat → Int32) (s_text : Nat → Int32) : va_W := [(a_this, .inr (8, [.ref a_row, .ref a_isKept, .ref a_refused, .long s_above, .long s_below, .ref a_text, .int s_length, .ref a_words, .int s_at, .int s_behind, .int s_readFlitches, .int s_readFamilies, .int s_doing, .ref a_cost, .ref a_steps, .ref a_mates, .ref a_bestMates, .ref a_comes])), (a_row, .inl (cy.2.1, 770, .inl s_row)), (a_text, .inl (cy.2.1, 150, .inl s_text))]
abbrev rm_Mo_readsFlitch : Room := { frames := 4, cells := 0, slots := 0, locals := 86 }
def wp_Mo_readsFlitch (s_length : Int32) (s_at : Int32) (s_behind : Int32) (s_readFlitches : Int32) (s_doing : Int32) (s_row : Nat → Int32) (s_text : Nat → Int32) (Q : Int32 → Int32 → Int32 → Int32 → (Nat → Int32) → Prop) : Prop := ((¬ s_readFlitches = 3 → wp_Mo_number 0 5 s_length s_at s_behind s_text (fun (r_2 : Int32) (s_at_3 : Int32) (s_behind_4 : Int32) => jn3 (fun (J33 : Int32 → Int32 → Int32 → Prop) => ((¬ r_2 = (-1) → wp_Mo_number 0 24 s_length s_at_3 s_behind_4 s_text (fun (r_23 : Int32) (s_at_24 : Int32) (s_behind_25 : Int32) => J33 r_23 s_at_24 s_behind_25)) ∧ (r_2 = (-1) → J33 (-1) s_at_3 s_behind_4))) (fun (v_5 : Int32) (s_at_6 : Int32) (s_behind_7 : Int32) => jn3 (fun (J50 : Int32 → Int32 → Int32 → Prop) => ((¬ v_5 = (-1) → wp_Mo_number 1 20 s_length s_at_6 s_behind_7 s_text (fun (r_19 : Int32) (s_at_20 : Int32) (s_behind_21 : Int32) => J50 r_19 s_at_20 s_behind_21)) ∧ (v_5 = (-1) → J50 (-1) s_at_6 s_behind_7))) (fun (v_9 : Int32) (s_at_10 : Int32) (s_behind_11 : Int32) => ((¬ v_9 = (-1) → ∀ s_readFlitches_14 : Int32, s_readFlitches_14 = (s_readFlitches + 1) → ((s_doing = 0 → Q 1 s_at_10 s_behind_11 s_readFlitches_14 s_row) ∧ (¬ s_doing = 0 → wp_Mo_addFlitch r_2 v_5 v_9 s_row (fun (s_row_17 : Nat → Int32) => Q 1 s_at_10 s_behind_11 s_readFlitches_14 s_row_17)))) ∧ (v_9 = (-1) → Q 0 s_at_10 s_behind_11 s_readFlitches s_row)))))) ∧ (s_readFlitches = 3 → Q 0 s_at s_behind s_readFlitches s_row))
set_option maxHeartbeats 4000000 in
set_option maxRecDepth 100000 in
theorem co_Mo_readsFlitch (l : Launch) (D : va_G) (cy : ClassId × ClassId × ClassId × ClassId) (a_this a_row a_text a_isKept a_refused a_words a_cost a_steps a_mates a_bestMates a_comes : Nat) (s_above : Int64) (s_below : Int64) (s_length : Int32) (s_at : Int32) (s_behind : Int32) (s_readFlitches : Int32) (s_readFamilies : Int32) (s_doing : Int32) (s_row : Nat → Int32) (s_text : Nat → Int32) (Q : Int32 → Int32 → Int32 → Int32 → (Nat → Int32) → Prop) (h : wp_Mo_readsFlitch s_length s_at s_behind s_readFlitches s_doing s_row s_text Q) : CoI l yX9_readsFlitch wsX9_readsFlitch rm_Mo_readsFlitch D cy [.ref a_this] (Wd_Mo_readsFlitch cy a_this a_row a_text a_isKept a_refused a_words a_cost a_steps a_mates a_bestMates a_comes s_above s_below s_length s_at s_behind s_readFlitches s_readFamilies s_doing s_row s_text) (fun u : Int32 × Int32 × Int32 × (Nat → Int32) => (Wd_Mo_readsFlitch cy a_this a_row a_text a_isKept a_refused a_words a_cost a_steps a_mates a_bestMates a_comes s_above s_below s_length u.1 u.2.1 u.2.2.1 s_readFamilies s_doing u.2.2.2 s_text)) (fun (r : Int32) (u : Int32 × Int32 × Int32 × (Nat → Int32)) => Q r u.1 u.2.1 u.2.2.1 u.2.2.2) := by
  refine st_metZ (cc := cX9_readsFlitch) (maxL := 4) RX9 (by decide) rfl rfl (Nat.le_of_ble_eq_true rfl) ?_
  intro p e s m args below meth c A QQ ls F hA hKK hP hD hS hl hret
  have hK := hKK.1
  have hnest := hKK.2.1
  have hx := F.1
  have hb := F.2.1
  have hown := F.2.2.2.1
  have hts := F.2.2.2.2
  have in_X9 : ∀ w ∈ u_ws RX9 TX9 18, w ∈ wsX9_readsFlitch := (fun _ h => List.mem_cons_of_mem _ (List.mem_append_right _ h))
  have fl_87 := (hts (.fieldLink RX9 87 "RasherCaseModel" "readFlitches" "I") (List.mem_of_getElem? (i := 1) rfl))
  have fl_94 := (hts (.fieldLink RX9 94 "RasherCaseModel" "doing" "Z") (List.mem_of_getElem? (i := 2) rfl))
  have hl : lv_has ls 4 [(0, .ref a_this)] := hl
  unfold wp_Mo_readsFlitch at h
  refine lv_aload_n hx hb dX9_readsFlitch_0 rfl (lv_at hl 0 rfl) ?_
  refine va_get (D := D) (ci := 8) (v := .int s_readFlitches) (C := RX9) (T := TX9) (N := 18) hx hb hts in_X9 hown hK hP 0 rfl rfl 10 (by decide) fl_87 (fun _ h9 => h9) rfl dX9_readsFlitch_1 ?_
  refine lv_iconst (v := 3) hx hb dX9_readsFlitch_4 (by decide) ?_
  refine lv_icmp_ne (tgt := 10) hx hb dX9_readsFlitch_5 (by decide) (fun c_1 => ?_) (fun c_1 => ?_)
  · have h := h.1 c_1
    refine lv_aload_n hx hb dX9_readsFlitch_10 rfl (lv_at hl 0 rfl) ?_
    refine lv_iconst (v := 0) hx hb dX9_readsFlitch_11 (by decide) ?_
    refine lv_iconst (v := 5) hx hb dX9_readsFlitch_12 (by decide) ?_
    refine st_callI (WR := [1].filterMap (fun i => (Wd_Mo_readsFlitch cy a_this a_row a_text a_isKept a_refused a_words a_cost a_steps a_mates a_bestMates a_comes s_above s_below s_length s_at s_behind s_readFlitches s_readFamilies s_doing s_row s_text)[i]?)) (WSn := fun u => (Wd_Mo_readsFlitch cy a_this a_row a_text a_isKept a_refused a_words a_cost a_steps a_mates a_bestMates a_comes s_above s_below s_length u.1 u.2 s_readFlitches s_readFamilies s_doing s_row s_text)) (st_runV (n := 2) (As := [.int 0, .int 5]) (rest := []) (q0 := 0) F ((co_Mo_number l D cy a_this a_text a_row a_isKept a_refused a_words a_cost a_steps a_mates a_bestMates a_comes s_above s_below s_length s_at s_behind s_readFlitches s_readFamilies s_doing s_text 0 5 _ h) _) rfl gX9_readsFlitch_X9_number rfl (by decide +kernel) rfl hKK hP hD [0, 2] rfl rfl rfl rfl rfl hl.1 rfl (Nat.le_of_ble_eq_true rfl) dX9_readsFlitch_13) hP hD hS hA [0, 2] [1] [1, 0, 2] rfl rfl rfl (fun _ => rfl) (fun r_2 u H locs h hP hD hS => ?_)
    obtain ⟨s_at_3, s_behind_4⟩ := u
    dsimp only at h hP hD
    have hP : va_P D vwCl (Wd_Mo_readsFlitch cy a_this a_row a_text a_isKept a_refused a_words a_cost a_steps a_mates a_bestMates a_comes s_above s_below s_length s_at_3 s_behind_4 s_readFlitches s_readFamilies s_doing s_row s_text) H := hP
    have hD : va_D A (Wd_Mo_readsFlitch cy a_this a_row a_text a_isKept a_refused a_words a_cost a_steps a_mates a_bestMates a_comes s_above s_below s_length s_at_3 s_behind_4 s_readFlitches s_readFamilies s_doing s_row s_text) := hD
    refine lv_istore_n (lv' := [(1, .int r_2), (0, .ref a_this)]) hx hb dX9_readsFlitch_16 rfl hl (by decide) rfl (fun ls hl => ?_)
    refine lv_iload_n hx hb dX9_readsFlitch_17 rfl (lv_at hl 0 rfl) ?_
    refine lv_iconst (v := (-1)) hx hb dX9_readsFlitch_18 (by decide) ?_
    obtain ⟨J33, hJ33, h⟩ := jn3_ex h
    have kJ33_7 : ∀ (v_5 : Int32) (s_at_6 : Int32) (s_behind_7 : Int32) (H : Heap) (locs : List Loc) (ls : Array Slot), J33 v_5 s_at_6 s_behind_7 → va_P D vwCl (Wd_Mo_readsFlitch cy a_this a_row a_text a_isKept a_refused a_words a_cost a_steps a_mates a_bestMates a_comes s_above s_below s_length s_at_6 s_behind_7 s_readFlitches s_readFamilies s_doing s_row s_text) H → va_D A (Wd_Mo_readsFlitch cy a_this a_row a_text a_isKept a_refused a_words a_cost a_steps a_mates a_bestMates a_comes s_above s_below s_length s_at_6 s_behind_7 s_readFlitches s_readFamilies s_doing s_row s_text) → va_S A s.heap H locs → lv_has ls 4 [(0, .ref a_this), (1, .int r_2)] → W p l e rm_Mo_readsFlitch s m args below meth c H locs 0 0 QQ (F0 m 33 ls [.int v_5]) := by
      intro v_5 s_at_6 s_behind_7 H locs ls h hP hD hS hl
      have h := hJ33 _ _ _ h
      refine lv_istore_n (lv' := [(2, .int v_5), (0, .ref a_this), (1, .int r_2)]) hx hb dX9_readsFlitch_33 rfl hl (by decide) rfl (fun ls hl => ?_)
      refine lv_iload_n hx hb dX9_readsFlitch_34 rfl (lv_at hl 0 rfl) ?_
      refine lv_iconst (v := (-1)) hx hb dX9_readsFlitch_35 (by decide) ?_
      obtain ⟨J50, hJ50, h⟩ := jn3_ex h
      have kJ50_11 : ∀ (v_9 : Int32) (s_at_10 : Int32) (s_behind_11 : Int32) (H : Heap) (locs : List Loc) (ls : Array Slot), J50 v_9 s_at_10 s_behind_11 → va_P D vwCl (Wd_Mo_readsFlitch cy a_this a_row a_text a_isKept a_refused a_words a_cost a_steps a_mates a_bestMates a_comes s_above s_below s_length s_at_10 s_behind_11 s_readFlitches s_readFamilies s_doing s_row s_text) H → va_D A (Wd_Mo_readsFlitch cy a_this a_row a_text a_isKept a_refused a_words a_cost a_steps a_mates a_bestMates a_comes s_above s_below s_length s_at_10 s_behind_11 s_readFlitches s_readFamilies s_doing s_row s_text) → va_S A s.heap H locs → lv_has ls 4 [(0, .ref a_this), (1, .int r_2), (2, .int v_5)] → W p l e rm_Mo_readsFlitch s m args below meth c H locs 0 0 QQ (F0 m 50 ls [.int v_9]) := by
        intro v_9 s_at_10 s_behind_11 H locs ls h hP hD hS hl
        have h := hJ50 _ _ _ h
        refine lv_istore_n (lv' := [(3, .int v_9), (0, .ref a_this), (1, .int r_2), (2, .int v_5)]) hx hb dX9_readsFlitch_50 rfl hl (by decide) rfl (fun ls hl => ?_)
        refine lv_iload_n hx hb dX9_readsFlitch_51 rfl (lv_at hl 0 rfl) ?_
        refine lv_iconst (v := (-1)) hx hb dX9_readsFlitch_52 (by decide) ?_
        refine lv_icmp_ne (tgt := 58) hx hb dX9_readsFlitch_53 (by decide) (fun c_13 => ?_) (fun c_13 => ?_)
        · have h := h.1 c_13
          refine lv_aload_n hx hb dX9_readsFlitch_58 rfl (lv_at hl 1 rfl) ?_
          refine lv_dup hx hb dX9_readsFlitch_59 rfl ?_
          refine va_get (D := D) (ci := 8) (v := .int s_readFlitches) (C := RX9) (T := TX9) (N := 18) hx hb hts in_X9 hown hK hP 0 rfl rfl 10 (by decide) fl_87 (fun _ h9 => h9) rfl dX9_readsFlitch_60 ?_
          refine lv_iconst (v := 1) hx hb dX9_readsFlitch_63 (by decide) ?_
          refine lv_iadd hx hb dX9_readsFlitch_64 ?_
          refine lv_topi (fun s_readFlitches_14 es_readFlitches_14 => ?_)
          have h := h s_readFlitches_14 es_readFlitches_14
          refine va_put (D := D) (ci := 8) (v := .int s_readFlitches_14) (ty := .int) (C := RX9) (T := TX9) (N := 18) hx hb hts in_X9 tyX9 tyX9_ok nmX9 hown hK hP hD hS 0 rfl rfl 10 (by decide) fl_87 (fun _ h9 => h9) rfl (tyX9_ok 10 (by decide)) rfl rfl (Nat.le_of_ble_eq_true rfl) dX9_readsFlitch_65 (fun H locs hP hD hS => ?_)
          have hP : va_P D vwCl (Wd_Mo_readsFlitch cy a_this a_row a_text a_isKept a_refused a_words a_cost a_steps a_mates a_bestMates a_comes s_above s_below s_length s_at_10 s_behind_11 s_readFlitches_14 s_readFamilies s_doing s_row s_text) H := hP
          have hD : va_D A (Wd_Mo_readsFlitch cy a_this a_row a_text a_isKept a_refused a_words a_cost a_steps a_mates a_bestMates a_comes s_above s_below s_length s_at_10 s_behind_11 s_readFlitches_14 s_readFamilies s_doing s_row s_text) := hD
          refine lv_aload_n hx hb dX9_readsFlitch_68 rfl (lv_at hl 1 rfl) ?_
          refine va_get (D := D) (ci := 8) (v := .int s_doing) (C := RX9) (T := TX9) (N := 18) hx hb hts in_X9 hown hK hP 0 rfl rfl 12 (by decide) fl_94 (fun _ h9 => h9) rfl dX9_readsFlitch_69 ?_
          refine lv_if_eq (tgt := 82) hx hb dX9_readsFlitch_72 (by decide) (fun c_15 => ?_) (fun c_15 => ?_)
          · have h := h.1 c_15
            refine lv_iconst (v := 1) hx hb dX9_readsFlitch_82 (by decide) ?_
            exact hret _ (s_at_10, s_behind_11, s_readFlitches_14, s_row) _ _ _ _ bz1 h hP hD hS dX9_readsFlitch_83
          · have h := h.2 c_15
            refine lv_aload_n hx hb dX9_readsFlitch_75 rfl (lv_at hl 1 rfl) ?_
            refine lv_iload_n hx hb dX9_readsFlitch_76 rfl (lv_at hl 2 rfl) ?_
            refine lv_iload_n hx hb dX9_readsFlitch_77 rfl (lv_at hl 3 rfl) ?_
            refine lv_iload_n hx hb dX9_readsFlitch_78 rfl (lv_at hl 0 rfl) ?_
            refine st_callV (WR := [2].filterMap (fun i => (Wd_Mo_readsFlitch cy a_this a_row a_text a_isKept a_refused a_words a_cost a_steps a_mates a_bestMates a_comes s_above s_below s_length s_at_10 s_behind_11 s_readFlitches_14 s_readFamilies s_doing s_row s_text)[i]?)) (WSn := fun u => (Wd_Mo_readsFlitch cy a_this a_row a_text a_isKept a_refused a_words a_cost a_steps a_mates a_bestMates a_comes s_above s_below s_length s_at_10 s_behind_11 s_readFlitches_14 s_readFamilies s_doing u s_text)) (st_runV (n := 3) (As := [.int r_2, .int v_5, .int v_9]) (rest := []) (q0 := 0) F ((co_Mo_addFlitch l D cy a_this a_row a_isKept a_refused a_text a_words a_cost a_steps a_mates a_bestMates a_comes s_above s_below s_length s_at_10 s_behind_11 s_readFlitches_14 s_readFamilies s_doing s_row r_2 v_5 v_9 _ h) _) rfl gX9_readsFlitch_X9_addFlitch rfl (by decide +kernel) rfl hKK hP hD [0, 1] rfl rfl rfl rfl rfl hl.1 rfl (Nat.le_of_ble_eq_true rfl) dX9_readsFlitch_79) hP hD hS hA [0, 1] [2] [1, 2, 0] rfl rfl rfl (fun _ => rfl) (fun u H locs h hP hD hS => ?_)
            obtain ⟨s_row_17, rfl⟩ : ∃ z, z = u := ⟨_, rfl⟩
            have hP : va_P D vwCl (Wd_Mo_readsFlitch cy a_this a_row a_text a_isKept a_refused a_words a_cost a_steps a_mates a_bestMates a_comes s_above s_below s_length s_at_10 s_behind_11 s_readFlitches_14 s_readFamilies s_doing s_row_17 s_text) H := hP
            have hD : va_D A (Wd_Mo_readsFlitch cy a_this a_row a_text a_isKept a_refused a_words a_cost a_steps a_mates a_bestMates a_comes s_above s_below s_length s_at_10 s_behind_11 s_readFlitches_14 s_readFamilies s_doing s_row_17 s_text) := hD
            refine lv_iconst (v := 1) hx hb dX9_readsFlitch_82 (by decide) ?_
            exact hret _ (s_at_10, s_behind_11, s_readFlitches_14, s_row_17) _ _ _ _ bz1 h hP hD hS dX9_readsFlitch_83
        · have h := h.2 c_13
          refine lv_iconst (v := 0) hx hb dX9_readsFlitch_56 (by decide) ?_
          exact hret _ (s_at_10, s_behind_11, s_readFlitches, s_row) _ _ _ _ bz0 h hP hD hS dX9_readsFlitch_57
      refine lv_icmp_ne (tgt := 43) hx hb dX9_readsFlitch_36 (by decide) (fun c_18 => ?_) (fun c_18 => ?_)
      · have h := h.1 c_18
        refine lv_aload_n hx hb dX9_readsFlitch_43 rfl (lv_at hl 1 rfl) ?_
        refine lv_iconst (v := 1) hx hb dX9_readsFlitch_44 (by decide) ?_
        refine lv_bipush (v := 20) hx hb dX9_readsFlitch_45 (by decide) ?_
        refine st_callI (WR := [1].filterMap (fun i => (Wd_Mo_readsFlitch cy a_this a_row a_text a_isKept a_refused a_words a_cost a_steps a_mates a_bestMates a_comes s_above s_below s_length s_at_6 s_behind_7 s_readFlitches s_readFamilies s_doing s_row s_text)[i]?)) (WSn := fun u => (Wd_Mo_readsFlitch cy a_this a_row a_text a_isKept a_refused a_words a_cost a_steps a_mates a_bestMates a_comes s_above s_below s_length u.1 u.2 s_readFlitches s_readFamilies s_doing s_row s_text)) (st_runV (n := 2) (As := [.int 1, .int 20]) (rest := []) (q0 := 0) F ((co_Mo_number l D cy a_this a_text a_row a_isKept a_refused a_words a_cost a_steps a_mates a_bestMates a_comes s_above s_below s_length s_at_6 s_behind_7 s_readFlitches s_readFamilies s_doing s_text 1 20 _ h) _) rfl gX9_readsFlitch_X9_number rfl (by decide +kernel) rfl hKK hP hD [0, 2] rfl rfl rfl rfl rfl hl.1 rfl (Nat.le_of_ble_eq_true rfl) dX9_readsFlitch_47) hP hD hS hA [0, 2] [1] [1, 0, 2] rfl rfl rfl (fun _ => rfl) (fun r_19 u H locs h hP hD hS => ?_)
        obtain ⟨s_at_20, s_behind_21⟩ := u
        dsimp only at h hP hD
        have hP : va_P D vwCl (Wd_Mo_readsFlitch cy a_this a_row a_text a_isKept a_refused a_words a_cost a_steps a_mates a_bestMates a_comes s_above s_below s_length s_at_20 s_behind_21 s_readFlitches s_readFamilies s_doing s_row s_text) H := hP
        have hD : va_D A (Wd_Mo_readsFlitch cy a_this a_row a_text a_isKept a_refused a_words a_cost a_steps a_mates a_bestMates a_comes s_above s_below s_length s_at_20 s_behind_21 s_readFlitches s_readFamilies s_doing s_row s_text) := hD
        exact kJ50_11 _ _ _ _ _ _ h hP hD hS (lv_sub hl [1, 2, 0] rfl)
      · have h := h.2 c_18
        refine lv_iconst (v := (-1)) hx hb dX9_readsFlitch_39 (by decide) ?_
        refine lv_goto (tgt := 50) hx hb dX9_readsFlitch_40 (by decide) ?_
        exact kJ50_11 _ _ _ _ _ _ h hP hD hS (lv_sub hl [1, 2, 0] rfl)
    refine lv_icmp_ne (tgt := 26) hx hb dX9_readsFlitch_19 (by decide) (fun c_22 => ?_) (fun c_22 => ?_)
    · have h := h.1 c_22
      refine lv_aload_n hx hb dX9_readsFlitch_26 rfl (lv_at hl 1 rfl) ?_
      refine lv_iconst (v := 0) hx hb dX9_readsFlitch_27 (by decide) ?_
      refine lv_bipush (v := 24) hx hb dX9_readsFlitch_28 (by decide) ?_
      refine st_callI (WR := [1].filterMap (fun i => (Wd_Mo_readsFlitch cy a_this a_row a_text a_isKept a_refused a_words a_cost a_steps a_mates a_bestMates a_comes s_above s_below s_length s_at_3 s_behind_4 s_readFlitches s_readFamilies s_doing s_row s_text)[i]?)) (WSn := fun u => (Wd_Mo_readsFlitch cy a_this a_row a_text a_isKept a_refused a_words a_cost a_steps a_mates a_bestMates a_comes s_above s_below s_length u.1 u.2 s_readFlitches s_readFamilies s_doing s_row s_text)) (st_runV (n := 2) (As := [.int 0, .int 24]) (rest := []) (q0 := 0) F ((co_Mo_number l D cy a_this a_text a_row a_isKept a_refused a_words a_cost a_steps a_mates a_bestMates a_comes s_above s_below s_length s_at_3 s_behind_4 s_readFlitches s_readFamilies s_doing s_text 0 24 _ h) _) rfl gX9_readsFlitch_X9_number rfl (by decide +kernel) rfl hKK hP hD [0, 2] rfl rfl rfl rfl rfl hl.1 rfl (Nat.le_of_ble_eq_true rfl) dX9_readsFlitch_30) hP hD hS hA [0, 2] [1] [1, 0, 2] rfl rfl rfl (fun _ => rfl) (fun r_23 u H locs h hP hD hS => ?_)
      obtain ⟨s_at_24, s_behind_25⟩ := u
      dsimp only at h hP hD
      have hP : va_P D vwCl (Wd_Mo_readsFlitch cy a_this a_row a_text a_isKept a_refused a_words a_cost a_steps a_mates a_bestMates a_comes s_above s_below s_length s_at_24 s_behind_25 s_readFlitches s_readFamilies s_doing s_row s_text) H := hP
      have hD : va_D A (Wd_Mo_readsFlitch cy a_this a_row a_text a_isKept a_refused a_words a_cost a_steps a_mates a_bestMates a_comes s_above s_below s_length s_at_24 s_behind_25 s_readFlitches s_readFamilies s_doing s_row s_text) := hD
      exact kJ33_7 _ _ _ _ _ _ h hP hD hS (lv_sub hl [1, 0] rfl)
    · have h := h.2 c_22
      refine lv_iconst (v := (-1)) hx hb dX9_readsFlitch_22 (by decide) ?_
      refine lv_goto (tgt := 33) hx hb dX9_readsFlitch_23 (by decide) ?_
      exact kJ33_7 _ _ _ _ _ _ h hP hD hS (lv_sub hl [1, 0] rfl)
  · have h := h.2 c_1
    refine lv_iconst (v := 0) hx hb dX9_readsFlitch_8 (by decide) ?_
    exact hret _ (s_at, s_behind, s_readFlitches, s_row) _ _ _ _ bz0 h hP hD hS dX9_readsFlitch_9
abbrev Wd_Mo_readsFamily (cy : ClassId × ClassId × ClassId × ClassId) (a_this a_row a_text a_isKept a_refused a_words a_cost a_steps a_mates a_bestMates a_comes : Nat) (s_above : Int64) (s_below : Int64) (s_length : Int32) (s_at : Int32) (s_behind : Int32) (s_readFlitches : Int32) (s_readFamilies : Int32) (s_doing : Int32) (s_row : Nat → Int32) (s_text : Nat → Int32) : va_W := [(a_this, .inr (8, [.ref a_row, .ref a_isKept, .ref a_refused, .long s_above, .long s_below, .ref a_text, .int s_length, .ref a_words, .int s_at, .int s_behind, .int s_readFlitches, .int s_readFamilies, .int s_doing, .ref a_cost, .ref a_steps, .ref a_mates, .ref a_bestMates, .ref a_comes])), (a_row, .inl (cy.2.1, 770, .inl s_row)), (a_text, .inl (cy.2.1, 150, .inl s_text))]
abbrev rm_Mo_readsFamily : Room := { frames := 4, cells := 0, slots := 0, locals := 86 }
def wp_Mo_readsFamily (s_length : Int32) (s_at : Int32) (s_behind : Int32) (s_readFamilies : Int32) (s_doing : Int32) (s_row : Nat → Int32) (s_text : Nat → Int32) (Q : Int32 → Int32 → Int32 → Int32 → (Nat → Int32) → Prop) : Prop := ((¬ s_readFamilies = 7 → wp_Mo_number 0 5 s_length s_at s_behind s_text (fun (r_2 : Int32) (s_at_3 : Int32) (s_behind_4 : Int32) => jn3 (fun (J33 : Int32 → Int32 → Int32 → Prop) => ((¬ r_2 = (-1) → wp_Mo_number 0 1 s_length s_at_3 s_behind_4 s_text (fun (r_31 : Int32) (s_at_32 : Int32) (s_behind_33 : Int32) => J33 r_31 s_at_32 s_behind_33)) ∧ (r_2 = (-1) → J33 (-1) s_at_3 s_behind_4))) (fun (v_5 : Int32) (s_at_6 : Int32) (s_behind_7 : Int32) => jn3 (fun (J50 : Int32 → Int32 → Int32 → Prop) => ((¬ v_5 = (-1) → wp_Mo_number 0 24 s_length s_at_6 s_behind_7 s_text (fun (r_27 : Int32) (s_at_28 : Int32) (s_behind_29 : Int32) => J50 r_27 s_at_28 s_behind_29)) ∧ (v_5 = (-1) → J50 (-1) s_at_6 s_behind_7))) (fun (v_9 : Int32) (s_at_10 : Int32) (s_behind_11 : Int32) => jn3 (fun (J67 : Int32 → Int32 → Int32 → Prop) => ((¬ v_9 = (-1) → wp_Mo_number 1 99 s_length s_at_10 s_behind_11 s_text (fun (r_23 : Int32) (s_at_24 : Int32) (s_behind_25 : Int32) => J67 r_23 s_at_24 s_behind_25)) ∧ (v_9 = (-1) → J67 (-1) s_at_10 s_behind_11))) (fun (v_13 : Int32) (s_at_14 : Int32) (s_behind_15 : Int32) => ((¬ v_13 = (-1) → ∀ s_readFamilies_18 : Int32, s_readFamilies_18 = (s_readFamilies + 1) → ((s_doing = 0 → Q 1 s_at_14 s_behind_15 s_readFamilies_18 s_row) ∧ (¬ s_doing = 0 → wp_Mo_addFamily r_2 v_5 v_9 v_13 s_row (fun (s_row_21 : Nat → Int32) => Q 1 s_at_14 s_behind_15 s_readFamilies_18 s_row_21)))) ∧ (v_13 = (-1) → Q 0 s_at_14 s_behind_15 s_readFamilies s_row))))))) ∧ (s_readFamilies = 7 → Q 0 s_at s_behind s_readFamilies s_row))
set_option maxHeartbeats 4000000 in
set_option maxRecDepth 100000 in
theorem co_Mo_readsFamily (l : Launch) (D : va_G) (cy : ClassId × ClassId × ClassId × ClassId) (a_this a_row a_text a_isKept a_refused a_words a_cost a_steps a_mates a_bestMates a_comes : Nat) (s_above : Int64) (s_below : Int64) (s_length : Int32) (s_at : Int32) (s_behind : Int32) (s_readFlitches : Int32) (s_readFamilies : Int32) (s_doing : Int32) (s_row : Nat → Int32) (s_text : Nat → Int32) (Q : Int32 → Int32 → Int32 → Int32 → (Nat → Int32) → Prop) (h : wp_Mo_readsFamily s_length s_at s_behind s_readFamilies s_doing s_row s_text Q) : CoI l yX9_readsFamily wsX9_readsFamily rm_Mo_readsFamily D cy [.ref a_this] (Wd_Mo_readsFamily cy a_this a_row a_text a_isKept a_refused a_words a_cost a_steps a_mates a_bestMates a_comes s_above s_below s_length s_at s_behind s_readFlitches s_readFamilies s_doing s_row s_text) (fun u : Int32 × Int32 × Int32 × (Nat → Int32) => (Wd_Mo_readsFamily cy a_this a_row a_text a_isKept a_refused a_words a_cost a_steps a_mates a_bestMates a_comes s_above s_below s_length u.1 u.2.1 s_readFlitches u.2.2.1 s_doing u.2.2.2 s_text)) (fun (r : Int32) (u : Int32 × Int32 × Int32 × (Nat → Int32)) => Q r u.1 u.2.1 u.2.2.1 u.2.2.2) := by
  refine st_metZ (cc := cX9_readsFamily) (maxL := 5) RX9 (by decide) rfl rfl (Nat.le_of_ble_eq_true rfl) ?_
  intro p e s m args below meth c A QQ ls F hA hKK hP hD hS hl hret
  have hK := hKK.1
  have hnest := hKK.2.1
  have hx := F.1
  have hb := F.2.1
  have hown := F.2.2.2.1
  have hts := F.2.2.2.2
  have in_X9 : ∀ w ∈ u_ws RX9 TX9 18, w ∈ wsX9_readsFamily := (fun _ h => List.mem_cons_of_mem _ (List.mem_append_right _ h))
  have fl_94 := (hts (.fieldLink RX9 94 "RasherCaseModel" "doing" "Z") (List.mem_of_getElem? (i := 2) rfl))
  have fl_98 := (hts (.fieldLink RX9 98 "RasherCaseModel" "readFamilies" "I") (List.mem_of_getElem? (i := 1) rfl))
  have hl : lv_has ls 5 [(0, .ref a_this)] := hl
  unfold wp_Mo_readsFamily at h
  refine lv_aload_n hx hb dX9_readsFamily_0 rfl (lv_at hl 0 rfl) ?_
  refine va_get (D := D) (ci := 8) (v := .int s_readFamilies) (C := RX9) (T := TX9) (N := 18) hx hb hts in_X9 hown hK hP 0 rfl rfl 11 (by decide) fl_98 (fun _ h9 => h9) rfl dX9_readsFamily_1 ?_
  refine lv_bipush (v := 7) hx hb dX9_readsFamily_4 (by decide) ?_
  refine lv_icmp_ne (tgt := 11) hx hb dX9_readsFamily_6 (by decide) (fun c_1 => ?_) (fun c_1 => ?_)
  · have h := h.1 c_1
    refine lv_aload_n hx hb dX9_readsFamily_11 rfl (lv_at hl 0 rfl) ?_
    refine lv_iconst (v := 0) hx hb dX9_readsFamily_12 (by decide) ?_
    refine lv_iconst (v := 5) hx hb dX9_readsFamily_13 (by decide) ?_
    refine st_callI (WR := [1].filterMap (fun i => (Wd_Mo_readsFamily cy a_this a_row a_text a_isKept a_refused a_words a_cost a_steps a_mates a_bestMates a_comes s_above s_below s_length s_at s_behind s_readFlitches s_readFamilies s_doing s_row s_text)[i]?)) (WSn := fun u => (Wd_Mo_readsFamily cy a_this a_row a_text a_isKept a_refused a_words a_cost a_steps a_mates a_bestMates a_comes s_above s_below s_length u.1 u.2 s_readFlitches s_readFamilies s_doing s_row s_text)) (st_runV (n := 2) (As := [.int 0, .int 5]) (rest := []) (q0 := 0) F ((co_Mo_number l D cy a_this a_text a_row a_isKept a_refused a_words a_cost a_steps a_mates a_bestMates a_comes s_above s_below s_length s_at s_behind s_readFlitches s_readFamilies s_doing s_text 0 5 _ h) _) rfl gX9_readsFamily_X9_number rfl (by decide +kernel) rfl hKK hP hD [0, 2] rfl rfl rfl rfl rfl hl.1 rfl (Nat.le_of_ble_eq_true rfl) dX9_readsFamily_14) hP hD hS hA [0, 2] [1] [1, 0, 2] rfl rfl rfl (fun _ => rfl) (fun r_2 u H locs h hP hD hS => ?_)
    obtain ⟨s_at_3, s_behind_4⟩ := u
    dsimp only at h hP hD
    have hP : va_P D vwCl (Wd_Mo_readsFamily cy a_this a_row a_text a_isKept a_refused a_words a_cost a_steps a_mates a_bestMates a_comes s_above s_below s_length s_at_3 s_behind_4 s_readFlitches s_readFamilies s_doing s_row s_text) H := hP
    have hD : va_D A (Wd_Mo_readsFamily cy a_this a_row a_text a_isKept a_refused a_words a_cost a_steps a_mates a_bestMates a_comes s_above s_below s_length s_at_3 s_behind_4 s_readFlitches s_readFamilies s_doing s_row s_text) := hD
    refine lv_istore_n (lv' := [(1, .int r_2), (0, .ref a_this)]) hx hb dX9_readsFamily_17 rfl hl (by decide) rfl (fun ls hl => ?_)
    refine lv_iload_n hx hb dX9_readsFamily_18 rfl (lv_at hl 0 rfl) ?_
    refine lv_iconst (v := (-1)) hx hb dX9_readsFamily_19 (by decide) ?_
    obtain ⟨J33, hJ33, h⟩ := jn3_ex h
    have kJ33_7 : ∀ (v_5 : Int32) (s_at_6 : Int32) (s_behind_7 : Int32) (H : Heap) (locs : List Loc) (ls : Array Slot), J33 v_5 s_at_6 s_behind_7 → va_P D vwCl (Wd_Mo_readsFamily cy a_this a_row a_text a_isKept a_refused a_words a_cost a_steps a_mates a_bestMates a_comes s_above s_below s_length s_at_6 s_behind_7 s_readFlitches s_readFamilies s_doing s_row s_text) H → va_D A (Wd_Mo_readsFamily cy a_this a_row a_text a_isKept a_refused a_words a_cost a_steps a_mates a_bestMates a_comes s_above s_below s_length s_at_6 s_behind_7 s_readFlitches s_readFamilies s_doing s_row s_text) → va_S A s.heap H locs → lv_has ls 5 [(0, .ref a_this), (1, .int r_2)] → W p l e rm_Mo_readsFamily s m args below meth c H locs 0 0 QQ (F0 m 33 ls [.int v_5]) := by
      intro v_5 s_at_6 s_behind_7 H locs ls h hP hD hS hl
      have h := hJ33 _ _ _ h
      refine lv_istore_n (lv' := [(2, .int v_5), (0, .ref a_this), (1, .int r_2)]) hx hb dX9_readsFamily_33 rfl hl (by decide) rfl (fun ls hl => ?_)
      refine lv_iload_n hx hb dX9_readsFamily_34 rfl (lv_at hl 0 rfl) ?_
      refine lv_iconst (v := (-1)) hx hb dX9_readsFamily_35 (by decide) ?_
      obtain ⟨J50, hJ50, h⟩ := jn3_ex h
      have kJ50_11 : ∀ (v_9 : Int32) (s_at_10 : Int32) (s_behind_11 : Int32) (H : Heap) (locs : List Loc) (ls : Array Slot), J50 v_9 s_at_10 s_behind_11 → va_P D vwCl (Wd_Mo_readsFamily cy a_this a_row a_text a_isKept a_refused a_words a_cost a_steps a_mates a_bestMates a_comes s_above s_below s_length s_at_10 s_behind_11 s_readFlitches s_readFamilies s_doing s_row s_text) H → va_D A (Wd_Mo_readsFamily cy a_this a_row a_text a_isKept a_refused a_words a_cost a_steps a_mates a_bestMates a_comes s_above s_below s_length s_at_10 s_behind_11 s_readFlitches s_readFamilies s_doing s_row s_text) → va_S A s.heap H locs → lv_has ls 5 [(0, .ref a_this), (1, .int r_2), (2, .int v_5)] → W p l e rm_Mo_readsFamily s m args below meth c H locs 0 0 QQ (F0 m 50 ls [.int v_9]) := by
        intro v_9 s_at_10 s_behind_11 H locs ls h hP hD hS hl
        have h := hJ50 _ _ _ h
        refine lv_istore_n (lv' := [(3, .int v_9), (0, .ref a_this), (1, .int r_2), (2, .int v_5)]) hx hb dX9_readsFamily_50 rfl hl (by decide) rfl (fun ls hl => ?_)
        refine lv_iload_n hx hb dX9_readsFamily_51 rfl (lv_at hl 0 rfl) ?_
        refine lv_iconst (v := (-1)) hx hb dX9_readsFamily_52 (by decide) ?_
        obtain ⟨J67, hJ67, h⟩ := jn3_ex h
        have kJ67_15 : ∀ (v_13 : Int32) (s_at_14 : Int32) (s_behind_15 : Int32) (H : Heap) (locs : List Loc) (ls : Array Slot), J67 v_13 s_at_14 s_behind_15 → va_P D vwCl (Wd_Mo_readsFamily cy a_this a_row a_text a_isKept a_refused a_words a_cost a_steps a_mates a_bestMates a_comes s_above s_below s_length s_at_14 s_behind_15 s_readFlitches s_readFamilies s_doing s_row s_text) H → va_D A (Wd_Mo_readsFamily cy a_this a_row a_text a_isKept a_refused a_words a_cost a_steps a_mates a_bestMates a_comes s_above s_below s_length s_at_14 s_behind_15 s_readFlitches s_readFamilies s_doing s_row s_text) → va_S A s.heap H locs → lv_has ls 5 [(0, .ref a_this), (1, .int r_2), (2, .int v_5), (3, .int v_9)] → W p l e rm_Mo_readsFamily s m args below meth c H locs 0 0 QQ (F0 m 67 ls [.int v_13]) := by
          intro v_13 s_at_14 s_behind_15 H locs ls h hP hD hS hl
          have h := hJ67 _ _ _ h
          refine lv_istore (lv' := [(4, .int v_13), (0, .ref a_this), (1, .int r_2), (2, .int v_5), (3, .int v_9)]) hx hb dX9_readsFamily_67 hl (by decide) rfl (fun ls hl => ?_)
          refine lv_iload hx hb dX9_readsFamily_69 (lv_at hl 0 rfl) ?_
          refine lv_iconst (v := (-1)) hx hb dX9_readsFamily_71 (by decide) ?_
          refine lv_icmp_ne (tgt := 77) hx hb dX9_readsFamily_72 (by decide) (fun c_17 => ?_) (fun c_17 => ?_)
          · have h := h.1 c_17
            refine lv_aload_n hx hb dX9_readsFamily_77 rfl (lv_at hl 1 rfl) ?_
            refine lv_dup hx hb dX9_readsFamily_78 rfl ?_
            refine va_get (D := D) (ci := 8) (v := .int s_readFamilies) (C := RX9) (T := TX9) (N := 18) hx hb hts in_X9 hown hK hP 0 rfl rfl 11 (by decide) fl_98 (fun _ h9 => h9) rfl dX9_readsFamily_79 ?_
            refine lv_iconst (v := 1) hx hb dX9_readsFamily_82 (by decide) ?_
            refine lv_iadd hx hb dX9_readsFamily_83 ?_
            refine lv_topi (fun s_readFamilies_18 es_readFamilies_18 => ?_)
            have h := h s_readFamilies_18 es_readFamilies_18
            refine va_put (D := D) (ci := 8) (v := .int s_readFamilies_18) (ty := .int) (C := RX9) (T := TX9) (N := 18) hx hb hts in_X9 tyX9 tyX9_ok nmX9 hown hK hP hD hS 0 rfl rfl 11 (by decide) fl_98 (fun _ h9 => h9) rfl (tyX9_ok 11 (by decide)) rfl rfl (Nat.le_of_ble_eq_true rfl) dX9_readsFamily_84 (fun H locs hP hD hS => ?_)
            have hP : va_P D vwCl (Wd_Mo_readsFamily cy a_this a_row a_text a_isKept a_refused a_words a_cost a_steps a_mates a_bestMates a_comes s_above s_below s_length s_at_14 s_behind_15 s_readFlitches s_readFamilies_18 s_doing s_row s_text) H := hP
            have hD : va_D A (Wd_Mo_readsFamily cy a_this a_row a_text a_isKept a_refused a_words a_cost a_steps a_mates a_bestMates a_comes s_above s_below s_length s_at_14 s_behind_15 s_readFlitches s_readFamilies_18 s_doing s_row s_text) := hD
            refine lv_aload_n hx hb dX9_readsFamily_87 rfl (lv_at hl 1 rfl) ?_
            refine va_get (D := D) (ci := 8) (v := .int s_doing) (C := RX9) (T := TX9) (N := 18) hx hb hts in_X9 hown hK hP 0 rfl rfl 12 (by decide) fl_94 (fun _ h9 => h9) rfl dX9_readsFamily_88 ?_
            refine lv_if_eq (tgt := 103) hx hb dX9_readsFamily_91 (by decide) (fun c_19 => ?_) (fun c_19 => ?_)
            · have h := h.1 c_19
              refine lv_iconst (v := 1) hx hb dX9_readsFamily_103 (by decide) ?_
              exact hret _ (s_at_14, s_behind_15, s_readFamilies_18, s_row) _ _ _ _ bz1 h hP hD hS dX9_readsFamily_104
            · have h := h.2 c_19
              refine lv_aload_n hx hb dX9_readsFamily_94 rfl (lv_at hl 1 rfl) ?_
              refine lv_iload_n hx hb dX9_readsFamily_95 rfl (lv_at hl 2 rfl) ?_
              refine lv_iload_n hx hb dX9_readsFamily_96 rfl (lv_at hl 3 rfl) ?_
              refine lv_iload_n hx hb dX9_readsFamily_97 rfl (lv_at hl 4 rfl) ?_
              refine lv_iload hx hb dX9_readsFamily_98 (lv_at hl 0 rfl) ?_
              refine st_callV (WR := [2].filterMap (fun i => (Wd_Mo_readsFamily cy a_this a_row a_text a_isKept a_refused a_words a_cost a_steps a_mates a_bestMates a_comes s_above s_below s_length s_at_14 s_behind_15 s_readFlitches s_readFamilies_18 s_doing s_row s_text)[i]?)) (WSn := fun u => (Wd_Mo_readsFamily cy a_this a_row a_text a_isKept a_refused a_words a_cost a_steps a_mates a_bestMates a_comes s_above s_below s_length s_at_14 s_behind_15 s_readFlitches s_readFamilies_18 s_doing u s_text)) (st_runV (n := 4) (As := [.int r_2, .int v_5, .int v_9, .int v_13]) (rest := []) (q0 := 0) F ((co_Mo_addFamily l D cy a_this a_row a_isKept a_refused a_text a_words a_cost a_steps a_mates a_bestMates a_comes s_above s_below s_length s_at_14 s_behind_15 s_readFlitches s_readFamilies_18 s_doing s_row r_2 v_5 v_9 v_13 _ h) _) rfl gX9_readsFamily_X9_addFamily rfl (by decide +kernel) rfl hKK hP hD [0, 1] rfl rfl rfl rfl rfl hl.1 rfl (Nat.le_of_ble_eq_true rfl) dX9_readsFamily_100) hP hD hS hA [0, 1] [2] [1, 2, 0] rfl rfl rfl (fun _ => rfl) (fun u H locs h hP hD hS => ?_)
              obtain ⟨s_row_21, rfl⟩ : ∃ z, z = u := ⟨_, rfl⟩
              have hP : va_P D vwCl (Wd_Mo_readsFamily cy a_this a_row a_text a_isKept a_refused a_words a_cost a_steps a_mates a_bestMates a_comes s_above s_below s_length s_at_14 s_behind_15 s_readFlitches s_readFamilies_18 s_doing s_row_21 s_text) H := hP
              have hD : va_D A (Wd_Mo_readsFamily cy a_this a_row a_text a_isKept a_refused a_words a_cost a_steps a_mates a_bestMates a_comes s_above s_below s_length s_at_14 s_behind_15 s_readFlitches s_readFamilies_18 s_doing s_row_21 s_text) := hD
              refine lv_iconst (v := 1) hx hb dX9_readsFamily_103 (by decide) ?_
              exact hret _ (s_at_14, s_behind_15, s_readFamilies_18, s_row_21) _ _ _ _ bz1 h hP hD hS dX9_readsFamily_104
          · have h := h.2 c_17
            refine lv_iconst (v := 0) hx hb dX9_readsFamily_75 (by decide) ?_
            exact hret _ (s_at_14, s_behind_15, s_readFamilies, s_row) _ _ _ _ bz0 h hP hD hS dX9_readsFamily_76
        refine lv_icmp_ne (tgt := 60) hx hb dX9_readsFamily_53 (by decide) (fun c_22 => ?_) (fun c_22 => ?_)
        · have h := h.1 c_22
          refine lv_aload_n hx hb dX9_readsFamily_60 rfl (lv_at hl 1 rfl) ?_
          refine lv_iconst (v := 1) hx hb dX9_readsFamily_61 (by decide) ?_
          refine lv_bipush (v := 99) hx hb dX9_readsFamily_62 (by decide) ?_
          refine st_callI (WR := [1].filterMap (fun i => (Wd_Mo_readsFamily cy a_this a_row a_text a_isKept a_refused a_words a_cost a_steps a_mates a_bestMates a_comes s_above s_below s_length s_at_10 s_behind_11 s_readFlitches s_readFamilies s_doing s_row s_text)[i]?)) (WSn := fun u => (Wd_Mo_readsFamily cy a_this a_row a_text a_isKept a_refused a_words a_cost a_steps a_mates a_bestMates a_comes s_above s_below s_length u.1 u.2 s_readFlitches s_readFamilies s_doing s_row s_text)) (st_runV (n := 2) (As := [.int 1, .int 99]) (rest := []) (q0 := 0) F ((co_Mo_number l D cy a_this a_text a_row a_isKept a_refused a_words a_cost a_steps a_mates a_bestMates a_comes s_above s_below s_length s_at_10 s_behind_11 s_readFlitches s_readFamilies s_doing s_text 1 99 _ h) _) rfl gX9_readsFamily_X9_number rfl (by decide +kernel) rfl hKK hP hD [0, 2] rfl rfl rfl rfl rfl hl.1 rfl (Nat.le_of_ble_eq_true rfl) dX9_readsFamily_64) hP hD hS hA [0, 2] [1] [1, 0, 2] rfl rfl rfl (fun _ => rfl) (fun r_23 u H locs h hP hD hS => ?_)
          obtain ⟨s_at_24, s_behind_25⟩ := u
          dsimp only at h hP hD
          have hP : va_P D vwCl (Wd_Mo_readsFamily cy a_this a_row a_text a_isKept a_refused a_words a_cost a_steps a_mates a_bestMates a_comes s_above s_below s_length s_at_24 s_behind_25 s_readFlitches s_readFamilies s_doing s_row s_text) H := hP
          have hD : va_D A (Wd_Mo_readsFamily cy a_this a_row a_text a_isKept a_refused a_words a_cost a_steps a_mates a_bestMates a_comes s_above s_below s_length s_at_24 s_behind_25 s_readFlitches s_readFamilies s_doing s_row s_text) := hD
          exact kJ67_15 _ _ _ _ _ _ h hP hD hS (lv_sub hl [1, 2, 3, 0] rfl)
        · have h := h.2 c_22
          refine lv_iconst (v := (-1)) hx hb dX9_readsFamily_56 (by decide) ?_
          refine lv_goto (tgt := 67) hx hb dX9_readsFamily_57 (by decide) ?_
          exact kJ67_15 _ _ _ _ _ _ h hP hD hS (lv_sub hl [1, 2, 3, 0] rfl)
      refine lv_icmp_ne (tgt := 43) hx hb dX9_readsFamily_36 (by decide) (fun c_26 => ?_) (fun c_26 => ?_)
      · have h := h.1 c_26
        refine lv_aload_n hx hb dX9_readsFamily_43 rfl (lv_at hl 1 rfl) ?_
        refine lv_iconst (v := 0) hx hb dX9_readsFamily_44 (by decide) ?_
        refine lv_bipush (v := 24) hx hb dX9_readsFamily_45 (by decide) ?_
        refine st_callI (WR := [1].filterMap (fun i => (Wd_Mo_readsFamily cy a_this a_row a_text a_isKept a_refused a_words a_cost a_steps a_mates a_bestMates a_comes s_above s_below s_length s_at_6 s_behind_7 s_readFlitches s_readFamilies s_doing s_row s_text)[i]?)) (WSn := fun u => (Wd_Mo_readsFamily cy a_this a_row a_text a_isKept a_refused a_words a_cost a_steps a_mates a_bestMates a_comes s_above s_below s_length u.1 u.2 s_readFlitches s_readFamilies s_doing s_row s_text)) (st_runV (n := 2) (As := [.int 0, .int 24]) (rest := []) (q0 := 0) F ((co_Mo_number l D cy a_this a_text a_row a_isKept a_refused a_words a_cost a_steps a_mates a_bestMates a_comes s_above s_below s_length s_at_6 s_behind_7 s_readFlitches s_readFamilies s_doing s_text 0 24 _ h) _) rfl gX9_readsFamily_X9_number rfl (by decide +kernel) rfl hKK hP hD [0, 2] rfl rfl rfl rfl rfl hl.1 rfl (Nat.le_of_ble_eq_true rfl) dX9_readsFamily_47) hP hD hS hA [0, 2] [1] [1, 0, 2] rfl rfl rfl (fun _ => rfl) (fun r_27 u H locs h hP hD hS => ?_)
        obtain ⟨s_at_28, s_behind_29⟩ := u
        dsimp only at h hP hD
        have hP : va_P D vwCl (Wd_Mo_readsFamily cy a_this a_row a_text a_isKept a_refused a_words a_cost a_steps a_mates a_bestMates a_comes s_above s_below s_length s_at_28 s_behind_29 s_readFlitches s_readFamilies s_doing s_row s_text) H := hP
        have hD : va_D A (Wd_Mo_readsFamily cy a_this a_row a_text a_isKept a_refused a_words a_cost a_steps a_mates a_bestMates a_comes s_above s_below s_length s_at_28 s_behind_29 s_readFlitches s_readFamilies s_doing s_row s_text) := hD
        exact kJ50_11 _ _ _ _ _ _ h hP hD hS (lv_sub hl [1, 2, 0] rfl)
      · have h := h.2 c_26
        refine lv_iconst (v := (-1)) hx hb dX9_readsFamily_39 (by decide) ?_
        refine lv_goto (tgt := 50) hx hb dX9_readsFamily_40 (by decide) ?_
        exact kJ50_11 _ _ _ _ _ _ h hP hD hS (lv_sub hl [1, 2, 0] rfl)
    refine lv_icmp_ne (tgt := 27) hx hb dX9_readsFamily_20 (by decide) (fun c_30 => ?_) (fun c_30 => ?_)
    · have h := h.1 c_30
      refine lv_aload_n hx hb dX9_readsFamily_27 rfl (lv_at hl 1 rfl) ?_
      refine lv_iconst (v := 0) hx hb dX9_readsFamily_28 (by decide) ?_
      refine lv_iconst (v := 1) hx hb dX9_readsFamily_29 (by decide) ?_
      refine st_callI (WR := [1].filterMap (fun i => (Wd_Mo_readsFamily cy a_this a_row a_text a_isKept a_refused a_words a_cost a_steps a_mates a_bestMates a_comes s_above s_below s_length s_at_3 s_behind_4 s_readFlitches s_readFamilies s_doing s_row s_text)[i]?)) (WSn := fun u => (Wd_Mo_readsFamily cy a_this a_row a_text a_isKept a_refused a_words a_cost a_steps a_mates a_bestMates a_comes s_above s_below s_length u.1 u.2 s_readFlitches s_readFamilies s_doing s_row s_text)) (st_runV (n := 2) (As := [.int 0, .int 1]) (rest := []) (q0 := 0) F ((co_Mo_number l D cy a_this a_text a_row a_isKept a_refused a_words a_cost a_steps a_mates a_bestMates a_comes s_above s_below s_length s_at_3 s_behind_4 s_readFlitches s_readFamilies s_doing s_text 0 1 _ h) _) rfl gX9_readsFamily_X9_number rfl (by decide +kernel) rfl hKK hP hD [0, 2] rfl rfl rfl rfl rfl hl.1 rfl (Nat.le_of_ble_eq_true rfl) dX9_readsFamily_30) hP hD hS hA [0, 2] [1] [1, 0, 2] rfl rfl rfl (fun _ => rfl) (fun r_31 u H locs h hP hD hS => ?_)
      obtain ⟨s_at_32, s_behind_33⟩ := u
      dsimp only at h hP hD
      have hP : va_P D vwCl (Wd_Mo_readsFamily cy a_this a_row a_text a_isKept a_refused a_words a_cost a_steps a_mates a_bestMates a_comes s_above s_below s_length s_at_32 s_behind_33 s_readFlitches s_readFamilies s_doing s_row s_text) H := hP
      have hD : va_D A (Wd_Mo_readsFamily cy a_this a_row a_text a_isKept a_refused a_words a_cost a_steps a_mates a_bestMates a_comes s_above s_below s_length s_at_32 s_behind_33 s_readFlitches s_readFamilies s_doing s_row s_text) := hD
      exact kJ33_7 _ _ _ _ _ _ h hP hD hS (lv_sub hl [1, 0] rfl)
    · have h := h.2 c_30
      refine lv_iconst (v := (-1)) hx hb dX9_readsFamily_23 (by decide) ?_
      refine lv_goto (tgt := 33) hx hb dX9_readsFamily_24 (by decide) ?_
      exact kJ33_7 _ _ _ _ _ _ h hP hD hS (lv_sub hl [1, 0] rfl)
  · have h := h.2 c_1
    refine lv_iconst (v := 0) hx hb dX9_readsFamily_9 (by decide) ?_
    exact hret _ (s_at, s_behind, s_readFamilies, s_row) _ _ _ _ bz0 h hP hD hS dX9_readsFamily_10
abbrev Wd_Mo_takesBy (cy : ClassId × ClassId × ClassId × ClassId) : va_W := []
abbrev rm_Mo_takesBy : Room := { frames := 0, cells := 0, slots := 0, locals := 0 }
def wp_Mo_takesBy (x0 : Int32) (x1 : Int32) (x2 : Int32) (Q : Int32 → Prop) : Prop := ∀ x3_1 : Int32, x3_1 = (x1 / 2) → jn1 (fun (J15 : Int32 → Prop) => ((x3_1 ≤ 0 → J15 0) ∧ (¬ x3_1 ≤ 0 → J15 (x3_1 - 1)))) (fun (v_2 : Int32) => jn1 (fun (J28 : Int32 → Prop) => ((x1 ≤ 0 → J28 x3_1) ∧ (¬ x1 ≤ 0 → J28 (x3_1 + 2)))) (fun (v_4 : Int32) => ((x0 = 1 → Q v_2) ∧ (¬ x0 = 1 → ((x0 = 2 → Q v_4) ∧ (¬ x0 = 2 → ((x0 = 3 → ((¬ (irem x2 13) = 0 → Q v_2) ∧ ((irem x2 13) = 0 → Q 6))) ∧ (¬ x0 = 3 → ((x0 = 4 → ((x2 ≤ 19 → Q x3_1) ∧ (¬ x2 ≤ 19 → Q (x3_1 + 1)))) ∧ (¬ x0 = 4 → ((x0 = 5 → (((2 * v_4) ≤ 9 → Q (2 * v_4)) ∧ (¬ (2 * v_4) ≤ 9 → Q 9))) ∧ (¬ x0 = 5 → Q x3_1))))))))))))
set_option maxHeartbeats 4000000 in
set_option maxRecDepth 100000 in
theorem co_Mo_takesBy (l : Launch) (D : va_G) (cy : ClassId × ClassId × ClassId × ClassId) (x0 : Int32) (x1 : Int32) (x2 : Int32) (Q : Int32 → Prop) (h : wp_Mo_takesBy x0 x1 x2 Q) : RoI l yX9_takesBy wsX9_takesBy rm_Mo_takesBy D cy [.int x0, .int x1, .int x2] (Wd_Mo_takesBy cy) Q := by
  refine st_metRI (cc := cX9_takesBy) (maxL := 6) RX9 (by decide) rfl rfl (Nat.le_of_ble_eq_true rfl) ?_
  intro p e s m args below meth c QQ ls F hKK hP hl hret
  have hK := hKK.1
  have hnest := hKK.2.1
  have hx := F.1
  have hb := F.2.1
  have hown := F.2.2.2.1
  have hts := F.2.2.2.2
  have hl : lv_has ls 6 [(0, .int x0), (1, .int x1), (2, .int x2)] := hl
  unfold wp_Mo_takesBy at h
  refine lv_iload_n hx hb dX9_takesBy_0 rfl (lv_at hl 1 rfl) ?_
  refine lv_iconst (v := 2) hx hb dX9_takesBy_1 (by decide) ?_
  refine lv_idiv hx hb dX9_takesBy_2 (by decide) ?_
  refine lv_topi (fun x3_1 ex3_1 => ?_)
  have h := h x3_1 ex3_1
  refine lv_istore_n (lv' := [(3, .int x3_1), (0, .int x0), (1, .int x1), (2, .int x2)]) hx hb dX9_takesBy_3 rfl hl (by decide) rfl (fun ls hl => ?_)
  refine lv_iload_n hx hb dX9_takesBy_4 rfl (lv_at hl 0 rfl) ?_
  obtain ⟨J15, hJ15, h⟩ := jn1_ex h
  have kJ15_2 : ∀ (v_2 : Int32) (ls : Array Slot), J15 v_2 → lv_has ls 6 [(0, .int x0), (1, .int x1), (2, .int x2), (3, .int x3_1)] → W p l e rm_Mo_takesBy s m args below meth c s.heap [] 0 0 QQ (F0 m 15 ls [.int v_2]) := by
    intro v_2 ls h hl
    have h := hJ15 _ h
    refine lv_istore (lv' := [(4, .int v_2), (0, .int x0), (1, .int x1), (2, .int x2), (3, .int x3_1)]) hx hb dX9_takesBy_15 hl (by decide) rfl (fun ls hl => ?_)
    refine lv_iload_n hx hb dX9_takesBy_17 rfl (lv_at hl 2 rfl) ?_
    obtain ⟨J28, hJ28, h⟩ := jn1_ex h
    have kJ28_4 : ∀ (v_4 : Int32) (ls : Array Slot), J28 v_4 → lv_has ls 6 [(0, .int x0), (2, .int x2), (3, .int x3_1), (4, .int v_2)] → W p l e rm_Mo_takesBy s m args below meth c s.heap [] 0 0 QQ (F0 m 28 ls [.int v_4]) := by
      intro v_4 ls h hl
      have h := hJ28 _ h
      refine lv_istore (lv' := [(5, .int v_4), (0, .int x0), (2, .int x2), (3, .int x3_1), (4, .int v_2)]) hx hb dX9_takesBy_28 hl (by decide) rfl (fun ls hl => ?_)
      refine lv_iload_n hx hb dX9_takesBy_30 rfl (lv_at hl 1 rfl) ?_
      by_cases c_6 : x0 = 1
      · have h := h.1 c_6
        refine lv_tableIn (tgt := 64) hx hb dX9_takesBy_31 (by rw [c_6]; decide) (by rw [c_6]; decide) (by rw [c_6]; rfl) (by decide) ?_
        refine lv_iload hx hb dX9_takesBy_64 (lv_at hl 4 rfl) ?_
        exact hret _ _ _ h dX9_takesBy_66
      · have h := h.2 c_6
        by_cases c_7 : x0 = 2
        · have h := h.1 c_7
          refine lv_tableIn (tgt := 67) hx hb dX9_takesBy_31 (by rw [c_7]; decide) (by rw [c_7]; decide) (by rw [c_7]; rfl) (by decide) ?_
          refine lv_iload hx hb dX9_takesBy_67 (lv_at hl 0 rfl) ?_
          exact hret _ _ _ h dX9_takesBy_69
        · have h := h.2 c_7
          by_cases c_8 : x0 = 3
          · have h := h.1 c_8
            refine lv_tableIn (tgt := 70) hx hb dX9_takesBy_31 (by rw [c_8]; decide) (by rw [c_8]; decide) (by rw [c_8]; rfl) (by decide) ?_
            refine lv_iload_n hx hb dX9_takesBy_70 rfl (lv_at hl 2 rfl) ?_
            refine lv_bipush (v := 13) hx hb dX9_takesBy_71 (by decide) ?_
            refine lv_irem hx hb dX9_takesBy_73 (by decide) ?_
            refine lv_if_ne (tgt := 82) hx hb dX9_takesBy_74 (by decide) (fun c_9 => ?_) (fun c_9 => ?_)
            · have h := h.1 c_9
              refine lv_iload hx hb dX9_takesBy_82 (lv_at hl 4 rfl) ?_
              exact hret _ _ _ h dX9_takesBy_84
            · have h := h.2 c_9
              refine lv_bipush (v := 6) hx hb dX9_takesBy_77 (by decide) ?_
              refine lv_goto (tgt := 84) hx hb dX9_takesBy_79 (by decide) ?_
              exact hret _ _ _ h dX9_takesBy_84
          · have h := h.2 c_8
            by_cases c_10 : x0 = 4
            · have h := h.1 c_10
              refine lv_tableIn (tgt := 85) hx hb dX9_takesBy_31 (by rw [c_10]; decide) (by rw [c_10]; decide) (by rw [c_10]; rfl) (by decide) ?_
              refine lv_iload_n hx hb dX9_takesBy_85 rfl (lv_at hl 2 rfl) ?_
              refine lv_bipush (v := 19) hx hb dX9_takesBy_86 (by decide) ?_
              refine lv_icmp_le (tgt := 97) hx hb dX9_takesBy_88 (by decide) (fun c_11 => ?_) (fun c_11 => ?_)
              · have h := h.1 c_11
                refine lv_iload_n hx hb dX9_takesBy_97 rfl (lv_at hl 3 rfl) ?_
                exact hret _ _ _ h dX9_takesBy_98
              · have h := h.2 c_11
                refine lv_iload_n hx hb dX9_takesBy_91 rfl (lv_at hl 3 rfl) ?_
                refine lv_iconst (v := 1) hx hb dX9_takesBy_92 (by decide) ?_
                refine lv_iadd hx hb dX9_takesBy_93 ?_
                refine lv_goto (tgt := 98) hx hb dX9_takesBy_94 (by decide) ?_
                exact hret _ _ _ h dX9_takesBy_98
            · have h := h.2 c_10
              by_cases c_12 : x0 = 5
              · have h := h.1 c_12
                refine lv_tableIn (tgt := 99) hx hb dX9_takesBy_31 (by rw [c_12]; decide) (by rw [c_12]; decide) (by rw [c_12]; rfl) (by decide) ?_
                refine lv_iconst (v := 2) hx hb dX9_takesBy_99 (by decide) ?_
                refine lv_iload hx hb dX9_takesBy_100 (lv_at hl 0 rfl) ?_
                refine lv_imul hx hb dX9_takesBy_102 ?_
                refine lv_bipush (v := 9) hx hb dX9_takesBy_103 (by decide) ?_
                refine lv_icmp_le (tgt := 113) hx hb dX9_takesBy_105 (by decide) (fun c_13 => ?_) (fun c_13 => ?_)
                · have h := h.1 c_13
                  refine lv_iconst (v := 2) hx hb dX9_takesBy_113 (by decide) ?_
                  refine lv_iload hx hb dX9_takesBy_114 (lv_at hl 0 rfl) ?_
                  refine lv_imul hx hb dX9_takesBy_116 ?_
                  exact hret _ _ _ h dX9_takesBy_117
                · have h := h.2 c_13
                  refine lv_bipush (v := 9) hx hb dX9_takesBy_108 (by decide) ?_
                  refine lv_goto (tgt := 117) hx hb dX9_takesBy_110 (by decide) ?_
                  exact hret _ _ _ h dX9_takesBy_117
              · have h := h.2 c_12
                have nc_6 := lv_neT c_6 (a := 1) (by decide)
                have nc_7 := lv_neT c_7 (a := 2) (by decide)
                have nc_8 := lv_neT c_8 (a := 3) (by decide)
                have nc_10 := lv_neT c_10 (a := 4) (by decide)
                have nc_12 := lv_neT c_12 (a := 5) (by decide)
                refine lv_tableOut (tgt := 118) hx hb dX9_takesBy_31 (by omega) (by decide) ?_
                refine lv_iload_n hx hb dX9_takesBy_118 rfl (lv_at hl 3 rfl) ?_
                exact hret _ _ _ h dX9_takesBy_119
    refine lv_if_le (tgt := 27) hx hb dX9_takesBy_18 (by decide) (fun c_14 => ?_) (fun c_14 => ?_)
    · have h := h.1 c_14
      refine lv_iload_n hx hb dX9_takesBy_27 rfl (lv_at hl 4 rfl) ?_
      exact kJ28_4 _ _ h (lv_sub hl [1, 3, 4, 0] rfl)
    · have h := h.2 c_14
      refine lv_iload_n hx hb dX9_takesBy_21 rfl (lv_at hl 4 rfl) ?_
      refine lv_iconst (v := 2) hx hb dX9_takesBy_22 (by decide) ?_
      refine lv_iadd hx hb dX9_takesBy_23 ?_
      refine lv_goto (tgt := 28) hx hb dX9_takesBy_24 (by decide) ?_
      exact kJ28_4 _ _ h (lv_sub hl [1, 3, 4, 0] rfl)
  refine lv_if_le (tgt := 14) hx hb dX9_takesBy_5 (by decide) (fun c_15 => ?_) (fun c_15 => ?_)
  · have h := h.1 c_15
    refine lv_iconst (v := 0) hx hb dX9_takesBy_14 (by decide) ?_
    exact kJ15_2 _ _ h (lv_sub hl [1, 2, 3, 0] rfl)
  · have h := h.2 c_15
    refine lv_iload_n hx hb dX9_takesBy_8 rfl (lv_at hl 0 rfl) ?_
    refine lv_iconst (v := 1) hx hb dX9_takesBy_9 (by decide) ?_
    refine lv_isub hx hb dX9_takesBy_10 ?_
    refine lv_goto (tgt := 15) hx hb dX9_takesBy_11 (by decide) ?_
    exact kJ15_2 _ _ h (lv_sub hl [1, 2, 3, 0] rfl)
abbrev Wd_Mo_takeOff (cy : ClassId × ClassId × ClassId × ClassId) (a_this a_row a_isKept a_refused a_text a_words a_cost a_steps a_mates a_bestMates a_comes : Nat) (s_above : Int64) (s_below : Int64) (s_length : Int32) (s_at : Int32) (s_behind : Int32) (s_readFlitches : Int32) (s_readFamilies : Int32) (s_doing : Int32) (s_row : Nat → Int32) : va_W := [(a_this, .inr (8, [.ref a_row, .ref a_isKept, .ref a_refused, .long s_above, .long s_below, .ref a_text, .int s_length, .ref a_words, .int s_at, .int s_behind, .int s_readFlitches, .int s_readFamilies, .int s_doing, .ref a_cost, .ref a_steps, .ref a_mates, .ref a_bestMates, .ref a_comes])), (a_row, .inl (cy.2.1, 770, .inl s_row))]
abbrev rm_Mo_takeOff : Room := { frames := 0, cells := 0, slots := 0, locals := 0 }
def wp_Mo_takeOff (x1 : Int32) (x2 : Int32) (x3 : Int32) (s_row : Nat → Int32) (Q : (Nat → Int32) → Prop) : Prop := vp_in ((x1 + 0) + x2) 770 ∧ vp_in ((x1 + 0) + x2) 770 ∧ ∀ s_row_3 : Nat → Int32, s_row_3 = upd s_row (Int32.toNatClampNeg ((x1 + 0) + x2)) ((s_row (Int32.toNatClampNeg ((x1 + 0) + x2))) - x3) → vp_in ((x1 + 0) + x2) 770 ∧ ((1 ≤ (s_row_3 (Int32.toNatClampNeg ((x1 + 0) + x2))) → Q s_row_3) ∧ (¬ 1 ≤ (s_row_3 (Int32.toNatClampNeg ((x1 + 0) + x2))) → vp_in ((x1 + 0) + x2) 770 ∧ ∀ s_row_7 : Nat → Int32, s_row_7 = upd s_row_3 (Int32.toNatClampNeg ((x1 + 0) + x2)) 0 → vp_in (x1 + 7) 770 ∧ vp_in (x1 + 7) 770 ∧ ∀ s_row_10 : Nat → Int32, s_row_10 = upd s_row_7 (Int32.toNatClampNeg (x1 + 7)) ((s_row_7 (Int32.toNatClampNeg (x1 + 7))) ||| (ishl 1 x2)) → Q s_row_10))
set_option maxHeartbeats 4000000 in
set_option maxRecDepth 100000 in
theorem co_Mo_takeOff (l : Launch) (D : va_G) (cy : ClassId × ClassId × ClassId × ClassId) (a_this a_row a_isKept a_refused a_text a_words a_cost a_steps a_mates a_bestMates a_comes : Nat) (s_above : Int64) (s_below : Int64) (s_length : Int32) (s_at : Int32) (s_behind : Int32) (s_readFlitches : Int32) (s_readFamilies : Int32) (s_doing : Int32) (s_row : Nat → Int32) (x1 : Int32) (x2 : Int32) (x3 : Int32) (Q : (Nat → Int32) → Prop) (h : wp_Mo_takeOff x1 x2 x3 s_row Q) : CoV l yX9_takeOff wsX9_takeOff rm_Mo_takeOff D cy [.ref a_this, .int x1, .int x2, .int x3] (Wd_Mo_takeOff cy a_this a_row a_isKept a_refused a_text a_words a_cost a_steps a_mates a_bestMates a_comes s_above s_below s_length s_at s_behind s_readFlitches s_readFamilies s_doing s_row) (fun u : (Nat → Int32) => (Wd_Mo_takeOff cy a_this a_row a_isKept a_refused a_text a_words a_cost a_steps a_mates a_bestMates a_comes s_above s_below s_length s_at s_behind s_readFlitches s_readFamilies s_doing u)) (fun (u : (Nat → Int32)) => Q u) := by
  refine st_metV (cc := cX9_takeOff) (maxL := 4) RX9 (by decide) rfl rfl (Nat.le_of_ble_eq_true rfl) ?_
  intro p e s m args below meth c A QQ ls F hA hKK hP hD hS hl hret
  have hK := hKK.1
  have hnest := hKK.2.1
  have hx := F.1
  have hb := F.2.1
  have hown := F.2.2.2.1
  have hts := F.2.2.2.2
  have in_X9 : ∀ w ∈ u_ws RX9 TX9 18, w ∈ wsX9_takeOff := (fun _ h => List.mem_cons_of_mem _ (List.mem_append_right _ h))
  have fl_7 := (hts (.fieldLink RX9 7 "RasherCaseModel" "row" "[I") (List.mem_of_getElem? (i := 1) rfl))
  have hl : lv_has ls 4 [(0, .ref a_this), (1, .int x1), (2, .int x2), (3, .int x3)] := hl
  unfold wp_Mo_takeOff at h
  refine lv_aload_n hx hb dX9_takeOff_0 rfl (lv_at hl 0 rfl) ?_
  refine va_get (D := D) (ci := 8) (v := .ref a_row) (C := RX9) (T := TX9) (N := 18) hx hb hts in_X9 hown hK hP 0 rfl rfl 0 (by decide) fl_7 (fun _ h9 => h9) rfl dX9_takeOff_1 ?_
  refine lv_iload_n hx hb dX9_takeOff_4 rfl (lv_at hl 1 rfl) ?_
  refine lv_iconst (v := 0) hx hb dX9_takeOff_5 (by decide) ?_
  refine lv_iadd hx hb dX9_takeOff_6 ?_
  refine lv_iload_n hx hb dX9_takeOff_7 rfl (lv_at hl 2 rfl) ?_
  refine lv_iadd hx hb dX9_takeOff_8 ?_
  refine lv_dup2_11 hx hb dX9_takeOff_9 rfl rfl ?_
  obtain ⟨hi_1, h⟩ := h
  refine va_iald hx hb hK hP 1 1 rfl rfl hi_1 dX9_takeOff_10 ?_
  refine lv_iload_n hx hb dX9_takeOff_11 rfl (lv_at hl 3 rfl) ?_
  refine lv_isub hx hb dX9_takeOff_12 ?_
  obtain ⟨hi_2, h⟩ := h
  refine va_iast hx hb hK hP hD hS 1 1 rfl rfl hi_2 dX9_takeOff_13 (fun H locs hP hD hS => ?_)
  obtain ⟨s_row_3, es_row_3⟩ : ∃ f : Nat → Int32, f = upd s_row (Int32.toNatClampNeg ((x1 + 0) + x2)) ((s_row (Int32.toNatClampNeg ((x1 + 0) + x2))) - x3) := ⟨_, rfl⟩
  have hP : va_P D vwCl (Wd_Mo_takeOff cy a_this a_row a_isKept a_refused a_text a_words a_cost a_steps a_mates a_bestMates a_comes s_above s_below s_length s_at s_behind s_readFlitches s_readFamilies s_doing s_row_3) H := by rw [es_row_3]; exact hP
  have hD : va_D A (Wd_Mo_takeOff cy a_this a_row a_isKept a_refused a_text a_words a_cost a_steps a_mates a_bestMates a_comes s_above s_below s_length s_at s_behind s_readFlitches s_readFamilies s_doing s_row_3) := by rw [es_row_3]; exact hD
  have h := h s_row_3 es_row_3
  refine lv_aload_n hx hb dX9_takeOff_14 rfl (lv_at hl 0 rfl) ?_
  refine va_get (D := D) (ci := 8) (v := .ref a_row) (C := RX9) (T := TX9) (N := 18) hx hb hts in_X9 hown hK hP 0 rfl rfl 0 (by decide) fl_7 (fun _ h9 => h9) rfl dX9_takeOff_15 ?_
  refine lv_iload_n hx hb dX9_takeOff_18 rfl (lv_at hl 1 rfl) ?_
  refine lv_iconst (v := 0) hx hb dX9_takeOff_19 (by decide) ?_
  refine lv_iadd hx hb dX9_takeOff_20 ?_
  refine lv_iload_n hx hb dX9_takeOff_21 rfl (lv_at hl 2 rfl) ?_
  refine lv_iadd hx hb dX9_takeOff_22 ?_
  obtain ⟨hi_4, h⟩ := h
  refine va_iald hx hb hK hP 1 1 rfl rfl hi_4 dX9_takeOff_23 ?_
  refine lv_iconst (v := 1) hx hb dX9_takeOff_24 (by decide) ?_
  refine lv_icmp_ge (tgt := 54) hx hb dX9_takeOff_25 (by decide) (fun c_5 => ?_) (fun c_5 => ?_)
  · have h := h.1 c_5
    exact hret (s_row_3) _ _ _ _ h hP hD hS dX9_takeOff_54
  · have h := h.2 c_5
    refine lv_aload_n hx hb dX9_takeOff_28 rfl (lv_at hl 0 rfl) ?_
    refine va_get (D := D) (ci := 8) (v := .ref a_row) (C := RX9) (T := TX9) (N := 18) hx hb hts in_X9 hown hK hP 0 rfl rfl 0 (by decide) fl_7 (fun _ h9 => h9) rfl dX9_takeOff_29 ?_
    refine lv_iload_n hx hb dX9_takeOff_32 rfl (lv_at hl 1 rfl) ?_
    refine lv_iconst (v := 0) hx hb dX9_takeOff_33 (by decide) ?_
    refine lv_iadd hx hb dX9_takeOff_34 ?_
    refine lv_iload_n hx hb dX9_takeOff_35 rfl (lv_at hl 2 rfl) ?_
    refine lv_iadd hx hb dX9_takeOff_36 ?_
    refine lv_iconst (v := 0) hx hb dX9_takeOff_37 (by decide) ?_
    obtain ⟨hi_6, h⟩ := h
    refine va_iast hx hb hK hP hD hS 1 1 rfl rfl hi_6 dX9_takeOff_38 (fun H locs hP hD hS => ?_)
    obtain ⟨s_row_7, es_row_7⟩ : ∃ f : Nat → Int32, f = upd s_row_3 (Int32.toNatClampNeg ((x1 + 0) + x2)) 0 := ⟨_, rfl⟩
    have hP : va_P D vwCl (Wd_Mo_takeOff cy a_this a_row a_isKept a_refused a_text a_words a_cost a_steps a_mates a_bestMates a_comes s_above s_below s_length s_at s_behind s_readFlitches s_readFamilies s_doing s_row_7) H := by rw [es_row_7]; exact hP
    have hD : va_D A (Wd_Mo_takeOff cy a_this a_row a_isKept a_refused a_text a_words a_cost a_steps a_mates a_bestMates a_comes s_above s_below s_length s_at s_behind s_readFlitches s_readFamilies s_doing s_row_7) := by rw [es_row_7]; exact hD
    have h := h s_row_7 es_row_7
    refine lv_aload_n hx hb dX9_takeOff_39 rfl (lv_at hl 0 rfl) ?_
    refine va_get (D := D) (ci := 8) (v := .ref a_row) (C := RX9) (T := TX9) (N := 18) hx hb hts in_X9 hown hK hP 0 rfl rfl 0 (by decide) fl_7 (fun _ h9 => h9) rfl dX9_takeOff_40 ?_
    refine lv_iload_n hx hb dX9_takeOff_43 rfl (lv_at hl 1 rfl) ?_
    refine lv_bipush (v := 7) hx hb dX9_takeOff_44 (by decide) ?_
    refine lv_iadd hx hb dX9_takeOff_46 ?_
    refine lv_dup2_11 hx hb dX9_takeOff_47 rfl rfl ?_
    obtain ⟨hi_8, h⟩ := h
    refine va_iald hx hb hK hP 1 1 rfl rfl hi_8 dX9_takeOff_48 ?_
    refine lv_iconst (v := 1) hx hb dX9_takeOff_49 (by decide) ?_
    refine lv_iload_n hx hb dX9_takeOff_50 rfl (lv_at hl 2 rfl) ?_
    refine lv_ishl hx hb dX9_takeOff_51 ?_
    refine lv_ior hx hb dX9_takeOff_52 ?_
    obtain ⟨hi_9, h⟩ := h
    refine va_iast hx hb hK hP hD hS 1 1 rfl rfl hi_9 dX9_takeOff_53 (fun H locs hP hD hS => ?_)
    obtain ⟨s_row_10, es_row_10⟩ : ∃ f : Nat → Int32, f = upd s_row_7 (Int32.toNatClampNeg (x1 + 7)) ((s_row_7 (Int32.toNatClampNeg (x1 + 7))) ||| (ishl 1 x2)) := ⟨_, rfl⟩
    have hP : va_P D vwCl (Wd_Mo_takeOff cy a_this a_row a_isKept a_refused a_text a_words a_cost a_steps a_mates a_bestMates a_comes s_above s_below s_length s_at s_behind s_readFlitches s_readFamilies s_doing s_row_10) H := by rw [es_row_10]; exact hP
    have hD : va_D A (Wd_Mo_takeOff cy a_this a_row a_isKept a_refused a_text a_words a_cost a_steps a_mates a_bestMates a_comes s_above s_below s_length s_at s_behind s_readFlitches s_readFamilies s_doing s_row_10) := by rw [es_row_10]; exact hD
    have h := h s_row_10 es_row_10
    exact hret (s_row_10) _ _ _ _ h hP hD hS dX9_takeOff_54
abbrev Wd_Mo_apart (cy : ClassId × ClassId × ClassId × ClassId) : va_W := []
abbrev rm_Mo_apart : Room := { frames := 0, cells := 0, slots := 0, locals := 0 }
def wp_Mo_apart (x0 : Int32) (x1 : Int32) (Q : Int32 → Prop) : Prop := ((x0 ≤ x1 → Q (x1 - x0)) ∧ (¬ x0 ≤ x1 → Q (x0 - x1)))
set_option maxHeartbeats 4000000 in
set_option maxRecDepth 100000 in
theorem co_Mo_apart (l : Launch) (D : va_G) (cy : ClassId × ClassId × ClassId × ClassId) (x0 : Int32) (x1 : Int32) (Q : Int32 → Prop) (h : wp_Mo_apart x0 x1 Q) : RoI l yX9_apart wsX9_apart rm_Mo_apart D cy [.int x0, .int x1] (Wd_Mo_apart cy) Q := by
  refine st_metRI (cc := cX9_apart) (maxL := 2) RX9 (by decide) rfl rfl (Nat.le_of_ble_eq_true rfl) ?_
  intro p e s m args below meth c QQ ls F hKK hP hl hret
  have hK := hKK.1
  have hnest := hKK.2.1
  have hx := F.1
  have hb := F.2.1
  have hown := F.2.2.2.1
  have hts := F.2.2.2.2
  have hl : lv_has ls 2 [(0, .int x0), (1, .int x1)] := hl
  unfold wp_Mo_apart at h
  refine lv_iload_n hx hb dX9_apart_0 rfl (lv_at hl 0 rfl) ?_
  refine lv_iload_n hx hb dX9_apart_1 rfl (lv_at hl 1 rfl) ?_
  refine lv_icmp_le (tgt := 11) hx hb dX9_apart_2 (by decide) (fun c_1 => ?_) (fun c_1 => ?_)
  · have h := h.1 c_1
    refine lv_iload_n hx hb dX9_apart_11 rfl (lv_at hl 1 rfl) ?_
    refine lv_iload_n hx hb dX9_apart_12 rfl (lv_at hl 0 rfl) ?_
    refine lv_isub hx hb dX9_apart_13 ?_
    exact hret _ _ _ h dX9_apart_14
  · have h := h.2 c_1
    refine lv_iload_n hx hb dX9_apart_5 rfl (lv_at hl 0 rfl) ?_
    refine lv_iload_n hx hb dX9_apart_6 rfl (lv_at hl 1 rfl) ?_
    refine lv_isub hx hb dX9_apart_7 ?_
    refine lv_goto (tgt := 14) hx hb dX9_apart_8 (by decide) ?_
    exact hret _ _ _ h dX9_apart_14
abbrev Wd_Mo_far (cy : ClassId × ClassId × ClassId × ClassId) : va_W := []
abbrev rm_Mo_far : Room := { frames := 1, cells := 0, slots := 0, locals := 21 }
def wp_Mo_far (x0 : Int32) (x1 : Int32) (Q : Int32 → Prop) : Prop := wp_Mo_apart (x0 / 5) (x1 / 5) (fun (r_1 : Int32) => wp_Mo_apart (irem x0 5) (irem x1 5) (fun (r_2 : Int32) => Q (r_1 + r_2)))
set_option maxHeartbeats 4000000 in
set_option maxRecDepth 100000 in
theorem co_Mo_far (l : Launch) (D : va_G) (cy : ClassId × ClassId × ClassId × ClassId) (x0 : Int32) (x1 : Int32) (Q : Int32 → Prop) (h : wp_Mo_far x0 x1 Q) : RoI l yX9_far wsX9_far rm_Mo_far D cy [.int x0, .int x1] (Wd_Mo_far cy) Q := by
  refine st_metRI (cc := cX9_far) (maxL := 2) RX9 (by decide) rfl rfl (Nat.le_of_ble_eq_true rfl) ?_
  intro p e s m args below meth c QQ ls F hKK hP hl hret
  have hK := hKK.1
  have hnest := hKK.2.1
  have hx := F.1
  have hb := F.2.1
  have hown := F.2.2.2.1
  have hts := F.2.2.2.2
  have hl : lv_has ls 2 [(0, .int x0), (1, .int x1)] := hl
  unfold wp_Mo_far at h
  refine lv_iload_n hx hb dX9_far_0 rfl (lv_at hl 0 rfl) ?_
  refine lv_iconst (v := 5) hx hb dX9_far_1 (by decide) ?_
  refine lv_idiv hx hb dX9_far_2 (by decide) ?_
  refine lv_iload_n hx hb dX9_far_3 rfl (lv_at hl 1 rfl) ?_
  refine lv_iconst (v := 5) hx hb dX9_far_4 (by decide) ?_
  refine lv_idiv hx hb dX9_far_5 (by decide) ?_
  refine st_callRI (st_runSR (n := 2) (As := [.int (x0 / 5), .int (x1 / 5)]) (rest := []) F (co_Mo_apart l D cy (x0 / 5) (x1 / 5) _ h) gX9_far_X9_apart rfl (by decide +kernel) rfl hKK hP [] rfl rfl hl.1 rfl (Nat.le_of_ble_eq_true rfl) dX9_far_6) (fun r_1 h => ?_)
  refine lv_iload_n hx hb dX9_far_9 rfl (lv_at hl 0 rfl) ?_
  refine lv_iconst (v := 5) hx hb dX9_far_10 (by decide) ?_
  refine lv_irem hx hb dX9_far_11 (by decide) ?_
  refine lv_iload_n hx hb dX9_far_12 rfl (lv_at hl 1 rfl) ?_
  refine lv_iconst (v := 5) hx hb dX9_far_13 (by decide) ?_
  refine lv_irem hx hb dX9_far_14 (by decide) ?_
  refine st_callRI (st_runSR (n := 2) (As := [.int (irem x0 5), .int (irem x1 5)]) (rest := [.int r_1]) F (co_Mo_apart l D cy (irem x0 5) (irem x1 5) _ h) gX9_far_X9_apart rfl (by decide +kernel) rfl hKK hP [] rfl rfl hl.1 rfl (Nat.le_of_ble_eq_true rfl) dX9_far_15) (fun r_2 h => ?_)
  refine lv_iadd hx hb dX9_far_18 ?_
  exact hret _ _ _ h dX9_far_19
abbrev Wd_Mo_smellBy (cy : ClassId × ClassId × ClassId × ClassId) : va_W := []
abbrev rm_Mo_smellBy : Room := { frames := 0, cells := 0, slots := 0, locals := 0 }
def wp_Mo_smellBy (x0 : Int32) (x1 : Int32) (x2 : Int32) (x3 : Int32) (Q : Int32 → Prop) : Prop := jn1 (fun (J16 : Int32 → Prop) => ((x1 ≤ (2 * x2) → J16 0) ∧ (¬ x1 ≤ (2 * x2) → J16 (x1 - (2 * x2))))) (fun (v_1 : Int32) => jn1 (fun (J31 : Int32 → Prop) => ((v_1 ≤ 0 → J31 0) ∧ (¬ v_1 ≤ 0 → J31 (v_1 + 2)))) (fun (v_3 : Int32) => jn1 (fun (J49 : Int32 → Prop) => ((¬ (irem x3 7) = 0 → J49 v_1) ∧ ((irem x3 7) = 0 → J49 (v_1 + 5)))) (fun (v_5 : Int32) => ((x0 = 1 → Q v_3) ∧ (¬ x0 = 1 → ((x0 = 2 → Q v_5) ∧ (¬ x0 = 2 → ((x0 = 3 → Q (2 * v_3)) ∧ (¬ x0 = 3 → ((x0 = 4 → Q ((v_1 + 1) / 2)) ∧ (¬ x0 = 4 → ((x0 = 5 → ((1 ≤ (v_5 - x2) → Q (v_5 - x2)) ∧ (¬ 1 ≤ (v_5 - x2) → Q 1))) ∧ (¬ x0 = 5 → Q v_1)))))))))))))
set_option maxHeartbeats 4000000 in
set_option maxRecDepth 100000 in
theorem co_Mo_smellBy (l : Launch) (D : va_G) (cy : ClassId × ClassId × ClassId × ClassId) (x0 : Int32) (x1 : Int32) (x2 : Int32) (x3 : Int32) (Q : Int32 → Prop) (h : wp_Mo_smellBy x0 x1 x2 x3 Q) : RoI l yX9_smellBy wsX9_smellBy rm_Mo_smellBy D cy [.int x0, .int x1, .int x2, .int x3] (Wd_Mo_smellBy cy) Q := by
  refine st_metRI (cc := cX9_smellBy) (maxL := 7) RX9 (by decide) rfl rfl (Nat.le_of_ble_eq_true rfl) ?_
  intro p e s m args below meth c QQ ls F hKK hP hl hret
  have hK := hKK.1
  have hnest := hKK.2.1
  have hx := F.1
  have hb := F.2.1
  have hown := F.2.2.2.1
  have hts := F.2.2.2.2
  have hl : lv_has ls 7 [(0, .int x0), (1, .int x1), (2, .int x2), (3, .int x3)] := hl
  unfold wp_Mo_smellBy at h
  refine lv_iload_n hx hb dX9_smellBy_0 rfl (lv_at hl 1 rfl) ?_
  refine lv_iconst (v := 2) hx hb dX9_smellBy_1 (by decide) ?_
  refine lv_iload_n hx hb dX9_smellBy_2 rfl (lv_at hl 2 rfl) ?_
  refine lv_imul hx hb dX9_smellBy_3 ?_
  obtain ⟨J16, hJ16, h⟩ := jn1_ex h
  have kJ16_1 : ∀ (v_1 : Int32) (ls : Array Slot), J16 v_1 → lv_has ls 7 [(0, .int x0), (2, .int x2), (3, .int x3)] → W p l e rm_Mo_smellBy s m args below meth c s.heap [] 0 0 QQ (F0 m 16 ls [.int v_1]) := by
    intro v_1 ls h hl
    have h := hJ16 _ h
    refine lv_istore (lv' := [(4, .int v_1), (0, .int x0), (2, .int x2), (3, .int x3)]) hx hb dX9_smellBy_16 hl (by decide) rfl (fun ls hl => ?_)
    refine lv_iload hx hb dX9_smellBy_18 (lv_at hl 0 rfl) ?_
    obtain ⟨J31, hJ31, h⟩ := jn1_ex h
    have kJ31_3 : ∀ (v_3 : Int32) (ls : Array Slot), J31 v_3 → lv_has ls 7 [(0, .int x0), (2, .int x2), (3, .int x3), (4, .int v_1)] → W p l e rm_Mo_smellBy s m args below meth c s.heap [] 0 0 QQ (F0 m 31 ls [.int v_3]) := by
      intro v_3 ls h hl
      have h := hJ31 _ h
      refine lv_istore (lv' := [(5, .int v_3), (0, .int x0), (2, .int x2), (3, .int x3), (4, .int v_1)]) hx hb dX9_smellBy_31 hl (by decide) rfl (fun ls hl => ?_)
      refine lv_iload_n hx hb dX9_smellBy_33 rfl (lv_at hl 3 rfl) ?_
      refine lv_bipush (v := 7) hx hb dX9_smellBy_34 (by decide) ?_
      refine lv_irem hx hb dX9_smellBy_36 (by decide) ?_
      obtain ⟨J49, hJ49, h⟩ := jn1_ex h
      have kJ49_5 : ∀ (v_5 : Int32) (ls : Array Slot), J49 v_5 → lv_has ls 7 [(0, .int x0), (2, .int x2), (4, .int v_1), (5, .int v_3)] → W p l e rm_Mo_smellBy s m args below meth c s.heap [] 0 0 QQ (F0 m 49 ls [.int v_5]) := by
        intro v_5 ls h hl
        have h := hJ49 _ h
        refine lv_istore (lv' := [(6, .int v_5), (0, .int x0), (2, .int x2), (4, .int v_1), (5, .int v_3)]) hx hb dX9_smellBy_49 hl (by decide) rfl (fun ls hl => ?_)
        refine lv_iload_n hx hb dX9_smellBy_51 rfl (lv_at hl 1 rfl) ?_
        by_cases c_7 : x0 = 1
        · have h := h.1 c_7
          refine lv_tableIn (tgt := 88) hx hb dX9_smellBy_52 (by rw [c_7]; decide) (by rw [c_7]; decide) (by rw [c_7]; rfl) (by decide) ?_
          refine lv_iload hx hb dX9_smellBy_88 (lv_at hl 4 rfl) ?_
          exact hret _ _ _ h dX9_smellBy_90
        · have h := h.2 c_7
          by_cases c_8 : x0 = 2
          · have h := h.1 c_8
            refine lv_tableIn (tgt := 91) hx hb dX9_smellBy_52 (by rw [c_8]; decide) (by rw [c_8]; decide) (by rw [c_8]; rfl) (by decide) ?_
            refine lv_iload hx hb dX9_smellBy_91 (lv_at hl 0 rfl) ?_
            exact hret _ _ _ h dX9_smellBy_93
          · have h := h.2 c_8
            by_cases c_9 : x0 = 3
            · have h := h.1 c_9
              refine lv_tableIn (tgt := 94) hx hb dX9_smellBy_52 (by rw [c_9]; decide) (by rw [c_9]; decide) (by rw [c_9]; rfl) (by decide) ?_
              refine lv_iconst (v := 2) hx hb dX9_smellBy_94 (by decide) ?_
              refine lv_iload hx hb dX9_smellBy_95 (lv_at hl 4 rfl) ?_
              refine lv_imul hx hb dX9_smellBy_97 ?_
              exact hret _ _ _ h dX9_smellBy_98
            · have h := h.2 c_9
              by_cases c_10 : x0 = 4
              · have h := h.1 c_10
                refine lv_tableIn (tgt := 99) hx hb dX9_smellBy_52 (by rw [c_10]; decide) (by rw [c_10]; decide) (by rw [c_10]; rfl) (by decide) ?_
                refine lv_iload hx hb dX9_smellBy_99 (lv_at hl 3 rfl) ?_
                refine lv_iconst (v := 1) hx hb dX9_smellBy_101 (by decide) ?_
                refine lv_iadd hx hb dX9_smellBy_102 ?_
                refine lv_iconst (v := 2) hx hb dX9_smellBy_103 (by decide) ?_
                refine lv_idiv hx hb dX9_smellBy_104 (by decide) ?_
                exact hret _ _ _ h dX9_smellBy_105
              · have h := h.2 c_10
                by_cases c_11 : x0 = 5
                · have h := h.1 c_11
                  refine lv_tableIn (tgt := 106) hx hb dX9_smellBy_52 (by rw [c_11]; decide) (by rw [c_11]; decide) (by rw [c_11]; rfl) (by decide) ?_
                  refine lv_iload hx hb dX9_smellBy_106 (lv_at hl 0 rfl) ?_
                  refine lv_iload_n hx hb dX9_smellBy_108 rfl (lv_at hl 2 rfl) ?_
                  refine lv_isub hx hb dX9_smellBy_109 ?_
                  refine lv_iconst (v := 1) hx hb dX9_smellBy_110 (by decide) ?_
                  refine lv_icmp_ge (tgt := 118) hx hb dX9_smellBy_111 (by decide) (fun c_12 => ?_) (fun c_12 => ?_)
                  · have h := h.1 c_12
                    refine lv_iload hx hb dX9_smellBy_118 (lv_at hl 0 rfl) ?_
                    refine lv_iload_n hx hb dX9_smellBy_120 rfl (lv_at hl 2 rfl) ?_
                    refine lv_isub hx hb dX9_smellBy_121 ?_
                    exact hret _ _ _ h dX9_smellBy_122
                  · have h := h.2 c_12
                    refine lv_iconst (v := 1) hx hb dX9_smellBy_114 (by decide) ?_
                    refine lv_goto (tgt := 122) hx hb dX9_smellBy_115 (by decide) ?_
                    exact hret _ _ _ h dX9_smellBy_122
                · have h := h.2 c_11
                  have nc_7 := lv_neT c_7 (a := 1) (by decide)
                  have nc_8 := lv_neT c_8 (a := 2) (by decide)
                  have nc_9 := lv_neT c_9 (a := 3) (by decide)
                  have nc_10 := lv_neT c_10 (a := 4) (by decide)
                  have nc_11 := lv_neT c_11 (a := 5) (by decide)
                  refine lv_tableOut (tgt := 123) hx hb dX9_smellBy_52 (by omega) (by decide) ?_
                  refine lv_iload hx hb dX9_smellBy_123 (lv_at hl 3 rfl) ?_
                  exact hret _ _ _ h dX9_smellBy_125
      refine lv_if_ne (tgt := 47) hx hb dX9_smellBy_37 (by decide) (fun c_13 => ?_) (fun c_13 => ?_)
      · have h := h.1 c_13
        refine lv_iload hx hb dX9_smellBy_47 (lv_at hl 4 rfl) ?_
        exact kJ49_5 _ _ h (lv_sub hl [1, 2, 4, 0] rfl)
      · have h := h.2 c_13
        refine lv_iload hx hb dX9_smellBy_40 (lv_at hl 4 rfl) ?_
        refine lv_iconst (v := 5) hx hb dX9_smellBy_42 (by decide) ?_
        refine lv_iadd hx hb dX9_smellBy_43 ?_
        refine lv_goto (tgt := 49) hx hb dX9_smellBy_44 (by decide) ?_
        exact kJ49_5 _ _ h (lv_sub hl [1, 2, 4, 0] rfl)
    refine lv_if_le (tgt := 30) hx hb dX9_smellBy_20 (by decide) (fun c_14 => ?_) (fun c_14 => ?_)
    · have h := h.1 c_14
      refine lv_iconst (v := 0) hx hb dX9_smellBy_30 (by decide) ?_
      exact kJ31_3 _ _ h (lv_sub hl [1, 2, 3, 0] rfl)
    · have h := h.2 c_14
      refine lv_iload hx hb dX9_smellBy_23 (lv_at hl 0 rfl) ?_
      refine lv_iconst (v := 2) hx hb dX9_smellBy_25 (by decide) ?_
      refine lv_iadd hx hb dX9_smellBy_26 ?_
      refine lv_goto (tgt := 31) hx hb dX9_smellBy_27 (by decide) ?_
      exact kJ31_3 _ _ h (lv_sub hl [1, 2, 3, 0] rfl)
  refine lv_icmp_le (tgt := 15) hx hb dX9_smellBy_4 (by decide) (fun c_15 => ?_) (fun c_15 => ?_)
  · have h := h.1 c_15
    refine lv_iconst (v := 0) hx hb dX9_smellBy_15 (by decide) ?_
    exact kJ16_1 _ _ h (lv_sub hl [0, 2, 3] rfl)
  · have h := h.2 c_15
    refine lv_iload_n hx hb dX9_smellBy_7 rfl (lv_at hl 1 rfl) ?_
    refine lv_iconst (v := 2) hx hb dX9_smellBy_8 (by decide) ?_
    refine lv_iload_n hx hb dX9_smellBy_9 rfl (lv_at hl 2 rfl) ?_
    refine lv_imul hx hb dX9_smellBy_10 ?_
    refine lv_isub hx hb dX9_smellBy_11 ?_
    refine lv_goto (tgt := 16) hx hb dX9_smellBy_12 (by decide) ?_
    exact kJ16_1 _ _ h (lv_sub hl [0, 2, 3] rfl)
abbrev Wd_Mo_smellOf (cy : ClassId × ClassId × ClassId × ClassId) (a_this a_row a_isKept a_refused a_text a_words a_cost a_steps a_mates a_bestMates a_comes : Nat) (s_above : Int64) (s_below : Int64) (s_length : Int32) (s_at : Int32) (s_behind : Int32) (s_readFlitches : Int32) (s_readFamilies : Int32) (s_doing : Int32) (s_row : Nat → Int32) : va_W := [(a_this, .inr (8, [.ref a_row, .ref a_isKept, .ref a_refused, .long s_above, .long s_below, .ref a_text, .int s_length, .ref a_words, .int s_at, .int s_behind, .int s_readFlitches, .int s_readFamilies, .int s_doing, .ref a_cost, .ref a_steps, .ref a_mates, .ref a_bestMates, .ref a_comes])), (a_row, .inl (cy.2.1, 770, .inl s_row))]
abbrev rm_Mo_smellOf : Room := { frames := 2, cells := 0, slots := 0, locals := 42 }
def wp_Mo_smellOf (x1 : Int32) (x2 : Int32) (x3 : Int32) (s_row : Nat → Int32) (Q : Int32 → Prop) : Prop := ∃ n : Nat, lpw2 (fun (B6 : Int32 → Int32 → Prop) (x4_1 : Int32) (x5_2 : Int32) => (((s_row (Int32.toNatClampNeg 17)) ≤ x5_2 → Q x4_1) ∧ (¬ (s_row (Int32.toNatClampNeg 17)) ≤ x5_2 → wp_Mo_has x1 x5_2 (fun (r_5 : Int32) => jn1 (fun (J71 : Int32 → Prop) => ((r_5 = 0 → J71 0) ∧ (¬ r_5 = 0 → vp_in (18 + x5_2) 770 ∧ vp_in (24 + x5_2) 770 ∧ vp_in (21 + x5_2) 770 ∧ wp_Mo_far (s_row (Int32.toNatClampNeg (21 + x5_2))) x2 (fun (r_14 : Int32) => wp_Mo_smellBy (s_row (Int32.toNatClampNeg (18 + x5_2))) (s_row (Int32.toNatClampNeg (24 + x5_2))) r_14 x3 (fun (r_15 : Int32) => J71 r_15))))) (fun (v_6 : Int32) => ∀ x4_8 : Int32, x4_8 = (x4_1 + v_6) → ∀ x5_9 : Int32, x5_9 = x5_2 + 1 → B6 x4_8 x5_9))))) n 0 0
set_option maxHeartbeats 4000000 in
set_option maxRecDepth 100000 in
theorem co_Mo_smellOf (l : Launch) (D : va_G) (cy : ClassId × ClassId × ClassId × ClassId) (a_this a_row a_isKept a_refused a_text a_words a_cost a_steps a_mates a_bestMates a_comes : Nat) (s_above : Int64) (s_below : Int64) (s_length : Int32) (s_at : Int32) (s_behind : Int32) (s_readFlitches : Int32) (s_readFamilies : Int32) (s_doing : Int32) (s_row : Nat → Int32) (x1 : Int32) (x2 : Int32) (x3 : Int32) (Q : Int32 → Prop) (h : wp_Mo_smellOf x1 x2 x3 s_row Q) : RoI l yX9_smellOf wsX9_smellOf rm_Mo_smellOf D cy [.ref a_this, .int x1, .int x2, .int x3] (Wd_Mo_smellOf cy a_this a_row a_isKept a_refused a_text a_words a_cost a_steps a_mates a_bestMates a_comes s_above s_below s_length s_at s_behind s_readFlitches s_readFamilies s_doing s_row) Q := by
  refine st_metRI (cc := cX9_smellOf) (maxL := 6) RX9 (by decide) rfl rfl (Nat.le_of_ble_eq_true rfl) ?_
  intro p e s m args below meth c QQ ls F hKK hP hl hret
  have hK := hKK.1
  have hnest := hKK.2.1
  have hx := F.1
  have hb := F.2.1
  have hown := F.2.2.2.1
  have hts := F.2.2.2.2
  have in_X9 : ∀ w ∈ u_ws RX9 TX9 18, w ∈ wsX9_smellOf := (fun _ h => List.mem_cons_of_mem _ (List.mem_append_right _ h))
  have fl_7 := (hts (.fieldLink RX9 7 "RasherCaseModel" "row" "[I") (List.mem_of_getElem? (i := 1) rfl))
  have hl : lv_has ls 6 [(0, .ref a_this), (1, .int x1), (2, .int x2), (3, .int x3)] := hl
  unfold wp_Mo_smellOf at h
  refine lv_iconst (v := 0) hx hb dX9_smellOf_0 (by decide) ?_
  refine lv_istore (lv' := [(4, .int 0), (0, .ref a_this), (1, .int x1), (2, .int x2), (3, .int x3)]) hx hb dX9_smellOf_1 hl (by decide) rfl (fun ls hl => ?_)
  refine lv_iconst (v := 0) hx hb dX9_smellOf_3 (by decide) ?_
  refine lv_istore (lv' := [(5, .int 0), (4, .int 0), (0, .ref a_this), (1, .int x1), (2, .int x2), (3, .int x3)]) hx hb dX9_smellOf_4 hl (by decide) rfl (fun ls hl => ?_)
  obtain ⟨T6_2, hz6_2, hs6_2, n6_2, h⟩ := lpw2_use h
  have kT6_2 : ∀ (n : Nat) (x4_1 : Int32) (x5_2 : Int32) (ls : Array Slot), T6_2 n x4_1 x5_2 → lv_has ls 6 [(0, .ref a_this), (1, .int x1), (2, .int x2), (3, .int x3), (4, .int x4_1), (5, .int x5_2)] → W p l e rm_Mo_smellOf s m args below meth c s.heap [] 0 0 QQ (F0 m 6 ls []) := by
    intro n
    induction n with
    | zero => intro x4_1 x5_2 ls h; exact absurd h (hz6_2 _ _)
    | succ n ih6_2 =>
      intro x4_1 x5_2 ls h hl
      have h := hs6_2 _ _ _ h
      refine lv_iload hx hb dX9_smellOf_6 (lv_at hl 5 rfl) ?_
      refine lv_aload_n hx hb dX9_smellOf_8 rfl (lv_at hl 0 rfl) ?_
      refine va_get (D := D) (ci := 8) (v := .ref a_row) (C := RX9) (T := TX9) (N := 18) hx hb hts in_X9 hown hK hP 0 rfl rfl 0 (by decide) fl_7 (fun _ h9 => h9) rfl dX9_smellOf_9 ?_
      refine lv_bipush (v := 17) hx hb dX9_smellOf_12 (by decide) ?_
      refine va_iald hx hb hK hP 1 1 rfl rfl (by unfold vp_in; decide) dX9_smellOf_14 ?_
      refine lv_icmp_ge (tgt := 80) hx hb dX9_smellOf_15 (by decide) (fun c_4 => ?_) (fun c_4 => ?_)
      · have h := h.1 c_4
        refine lv_iload hx hb dX9_smellOf_80 (lv_at hl 4 rfl) ?_
        exact hret _ _ _ h dX9_smellOf_82
      · have h := h.2 c_4
        refine lv_iload hx hb dX9_smellOf_18 (lv_at hl 4 rfl) ?_
        refine lv_iload_n hx hb dX9_smellOf_20 rfl (lv_at hl 1 rfl) ?_
        refine lv_iload hx hb dX9_smellOf_21 (lv_at hl 5 rfl) ?_
        refine st_callRI (st_runSR (n := 2) (As := [.int x1, .int x5_2]) (rest := [.int x4_1]) F (co_Mo_has l D cy x1 x5_2 _ h) gX9_smellOf_X9_has rfl (by decide +kernel) rfl hKK hP [] rfl rfl hl.1 rfl (Nat.le_of_ble_eq_true rfl) dX9_smellOf_23) (fun r_5 h => ?_)
        obtain ⟨J71, hJ71, h⟩ := jn1_ex h
        have kJ71_6 : ∀ (v_6 : Int32) (ls : Array Slot), J71 v_6 → lv_has ls 6 [(0, .ref a_this), (1, .int x1), (2, .int x2), (3, .int x3), (5, .int x5_2)] → W p l e rm_Mo_smellOf s m args below meth c s.heap [] 0 0 QQ (F0 m 71 ls [.int v_6, .int x4_1]) := by
          intro v_6 ls h hl
          have h := hJ71 _ h
          refine lv_iadd hx hb dX9_smellOf_71 ?_
          refine lv_topi (fun x4_8 ex4_8 => ?_)
          have h := h x4_8 ex4_8
          refine lv_istore (lv' := [(4, .int x4_8), (0, .ref a_this), (1, .int x1), (2, .int x2), (3, .int x3), (5, .int x5_2)]) hx hb dX9_smellOf_72 hl (by decide) rfl (fun ls hl => ?_)
          obtain ⟨x5_9, ex5_9⟩ : ∃ y : Int32, y = x5_2 + 1 := ⟨_, rfl⟩
          have h := h x5_9 ex5_9
          refine lv_iinc (v := x5_9) (lv' := [(5, .int x5_9), (4, .int x4_8), (0, .ref a_this), (1, .int x1), (2, .int x2), (3, .int x3)]) hx hb dX9_smellOf_74 hl (k := 5) rfl (by rw [ex5_9]; rfl) (by decide) rfl (fun ls hl => ?_)
          refine lv_goto (tgt := 6) hx hb dX9_smellOf_77 (by decide) ?_
          exact ih6_2 _ _ _ h (lv_sub hl [2, 3, 4, 5, 1, 0] rfl)
        refine lv_if_eq (tgt := 70) hx hb dX9_smellOf_26 (by decide) (fun c_10 => ?_) (fun c_10 => ?_)
        · have h := h.1 c_10
          refine lv_iconst (v := 0) hx hb dX9_smellOf_70 (by decide) ?_
          exact kJ71_6 _ _ h (lv_sub hl [0, 1, 2, 3, 5] rfl)
        · have h := h.2 c_10
          refine lv_aload_n hx hb dX9_smellOf_29 rfl (lv_at hl 0 rfl) ?_
          refine va_get (D := D) (ci := 8) (v := .ref a_row) (C := RX9) (T := TX9) (N := 18) hx hb hts in_X9 hown hK hP 0 rfl rfl 0 (by decide) fl_7 (fun _ h9 => h9) rfl dX9_smellOf_30 ?_
          refine lv_bipush (v := 18) hx hb dX9_smellOf_33 (by decide) ?_
          refine lv_iload hx hb dX9_smellOf_35 (lv_at hl 5 rfl) ?_
          refine lv_iadd hx hb dX9_smellOf_37 ?_
          obtain ⟨hi_11, h⟩ := h
          refine va_iald hx hb hK hP 1 1 rfl rfl hi_11 dX9_smellOf_38 ?_
          refine lv_aload_n hx hb dX9_smellOf_39 rfl (lv_at hl 0 rfl) ?_
          refine va_get (D := D) (ci := 8) (v := .ref a_row) (C := RX9) (T := TX9) (N := 18) hx hb hts in_X9 hown hK hP 0 rfl rfl 0 (by decide) fl_7 (fun _ h9 => h9) rfl dX9_smellOf_40 ?_
          refine lv_bipush (v := 24) hx hb dX9_smellOf_43 (by decide) ?_
          refine lv_iload hx hb dX9_smellOf_45 (lv_at hl 5 rfl) ?_
          refine lv_iadd hx hb dX9_smellOf_47 ?_
          obtain ⟨hi_12, h⟩ := h
          refine va_iald hx hb hK hP 1 1 rfl rfl hi_12 dX9_smellOf_48 ?_
          refine lv_aload_n hx hb dX9_smellOf_49 rfl (lv_at hl 0 rfl) ?_
          refine va_get (D := D) (ci := 8) (v := .ref a_row) (C := RX9) (T := TX9) (N := 18) hx hb hts in_X9 hown hK hP 0 rfl rfl 0 (by decide) fl_7 (fun _ h9 => h9) rfl dX9_smellOf_50 ?_
          refine lv_bipush (v := 21) hx hb dX9_smellOf_53 (by decide) ?_
          refine lv_iload hx hb dX9_smellOf_55 (lv_at hl 5 rfl) ?_
          refine lv_iadd hx hb dX9_smellOf_57 ?_
          obtain ⟨hi_13, h⟩ := h
          refine va_iald hx hb hK hP 1 1 rfl rfl hi_13 dX9_smellOf_58 ?_
          refine lv_iload_n hx hb dX9_smellOf_59 rfl (lv_at hl 2 rfl) ?_
          refine st_callRI (st_runSR (n := 2) (As := [.int (s_row (Int32.toNatClampNeg (21 + x5_2))), .int x2]) (rest := [.int (s_row (Int32.toNatClampNeg (24 + x5_2))), .int (s_row (Int32.toNatClampNeg (18 + x5_2))), .int x4_1]) F (co_Mo_far l D cy (s_row (Int32.toNatClampNeg (21 + x5_2))) x2 _ h) gX9_smellOf_X9_far rfl (by decide +kernel) rfl hKK hP [] rfl rfl hl.1 rfl (Nat.le_of_ble_eq_true rfl) dX9_smellOf_60) (fun r_14 h => ?_)
          refine lv_iload_n hx hb dX9_smellOf_63 rfl (lv_at hl 3 rfl) ?_
          refine st_callRI (st_runSR (n := 4) (As := [.int (s_row (Int32.toNatClampNeg (18 + x5_2))), .int (s_row (Int32.toNatClampNeg (24 + x5_2))), .int r_14, .int x3]) (rest := [.int x4_1]) F (co_Mo_smellBy l D cy (s_row (Int32.toNatClampNeg (18 + x5_2))) (s_row (Int32.toNatClampNeg (24 + x5_2))) r_14 x3 _ h) gX9_smellOf_X9_smellBy rfl (by decide +kernel) rfl hKK hP [] rfl rfl hl.1 rfl (Nat.le_of_ble_eq_true rfl) dX9_smellOf_64) (fun r_15 h => ?_)
          refine lv_goto (tgt := 71) hx hb dX9_smellOf_67 (by decide) ?_
          exact kJ71_6 _ _ h (lv_sub hl [0, 1, 2, 3, 5] rfl)
  exact kT6_2 n6_2 _ _ _ h (lv_sub hl [2, 3, 4, 5, 1, 0] rfl)
abbrev Wd_Mo_passes (cy : ClassId × ClassId × ClassId × ClassId) (a_this a_row a_isKept a_refused a_text a_words a_cost a_steps a_mates a_bestMates a_comes : Nat) (s_above : Int64) (s_below : Int64) (s_length : Int32) (s_at : Int32) (s_behind : Int32) (s_readFlitches : Int32) (s_readFamilies : Int32) (s_doing : Int32) (s_row : Nat → Int32) : va_W := [(a_this, .inr (8, [.ref a_row, .ref a_isKept, .ref a_refused, .long s_above, .long s_below, .ref a_text, .int s_length, .ref a_words, .int s_at, .int s_behind, .int s_readFlitches, .int s_readFamilies, .int s_doing, .ref a_cost, .ref a_steps, .ref a_mates, .ref a_bestMates, .ref a_comes])), (a_row, .inl (cy.2.1, 770, .inl s_row))]
abbrev rm_Mo_passes : Room := { frames := 3, cells := 0, slots := 0, locals := 67 }
def wp_Mo_passes (x1 : Int32) (x2 : Int32) (s_row : Nat → Int32) (Q : (Nat → Int32) → Prop) : Prop := vp_in (x1 + 16) 770 ∧ ∀ x3_2 : Int32, x3_2 = (s_row (Int32.toNatClampNeg (x1 + 16))) → ∃ n : Nat, lpw2 (fun (B13 : Int32 → (Nat → Int32) → Prop) (x4_3 : Int32) (s_row_4 : Nat → Int32) => (((s_row_4 (Int32.toNatClampNeg 27)) ≤ x4_3 → vp_in (x1 + 16) 770 ∧ vp_in (x1 + 16) 770 ∧ ∀ s_row_9 : Nat → Int32, s_row_9 = upd s_row_4 (Int32.toNatClampNeg (x1 + 16)) ((s_row_4 (Int32.toNatClampNeg (x1 + 16))) + 1) → Q s_row_9) ∧ (¬ (s_row_4 (Int32.toNatClampNeg 27)) ≤ x4_3 → vp_in (x1 + 7) 770 ∧ wp_Mo_has (s_row_4 (Int32.toNatClampNeg (x1 + 7))) x4_3 (fun (r_11 : Int32) => jn1 (fun (J101 : (Nat → Int32) → Prop) => ((¬ r_11 = 0 → J101 s_row_4) ∧ (r_11 = 0 → jn1 (fun (J76 : Int32 → Prop) => ((x2 = 0 → vp_in (x1 + 15) 770 ∧ vp_in ((x1 + 8) + x4_3) 770 ∧ wp_Mo_smellOf (s_row_4 (Int32.toNatClampNeg (x1 + 15))) (s_row_4 (Int32.toNatClampNeg ((x1 + 8) + x4_3))) x3_2 s_row_4 (fun (r_25 : Int32) => J76 r_25)) ∧ (¬ x2 = 0 → J76 0))) (fun (v_16 : Int32) => vp_in (28 + x4_3) 770 ∧ wp_Mo_takesBy (s_row_4 (Int32.toNatClampNeg (28 + x4_3))) v_16 x3_2 (fun (r_19 : Int32) => wp_Mo_takeOff x1 x4_3 r_19 s_row_4 (fun (s_row_21 : Nat → Int32) => J101 s_row_21)))))) (fun (s_row_12 : Nat → Int32) => ∀ x4_14 : Int32, x4_14 = x4_3 + 1 → B13 x4_14 s_row_12))))) n 0 s_row
set_option maxHeartbeats 4000000 in
set_option maxRecDepth 100000 in
theorem co_Mo_passes (l : Launch) (D : va_G) (cy : ClassId × ClassId × ClassId × ClassId) (a_this a_row a_isKept a_refused a_text a_words a_cost a_steps a_mates a_bestMates a_comes : Nat) (s_above : Int64) (s_below : Int64) (s_length : Int32) (s_at : Int32) (s_behind : Int32) (s_readFlitches : Int32) (s_readFamilies : Int32) (s_doing : Int32) (s_row : Nat → Int32) (x1 : Int32) (x2 : Int32) (Q : (Nat → Int32) → Prop) (h : wp_Mo_passes x1 x2 s_row Q) : CoV l yX9_passes wsX9_passes rm_Mo_passes D cy [.ref a_this, .int x1, .int x2] (Wd_Mo_passes cy a_this a_row a_isKept a_refused a_text a_words a_cost a_steps a_mates a_bestMates a_comes s_above s_below s_length s_at s_behind s_readFlitches s_readFamilies s_doing s_row) (fun u : (Nat → Int32) => (Wd_Mo_passes cy a_this a_row a_isKept a_refused a_text a_words a_cost a_steps a_mates a_bestMates a_comes s_above s_below s_length s_at s_behind s_readFlitches s_readFamilies s_doing u)) (fun (u : (Nat → Int32)) => Q u) := by
  refine st_metV (cc := cX9_passes) (maxL := 6) RX9 (by decide) rfl rfl (Nat.le_of_ble_eq_true rfl) ?_
  intro p e s m args below meth c A QQ ls F hA hKK hP hD hS hl hret
  have hK := hKK.1
  have hnest := hKK.2.1
  have hx := F.1
  have hb := F.2.1
  have hown := F.2.2.2.1
  have hts := F.2.2.2.2
  have in_X9 : ∀ w ∈ u_ws RX9 TX9 18, w ∈ wsX9_passes := (fun _ h => List.mem_cons_of_mem _ (List.mem_append_right _ h))
  have fl_7 := (hts (.fieldLink RX9 7 "RasherCaseModel" "row" "[I") (List.mem_of_getElem? (i := 1) rfl))
  have hl : lv_has ls 6 [(0, .ref a_this), (1, .int x1), (2, .int x2)] := hl
  unfold wp_Mo_passes at h
  refine lv_aload_n hx hb dX9_passes_0 rfl (lv_at hl 0 rfl) ?_
  refine va_get (D := D) (ci := 8) (v := .ref a_row) (C := RX9) (T := TX9) (N := 18) hx hb hts in_X9 hown hK hP 0 rfl rfl 0 (by decide) fl_7 (fun _ h9 => h9) rfl dX9_passes_1 ?_
  refine lv_iload_n hx hb dX9_passes_4 rfl (lv_at hl 1 rfl) ?_
  refine lv_bipush (v := 16) hx hb dX9_passes_5 (by decide) ?_
  refine lv_iadd hx hb dX9_passes_7 ?_
  obtain ⟨hi_1, h⟩ := h
  refine va_iald hx hb hK hP 1 1 rfl rfl hi_1 dX9_passes_8 ?_
  refine lv_topi (fun x3_2 ex3_2 => ?_)
  have h := h x3_2 ex3_2
  refine lv_istore_n (lv' := [(3, .int x3_2), (0, .ref a_this), (1, .int x1), (2, .int x2)]) hx hb dX9_passes_9 rfl hl (by decide) rfl (fun ls hl => ?_)
  refine lv_iconst (v := 0) hx hb dX9_passes_10 (by decide) ?_
  refine lv_istore (lv' := [(4, .int 0), (3, .int x3_2), (0, .ref a_this), (1, .int x1), (2, .int x2)]) hx hb dX9_passes_11 hl (by decide) rfl (fun ls hl => ?_)
  obtain ⟨T13_4, hz13_4, hs13_4, n13_4, h⟩ := lpw2_use h
  have kT13_4 : ∀ (n : Nat) (x4_3 : Int32) (s_row_4 : Nat → Int32) (H : Heap) (locs : List Loc) (ls : Array Slot), T13_4 n x4_3 s_row_4 → va_P D vwCl (Wd_Mo_passes cy a_this a_row a_isKept a_refused a_text a_words a_cost a_steps a_mates a_bestMates a_comes s_above s_below s_length s_at s_behind s_readFlitches s_readFamilies s_doing s_row_4) H → va_D A (Wd_Mo_passes cy a_this a_row a_isKept a_refused a_text a_words a_cost a_steps a_mates a_bestMates a_comes s_above s_below s_length s_at s_behind s_readFlitches s_readFamilies s_doing s_row_4) → va_S A s.heap H locs → lv_has ls 6 [(0, .ref a_this), (1, .int x1), (2, .int x2), (3, .int x3_2), (4, .int x4_3)] → W p l e rm_Mo_passes s m args below meth c H locs 0 0 QQ (F0 m 13 ls []) := by
    intro n
    induction n with
    | zero => intro x4_3 s_row_4 H locs ls h; exact absurd h (hz13_4 _ _)
    | succ n ih13_4 =>
      intro x4_3 s_row_4 H locs ls h hP hD hS hl
      have h := hs13_4 _ _ _ h
      refine lv_iload hx hb dX9_passes_13 (lv_at hl 4 rfl) ?_
      refine lv_aload_n hx hb dX9_passes_15 rfl (lv_at hl 0 rfl) ?_
      refine va_get (D := D) (ci := 8) (v := .ref a_row) (C := RX9) (T := TX9) (N := 18) hx hb hts in_X9 hown hK hP 0 rfl rfl 0 (by decide) fl_7 (fun _ h9 => h9) rfl dX9_passes_16 ?_
      refine lv_bipush (v := 27) hx hb dX9_passes_19 (by decide) ?_
      refine va_iald hx hb hK hP 1 1 rfl rfl (by unfold vp_in; decide) dX9_passes_21 ?_
      refine lv_icmp_ge (tgt := 107) hx hb dX9_passes_22 (by decide) (fun c_6 => ?_) (fun c_6 => ?_)
      · have h := h.1 c_6
        refine lv_aload_n hx hb dX9_passes_107 rfl (lv_at hl 0 rfl) ?_
        refine va_get (D := D) (ci := 8) (v := .ref a_row) (C := RX9) (T := TX9) (N := 18) hx hb hts in_X9 hown hK hP 0 rfl rfl 0 (by decide) fl_7 (fun _ h9 => h9) rfl dX9_passes_108 ?_
        refine lv_iload_n hx hb dX9_passes_111 rfl (lv_at hl 1 rfl) ?_
        refine lv_bipush (v := 16) hx hb dX9_passes_112 (by decide) ?_
        refine lv_iadd hx hb dX9_passes_114 ?_
        refine lv_dup2_11 hx hb dX9_passes_115 rfl rfl ?_
        obtain ⟨hi_7, h⟩ := h
        refine va_iald hx hb hK hP 1 1 rfl rfl hi_7 dX9_passes_116 ?_
        refine lv_iconst (v := 1) hx hb dX9_passes_117 (by decide) ?_
        refine lv_iadd hx hb dX9_passes_118 ?_
        obtain ⟨hi_8, h⟩ := h
        refine va_iast hx hb hK hP hD hS 1 1 rfl rfl hi_8 dX9_passes_119 (fun H locs hP hD hS => ?_)
        obtain ⟨s_row_9, es_row_9⟩ : ∃ f : Nat → Int32, f = upd s_row_4 (Int32.toNatClampNeg (x1 + 16)) ((s_row_4 (Int32.toNatClampNeg (x1 + 16))) + 1) := ⟨_, rfl⟩
        have hP : va_P D vwCl (Wd_Mo_passes cy a_this a_row a_isKept a_refused a_text a_words a_cost a_steps a_mates a_bestMates a_comes s_above s_below s_length s_at s_behind s_readFlitches s_readFamilies s_doing s_row_9) H := by rw [es_row_9]; exact hP
        have hD : va_D A (Wd_Mo_passes cy a_this a_row a_isKept a_refused a_text a_words a_cost a_steps a_mates a_bestMates a_comes s_above s_below s_length s_at s_behind s_readFlitches s_readFamilies s_doing s_row_9) := by rw [es_row_9]; exact hD
        have h := h s_row_9 es_row_9
        exact hret (s_row_9) _ _ _ _ h hP hD hS dX9_passes_120
      · have h := h.2 c_6
        refine lv_aload_n hx hb dX9_passes_25 rfl (lv_at hl 0 rfl) ?_
        refine va_get (D := D) (ci := 8) (v := .ref a_row) (C := RX9) (T := TX9) (N := 18) hx hb hts in_X9 hown hK hP 0 rfl rfl 0 (by decide) fl_7 (fun _ h9 => h9) rfl dX9_passes_26 ?_
        refine lv_iload_n hx hb dX9_passes_29 rfl (lv_at hl 1 rfl) ?_
        refine lv_bipush (v := 7) hx hb dX9_passes_30 (by decide) ?_
        refine lv_iadd hx hb dX9_passes_32 ?_
        obtain ⟨hi_10, h⟩ := h
        refine va_iald hx hb hK hP 1 1 rfl rfl hi_10 dX9_passes_33 ?_
        refine lv_iload hx hb dX9_passes_34 (lv_at hl 4 rfl) ?_
        refine st_callRI (st_runSR (n := 2) (As := [.int (s_row_4 (Int32.toNatClampNeg (x1 + 7))), .int x4_3]) (rest := []) F (co_Mo_has l D cy (s_row_4 (Int32.toNatClampNeg (x1 + 7))) x4_3 _ h) gX9_passes_X9_has rfl (by decide +kernel) rfl hKK hP [] rfl rfl hl.1 rfl (Nat.le_of_ble_eq_true rfl) dX9_passes_36) (fun r_11 h => ?_)
        obtain ⟨J101, hJ101, h⟩ := jn1_ex h
        have kJ101_12 : ∀ (s_row_12 : Nat → Int32) (H : Heap) (locs : List Loc) (ls : Array Slot), J101 s_row_12 → va_P D vwCl (Wd_Mo_passes cy a_this a_row a_isKept a_refused a_text a_words a_cost a_steps a_mates a_bestMates a_comes s_above s_below s_length s_at s_behind s_readFlitches s_readFamilies s_doing s_row_12) H → va_D A (Wd_Mo_passes cy a_this a_row a_isKept a_refused a_text a_words a_cost a_steps a_mates a_bestMates a_comes s_above s_below s_length s_at s_behind s_readFlitches s_readFamilies s_doing s_row_12) → va_S A s.heap H locs → lv_has ls 6 [(0, .ref a_this), (1, .int x1), (2, .int x2), (3, .int x3_2), (4, .int x4_3)] → W p l e rm_Mo_passes s m args below meth c H locs 0 0 QQ (F0 m 101 ls []) := by
          intro s_row_12 H locs ls h hP hD hS hl
          have h := hJ101 _ h
          obtain ⟨x4_14, ex4_14⟩ : ∃ y : Int32, y = x4_3 + 1 := ⟨_, rfl⟩
          have h := h x4_14 ex4_14
          refine lv_iinc (v := x4_14) (lv' := [(4, .int x4_14), (0, .ref a_this), (1, .int x1), (2, .int x2), (3, .int x3_2)]) hx hb dX9_passes_101 hl (k := 4) rfl (by rw [ex4_14]; rfl) (by decide) rfl (fun ls hl => ?_)
          refine lv_goto (tgt := 13) hx hb dX9_passes_104 (by decide) ?_
          exact ih13_4 _ _ _ _ _ h hP hD hS (lv_sub hl [1, 2, 3, 4, 0] rfl)
        refine lv_if_ne (tgt := 101) hx hb dX9_passes_39 (by decide) (fun c_15 => ?_) (fun c_15 => ?_)
        · have h := h.1 c_15
          exact kJ101_12 _ _ _ _ h hP hD hS (lv_sub hl [0, 1, 2, 3, 4] rfl)
        · have h := h.2 c_15
          refine lv_iload_n hx hb dX9_passes_42 rfl (lv_at hl 2 rfl) ?_
          obtain ⟨J76, hJ76, h⟩ := jn1_ex h
          have kJ76_16 : ∀ (v_16 : Int32) (H : Heap) (locs : List Loc) (ls : Array Slot), J76 v_16 → va_P D vwCl (Wd_Mo_passes cy a_this a_row a_isKept a_refused a_text a_words a_cost a_steps a_mates a_bestMates a_comes s_above s_below s_length s_at s_behind s_readFlitches s_readFamilies s_doing s_row_4) H → va_D A (Wd_Mo_passes cy a_this a_row a_isKept a_refused a_text a_words a_cost a_steps a_mates a_bestMates a_comes s_above s_below s_length s_at s_behind s_readFlitches s_readFamilies s_doing s_row_4) → va_S A s.heap H locs → lv_has ls 6 [(0, .ref a_this), (1, .int x1), (2, .int x2), (3, .int x3_2), (4, .int x4_3)] → W p l e rm_Mo_passes s m args below meth c H locs 0 0 QQ (F0 m 76 ls [.int v_16]) := by
            intro v_16 H locs ls h hP hD hS hl
            have h := hJ76 _ h
            refine lv_istore (lv' := [(5, .int v_16), (0, .ref a_this), (1, .int x1), (2, .int x2), (3, .int x3_2), (4, .int x4_3)]) hx hb dX9_passes_76 hl (by decide) rfl (fun ls hl => ?_)
            refine lv_aload_n hx hb dX9_passes_78 rfl (lv_at hl 1 rfl) ?_
            refine lv_iload_n hx hb dX9_passes_79 rfl (lv_at hl 2 rfl) ?_
            refine lv_iload hx hb dX9_passes_80 (lv_at hl 5 rfl) ?_
            refine lv_aload_n hx hb dX9_passes_82 rfl (lv_at hl 1 rfl) ?_
            refine va_get (D := D) (ci := 8) (v := .ref a_row) (C := RX9) (T := TX9) (N := 18) hx hb hts in_X9 hown hK hP 0 rfl rfl 0 (by decide) fl_7 (fun _ h9 => h9) rfl dX9_passes_83 ?_
            refine lv_bipush (v := 28) hx hb dX9_passes_86 (by decide) ?_
            refine lv_iload hx hb dX9_passes_88 (lv_at hl 5 rfl) ?_
            refine lv_iadd hx hb dX9_passes_90 ?_
            obtain ⟨hi_18, h⟩ := h
            refine va_iald hx hb hK hP 1 1 rfl rfl hi_18 dX9_passes_91 ?_
            refine lv_iload hx hb dX9_passes_92 (lv_at hl 0 rfl) ?_
            refine lv_iload_n hx hb dX9_passes_94 rfl (lv_at hl 4 rfl) ?_
            refine st_callRI (st_runSR (n := 3) (As := [.int (s_row_4 (Int32.toNatClampNeg (28 + x4_3))), .int v_16, .int x3_2]) (rest := [.int x4_3, .int x1, .ref a_this]) F (co_Mo_takesBy l D cy (s_row_4 (Int32.toNatClampNeg (28 + x4_3))) v_16 x3_2 _ h) gX9_passes_X9_takesBy rfl (by decide +kernel) rfl hKK hP [] rfl rfl hl.1 rfl (Nat.le_of_ble_eq_true rfl) dX9_passes_95) (fun r_19 h => ?_)
            refine st_callV (WR := []) (WSn := fun u => (Wd_Mo_passes cy a_this a_row a_isKept a_refused a_text a_words a_cost a_steps a_mates a_bestMates a_comes s_above s_below s_length s_at s_behind s_readFlitches s_readFamilies s_doing u)) (st_runV (n := 3) (As := [.int x1, .int x4_3, .int r_19]) (rest := []) (q0 := 0) F ((co_Mo_takeOff l D cy a_this a_row a_isKept a_refused a_text a_words a_cost a_steps a_mates a_bestMates a_comes s_above s_below s_length s_at s_behind s_readFlitches s_readFamilies s_doing s_row_4 x1 x4_3 r_19 _ h) _) rfl gX9_passes_X9_takeOff rfl (by decide +kernel) rfl hKK hP hD [0, 1] rfl rfl rfl rfl rfl hl.1 rfl (Nat.le_of_ble_eq_true rfl) dX9_passes_98) hP hD hS hA [0, 1] [] [0, 1] rfl rfl rfl (fun _ => rfl) (fun u H locs h hP hD hS => ?_)
            obtain ⟨s_row_21, rfl⟩ : ∃ z, z = u := ⟨_, rfl⟩
            have hP : va_P D vwCl (Wd_Mo_passes cy a_this a_row a_isKept a_refused a_text a_words a_cost a_steps a_mates a_bestMates a_comes s_above s_below s_length s_at s_behind s_readFlitches s_readFamilies s_doing s_row_21) H := hP
            have hD : va_D A (Wd_Mo_passes cy a_this a_row a_isKept a_refused a_text a_words a_cost a_steps a_mates a_bestMates a_comes s_above s_below s_length s_at s_behind s_readFlitches s_readFamilies s_doing s_row_21) := hD
            exact kJ101_12 _ _ _ _ h hP hD hS (lv_sub hl [1, 2, 3, 4, 5] rfl)
          refine lv_if_eq (tgt := 50) hx hb dX9_passes_43 (by decide) (fun c_22 => ?_) (fun c_22 => ?_)
          · have h := h.1 c_22
            refine lv_aload_n hx hb dX9_passes_50 rfl (lv_at hl 0 rfl) ?_
            refine lv_aload_n hx hb dX9_passes_51 rfl (lv_at hl 0 rfl) ?_
            refine va_get (D := D) (ci := 8) (v := .ref a_row) (C := RX9) (T := TX9) (N := 18) hx hb hts in_X9 hown hK hP 0 rfl rfl 0 (by decide) fl_7 (fun _ h9 => h9) rfl dX9_passes_52 ?_
            refine lv_iload_n hx hb dX9_passes_55 rfl (lv_at hl 1 rfl) ?_
            refine lv_bipush (v := 15) hx hb dX9_passes_56 (by decide) ?_
            refine lv_iadd hx hb dX9_passes_58 ?_
            obtain ⟨hi_23, h⟩ := h
            refine va_iald hx hb hK hP 1 1 rfl rfl hi_23 dX9_passes_59 ?_
            refine lv_aload_n hx hb dX9_passes_60 rfl (lv_at hl 0 rfl) ?_
            refine va_get (D := D) (ci := 8) (v := .ref a_row) (C := RX9) (T := TX9) (N := 18) hx hb hts in_X9 hown hK hP 0 rfl rfl 0 (by decide) fl_7 (fun _ h9 => h9) rfl dX9_passes_61 ?_
            refine lv_iload_n hx hb dX9_passes_64 rfl (lv_at hl 1 rfl) ?_
            refine lv_bipush (v := 8) hx hb dX9_passes_65 (by decide) ?_
            refine lv_iadd hx hb dX9_passes_67 ?_
            refine lv_iload hx hb dX9_passes_68 (lv_at hl 4 rfl) ?_
            refine lv_iadd hx hb dX9_passes_70 ?_
            obtain ⟨hi_24, h⟩ := h
            refine va_iald hx hb hK hP 1 1 rfl rfl hi_24 dX9_passes_71 ?_
            refine lv_iload_n hx hb dX9_passes_72 rfl (lv_at hl 3 rfl) ?_
            refine st_callRI (st_runVR (n := 3) (As := [.int (s_row_4 (Int32.toNatClampNeg (x1 + 15))), .int (s_row_4 (Int32.toNatClampNeg ((x1 + 8) + x4_3))), .int x3_2]) (rest := []) (q0 := 0) F (co_Mo_smellOf l D cy a_this a_row a_isKept a_refused a_text a_words a_cost a_steps a_mates a_bestMates a_comes s_above s_below s_length s_at s_behind s_readFlitches s_readFamilies s_doing s_row_4 (s_row_4 (Int32.toNatClampNeg (x1 + 15))) (s_row_4 (Int32.toNatClampNeg ((x1 + 8) + x4_3))) x3_2 _ h) gX9_passes_X9_smellOf rfl (by decide +kernel) rfl hKK hP [0, 1] rfl rfl rfl rfl hl.1 rfl (Nat.le_of_ble_eq_true rfl) dX9_passes_73) (fun r_25 h => ?_)
            exact kJ76_16 _ _ _ _ h hP hD hS (lv_sub hl [0, 1, 2, 3, 4] rfl)
          · have h := h.2 c_22
            refine lv_iconst (v := 0) hx hb dX9_passes_46 (by decide) ?_
            refine lv_goto (tgt := 76) hx hb dX9_passes_47 (by decide) ?_
            exact kJ76_16 _ _ _ _ h hP hD hS (lv_sub hl [0, 1, 2, 3, 4] rfl)
  exact kT13_4 n13_4 _ _ _ _ _ h hP hD hS (lv_sub hl [2, 3, 4, 1, 0] rfl)
abbrev Wd_Mo_goBy (cy : ClassId × ClassId × ClassId × ClassId) (a_this a_row a_isKept a_refused a_text a_words a_cost a_steps a_mates a_bestMates a_comes : Nat) (s_above : Int64) (s_below : Int64) (s_length : Int32) (s_at : Int32) (s_behind : Int32) (s_readFlitches : Int32) (s_readFamilies : Int32) (s_doing : Int32) (s_row : Nat → Int32) : va_W := [(a_this, .inr (8, [.ref a_row, .ref a_isKept, .ref a_refused, .long s_above, .long s_below, .ref a_text, .int s_length, .ref a_words, .int s_at, .int s_behind, .int s_readFlitches, .int s_readFamilies, .int s_doing, .ref a_cost, .ref a_steps, .ref a_mates, .ref a_bestMates, .ref a_comes])), (a_row, .inl (cy.2.1, 770, .inl s_row))]
abbrev rm_Mo_goBy : Room := { frames := 4, cells := 0, slots := 0, locals := 92 }
def wp_Mo_goBy (x1 : Int32) (s_row : Nat → Int32) (Q : (Nat → Int32) → Prop) : Prop := ∃ n : Nat, lpw2 (fun (B2 : Int32 → (Nat → Int32) → Prop) (x2_1 : Int32) (s_row_2 : Nat → Int32) => ((x1 ≤ x2_1 → Q s_row_2) ∧ (¬ x1 ≤ x2_1 → ((9999 ≤ (s_row_2 (Int32.toNatClampNeg 16)) → Q s_row_2) ∧ (¬ 9999 ≤ (s_row_2 (Int32.toNatClampNeg 16)) → wp_Mo_passes 0 0 s_row_2 (fun (s_row_7 : Nat → Int32) => ∀ x2_8 : Int32, x2_8 = x2_1 + 1 → B2 x2_8 s_row_7)))))) n 0 s_row
set_option maxHeartbeats 4000000 in
set_option maxRecDepth 100000 in
theorem co_Mo_goBy (l : Launch) (D : va_G) (cy : ClassId × ClassId × ClassId × ClassId) (a_this a_row a_isKept a_refused a_text a_words a_cost a_steps a_mates a_bestMates a_comes : Nat) (s_above : Int64) (s_below : Int64) (s_length : Int32) (s_at : Int32) (s_behind : Int32) (s_readFlitches : Int32) (s_readFamilies : Int32) (s_doing : Int32) (s_row : Nat → Int32) (x1 : Int32) (Q : (Nat → Int32) → Prop) (h : wp_Mo_goBy x1 s_row Q) : CoV l yX9_goBy wsX9_goBy rm_Mo_goBy D cy [.ref a_this, .int x1] (Wd_Mo_goBy cy a_this a_row a_isKept a_refused a_text a_words a_cost a_steps a_mates a_bestMates a_comes s_above s_below s_length s_at s_behind s_readFlitches s_readFamilies s_doing s_row) (fun u : (Nat → Int32) => (Wd_Mo_goBy cy a_this a_row a_isKept a_refused a_text a_words a_cost a_steps a_mates a_bestMates a_comes s_above s_below s_length s_at s_behind s_readFlitches s_readFamilies s_doing u)) (fun (u : (Nat → Int32)) => Q u) := by
  refine st_metV (cc := cX9_goBy) (maxL := 3) RX9 (by decide) rfl rfl (Nat.le_of_ble_eq_true rfl) ?_
  intro p e s m args below meth c A QQ ls F hA hKK hP hD hS hl hret
  have hK := hKK.1
  have hnest := hKK.2.1
  have hx := F.1
  have hb := F.2.1
  have hown := F.2.2.2.1
  have hts := F.2.2.2.2
  have in_X9 : ∀ w ∈ u_ws RX9 TX9 18, w ∈ wsX9_goBy := (fun _ h => List.mem_cons_of_mem _ (List.mem_append_right _ h))
  have fl_7 := (hts (.fieldLink RX9 7 "RasherCaseModel" "row" "[I") (List.mem_of_getElem? (i := 1) rfl))
  have hl : lv_has ls 3 [(0, .ref a_this), (1, .int x1)] := hl
  unfold wp_Mo_goBy at h
  refine lv_iconst (v := 0) hx hb dX9_goBy_0 (by decide) ?_
  refine lv_istore_n (lv' := [(2, .int 0), (0, .ref a_this), (1, .int x1)]) hx hb dX9_goBy_1 rfl hl (by decide) rfl (fun ls hl => ?_)
  obtain ⟨T2_2, hz2_2, hs2_2, n2_2, h⟩ := lpw2_use h
  have kT2_2 : ∀ (n : Nat) (x2_1 : Int32) (s_row_2 : Nat → Int32) (H : Heap) (locs : List Loc) (ls : Array Slot), T2_2 n x2_1 s_row_2 → va_P D vwCl (Wd_Mo_goBy cy a_this a_row a_isKept a_refused a_text a_words a_cost a_steps a_mates a_bestMates a_comes s_above s_below s_length s_at s_behind s_readFlitches s_readFamilies s_doing s_row_2) H → va_D A (Wd_Mo_goBy cy a_this a_row a_isKept a_refused a_text a_words a_cost a_steps a_mates a_bestMates a_comes s_above s_below s_length s_at s_behind s_readFlitches s_readFamilies s_doing s_row_2) → va_S A s.heap H locs → lv_has ls 3 [(0, .ref a_this), (1, .int x1), (2, .int x2_1)] → W p l e rm_Mo_goBy s m args below meth c H locs 0 0 QQ (F0 m 2 ls []) := by
    intro n
    induction n with
    | zero => intro x2_1 s_row_2 H locs ls h; exact absurd h (hz2_2 _ _)
    | succ n ih2_2 =>
      intro x2_1 s_row_2 H locs ls h hP hD hS hl
      have h := hs2_2 _ _ _ h
      refine lv_iload_n hx hb dX9_goBy_2 rfl (lv_at hl 2 rfl) ?_
      refine lv_iload_n hx hb dX9_goBy_3 rfl (lv_at hl 1 rfl) ?_
      refine lv_icmp_ge (tgt := 32) hx hb dX9_goBy_4 (by decide) (fun c_4 => ?_) (fun c_4 => ?_)
      · have h := h.1 c_4
        exact hret (s_row_2) _ _ _ _ h hP hD hS dX9_goBy_32
      · have h := h.2 c_4
        refine lv_aload_n hx hb dX9_goBy_7 rfl (lv_at hl 0 rfl) ?_
        refine va_get (D := D) (ci := 8) (v := .ref a_row) (C := RX9) (T := TX9) (N := 18) hx hb hts in_X9 hown hK hP 0 rfl rfl 0 (by decide) fl_7 (fun _ h9 => h9) rfl dX9_goBy_8 ?_
        refine lv_bipush (v := 16) hx hb dX9_goBy_11 (by decide) ?_
        refine va_iald hx hb hK hP 1 1 rfl rfl (by unfold vp_in; decide) dX9_goBy_13 ?_
        refine lv_sipush (v := 9999) hx hb dX9_goBy_14 (by decide) ?_
        refine lv_icmp_ge (tgt := 32) hx hb dX9_goBy_17 (by decide) (fun c_5 => ?_) (fun c_5 => ?_)
        · have h := h.1 c_5
          exact hret (s_row_2) _ _ _ _ h hP hD hS dX9_goBy_32
        · have h := h.2 c_5
          refine lv_aload_n hx hb dX9_goBy_20 rfl (lv_at hl 0 rfl) ?_
          refine lv_iconst (v := 0) hx hb dX9_goBy_21 (by decide) ?_
          refine lv_iconst (v := 0) hx hb dX9_goBy_22 (by decide) ?_
          refine st_callV (WR := []) (WSn := fun u => (Wd_Mo_goBy cy a_this a_row a_isKept a_refused a_text a_words a_cost a_steps a_mates a_bestMates a_comes s_above s_below s_length s_at s_behind s_readFlitches s_readFamilies s_doing u)) (st_runV (n := 2) (As := [.int 0, .int 0]) (rest := []) (q0 := 0) F ((co_Mo_passes l D cy a_this a_row a_isKept a_refused a_text a_words a_cost a_steps a_mates a_bestMates a_comes s_above s_below s_length s_at s_behind s_readFlitches s_readFamilies s_doing s_row_2 0 0 _ h) _) rfl gX9_goBy_X9_passes rfl (by decide +kernel) rfl hKK hP hD [0, 1] rfl rfl rfl rfl rfl hl.1 rfl (Nat.le_of_ble_eq_true rfl) dX9_goBy_23) hP hD hS hA [0, 1] [] [0, 1] rfl rfl rfl (fun _ => rfl) (fun u H locs h hP hD hS => ?_)
          obtain ⟨s_row_7, rfl⟩ : ∃ z, z = u := ⟨_, rfl⟩
          have hP : va_P D vwCl (Wd_Mo_goBy cy a_this a_row a_isKept a_refused a_text a_words a_cost a_steps a_mates a_bestMates a_comes s_above s_below s_length s_at s_behind s_readFlitches s_readFamilies s_doing s_row_7) H := hP
          have hD : va_D A (Wd_Mo_goBy cy a_this a_row a_isKept a_refused a_text a_words a_cost a_steps a_mates a_bestMates a_comes s_above s_below s_length s_at s_behind s_readFlitches s_readFamilies s_doing s_row_7) := hD
          obtain ⟨x2_8, ex2_8⟩ : ∃ y : Int32, y = x2_1 + 1 := ⟨_, rfl⟩
          have h := h x2_8 ex2_8
          refine lv_iinc (v := x2_8) (lv' := [(2, .int x2_8), (0, .ref a_this), (1, .int x1)]) hx hb dX9_goBy_26 hl (k := 2) rfl (by rw [ex2_8]; rfl) (by decide) rfl (fun ls hl => ?_)
          refine lv_goto (tgt := 2) hx hb dX9_goBy_29 (by decide) ?_
          exact ih2_2 _ _ _ _ _ h hP hD hS (lv_sub hl [1, 2, 0] rfl)
  exact kT2_2 n2_2 _ _ _ _ _ h hP hD hS (lv_sub hl [1, 2, 0] rfl)
abbrev Wd_Mo_readsItem (cy : ClassId × ClassId × ClassId × ClassId) (a_this a_row a_text a_isKept a_refused a_words a_cost a_steps a_mates a_bestMates a_comes : Nat) (s_above : Int64) (s_below : Int64) (s_length : Int32) (s_at : Int32) (s_behind : Int32) (s_readFlitches : Int32) (s_readFamilies : Int32) (s_doing : Int32) (s_row : Nat → Int32) (s_text : Nat → Int32) : va_W := [(a_this, .inr (8, [.ref a_row, .ref a_isKept, .ref a_refused, .long s_above, .long s_below, .ref a_text, .int s_length, .ref a_words, .int s_at, .int s_behind, .int s_readFlitches, .int s_readFamilies, .int s_doing, .ref a_cost, .ref a_steps, .ref a_mates, .ref a_bestMates, .ref a_comes])), (a_row, .inl (cy.2.1, 770, .inl s_row)), (a_text, .inl (cy.2.1, 150, .inl s_text))]
abbrev rm_Mo_readsItem : Room := { frames := 5, cells := 0, slots := 0, locals := 114 }
def wp_Mo_readsItem (x1 : Int32) (s_length : Int32) (s_at : Int32) (s_behind : Int32) (s_readFlitches : Int32) (s_readFamilies : Int32) (s_doing : Int32) (s_row : Nat → Int32) (s_text : Nat → Int32) (Q : Int32 → Int32 → Int32 → Int32 → Int32 → (Nat → Int32) → Prop) : Prop := ((x1 = 0 → ((s_doing = 0 → Q 1 s_at s_behind s_readFlitches s_readFamilies s_row) ∧ (¬ s_doing = 0 → wp_Mo_layParish s_row (fun (s_row_4 : Nat → Int32) => Q 1 s_at s_behind s_readFlitches s_readFamilies s_row_4)))) ∧ (¬ x1 = 0 → ((x1 = 1 → wp_Mo_readsFlitch s_length s_at s_behind s_readFlitches s_doing s_row s_text (fun (r_6 : Int32) (s_at_7 : Int32) (s_behind_8 : Int32) (s_readFlitches_9 : Int32) (s_row_10 : Nat → Int32) => bz r_6 ∧ Q r_6 s_at_7 s_behind_8 s_readFlitches_9 s_readFamilies s_row_10)) ∧ (¬ x1 = 1 → ((x1 = 2 → wp_Mo_readsFamily s_length s_at s_behind s_readFamilies s_doing s_row s_text (fun (r_13 : Int32) (s_at_14 : Int32) (s_behind_15 : Int32) (s_readFamilies_16 : Int32) (s_row_17 : Nat → Int32) => bz r_13 ∧ Q r_13 s_at_14 s_behind_15 s_readFlitches s_readFamilies_16 s_row_17)) ∧ (¬ x1 = 2 → ((x1 = 3 → wp_Mo_number 0 (s_readFlitches - 1) s_length s_at s_behind s_text (fun (r_20 : Int32) (s_at_21 : Int32) (s_behind_22 : Int32) => jn1 (fun (J94 : Int32 → Prop) => jn0 (fun (J93 : Prop) => ((s_doing = 0 → J93) ∧ (¬ s_doing = 0 → ((r_20 = (-1) → J93) ∧ (¬ r_20 = (-1) → J94 (ishl 1 r_20)))))) (J94 0)) (fun (v_23 : Int32) => ∀ s_row_25 : Nat → Int32, s_row_25 = upd s_row (Int32.toNatClampNeg 15) ((s_row (Int32.toNatClampNeg 15)) ^^^ v_23) → ((r_20 = (-1) → Q 0 s_at_21 s_behind_22 s_readFlitches s_readFamilies s_row_25) ∧ (¬ r_20 = (-1) → Q 1 s_at_21 s_behind_22 s_readFlitches s_readFamilies s_row_25))))) ∧ (¬ x1 = 3 → wp_Mo_number 1 99 s_length s_at s_behind s_text (fun (r_30 : Int32) (s_at_31 : Int32) (s_behind_32 : Int32) => jn1 (fun (J132 : (Nat → Int32) → Prop) => ((s_doing = 0 → J132 s_row) ∧ (¬ s_doing = 0 → ((r_30 = (-1) → J132 s_row) ∧ (¬ r_30 = (-1) → wp_Mo_goBy r_30 s_row (fun (s_row_39 : Nat → Int32) => J132 s_row_39)))))) (fun (s_row_33 : Nat → Int32) => ((r_30 = (-1) → Q 0 s_at_31 s_behind_32 s_readFlitches s_readFamilies s_row_33) ∧ (¬ r_30 = (-1) → Q 1 s_at_31 s_behind_32 s_readFlitches s_readFamilies s_row_33))))))))))))
set_option maxHeartbeats 4000000 in
set_option maxRecDepth 100000 in
theorem co_Mo_readsItem (l : Launch) (D : va_G) (cy : ClassId × ClassId × ClassId × ClassId) (a_this a_row a_text a_isKept a_refused a_words a_cost a_steps a_mates a_bestMates a_comes : Nat) (s_above : Int64) (s_below : Int64) (s_length : Int32) (s_at : Int32) (s_behind : Int32) (s_readFlitches : Int32) (s_readFamilies : Int32) (s_doing : Int32) (s_row : Nat → Int32) (s_text : Nat → Int32) (x1 : Int32) (Q : Int32 → Int32 → Int32 → Int32 → Int32 → (Nat → Int32) → Prop) (h : wp_Mo_readsItem x1 s_length s_at s_behind s_readFlitches s_readFamilies s_doing s_row s_text Q) : CoI l yX9_readsItem wsX9_readsItem rm_Mo_readsItem D cy [.ref a_this, .int x1] (Wd_Mo_readsItem cy a_this a_row a_text a_isKept a_refused a_words a_cost a_steps a_mates a_bestMates a_comes s_above s_below s_length s_at s_behind s_readFlitches s_readFamilies s_doing s_row s_text) (fun u : Int32 × Int32 × Int32 × Int32 × (Nat → Int32) => (Wd_Mo_readsItem cy a_this a_row a_text a_isKept a_refused a_words a_cost a_steps a_mates a_bestMates a_comes s_above s_below s_length u.1 u.2.1 u.2.2.1 u.2.2.2.1 s_doing u.2.2.2.2 s_text)) (fun (r : Int32) (u : Int32 × Int32 × Int32 × Int32 × (Nat → Int32)) => Q r u.1 u.2.1 u.2.2.1 u.2.2.2.1 u.2.2.2.2) := by
  refine st_metZ (cc := cX9_readsItem) (maxL := 4) RX9 (by decide) rfl rfl (Nat.le_of_ble_eq_true rfl) ?_
  intro p e s m args below meth c A QQ ls F hA hKK hP hD hS hl hret
  have hK := hKK.1
  have hnest := hKK.2.1
  have hx := F.1
  have hb := F.2.1
  have hown := F.2.2.2.1
  have hts := F.2.2.2.2
  have in_X9 : ∀ w ∈ u_ws RX9 TX9 18, w ∈ wsX9_readsItem := (fun _ h => List.mem_cons_of_mem _ (List.mem_append_right _ h))
  have fl_7 := (hts (.fieldLink RX9 7 "RasherCaseModel" "row" "[I") (List.mem_of_getElem? (i := 3) rfl))
  have fl_87 := (hts (.fieldLink RX9 87 "RasherCaseModel" "readFlitches" "I") (List.mem_of_getElem? (i := 2) rfl))
  have fl_94 := (hts (.fieldLink RX9 94 "RasherCaseModel" "doing" "Z") (List.mem_of_getElem? (i := 1) rfl))
  have hl : lv_has ls 4 [(0, .ref a_this), (1, .int x1)] := hl
  unfold wp_Mo_readsItem at h
  refine lv_iload_n hx hb dX9_readsItem_0 rfl (lv_at hl 1 rfl) ?_
  by_cases c_1 : x1 = 0
  · have h := h.1 c_1
    refine lv_tableIn (tgt := 32) hx hb dX9_readsItem_1 (by rw [c_1]; decide) (by rw [c_1]; decide) (by rw [c_1]; rfl) (by decide) ?_
    refine lv_aload_n hx hb dX9_readsItem_32 rfl (lv_at hl 0 rfl) ?_
    refine va_get (D := D) (ci := 8) (v := .int s_doing) (C := RX9) (T := TX9) (N := 18) hx hb hts in_X9 hown hK hP 0 rfl rfl 12 (by decide) fl_94 (fun _ h9 => h9) rfl dX9_readsItem_33 ?_
    refine lv_if_eq (tgt := 43) hx hb dX9_readsItem_36 (by decide) (fun c_2 => ?_) (fun c_2 => ?_)
    · have h := h.1 c_2
      refine lv_iconst (v := 1) hx hb dX9_readsItem_43 (by decide) ?_
      exact hret _ (s_at, s_behind, s_readFlitches, s_readFamilies, s_row) _ _ _ _ bz1 h hP hD hS dX9_readsItem_44
    · have h := h.2 c_2
      refine lv_aload_n hx hb dX9_readsItem_39 rfl (lv_at hl 0 rfl) ?_
      refine st_callV (WR := [2].filterMap (fun i => (Wd_Mo_readsItem cy a_this a_row a_text a_isKept a_refused a_words a_cost a_steps a_mates a_bestMates a_comes s_above s_below s_length s_at s_behind s_readFlitches s_readFamilies s_doing s_row s_text)[i]?)) (WSn := fun u => (Wd_Mo_readsItem cy a_this a_row a_text a_isKept a_refused a_words a_cost a_steps a_mates a_bestMates a_comes s_above s_below s_length s_at s_behind s_readFlitches s_readFamilies s_doing u s_text)) (st_runV (n := 0) (As := []) (rest := []) (q0 := 0) F ((co_Mo_layParish l D cy a_this a_row a_isKept a_refused a_text a_words a_cost a_steps a_mates a_bestMates a_comes s_above s_below s_length s_at s_behind s_readFlitches s_readFamilies s_doing s_row _ h) _) rfl gX9_readsItem_X9_layParish rfl (by decide +kernel) rfl hKK hP hD [0, 1] rfl rfl rfl rfl rfl hl.1 rfl (Nat.le_of_ble_eq_true rfl) dX9_readsItem_40) hP hD hS hA [0, 1] [2] [1, 2, 0] rfl rfl rfl (fun _ => rfl) (fun u H locs h hP hD hS => ?_)
      obtain ⟨s_row_4, rfl⟩ : ∃ z, z = u := ⟨_, rfl⟩
      have hP : va_P D vwCl (Wd_Mo_readsItem cy a_this a_row a_text a_isKept a_refused a_words a_cost a_steps a_mates a_bestMates a_comes s_above s_below s_length s_at s_behind s_readFlitches s_readFamilies s_doing s_row_4 s_text) H := hP
      have hD : va_D A (Wd_Mo_readsItem cy a_this a_row a_text a_isKept a_refused a_words a_cost a_steps a_mates a_bestMates a_comes s_above s_below s_length s_at s_behind s_readFlitches s_readFamilies s_doing s_row_4 s_text) := hD
      refine lv_iconst (v := 1) hx hb dX9_readsItem_43 (by decide) ?_
      exact hret _ (s_at, s_behind, s_readFlitches, s_readFamilies, s_row_4) _ _ _ _ bz1 h hP hD hS dX9_readsItem_44
  · have h := h.2 c_1
    by_cases c_5 : x1 = 1
    · have h := h.1 c_5
      refine lv_tableIn (tgt := 45) hx hb dX9_readsItem_1 (by rw [c_5]; decide) (by rw [c_5]; decide) (by rw [c_5]; rfl) (by decide) ?_
      refine lv_aload_n hx hb dX9_readsItem_45 rfl (lv_at hl 0 rfl) ?_
      refine st_callI (WR := []) (WSn := fun u => (Wd_Mo_readsItem cy a_this a_row a_text a_isKept a_refused a_words a_cost a_steps a_mates a_bestMates a_comes s_above s_below s_length u.1 u.2.1 u.2.2.1 s_readFamilies s_doing u.2.2.2 s_text)) (st_runV (n := 0) (As := []) (rest := []) (q0 := 0) F ((co_Mo_readsFlitch l D cy a_this a_row a_text a_isKept a_refused a_words a_cost a_steps a_mates a_bestMates a_comes s_above s_below s_length s_at s_behind s_readFlitches s_readFamilies s_doing s_row s_text _ h) _) rfl gX9_readsItem_X9_readsFlitch rfl (by decide +kernel) rfl hKK hP hD [0, 1, 2] rfl rfl rfl rfl rfl hl.1 rfl (Nat.le_of_ble_eq_true rfl) dX9_readsItem_46) hP hD hS hA [0, 1, 2] [] [0, 1, 2] rfl rfl rfl (fun _ => rfl) (fun r_6 u H locs h hP hD hS => ?_)
      obtain ⟨s_at_7, s_behind_8, s_readFlitches_9, s_row_10⟩ := u
      dsimp only at h hP hD
      have hP : va_P D vwCl (Wd_Mo_readsItem cy a_this a_row a_text a_isKept a_refused a_words a_cost a_steps a_mates a_bestMates a_comes s_above s_below s_length s_at_7 s_behind_8 s_readFlitches_9 s_readFamilies s_doing s_row_10 s_text) H := hP
      have hD : va_D A (Wd_Mo_readsItem cy a_this a_row a_text a_isKept a_refused a_words a_cost a_steps a_mates a_bestMates a_comes s_above s_below s_length s_at_7 s_behind_8 s_readFlitches_9 s_readFamilies s_doing s_row_10 s_text) := hD
      obtain ⟨hz_11, h⟩ := h
      exact hret _ (s_at_7, s_behind_8, s_readFlitches_9, s_readFamilies, s_row_10) _ _ _ _ hz_11 h hP hD hS dX9_readsItem_49
    · have h := h.2 c_5
      by_cases c_12 : x1 = 2
      · have h := h.1 c_12
        refine lv_tableIn (tgt := 50) hx hb dX9_readsItem_1 (by rw [c_12]; decide) (by rw [c_12]; decide) (by rw [c_12]; rfl) (by decide) ?_
        refine lv_aload_n hx hb dX9_readsItem_50 rfl (lv_at hl 0 rfl) ?_
        refine st_callI (WR := []) (WSn := fun u => (Wd_Mo_readsItem cy a_this a_row a_text a_isKept a_refused a_words a_cost a_steps a_mates a_bestMates a_comes s_above s_below s_length u.1 u.2.1 s_readFlitches u.2.2.1 s_doing u.2.2.2 s_text)) (st_runV (n := 0) (As := []) (rest := []) (q0 := 0) F ((co_Mo_readsFamily l D cy a_this a_row a_text a_isKept a_refused a_words a_cost a_steps a_mates a_bestMates a_comes s_above s_below s_length s_at s_behind s_readFlitches s_readFamilies s_doing s_row s_text _ h) _) rfl gX9_readsItem_X9_readsFamily rfl (by decide +kernel) rfl hKK hP hD [0, 1, 2] rfl rfl rfl rfl rfl hl.1 rfl (Nat.le_of_ble_eq_true rfl) dX9_readsItem_51) hP hD hS hA [0, 1, 2] [] [0, 1, 2] rfl rfl rfl (fun _ => rfl) (fun r_13 u H locs h hP hD hS => ?_)
        obtain ⟨s_at_14, s_behind_15, s_readFamilies_16, s_row_17⟩ := u
        dsimp only at h hP hD
        have hP : va_P D vwCl (Wd_Mo_readsItem cy a_this a_row a_text a_isKept a_refused a_words a_cost a_steps a_mates a_bestMates a_comes s_above s_below s_length s_at_14 s_behind_15 s_readFlitches s_readFamilies_16 s_doing s_row_17 s_text) H := hP
        have hD : va_D A (Wd_Mo_readsItem cy a_this a_row a_text a_isKept a_refused a_words a_cost a_steps a_mates a_bestMates a_comes s_above s_below s_length s_at_14 s_behind_15 s_readFlitches s_readFamilies_16 s_doing s_row_17 s_text) := hD
        obtain ⟨hz_18, h⟩ := h
        exact hret _ (s_at_14, s_behind_15, s_readFlitches, s_readFamilies_16, s_row_17) _ _ _ _ hz_18 h hP hD hS dX9_readsItem_54
      · have h := h.2 c_12
        by_cases c_19 : x1 = 3
        · have h := h.1 c_19
          refine lv_tableIn (tgt := 55) hx hb dX9_readsItem_1 (by rw [c_19]; decide) (by rw [c_19]; decide) (by rw [c_19]; rfl) (by decide) ?_
          refine lv_aload_n hx hb dX9_readsItem_55 rfl (lv_at hl 0 rfl) ?_
          refine lv_iconst (v := 0) hx hb dX9_readsItem_56 (by decide) ?_
          refine lv_aload_n hx hb dX9_readsItem_57 rfl (lv_at hl 0 rfl) ?_
          refine va_get (D := D) (ci := 8) (v := .int s_readFlitches) (C := RX9) (T := TX9) (N := 18) hx hb hts in_X9 hown hK hP 0 rfl rfl 10 (by decide) fl_87 (fun _ h9 => h9) rfl dX9_readsItem_58 ?_
          refine lv_iconst (v := 1) hx hb dX9_readsItem_61 (by decide) ?_
          refine lv_isub hx hb dX9_readsItem_62 ?_
          refine st_callI (WR := [1].filterMap (fun i => (Wd_Mo_readsItem cy a_this a_row a_text a_isKept a_refused a_words a_cost a_steps a_mates a_bestMates a_comes s_above s_below s_length s_at s_behind s_readFlitches s_readFamilies s_doing s_row s_text)[i]?)) (WSn := fun u => (Wd_Mo_readsItem cy a_this a_row a_text a_isKept a_refused a_words a_cost a_steps a_mates a_bestMates a_comes s_above s_below s_length u.1 u.2 s_readFlitches s_readFamilies s_doing s_row s_text)) (st_runV (n := 2) (As := [.int 0, .int (s_readFlitches - 1)]) (rest := []) (q0 := 0) F ((co_Mo_number l D cy a_this a_text a_row a_isKept a_refused a_words a_cost a_steps a_mates a_bestMates a_comes s_above s_below s_length s_at s_behind s_readFlitches s_readFamilies s_doing s_text 0 (s_readFlitches - 1) _ h) _) rfl gX9_readsItem_X9_number rfl (by decide +kernel) rfl hKK hP hD [0, 2] rfl rfl rfl rfl rfl hl.1 rfl (Nat.le_of_ble_eq_true rfl) dX9_readsItem_63) hP hD hS hA [0, 2] [1] [1, 0, 2] rfl rfl rfl (fun _ => rfl) (fun r_20 u H locs h hP hD hS => ?_)
          obtain ⟨s_at_21, s_behind_22⟩ := u
          dsimp only at h hP hD
          have hP : va_P D vwCl (Wd_Mo_readsItem cy a_this a_row a_text a_isKept a_refused a_words a_cost a_steps a_mates a_bestMates a_comes s_above s_below s_length s_at_21 s_behind_22 s_readFlitches s_readFamilies s_doing s_row s_text) H := hP
          have hD : va_D A (Wd_Mo_readsItem cy a_this a_row a_text a_isKept a_refused a_words a_cost a_steps a_mates a_bestMates a_comes s_above s_below s_length s_at_21 s_behind_22 s_readFlitches s_readFamilies s_doing s_row s_text) := hD
          refine lv_istore_n (lv' := [(2, .int r_20), (0, .ref a_this), (1, .int x1)]) hx hb dX9_readsItem_66 rfl hl (by decide) rfl (fun ls hl => ?_)
          refine lv_aload_n hx hb dX9_readsItem_67 rfl (lv_at hl 1 rfl) ?_
          refine va_get (D := D) (ci := 8) (v := .ref a_row) (C := RX9) (T := TX9) (N := 18) hx hb hts in_X9 hown hK hP 0 rfl rfl 0 (by decide) fl_7 (fun _ h9 => h9) rfl dX9_readsItem_68 ?_
          refine lv_bipush (v := 15) hx hb dX9_readsItem_71 (by decide) ?_
          refine lv_dup2_11 hx hb dX9_readsItem_73 rfl rfl ?_
          refine va_iald hx hb hK hP 1 1 rfl rfl (by unfold vp_in; decide) dX9_readsItem_74 ?_
          refine lv_aload_n hx hb dX9_readsItem_75 rfl (lv_at hl 1 rfl) ?_
          refine va_get (D := D) (ci := 8) (v := .int s_doing) (C := RX9) (T := TX9) (N := 18) hx hb hts in_X9 hown hK hP 0 rfl rfl 12 (by decide) fl_94 (fun _ h9 => h9) rfl dX9_readsItem_76 ?_
          obtain ⟨J94, hJ94, h⟩ := jn1_ex h
          have kJ94_23 : ∀ (v_23 : Int32) (H : Heap) (locs : List Loc) (ls : Array Slot), J94 v_23 → va_P D vwCl (Wd_Mo_readsItem cy a_this a_row a_text a_isKept a_refused a_words a_cost a_steps a_mates a_bestMates a_comes s_above s_below s_length s_at_21 s_behind_22 s_readFlitches s_readFamilies s_doing s_row s_text) H → va_D A (Wd_Mo_readsItem cy a_this a_row a_text a_isKept a_refused a_words a_cost a_steps a_mates a_bestMates a_comes s_above s_below s_length s_at_21 s_behind_22 s_readFlitches s_readFamilies s_doing s_row s_text) → va_S A s.heap H locs → lv_has ls 4 [(2, .int r_20)] → W p l e rm_Mo_readsItem s m args below meth c H locs 0 0 QQ (F0 m 94 ls [.int v_23, .int (s_row (Int32.toNatClampNeg 15)), .int 15, .ref a_row]) := by
            intro v_23 H locs ls h hP hD hS hl
            have h := hJ94 _ h
            refine lv_ixor hx hb dX9_readsItem_94 ?_
            refine va_iast hx hb hK hP hD hS 1 1 rfl rfl (by unfold vp_in; decide) dX9_readsItem_95 (fun H locs hP hD hS => ?_)
            obtain ⟨s_row_25, es_row_25⟩ : ∃ f : Nat → Int32, f = upd s_row (Int32.toNatClampNeg 15) ((s_row (Int32.toNatClampNeg 15)) ^^^ v_23) := ⟨_, rfl⟩
            have hP : va_P D vwCl (Wd_Mo_readsItem cy a_this a_row a_text a_isKept a_refused a_words a_cost a_steps a_mates a_bestMates a_comes s_above s_below s_length s_at_21 s_behind_22 s_readFlitches s_readFamilies s_doing s_row_25 s_text) H := by rw [es_row_25]; exact hP
            have hD : va_D A (Wd_Mo_readsItem cy a_this a_row a_text a_isKept a_refused a_words a_cost a_steps a_mates a_bestMates a_comes s_above s_below s_length s_at_21 s_behind_22 s_readFlitches s_readFamilies s_doing s_row_25 s_text) := by rw [es_row_25]; exact hD
            have h := h s_row_25 es_row_25
            refine lv_iload_n hx hb dX9_readsItem_96 rfl (lv_at hl 0 rfl) ?_
            refine lv_iconst (v := (-1)) hx hb dX9_readsItem_97 (by decide) ?_
            refine lv_icmp_eq (tgt := 105) hx hb dX9_readsItem_98 (by decide) (fun c_26 => ?_) (fun c_26 => ?_)
            · have h := h.1 c_26
              refine lv_iconst (v := 0) hx hb dX9_readsItem_105 (by decide) ?_
              exact hret _ (s_at_21, s_behind_22, s_readFlitches, s_readFamilies, s_row_25) _ _ _ _ bz0 h hP hD hS dX9_readsItem_106
            · have h := h.2 c_26
              refine lv_iconst (v := 1) hx hb dX9_readsItem_101 (by decide) ?_
              refine lv_goto (tgt := 106) hx hb dX9_readsItem_102 (by decide) ?_
              exact hret _ (s_at_21, s_behind_22, s_readFlitches, s_readFamilies, s_row_25) _ _ _ _ bz1 h hP hD hS dX9_readsItem_106
          obtain ⟨J93, hJ93, h⟩ := jn0_ex h
          have kJ93_26 : ∀  (H : Heap) (locs : List Loc) (ls : Array Slot), J93 → va_P D vwCl (Wd_Mo_readsItem cy a_this a_row a_text a_isKept a_refused a_words a_cost a_steps a_mates a_bestMates a_comes s_above s_below s_length s_at_21 s_behind_22 s_readFlitches s_readFamilies s_doing s_row s_text) H → va_D A (Wd_Mo_readsItem cy a_this a_row a_text a_isKept a_refused a_words a_cost a_steps a_mates a_bestMates a_comes s_above s_below s_length s_at_21 s_behind_22 s_readFlitches s_readFamilies s_doing s_row s_text) → va_S A s.heap H locs → lv_has ls 4 [(2, .int r_20)] → W p l e rm_Mo_readsItem s m args below meth c H locs 0 0 QQ (F0 m 93 ls [.int (s_row (Int32.toNatClampNeg 15)), .int 15, .ref a_row]) := by
            intro  H locs ls h hP hD hS hl
            have h := hJ93  h
            refine lv_iconst (v := 0) hx hb dX9_readsItem_93 (by decide) ?_
            exact kJ94_23 _ _ _ _ h hP hD hS (lv_sub hl [0] rfl)
          refine lv_if_eq (tgt := 93) hx hb dX9_readsItem_79 (by decide) (fun c_28 => ?_) (fun c_28 => ?_)
          · have h := h.1 c_28
            exact kJ93_26  _ _ _ h hP hD hS (lv_sub hl [0] rfl)
          · have h := h.2 c_28
            refine lv_iload_n hx hb dX9_readsItem_82 rfl (lv_at hl 0 rfl) ?_
            refine lv_iconst (v := (-1)) hx hb dX9_readsItem_83 (by decide) ?_
            refine lv_icmp_eq (tgt := 93) hx hb dX9_readsItem_84 (by decide) (fun c_29 => ?_) (fun c_29 => ?_)
            · have h := h.1 c_29
              exact kJ93_26  _ _ _ h hP hD hS (lv_sub hl [0] rfl)
            · have h := h.2 c_29
              refine lv_iconst (v := 1) hx hb dX9_readsItem_87 (by decide) ?_
              refine lv_iload_n hx hb dX9_readsItem_88 rfl (lv_at hl 0 rfl) ?_
              refine lv_ishl hx hb dX9_readsItem_89 ?_
              refine lv_goto (tgt := 94) hx hb dX9_readsItem_90 (by decide) ?_
              exact kJ94_23 _ _ _ _ h hP hD hS (lv_sub hl [0] rfl)
        · have h := h.2 c_19
          have nc_1 := lv_neT c_1 (a := 0) (by decide)
          have nc_5 := lv_neT c_5 (a := 1) (by decide)
          have nc_12 := lv_neT c_12 (a := 2) (by decide)
          have nc_19 := lv_neT c_19 (a := 3) (by decide)
          refine lv_tableOut (tgt := 107) hx hb dX9_readsItem_1 (by omega) (by decide) ?_
          refine lv_aload_n hx hb dX9_readsItem_107 rfl (lv_at hl 0 rfl) ?_
          refine lv_iconst (v := 1) hx hb dX9_readsItem_108 (by decide) ?_
          refine lv_bipush (v := 99) hx hb dX9_readsItem_109 (by decide) ?_
          refine st_callI (WR := [1].filterMap (fun i => (Wd_Mo_readsItem cy a_this a_row a_text a_isKept a_refused a_words a_cost a_steps a_mates a_bestMates a_comes s_above s_below s_length s_at s_behind s_readFlitches s_readFamilies s_doing s_row s_text)[i]?)) (WSn := fun u => (Wd_Mo_readsItem cy a_this a_row a_text a_isKept a_refused a_words a_cost a_steps a_mates a_bestMates a_comes s_above s_below s_length u.1 u.2 s_readFlitches s_readFamilies s_doing s_row s_text)) (st_runV (n := 2) (As := [.int 1, .int 99]) (rest := []) (q0 := 0) F ((co_Mo_number l D cy a_this a_text a_row a_isKept a_refused a_words a_cost a_steps a_mates a_bestMates a_comes s_above s_below s_length s_at s_behind s_readFlitches s_readFamilies s_doing s_text 1 99 _ h) _) rfl gX9_readsItem_X9_number rfl (by decide +kernel) rfl hKK hP hD [0, 2] rfl rfl rfl rfl rfl hl.1 rfl (Nat.le_of_ble_eq_true rfl) dX9_readsItem_111) hP hD hS hA [0, 2] [1] [1, 0, 2] rfl rfl rfl (fun _ => rfl) (fun r_30 u H locs h hP hD hS => ?_)
          obtain ⟨s_at_31, s_behind_32⟩ := u
          dsimp only at h hP hD
          have hP : va_P D vwCl (Wd_Mo_readsItem cy a_this a_row a_text a_isKept a_refused a_words a_cost a_steps a_mates a_bestMates a_comes s_above s_below s_length s_at_31 s_behind_32 s_readFlitches s_readFamilies s_doing s_row s_text) H := hP
          have hD : va_D A (Wd_Mo_readsItem cy a_this a_row a_text a_isKept a_refused a_words a_cost a_steps a_mates a_bestMates a_comes s_above s_below s_length s_at_31 s_behind_32 s_readFlitches s_readFamilies s_doing s_row s_text) := hD
          refine lv_istore_n (lv' := [(3, .int r_30), (0, .ref a_this), (1, .int x1)]) hx hb dX9_readsItem_114 rfl hl (by decide) rfl (fun ls hl => ?_)
          refine lv_aload_n hx hb dX9_readsItem_115 rfl (lv_at hl 1 rfl) ?_
          refine va_get (D := D) (ci := 8) (v := .int s_doing) (C := RX9) (T := TX9) (N := 18) hx hb hts in_X9 hown hK hP 0 rfl rfl 12 (by decide) fl_94 (fun _ h9 => h9) rfl dX9_readsItem_116 ?_
          obtain ⟨J132, hJ132, h⟩ := jn1_ex h
          have kJ132_33 : ∀ (s_row_33 : Nat → Int32) (H : Heap) (locs : List Loc) (ls : Array Slot), J132 s_row_33 → va_P D vwCl (Wd_Mo_readsItem cy a_this a_row a_text a_isKept a_refused a_words a_cost a_steps a_mates a_bestMates a_comes s_above s_below s_length s_at_31 s_behind_32 s_readFlitches s_readFamilies s_doing s_row_33 s_text) H → va_D A (Wd_Mo_readsItem cy a_this a_row a_text a_isKept a_refused a_words a_cost a_steps a_mates a_bestMates a_comes s_above s_below s_length s_at_31 s_behind_32 s_readFlitches s_readFamilies s_doing s_row_33 s_text) → va_S A s.heap H locs → lv_has ls 4 [(3, .int r_30)] → W p l e rm_Mo_readsItem s m args below meth c H locs 0 0 QQ (F0 m 132 ls []) := by
            intro s_row_33 H locs ls h hP hD hS hl
            have h := hJ132 _ h
            refine lv_iload_n hx hb dX9_readsItem_132 rfl (lv_at hl 0 rfl) ?_
            refine lv_iconst (v := (-1)) hx hb dX9_readsItem_133 (by decide) ?_
            refine lv_icmp_eq (tgt := 141) hx hb dX9_readsItem_134 (by decide) (fun c_35 => ?_) (fun c_35 => ?_)
            · have h := h.1 c_35
              refine lv_iconst (v := 0) hx hb dX9_readsItem_141 (by decide) ?_
              exact hret _ (s_at_31, s_behind_32, s_readFlitches, s_readFamilies, s_row_33) _ _ _ _ bz0 h hP hD hS dX9_readsItem_142
            · have h := h.2 c_35
              refine lv_iconst (v := 1) hx hb dX9_readsItem_137 (by decide) ?_
              refine lv_goto (tgt := 142) hx hb dX9_readsItem_138 (by decide) ?_
              exact hret _ (s_at_31, s_behind_32, s_readFlitches, s_readFamilies, s_row_33) _ _ _ _ bz1 h hP hD hS dX9_readsItem_142
          refine lv_if_eq (tgt := 132) hx hb dX9_readsItem_119 (by decide) (fun c_36 => ?_) (fun c_36 => ?_)
          · have h := h.1 c_36
            exact kJ132_33 _ _ _ _ h hP hD hS (lv_sub hl [0] rfl)
          · have h := h.2 c_36
            refine lv_iload_n hx hb dX9_readsItem_122 rfl (lv_at hl 0 rfl) ?_
            refine lv_iconst (v := (-1)) hx hb dX9_readsItem_123 (by decide) ?_
            refine lv_icmp_eq (tgt := 132) hx hb dX9_readsItem_124 (by decide) (fun c_37 => ?_) (fun c_37 => ?_)
            · have h := h.1 c_37
              exact kJ132_33 _ _ _ _ h hP hD hS (lv_sub hl [0] rfl)
            · have h := h.2 c_37
              refine lv_aload_n hx hb dX9_readsItem_127 rfl (lv_at hl 1 rfl) ?_
              refine lv_iload_n hx hb dX9_readsItem_128 rfl (lv_at hl 0 rfl) ?_
              refine st_callV (WR := [2].filterMap (fun i => (Wd_Mo_readsItem cy a_this a_row a_text a_isKept a_refused a_words a_cost a_steps a_mates a_bestMates a_comes s_above s_below s_length s_at_31 s_behind_32 s_readFlitches s_readFamilies s_doing s_row s_text)[i]?)) (WSn := fun u => (Wd_Mo_readsItem cy a_this a_row a_text a_isKept a_refused a_words a_cost a_steps a_mates a_bestMates a_comes s_above s_below s_length s_at_31 s_behind_32 s_readFlitches s_readFamilies s_doing u s_text)) (st_runV (n := 1) (As := [.int r_30]) (rest := []) (q0 := 0) F ((co_Mo_goBy l D cy a_this a_row a_isKept a_refused a_text a_words a_cost a_steps a_mates a_bestMates a_comes s_above s_below s_length s_at_31 s_behind_32 s_readFlitches s_readFamilies s_doing s_row r_30 _ h) _) rfl gX9_readsItem_X9_goBy rfl (by decide +kernel) rfl hKK hP hD [0, 1] rfl rfl rfl rfl rfl hl.1 rfl (Nat.le_of_ble_eq_true rfl) dX9_readsItem_129) hP hD hS hA [0, 1] [2] [1, 2, 0] rfl rfl rfl (fun _ => rfl) (fun u H locs h hP hD hS => ?_)
              obtain ⟨s_row_39, rfl⟩ : ∃ z, z = u := ⟨_, rfl⟩
              have hP : va_P D vwCl (Wd_Mo_readsItem cy a_this a_row a_text a_isKept a_refused a_words a_cost a_steps a_mates a_bestMates a_comes s_above s_below s_length s_at_31 s_behind_32 s_readFlitches s_readFamilies s_doing s_row_39 s_text) H := hP
              have hD : va_D A (Wd_Mo_readsItem cy a_this a_row a_text a_isKept a_refused a_words a_cost a_steps a_mates a_bestMates a_comes s_above s_below s_length s_at_31 s_behind_32 s_readFlitches s_readFamilies s_doing s_row_39 s_text) := hD
              exact kJ132_33 _ _ _ _ h hP hD hS (lv_sub hl [0] rfl)
