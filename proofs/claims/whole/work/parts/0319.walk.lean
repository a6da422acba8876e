abbrev Wd_Mo_about (cy : ClassId × ClassId × ClassId × ClassId) (a_this a_refused a_row a_isKept a_text a_words a_cost a_steps a_mates a_bestMates a_comes : Nat) (s_above : Int64) (s_below : Int64) (s_length : Int32) (s_at : Int32) (s_behind : Int32) (s_readFlitches : Int32) (s_readFamilies : Int32) (s_doing : Int32) (s_refused : Nat → Int32) (s_row : Nat → Int32) : va_W := [(a_this, .inr (8, [.ref a_row, .ref a_isKept, .ref a_refused, .long s_above, .long s_below, .ref a_text, .int s_length, .ref a_words, .int s_at, .int s_behind, .int s_readFlitches, .int s_readFamilies, .int s_doing, .ref a_cost, .ref a_steps, .ref a_mates, .ref a_bestMates, .ref a_comes])), (a_refused, .inl (cy.2.1, 3, .inl s_refused)), (a_row, .inl (cy.2.1, 770, .inl s_row))]
abbrev rm_Mo_about : Room := { frames := 2, cells := 0, slots := 0, locals := 43 }
def wp_Mo_about (x1 : Int32) (x2 : Int32) (s_refused : Nat → Int32) (s_row : Nat → Int32) (Q : Int32 → (Nat → Int32) → Prop) : Prop := wp_Mo_isFlitch x1 s_row (fun (r_1 : Int32) => jn0 (fun (J26 : Prop) => ((r_1 = 0 → J26) ∧ (¬ r_1 = 0 → wp_Mo_in x2 0 3 (fun (r_6 : Int32) => ((r_6 = 0 → J26) ∧ (¬ r_6 = 0 → wp_Mo_toldAbout x1 x2 s_row (fun (r_8 : Int32) => Q r_8 s_refused))))))) (wp_Mo_refuse (-2) s_refused (fun (r_3 : Int32) (s_refused_4 : Nat → Int32) => Q r_3 s_refused_4)))
set_option maxHeartbeats 4000000 in
set_option maxRecDepth 100000 in
theorem co_Mo_about (l : Launch) (D : va_G) (cy : ClassId × ClassId × ClassId × ClassId) (a_this a_refused a_row a_isKept a_text a_words a_cost a_steps a_mates a_bestMates a_comes : Nat) (s_above : Int64) (s_below : Int64) (s_length : Int32) (s_at : Int32) (s_behind : Int32) (s_readFlitches : Int32) (s_readFamilies : Int32) (s_doing : Int32) (s_refused : Nat → Int32) (s_row : Nat → Int32) (x1 : Int32) (x2 : Int32) (Q : Int32 → (Nat → Int32) → Prop) (h : wp_Mo_about x1 x2 s_refused s_row Q) : CoI l yX9_about wsX9_about rm_Mo_about D cy [.ref a_this, .int x1, .int x2] (Wd_Mo_about cy a_this a_refused a_row a_isKept a_text a_words a_cost a_steps a_mates a_bestMates a_comes s_above s_below s_length s_at s_behind s_readFlitches s_readFamilies s_doing s_refused s_row) (fun u : (Nat → Int32) => (Wd_Mo_about cy a_this a_refused a_row a_isKept a_text a_words a_cost a_steps a_mates a_bestMates a_comes s_above s_below s_length s_at s_behind s_readFlitches s_readFamilies s_doing u s_row)) (fun (r : Int32) (u : (Nat → Int32)) => Q r u) := by
  refine st_metI (cc := cX9_about) (maxL := 3) RX9 (by decide) rfl rfl (Nat.le_of_ble_eq_true rfl) ?_
  intro p e s m args below meth c A QQ ls F hA hKK hP hD hS hl hret
  have hK := hKK.1
  have hnest := hKK.2.1
  have hx := F.1
  have hb := F.2.1
  have hown := F.2.2.2.1
  have hts := F.2.2.2.2
  have hl : lv_has ls 3 [(0, .ref a_this), (1, .int x1), (2, .int x2)] := hl
  unfold wp_Mo_about at h
  refine lv_aload_n hx hb dX9_about_0 rfl (lv_at hl 0 rfl) ?_
  refine lv_iload_n hx hb dX9_about_1 rfl (lv_at hl 1 rfl) ?_
  refine st_callRI (st_runVR (n := 1) (As := [.int x1]) (rest := []) (q0 := 0) F (co_Mo_isFlitch l D cy a_this a_row a_isKept a_refused a_text a_words a_cost a_steps a_mates a_bestMates a_comes s_above s_below s_length s_at s_behind s_readFlitches s_readFamilies s_doing s_row x1 _ h) gX9_about_X9_isFlitch rfl (by decide +kernel) rfl hKK hP [0, 2] rfl rfl rfl rfl hl.1 rfl (Nat.le_of_ble_eq_true rfl) dX9_about_2) (fun r_1 h => ?_)
  obtain ⟨J26, hJ26, h⟩ := jn0_ex h
  have kJ26_1 : ∀  (H : Heap) (locs : List Loc) (ls : Array Slot), J26 → va_P D vwCl (Wd_Mo_about cy a_this a_refused a_row a_isKept a_text a_words a_cost a_steps a_mates a_bestMates a_comes s_above s_below s_length s_at s_behind s_readFlitches s_readFamilies s_doing s_refused s_row) H → va_D A (Wd_Mo_about cy a_this a_refused a_row a_isKept a_text a_words a_cost a_steps a_mates a_bestMates a_comes s_above s_below s_length s_at s_behind s_readFlitches s_readFamilies s_doing s_refused s_row) → va_S A s.heap H locs → lv_has ls 3 [(0, .ref a_this)] → W p l e rm_Mo_about s m args below meth c H locs 0 0 QQ (F0 m 26 ls []) := by
    intro  H locs ls h hP hD hS hl
    have h := hJ26  h
    refine lv_aload_n hx hb dX9_about_26 rfl (lv_at hl 0 rfl) ?_
    refine lv_bipush (v := (-2)) hx hb dX9_about_27 (by decide) ?_
    refine st_callI (WR := [2].filterMap (fun i => (Wd_Mo_about cy a_this a_refused a_row a_isKept a_text a_words a_cost a_steps a_mates a_bestMates a_comes s_above s_below s_length s_at s_behind s_readFlitches s_readFamilies s_doing s_refused s_row)[i]?)) (WSn := fun u => (Wd_Mo_about cy a_this a_refused a_row a_isKept a_text a_words a_cost a_steps a_mates a_bestMates a_comes s_above s_below s_length s_at s_behind s_readFlitches s_readFamilies s_doing u s_row)) (st_runV (n := 1) (As := [.int (-2)]) (rest := []) (q0 := 0) F ((co_Mo_refuse l D cy a_this a_refused a_row a_isKept a_text a_words a_cost a_steps a_mates a_bestMates a_comes s_above s_below s_length s_at s_behind s_readFlitches s_readFamilies s_doing s_refused (-2) _ h) _) rfl gX9_about_X9_refuse rfl (by decide +kernel) rfl hKK hP hD [0, 1] rfl rfl rfl rfl rfl hl.1 rfl (Nat.le_of_ble_eq_true rfl) dX9_about_29) hP hD hS hA [0, 1] [2] [1, 2, 0] rfl rfl rfl (fun _ => rfl) (fun r_3 u H locs h hP hD hS => ?_)
    obtain ⟨s_refused_4, rfl⟩ : ∃ z, z = u := ⟨_, rfl⟩
    have hP : va_P D vwCl (Wd_Mo_about cy a_this a_refused a_row a_isKept a_text a_words a_cost a_steps a_mates a_bestMates a_comes s_above s_below s_length s_at s_behind s_readFlitches s_readFamilies s_doing s_refused_4 s_row) H := hP
    have hD : va_D A (Wd_Mo_about cy a_this a_refused a_row a_isKept a_text a_words a_cost a_steps a_mates a_bestMates a_comes s_above s_below s_length s_at s_behind s_readFlitches s_readFamilies s_doing s_refused_4 s_row) := hD
    exact hret _ (s_refused_4) _ _ _ _ h hP hD hS dX9_about_32
  refine lv_if_eq (tgt := 26) hx hb dX9_about_5 (by decide) (fun c_5 => ?_) (fun c_5 => ?_)
  · have h := h.1 c_5
    exact kJ26_1  _ _ _ h hP hD hS (lv_sub hl [0] rfl)
  · have h := h.2 c_5
    refine lv_iload_n hx hb dX9_about_8 rfl (lv_at hl 2 rfl) ?_
    refine lv_iconst (v := 0) hx hb dX9_about_9 (by decide) ?_
    refine lv_iconst (v := 3) hx hb dX9_about_10 (by decide) ?_
    refine st_callRI (st_runSR (n := 3) (As := [.int x2, .int 0, .int 3]) (rest := []) F (co_Mo_in l D cy x2 0 3 _ h) gX9_about_X9_in rfl (by decide +kernel) rfl hKK hP [] rfl rfl hl.1 rfl (Nat.le_of_ble_eq_true rfl) dX9_about_11) (fun r_6 h => ?_)
    refine lv_if_eq (tgt := 26) hx hb dX9_about_14 (by decide) (fun c_7 => ?_) (fun c_7 => ?_)
    · have h := h.1 c_7
      exact kJ26_1  _ _ _ h hP hD hS (lv_sub hl [0] rfl)
    · have h := h.2 c_7
      refine lv_aload_n hx hb dX9_about_17 rfl (lv_at hl 0 rfl) ?_
      refine lv_iload_n hx hb dX9_about_18 rfl (lv_at hl 1 rfl) ?_
      refine lv_iload_n hx hb dX9_about_19 rfl (lv_at hl 2 rfl) ?_
      refine st_callRI (st_runVR (n := 2) (As := [.int x1, .int x2]) (rest := []) (q0 := 0) F (co_Mo_toldAbout l D cy a_this a_row a_isKept a_refused a_text a_words a_cost a_steps a_mates a_bestMates a_comes s_above s_below s_length s_at s_behind s_readFlitches s_readFamilies s_doing s_row x1 x2 _ h) gX9_about_X9_toldAbout rfl (by decide +kernel) rfl hKK hP [0, 2] rfl rfl rfl rfl hl.1 rfl (Nat.le_of_ble_eq_true rfl) dX9_about_20) (fun r_8 h => ?_)
      refine lv_goto (tgt := 32) hx hb dX9_about_23 (by decide) ?_
      exact hret _ (s_refused) _ _ _ _ h hP hD hS dX9_about_32
abbrev Wd_Mo_smell (cy : ClassId × ClassId × ClassId × ClassId) (a_this a_refused a_row a_isKept a_text a_words a_cost a_steps a_mates a_bestMates a_comes : Nat) (s_above : Int64) (s_below : Int64) (s_length : Int32) (s_at : Int32) (s_behind : Int32) (s_readFlitches : Int32) (s_readFamilies : Int32) (s_doing : Int32) (s_refused : Nat → Int32) (s_row : Nat → Int32) : va_W := [(a_this, .inr (8, [.ref a_row, .ref a_isKept, .ref a_refused, .long s_above, .long s_below, .ref a_text, .int s_length, .ref a_words, .int s_at, .int s_behind, .int s_readFlitches, .int s_readFamilies, .int s_doing, .ref a_cost, .ref a_steps, .ref a_mates, .ref a_bestMates, .ref a_comes])), (a_refused, .inl (cy.2.1, 3, .inl s_refused)), (a_row, .inl (cy.2.1, 770, .inl s_row))]
abbrev rm_Mo_smell : Room := { frames := 3, cells := 0, slots := 0, locals := 67 }
def wp_Mo_smell (x1 : Int32) (x2 : Int32) (s_refused : Nat → Int32) (s_row : Nat → Int32) (Q : Int32 → (Nat → Int32) → Prop) : Prop := wp_Mo_in x1 0 24 (fun (r_1 : Int32) => jn0 (fun (J44 : Prop) => ((r_1 = 0 → J44) ∧ (¬ r_1 = 0 → wp_Mo_in x2 0 60 (fun (r_6 : Int32) => ((r_6 = 0 → J44) ∧ (¬ r_6 = 0 → wp_Mo_smellOf (s_row (Int32.toNatClampNeg 15)) x1 ((s_row (Int32.toNatClampNeg 16)) + x2) s_row (fun (r_8 : Int32) => Q r_8 s_refused))))))) (wp_Mo_refuse (-2) s_refused (fun (r_3 : Int32) (s_refused_4 : Nat → Int32) => Q r_3 s_refused_4)))
set_option maxHeartbeats 4000000 in
set_option maxRecDepth 100000 in
theorem co_Mo_smell (l : Launch) (D : va_G) (cy : ClassId × ClassId × ClassId × ClassId) (a_this a_refused a_row a_isKept a_text a_words a_cost a_steps a_mates a_bestMates a_comes : Nat) (s_above : Int64) (s_below : Int64) (s_length : Int32) (s_at : Int32) (s_behind : Int32) (s_readFlitches : Int32) (s_readFamilies : Int32) (s_doing : Int32) (s_refused : Nat → Int32) (s_row : Nat → Int32) (x1 : Int32) (x2 : Int32) (Q : Int32 → (Nat → Int32) → Prop) (h : wp_Mo_smell x1 x2 s_refused s_row Q) : CoI l yX9_smell wsX9_smell rm_Mo_smell D cy [.ref a_this, .int x1, .int x2] (Wd_Mo_smell cy a_this a_refused a_row a_isKept a_text a_words a_cost a_steps a_mates a_bestMates a_comes s_above s_below s_length s_at s_behind s_readFlitches s_readFamilies s_doing s_refused s_row) (fun u : (Nat → Int32) => (Wd_Mo_smell cy a_this a_refused a_row a_isKept a_text a_words a_cost a_steps a_mates a_bestMates a_comes s_above s_below s_length s_at s_behind s_readFlitches s_readFamilies s_doing u s_row)) (fun (r : Int32) (u : (Nat → Int32)) => Q r u) := by
  refine st_metI (cc := cX9_smell) (maxL := 3) RX9 (by decide) rfl rfl (Nat.le_of_ble_eq_true rfl) ?_
  intro p e s m args below meth c A QQ ls F hA hKK hP hD hS hl hret
  have hK := hKK.1
  have hnest := hKK.2.1
  have hx := F.1
  have hb := F.2.1
  have hown := F.2.2.2.1
  have hts := F.2.2.2.2
  have in_X9 : ∀ w ∈ u_ws RX9 TX9 18, w ∈ wsX9_smell := (fun _ h => List.mem_cons_of_mem _ (List.mem_append_right _ h))
  have fl_7 := (hts (.fieldLink RX9 7 "RasherCaseModel" "row" "[I") (List.mem_of_getElem? (i := 1) rfl))
  have hl : lv_has ls 3 [(0, .ref a_this), (1, .int x1), (2, .int x2)] := hl
  unfold wp_Mo_smell at h
  refine lv_iload_n hx hb dX9_smell_0 rfl (lv_at hl 1 rfl) ?_
  refine lv_iconst (v := 0) hx hb dX9_smell_1 (by decide) ?_
  refine lv_bipush (v := 24) hx hb dX9_smell_2 (by decide) ?_
  refine st_callRI (st_runSR (n := 3) (As := [.int x1, .int 0, .int 24]) (rest := []) F (co_Mo_in l D cy x1 0 24 _ h) gX9_smell_X9_in rfl (by decide +kernel) rfl hKK hP [] rfl rfl hl.1 rfl (Nat.le_of_ble_eq_true rfl) dX9_smell_4) (fun r_1 h => ?_)
  obtain ⟨J44, hJ44, h⟩ := jn0_ex h
  have kJ44_1 : ∀  (H : Heap) (locs : List Loc) (ls : Array Slot), J44 → va_P D vwCl (Wd_Mo_smell cy a_this a_refused a_row a_isKept a_text a_words a_cost a_steps a_mates a_bestMates a_comes s_above s_below s_length s_at s_behind s_readFlitches s_readFamilies s_doing s_refused s_row) H → va_D A (Wd_Mo_smell cy a_this a_refused a_row a_isKept a_text a_words a_cost a_steps a_mates a_bestMates a_comes s_above s_below s_length s_at s_behind s_readFlitches s_readFamilies s_doing s_refused s_row) → va_S A s.heap H locs → lv_has ls 3 [(0, .ref a_this)] → W p l e rm_Mo_smell s m args below meth c H locs 0 0 QQ (F0 m 44 ls []) := by
    intro  H locs ls h hP hD hS hl
    have h := hJ44  h
    refine lv_aload_n hx hb dX9_smell_44 rfl (lv_at hl 0 rfl) ?_
    refine lv_bipush (v := (-2)) hx hb dX9_smell_45 (by decide) ?_
    refine st_callI (WR := [2].filterMap (fun i => (Wd_Mo_smell cy a_this a_refused a_row a_isKept a_text a_words a_cost a_steps a_mates a_bestMates a_comes s_above s_below s_length s_at s_behind s_readFlitches s_readFamilies s_doing s_refused s_row)[i]?)) (WSn := fun u => (Wd_Mo_smell cy a_this a_refused a_row a_isKept a_text a_words a_cost a_steps a_mates a_bestMates a_comes s_above s_below s_length s_at s_behind s_readFlitches s_readFamilies s_doing u s_row)) (st_runV (n := 1) (As := [.int (-2)]) (rest := []) (q0 := 0) F ((co_Mo_refuse l D cy a_this a_refused a_row a_isKept a_text a_words a_cost a_steps a_mates a_bestMates a_comes s_above s_below s_length s_at s_behind s_readFlitches s_readFamilies s_doing s_refused (-2) _ h) _) rfl gX9_smell_X9_refuse rfl (by decide +kernel) rfl hKK hP hD [0, 1] rfl rfl rfl rfl rfl hl.1 rfl (Nat.le_of_ble_eq_true rfl) dX9_smell_47) hP hD hS hA [0, 1] [2] [1, 2, 0] rfl rfl rfl (fun _ => rfl) (fun r_3 u H locs h hP hD hS => ?_)
    obtain ⟨s_refused_4, rfl⟩ : ∃ z, z = u := ⟨_, rfl⟩
    have hP : va_P D vwCl (Wd_Mo_smell cy a_this a_refused a_row a_isKept a_text a_words a_cost a_steps a_mates a_bestMates a_comes s_above s_below s_length s_at s_behind s_readFlitches s_readFamilies s_doing s_refused_4 s_row) H := hP
    have hD : va_D A (Wd_Mo_smell cy a_this a_refused a_row a_isKept a_text a_words a_cost a_steps a_mates a_bestMates a_comes s_above s_below s_length s_at s_behind s_readFlitches s_readFamilies s_doing s_refused_4 s_row) := hD
    exact hret _ (s_refused_4) _ _ _ _ h hP hD hS dX9_smell_50
  refine lv_if_eq (tgt := 44) hx hb dX9_smell_7 (by decide) (fun c_5 => ?_) (fun c_5 => ?_)
  · have h := h.1 c_5
    exact kJ44_1  _ _ _ h hP hD hS (lv_sub hl [0] rfl)
  · have h := h.2 c_5
    refine lv_iload_n hx hb dX9_smell_10 rfl (lv_at hl 2 rfl) ?_
    refine lv_iconst (v := 0) hx hb dX9_smell_11 (by decide) ?_
    refine lv_bipush (v := 60) hx hb dX9_smell_12 (by decide) ?_
    refine st_callRI (st_runSR (n := 3) (As := [.int x2, .int 0, .int 60]) (rest := []) F (co_Mo_in l D cy x2 0 60 _ h) gX9_smell_X9_in rfl (by decide +kernel) rfl hKK hP [] rfl rfl hl.1 rfl (Nat.le_of_ble_eq_true rfl) dX9_smell_14) (fun r_6 h => ?_)
    refine lv_if_eq (tgt := 44) hx hb dX9_smell_17 (by decide) (fun c_7 => ?_) (fun c_7 => ?_)
    · have h := h.1 c_7
      exact kJ44_1  _ _ _ h hP hD hS (lv_sub hl [0] rfl)
    · have h := h.2 c_7
      refine lv_aload_n hx hb dX9_smell_20 rfl (lv_at hl 0 rfl) ?_
      refine lv_aload_n hx hb dX9_smell_21 rfl (lv_at hl 0 rfl) ?_
      refine va_get (D := D) (ci := 8) (v := .ref a_row) (C := RX9) (T := TX9) (N := 18) hx hb hts in_X9 hown hK hP 0 rfl rfl 0 (by decide) fl_7 (fun _ h9 => h9) rfl dX9_smell_22 ?_
      refine lv_bipush (v := 15) hx hb dX9_smell_25 (by decide) ?_
      refine va_iald hx hb hK hP 2 1 rfl rfl (by unfold vp_in; decide) dX9_smell_27 ?_
      refine lv_iload_n hx hb dX9_smell_28 rfl (lv_at hl 1 rfl) ?_
      refine lv_aload_n hx hb dX9_smell_29 rfl (lv_at hl 0 rfl) ?_
      refine va_get (D := D) (ci := 8) (v := .ref a_row) (C := RX9) (T := TX9) (N := 18) hx hb hts in_X9 hown hK hP 0 rfl rfl 0 (by decide) fl_7 (fun _ h9 => h9) rfl dX9_smell_30 ?_
      refine lv_bipush (v := 16) hx hb dX9_smell_33 (by decide) ?_
      refine va_iald hx hb hK hP 2 1 rfl rfl (by unfold vp_in; decide) dX9_smell_35 ?_
      refine lv_iload_n hx hb dX9_smell_36 rfl (lv_at hl 2 rfl) ?_
      refine lv_iadd hx hb dX9_smell_37 ?_
      refine st_callRI (st_runVR (n := 3) (As := [.int (s_row (Int32.toNatClampNeg 15)), .int x1, .int ((s_row (Int32.toNatClampNeg 16)) + x2)]) (rest := []) (q0 := 0) F (co_Mo_smellOf l D cy a_this a_row a_isKept a_refused a_text a_words a_cost a_steps a_mates a_bestMates a_comes s_above s_below s_length s_at s_behind s_readFlitches s_readFamilies s_doing s_row (s_row (Int32.toNatClampNeg 15)) x1 ((s_row (Int32.toNatClampNeg 16)) + x2) _ h) gX9_smell_X9_smellOf rfl (by decide +kernel) rfl hKK hP [0, 2] rfl rfl rfl rfl hl.1 rfl (Nat.le_of_ble_eq_true rfl) dX9_smell_38) (fun r_8 h => ?_)
      refine lv_goto (tgt := 50) hx hb dX9_smell_41 (by decide) ?_
      exact hret _ (s_refused) _ _ _ _ h hP hD hS dX9_smell_50
abbrev Wd_Mo_layTried (cy : ClassId × ClassId × ClassId × ClassId) (a_this a_row a_isKept a_refused a_text a_words a_cost a_steps a_mates a_bestMates a_comes : Nat) (s_above : Int64) (s_below : Int64) (s_length : Int32) (s_at : Int32) (s_behind : Int32) (s_readFlitches : Int32) (s_readFamilies : Int32) (s_doing : Int32) (s_row : Nat → Int32) : va_W := [(a_this, .inr (8, [.ref a_row, .ref a_isKept, .ref a_refused, .long s_above, .long s_below, .ref a_text, .int s_length, .ref a_words, .int s_at, .int s_behind, .int s_readFlitches, .int s_readFamilies, .int s_doing, .ref a_cost, .ref a_steps, .ref a_mates, .ref a_bestMates, .ref a_comes])), (a_row, .inl (cy.2.1, 770, .inl s_row))]
abbrev rm_Mo_layTried : Room := { frames := 0, cells := 0, slots := 0, locals := 0 }
def wp_Mo_layTried (s_row : Nat → Int32) (Q : (Nat → Int32) → Prop) : Prop := ∃ n : Nat, lpw2 (fun (B2 : Int32 → (Nat → Int32) → Prop) (x1_1 : Int32) (s_row_2 : Nat → Int32) => ((17 ≤ x1_1 → Q s_row_2) ∧ (¬ 17 ≤ x1_1 → vp_in x1_1 770 ∧ vp_in (753 + x1_1) 770 ∧ ∀ s_row_7 : Nat → Int32, s_row_7 = upd s_row_2 (Int32.toNatClampNeg (753 + x1_1)) (s_row_2 (Int32.toNatClampNeg x1_1)) → ∀ x1_8 : Int32, x1_8 = x1_1 + 1 → B2 x1_8 s_row_7))) n 0 s_row
set_option maxHeartbeats 4000000 in
set_option maxRecDepth 100000 in
theorem co_Mo_layTried (l : Launch) (D : va_G) (cy : ClassId × ClassId × ClassId × ClassId) (a_this a_row a_isKept a_refused a_text a_words a_cost a_steps a_mates a_bestMates a_comes : Nat) (s_above : Int64) (s_below : Int64) (s_length : Int32) (s_at : Int32) (s_behind : Int32) (s_readFlitches : Int32) (s_readFamilies : Int32) (s_doing : Int32) (s_row : Nat → Int32) (Q : (Nat → Int32) → Prop) (h : wp_Mo_layTried s_row Q) : CoV l yX9_layTried wsX9_layTried rm_Mo_layTried D cy [.ref a_this] (Wd_Mo_layTried cy a_this a_row a_isKept a_refused a_text a_words a_cost a_steps a_mates a_bestMates a_comes s_above s_below s_length s_at s_behind s_readFlitches s_readFamilies s_doing s_row) (fun u : (Nat → Int32) => (Wd_Mo_layTried cy a_this a_row a_isKept a_refused a_text a_words a_cost a_steps a_mates a_bestMates a_comes s_above s_below s_length s_at s_behind s_readFlitches s_readFamilies s_doing u)) (fun (u : (Nat → Int32)) => Q u) := by
  refine st_metV (cc := cX9_layTried) (maxL := 2) RX9 (by decide) rfl rfl (Nat.le_of_ble_eq_true rfl) ?_
  intro p e s m args below meth c A QQ ls F hA hKK hP hD hS hl hret
  have hK := hKK.1
  have hnest := hKK.2.1
  have hx := F.1
  have hb := F.2.1
  have hown := F.2.2.2.1
  have hts := F.2.2.2.2
  have in_X9 : ∀ w ∈ u_ws RX9 TX9 18, w ∈ wsX9_layTried := (fun _ h => List.mem_cons_of_mem _ (List.mem_append_right _ h))
  have fl_7 := (hts (.fieldLink RX9 7 "RasherCaseModel" "row" "[I") (List.mem_of_getElem? (i := 1) rfl))
  have hl : lv_has ls 2 [(0, .ref a_this)] := hl
  unfold wp_Mo_layTried at h
  refine lv_iconst (v := 0) hx hb dX9_layTried_0 (by decide) ?_
  refine lv_istore_n (lv' := [(1, .int 0), (0, .ref a_this)]) hx hb dX9_layTried_1 rfl hl (by decide) rfl (fun ls hl => ?_)
  obtain ⟨T2_2, hz2_2, hs2_2, n2_2, h⟩ := lpw2_use h
  have kT2_2 : ∀ (n : Nat) (x1_1 : Int32) (s_row_2 : Nat → Int32) (H : Heap) (locs : List Loc) (ls : Array Slot), T2_2 n x1_1 s_row_2 → va_P D vwCl (Wd_Mo_layTried cy a_this a_row a_isKept a_refused a_text a_words a_cost a_steps a_mates a_bestMates a_comes s_above s_below s_length s_at s_behind s_readFlitches s_readFamilies s_doing s_row_2) H → va_D A (Wd_Mo_layTried cy a_this a_row a_isKept a_refused a_text a_words a_cost a_steps a_mates a_bestMates a_comes s_above s_below s_length s_at s_behind s_readFlitches s_readFamilies s_doing s_row_2) → va_S A s.heap H locs → lv_has ls 2 [(0, .ref a_this), (1, .int x1_1)] → W p l e rm_Mo_layTried s m args below meth c H locs 0 0 QQ (F0 m 2 ls []) := by
    intro n
    induction n with
    | zero => intro x1_1 s_row_2 H locs ls h; exact absurd h (hz2_2 _ _)
    | succ n ih2_2 =>
      intro x1_1 s_row_2 H locs ls h hP hD hS hl
      have h := hs2_2 _ _ _ h
      refine lv_iload_n hx hb dX9_layTried_2 rfl (lv_at hl 1 rfl) ?_
      refine lv_bipush (v := 17) hx hb dX9_layTried_3 (by decide) ?_
      refine lv_icmp_ge (tgt := 30) hx hb dX9_layTried_5 (by decide) (fun c_4 => ?_) (fun c_4 => ?_)
      · have h := h.1 c_4
        exact hret (s_row_2) _ _ _ _ h hP hD hS dX9_layTried_30
      · have h := h.2 c_4
        refine lv_aload_n hx hb dX9_layTried_8 rfl (lv_at hl 0 rfl) ?_
        refine va_get (D := D) (ci := 8) (v := .ref a_row) (C := RX9) (T := TX9) (N := 18) hx hb hts in_X9 hown hK hP 0 rfl rfl 0 (by decide) fl_7 (fun _ h9 => h9) rfl dX9_layTried_9 ?_
        refine lv_sipush (v := 753) hx hb dX9_layTried_12 (by decide) ?_
        refine lv_iload_n hx hb dX9_layTried_15 rfl (lv_at hl 1 rfl) ?_
        refine lv_iadd hx hb dX9_layTried_16 ?_
        refine lv_aload_n hx hb dX9_layTried_17 rfl (lv_at hl 0 rfl) ?_
        refine va_get (D := D) (ci := 8) (v := .ref a_row) (C := RX9) (T := TX9) (N := 18) hx hb hts in_X9 hown hK hP 0 rfl rfl 0 (by decide) fl_7 (fun _ h9 => h9) rfl dX9_layTried_18 ?_
        refine lv_iload_n hx hb dX9_layTried_21 rfl (lv_at hl 1 rfl) ?_
        obtain ⟨hi_5, h⟩ := h
        refine va_iald hx hb hK hP 1 1 rfl rfl hi_5 dX9_layTried_22 ?_
        obtain ⟨hi_6, h⟩ := h
        refine va_iast hx hb hK hP hD hS 1 1 rfl rfl hi_6 dX9_layTried_23 (fun H locs hP hD hS => ?_)
        obtain ⟨s_row_7, es_row_7⟩ : ∃ f : Nat → Int32, f = upd s_row_2 (Int32.toNatClampNeg (753 + x1_1)) (s_row_2 (Int32.toNatClampNeg x1_1)) := ⟨_, rfl⟩
        have hP : va_P D vwCl (Wd_Mo_layTried cy a_this a_row a_isKept a_refused a_text a_words a_cost a_steps a_mates a_bestMates a_comes s_above s_below s_length s_at s_behind s_readFlitches s_readFamilies s_doing s_row_7) H := by rw [es_row_7]; exact hP
        have hD : va_D A (Wd_Mo_layTried cy a_this a_row a_isKept a_refused a_text a_words a_cost a_steps a_mates a_bestMates a_comes s_above s_below s_length s_at s_behind s_readFlitches s_readFamilies s_doing s_row_7) := by rw [es_row_7]; exact hD
        have h := h s_row_7 es_row_7
        obtain ⟨x1_8, ex1_8⟩ : ∃ y : Int32, y = x1_1 + 1 := ⟨_, rfl⟩
        have h := h x1_8 ex1_8
        refine lv_iinc (v := x1_8) (lv' := [(1, .int x1_8), (0, .ref a_this)]) hx hb dX9_layTried_24 hl (k := 1) rfl (by rw [ex1_8]; rfl) (by decide) rfl (fun ls hl => ?_)
        refine lv_goto (tgt := 2) hx hb dX9_layTried_27 (by decide) ?_
        exact ih2_2 _ _ _ _ _ h hP hD hS (lv_sub hl [1, 0] rfl)
  exact kT2_2 n2_2 _ _ _ _ _ h hP hD hS (lv_sub hl [1, 0] rfl)
abbrev Wd_Mo_passTried (cy : ClassId × ClassId × ClassId × ClassId) (a_this a_row a_isKept a_refused a_text a_words a_cost a_steps a_mates a_bestMates a_comes : Nat) (s_above : Int64) (s_below : Int64) (s_length : Int32) (s_at : Int32) (s_behind : Int32) (s_readFlitches : Int32) (s_readFamilies : Int32) (s_doing : Int32) (s_row : Nat → Int32) : va_W := [(a_this, .inr (8, [.ref a_row, .ref a_isKept, .ref a_refused, .long s_above, .long s_below, .ref a_text, .int s_length, .ref a_words, .int s_at, .int s_behind, .int s_readFlitches, .int s_readFamilies, .int s_doing, .ref a_cost, .ref a_steps, .ref a_mates, .ref a_bestMates, .ref a_comes])), (a_row, .inl (cy.2.1, 770, .inl s_row))]
abbrev rm_Mo_passTried : Room := { frames := 4, cells := 0, slots := 0, locals := 92 }
def wp_Mo_passTried (x1 : Int32) (s_row : Nat → Int32) (Q : (Nat → Int32) → Prop) : Prop := ∃ n : Nat, lpw2 (fun (B2 : Int32 → (Nat → Int32) → Prop) (x2_1 : Int32) (s_row_2 : Nat → Int32) => ((x1 ≤ x2_1 → Q s_row_2) ∧ (¬ x1 ≤ x2_1 → wp_Mo_passes 753 0 s_row_2 (fun (s_row_6 : Nat → Int32) => ∀ x2_7 : Int32, x2_7 = x2_1 + 1 → B2 x2_7 s_row_6)))) n 0 s_row
set_option maxHeartbeats 4000000 in
set_option maxRecDepth 100000 in
theorem co_Mo_passTried (l : Launch) (D : va_G) (cy : ClassId × ClassId × ClassId × ClassId) (a_this a_row a_isKept a_refused a_text a_words a_cost a_steps a_mates a_bestMates a_comes : Nat) (s_above : Int64) (s_below : Int64) (s_length : Int32) (s_at : Int32) (s_behind : Int32) (s_readFlitches : Int32) (s_readFamilies : Int32) (s_doing : Int32) (s_row : Nat → Int32) (x1 : Int32) (Q : (Nat → Int32) → Prop) (h : wp_Mo_passTried x1 s_row Q) : CoV l yX9_passTried wsX9_passTried rm_Mo_passTried D cy [.ref a_this, .int x1] (Wd_Mo_passTried cy a_this a_row a_isKept a_refused a_text a_words a_cost a_steps a_mates a_bestMates a_comes s_above s_below s_length s_at s_behind s_readFlitches s_readFamilies s_doing s_row) (fun u : (Nat → Int32) => (Wd_Mo_passTried cy a_this a_row a_isKept a_refused a_text a_words a_cost a_steps a_mates a_bestMates a_comes s_above s_below s_length s_at s_behind s_readFlitches s_readFamilies s_doing u)) (fun (u : (Nat → Int32)) => Q u) := by
  refine st_metV (cc := cX9_passTried) (maxL := 3) RX9 (by decide) rfl rfl (Nat.le_of_ble_eq_true rfl) ?_
  intro p e s m args below meth c A QQ ls F hA hKK hP hD hS hl hret
  have hK := hKK.1
  have hnest := hKK.2.1
  have hx := F.1
  have hb := F.2.1
  have hown := F.2.2.2.1
  have hts := F.2.2.2.2
  have hl : lv_has ls 3 [(0, .ref a_this), (1, .int x1)] := hl
  unfold wp_Mo_passTried at h
  refine lv_iconst (v := 0) hx hb dX9_passTried_0 (by decide) ?_
  refine lv_istore_n (lv' := [(2, .int 0), (0, .ref a_this), (1, .int x1)]) hx hb dX9_passTried_1 rfl hl (by decide) rfl (fun ls hl => ?_)
  obtain ⟨T2_2, hz2_2, hs2_2, n2_2, h⟩ := lpw2_use h
  have kT2_2 : ∀ (n : Nat) (x2_1 : Int32) (s_row_2 : Nat → Int32) (H : Heap) (locs : List Loc) (ls : Array Slot), T2_2 n x2_1 s_row_2 → va_P D vwCl (Wd_Mo_passTried cy a_this a_row a_isKept a_refused a_text a_words a_cost a_steps a_mates a_bestMates a_comes s_above s_below s_length s_at s_behind s_readFlitches s_readFamilies s_doing s_row_2) H → va_D A (Wd_Mo_passTried cy a_this a_row a_isKept a_refused a_text a_words a_cost a_steps a_mates a_bestMates a_comes s_above s_below s_length s_at s_behind s_readFlitches s_readFamilies s_doing s_row_2) → va_S A s.heap H locs → lv_has ls 3 [(0, .ref a_this), (1, .int x1), (2, .int x2_1)] → W p l e rm_Mo_passTried s m args below meth c H locs 0 0 QQ (F0 m 2 ls []) := by
    intro n
    induction n with
    | zero => intro x2_1 s_row_2 H locs ls h; exact absurd h (hz2_2 _ _)
    | succ n ih2_2 =>
      intro x2_1 s_row_2 H locs ls h hP hD hS hl
      have h := hs2_2 _ _ _ h
      refine lv_iload_n hx hb dX9_passTried_2 rfl (lv_at hl 2 rfl) ?_
      refine lv_iload_n hx hb dX9_passTried_3 rfl (lv_at hl 1 rfl) ?_
      refine lv_icmp_ge (tgt := 21) hx hb dX9_passTried_4 (by decide) (fun c_4 => ?_) (fun c_4 => ?_)
      · have h := h.1 c_4
        exact hret (s_row_2) _ _ _ _ h hP hD hS dX9_passTried_21
      · have h := h.2 c_4
        refine lv_aload_n hx hb dX9_passTried_7 rfl (lv_at hl 0 rfl) ?_
        refine lv_sipush (v := 753) hx hb dX9_passTried_8 (by decide) ?_
        refine lv_iconst (v := 0) hx hb dX9_passTried_11 (by decide) ?_
        refine st_callV (WR := []) (WSn := fun u => (Wd_Mo_passTried cy a_this a_row a_isKept a_refused a_text a_words a_cost a_steps a_mates a_bestMates a_comes s_above s_below s_length s_at s_behind s_readFlitches s_readFamilies s_doing u)) (st_runV (n := 2) (As := [.int 753, .int 0]) (rest := []) (q0 := 0) F ((co_Mo_passes l D cy a_this a_row a_isKept a_refused a_text a_words a_cost a_steps a_mates a_bestMates a_comes s_above s_below s_length s_at s_behind s_readFlitches s_readFamilies s_doing s_row_2 753 0 _ h) _) rfl gX9_passTried_X9_passes rfl (by decide +kernel) rfl hKK hP hD [0, 1] rfl rfl rfl rfl rfl hl.1 rfl (Nat.le_of_ble_eq_true rfl) dX9_passTried_12) hP hD hS hA [0, 1] [] [0, 1] rfl rfl rfl (fun _ => rfl) (fun u H locs h hP hD hS => ?_)
        obtain ⟨s_row_6, rfl⟩ : ∃ z, z = u := ⟨_, rfl⟩
        have hP : va_P D vwCl (Wd_Mo_passTried cy a_this a_row a_isKept a_refused a_text a_words a_cost a_steps a_mates a_bestMates a_comes s_above s_below s_length s_at s_behind s_readFlitches s_readFamilies s_doing s_row_6) H := hP
        have hD : va_D A (Wd_Mo_passTried cy a_this a_row a_isKept a_refused a_text a_words a_cost a_steps a_mates a_bestMates a_comes s_above s_below s_length s_at s_behind s_readFlitches s_readFamilies s_doing s_row_6) := hD
        obtain ⟨x2_7, ex2_7⟩ : ∃ y : Int32, y = x2_1 + 1 := ⟨_, rfl⟩
        have h := h x2_7 ex2_7
        refine lv_iinc (v := x2_7) (lv' := [(2, .int x2_7), (0, .ref a_this), (1, .int x1)]) hx hb dX9_passTried_15 hl (k := 2) rfl (by rw [ex2_7]; rfl) (by decide) rfl (fun ls hl => ?_)
        refine lv_goto (tgt := 2) hx hb dX9_passTried_18 (by decide) ?_
        exact ih2_2 _ _ _ _ _ h hP hD hS (lv_sub hl [1, 2, 0] rfl)
  exact kT2_2 n2_2 _ _ _ _ _ h hP hD hS (lv_sub hl [1, 2, 0] rfl)
abbrev Wd_Mo_then (cy : ClassId × ClassId × ClassId × ClassId) (a_this a_refused a_row a_isKept a_text a_words a_cost a_steps a_mates a_bestMates a_comes : Nat) (s_above : Int64) (s_below : Int64) (s_length : Int32) (s_at : Int32) (s_behind : Int32) (s_readFlitches : Int32) (s_readFamilies : Int32) (s_doing : Int32) (s_refused : Nat → Int32) (s_row : Nat → Int32) : va_W := [(a_this, .inr (8, [.ref a_row, .ref a_isKept, .ref a_refused, .long s_above, .long s_below, .ref a_text, .int s_length, .ref a_words, .int s_at, .int s_behind, .int s_readFlitches, .int s_readFamilies, .int s_doing, .ref a_cost, .ref a_steps, .ref a_mates, .ref a_bestMates, .ref a_comes])), (a_refused, .inl (cy.2.1, 3, .inl s_refused)), (a_row, .inl (cy.2.1, 770, .inl s_row))]
abbrev rm_Mo_then : Room := { frames := 5, cells := 0, slots := 0, locals := 114 }
def wp_Mo_then (x1 : Int32) (x2 : Int32) (s_refused : Nat → Int32) (s_row : Nat → Int32) (Q : Int32 → (Nat → Int32) → (Nat → Int32) → Prop) : Prop := wp_Mo_isFamily x1 s_row (fun (r_1 : Int32) => jn0 (fun (J18 : Prop) => ((r_1 = 0 → J18) ∧ (¬ r_1 = 0 → wp_Mo_in x2 0 60 (fun (r_6 : Int32) => ((¬ r_6 = 0 → wp_Mo_layTried s_row (fun (s_row_9 : Nat → Int32) => wp_Mo_passTried x2 s_row_9 (fun (s_row_11 : Nat → Int32) => vp_in (753 + x1) 770 ∧ Q (s_row_11 (Int32.toNatClampNeg (753 + x1))) s_refused s_row_11))) ∧ (r_6 = 0 → J18)))))) (wp_Mo_refuse (-2) s_refused (fun (r_3 : Int32) (s_refused_4 : Nat → Int32) => Q r_3 s_refused_4 s_row)))
set_option maxHeartbeats 4000000 in
set_option maxRecDepth 100000 in
theorem co_Mo_then (l : Launch) (D : va_G) (cy : ClassId × ClassId × ClassId × ClassId) (a_this a_refused a_row a_isKept a_text a_words a_cost a_steps a_mates a_bestMates a_comes : Nat) (s_above : Int64) (s_below : Int64) (s_length : Int32) (s_at : Int32) (s_behind : Int32) (s_readFlitches : Int32) (s_readFamilies : Int32) (s_doing : Int32) (s_refused : Nat → Int32) (s_row : Nat → Int32) (x1 : Int32) (x2 : Int32) (Q : Int32 → (Nat → Int32) → (Nat → Int32) → Prop) (h : wp_Mo_then x1 x2 s_refused s_row Q) : CoI l yX9_then wsX9_then rm_Mo_then D cy [.ref a_this, .int x1, .int x2] (Wd_Mo_then cy a_this a_refused a_row a_isKept a_text a_words a_cost a_steps a_mates a_bestMates a_comes s_above s_below s_length s_at s_behind s_readFlitches s_readFamilies s_doing s_refused s_row) (fun u : (Nat → Int32) × (Nat → Int32) => (Wd_Mo_then cy a_this a_refused a_row a_isKept a_text a_words a_cost a_steps a_mates a_bestMates a_comes s_above s_below s_length s_at s_behind s_readFlitches s_readFamilies s_doing u.1 u.2)) (fun (r : Int32) (u : (Nat → Int32) × (Nat → Int32)) => Q r u.1 u.2) := by
  refine st_metI (cc := cX9_then) (maxL := 3) RX9 (by decide) rfl rfl (Nat.le_of_ble_eq_true rfl) ?_
  intro p e s m args below meth c A QQ ls F hA hKK hP hD hS hl hret
  have hK := hKK.1
  have hnest := hKK.2.1
  have hx := F.1
  have hb := F.2.1
  have hown := F.2.2.2.1
  have hts := F.2.2.2.2
  have in_X9 : ∀ w ∈ u_ws RX9 TX9 18, w ∈ wsX9_then := (fun _ h => List.mem_cons_of_mem _ (List.mem_append_right _ h))
  have fl_7 := (hts (.fieldLink RX9 7 "RasherCaseModel" "row" "[I") (List.mem_of_getElem? (i := 1) rfl))
  have hl : lv_has ls 3 [(0, .ref a_this), (1, .int x1), (2, .int x2)] := hl
  unfold wp_Mo_then at h
  refine lv_aload_n hx hb dX9_then_0 rfl (lv_at hl 0 rfl) ?_
  refine lv_iload_n hx hb dX9_then_1 rfl (lv_at hl 1 rfl) ?_
  refine st_callRI (st_runVR (n := 1) (As := [.int x1]) (rest := []) (q0 := 0) F (co_Mo_isFamily l D cy a_this a_row a_isKept a_refused a_text a_words a_cost a_steps a_mates a_bestMates a_comes s_above s_below s_length s_at s_behind s_readFlitches s_readFamilies s_doing s_row x1 _ h) gX9_then_X9_isFamily rfl (by decide +kernel) rfl hKK hP [0, 2] rfl rfl rfl rfl hl.1 rfl (Nat.le_of_ble_eq_true rfl) dX9_then_2) (fun r_1 h => ?_)
  obtain ⟨J18, hJ18, h⟩ := jn0_ex h
  have kJ18_1 : ∀  (H : Heap) (locs : List Loc) (ls : Array Slot), J18 → va_P D vwCl (Wd_Mo_then cy a_this a_refused a_row a_isKept a_text a_words a_cost a_steps a_mates a_bestMates a_comes s_above s_below s_length s_at s_behind s_readFlitches s_readFamilies s_doing s_refused s_row) H → va_D A (Wd_Mo_then cy a_this a_refused a_row a_isKept a_text a_words a_cost a_steps a_mates a_bestMates a_comes s_above s_below s_length s_at s_behind s_readFlitches s_readFamilies s_doing s_refused s_row) → va_S A s.heap H locs → lv_has ls 3 [(0, .ref a_this)] → W p l e rm_Mo_then s m args below meth c H locs 0 0 QQ (F0 m 18 ls []) := by
    intro  H locs ls h hP hD hS hl
    have h := hJ18  h
    refine lv_aload_n hx hb dX9_then_18 rfl (lv_at hl 0 rfl) ?_
    refine lv_bipush (v := (-2)) hx hb dX9_then_19 (by decide) ?_
    refine st_callI (WR := [2].filterMap (fun i => (Wd_Mo_then cy a_this a_refused a_row a_isKept a_text a_words a_cost a_steps a_mates a_bestMates a_comes s_above s_below s_length s_at s_behind s_readFlitches s_readFamilies s_doing s_refused s_row)[i]?)) (WSn := fun u => (Wd_Mo_then cy a_this a_refused a_row a_isKept a_text a_words a_cost a_steps a_mates a_bestMates a_comes s_above s_below s_length s_at s_behind s_readFlitches s_readFamilies s_doing u s_row)) (st_runV (n := 1) (As := [.int (-2)]) (rest := []) (q0 := 0) F ((co_Mo_refuse l D cy a_this a_refused a_row a_isKept a_text a_words a_cost a_steps a_mates a_bestMates a_comes s_above s_below s_length s_at s_behind s_readFlitches s_readFamilies s_doing s_refused (-2) _ h) _) rfl gX9_then_X9_refuse rfl (by decide +kernel) rfl hKK hP hD [0, 1] rfl rfl rfl rfl rfl hl.1 rfl (Nat.le_of_ble_eq_true rfl) dX9_then_21) hP hD hS hA [0, 1] [2] [1, 2, 0] rfl rfl rfl (fun _ => rfl) (fun r_3 u H locs h hP hD hS => ?_)
    obtain ⟨s_refused_4, rfl⟩ : ∃ z, z = u := ⟨_, rfl⟩
    have hP : va_P D vwCl (Wd_Mo_then cy a_this a_refused a_row a_isKept a_text a_words a_cost a_steps a_mates a_bestMates a_comes s_above s_below s_length s_at s_behind s_readFlitches s_readFamilies s_doing s_refused_4 s_row) H := hP
    have hD : va_D A (Wd_Mo_then cy a_this a_refused a_row a_isKept a_text a_words a_cost a_steps a_mates a_bestMates a_comes s_above s_below s_length s_at s_behind s_readFlitches s_readFamilies s_doing s_refused_4 s_row) := hD
    exact hret _ (s_refused_4, s_row) _ _ _ _ h hP hD hS dX9_then_24
  refine lv_if_eq (tgt := 18) hx hb dX9_then_5 (by decide) (fun c_5 => ?_) (fun c_5 => ?_)
  · have h := h.1 c_5
    exact kJ18_1  _ _ _ h hP hD hS (lv_sub hl [0] rfl)
  · have h := h.2 c_5
    refine lv_iload_n hx hb dX9_then_8 rfl (lv_at hl 2 rfl) ?_
    refine lv_iconst (v := 0) hx hb dX9_then_9 (by decide) ?_
    refine lv_bipush (v := 60) hx hb dX9_then_10 (by decide) ?_
    refine st_callRI (st_runSR (n := 3) (As := [.int x2, .int 0, .int 60]) (rest := []) F (co_Mo_in l D cy x2 0 60 _ h) gX9_then_X9_in rfl (by decide +kernel) rfl hKK hP [] rfl rfl hl.1 rfl (Nat.le_of_ble_eq_true rfl) dX9_then_12) (fun r_6 h => ?_)
    refine lv_if_ne (tgt := 25) hx hb dX9_then_15 (by decide) (fun c_7 => ?_) (fun c_7 => ?_)
    · have h := h.1 c_7
      refine lv_aload_n hx hb dX9_then_25 rfl (lv_at hl 0 rfl) ?_
      refine st_callV (WR := [1].filterMap (fun i => (Wd_Mo_then cy a_this a_refused a_row a_isKept a_text a_words a_cost a_steps a_mates a_bestMates a_comes s_above s_below s_length s_at s_behind s_readFlitches s_readFamilies s_doing s_refused s_row)[i]?)) (WSn := fun u => (Wd_Mo_then cy a_this a_refused a_row a_isKept a_text a_words a_cost a_steps a_mates a_bestMates a_comes s_above s_below s_length s_at s_behind s_readFlitches s_readFamilies s_doing s_refused u)) (st_runV (n := 0) (As := []) (rest := []) (q0 := 0) F ((co_Mo_layTried l D cy a_this a_row a_isKept a_refused a_text a_words a_cost a_steps a_mates a_bestMates a_comes s_above s_below s_length s_at s_behind s_readFlitches s_readFamilies s_doing s_row _ h) _) rfl gX9_then_X9_layTried rfl (by decide +kernel) rfl hKK hP hD [0, 2] rfl rfl rfl rfl rfl hl.1 rfl (Nat.le_of_ble_eq_true rfl) dX9_then_26) hP hD hS hA [0, 2] [1] [1, 0, 2] rfl rfl rfl (fun _ => rfl) (fun u H locs h hP hD hS => ?_)
      obtain ⟨s_row_9, rfl⟩ : ∃ z, z = u := ⟨_, rfl⟩
      have hP : va_P D vwCl (Wd_Mo_then cy a_this a_refused a_row a_isKept a_text a_words a_cost a_steps a_mates a_bestMates a_comes s_above s_below s_length s_at s_behind s_readFlitches s_readFamilies s_doing s_refused s_row_9) H := hP
      have hD : va_D A (Wd_Mo_then cy a_this a_refused a_row a_isKept a_text a_words a_cost a_steps a_mates a_bestMates a_comes s_above s_below s_length s_at s_behind s_readFlitches s_readFamilies s_doing s_refused s_row_9) := hD
      refine lv_aload_n hx hb dX9_then_29 rfl (lv_at hl 0 rfl) ?_
      refine lv_iload_n hx hb dX9_then_30 rfl (lv_at hl 2 rfl) ?_
      refine st_callV (WR := [1].filterMap (fun i => (Wd_Mo_then cy a_this a_refused a_row a_isKept a_text a_words a_cost a_steps a_mates a_bestMates a_comes s_above s_below s_length s_at s_behind s_readFlitches s_readFamilies s_doing s_refused s_row_9)[i]?)) (WSn := fun u => (Wd_Mo_then cy a_this a_refused a_row a_isKept a_text a_words a_cost a_steps a_mates a_bestMates a_comes s_above s_below s_length s_at s_behind s_readFlitches s_readFamilies s_doing s_refused u)) (st_runV (n := 1) (As := [.int x2]) (rest := []) (q0 := 0) F ((co_Mo_passTried l D cy a_this a_row a_isKept a_refused a_text a_words a_cost a_steps a_mates a_bestMates a_comes s_above s_below s_length s_at s_behind s_readFlitches s_readFamilies s_doing s_row_9 x2 _ h) _) rfl gX9_then_X9_passTried rfl (by decide +kernel) rfl hKK hP hD [0, 2] rfl rfl rfl rfl rfl hl.1 rfl (Nat.le_of_ble_eq_true rfl) dX9_then_31) hP hD hS hA [0, 2] [1] [1, 0, 2] rfl rfl rfl (fun _ => rfl) (fun u H locs h hP hD hS => ?_)
      obtain ⟨s_row_11, rfl⟩ : ∃ z, z = u := ⟨_, rfl⟩
      have hP : va_P D vwCl (Wd_Mo_then cy a_this a_refused a_row a_isKept a_text a_words a_cost a_steps a_mates a_bestMates a_comes s_above s_below s_length s_at s_behind s_readFlitches s_readFamilies s_doing s_refused s_row_11) H := hP
      have hD : va_D A (Wd_Mo_then cy a_this a_refused a_row a_isKept a_text a_words a_cost a_steps a_mates a_bestMates a_comes s_above s_below s_length s_at s_behind s_readFlitches s_readFamilies s_doing s_refused s_row_11) := hD
      refine lv_aload_n hx hb dX9_then_34 rfl (lv_at hl 0 rfl) ?_
      refine va_get (D := D) (ci := 8) (v := .ref a_row) (C := RX9) (T := TX9) (N := 18) hx hb hts in_X9 hown hK hP 0 rfl rfl 0 (by decide) fl_7 (fun _ h9 => h9) rfl dX9_then_35 ?_
      refine lv_sipush (v := 753) hx hb dX9_then_38 (by decide) ?_
      refine lv_iload_n hx hb dX9_then_41 rfl (lv_at hl 1 rfl) ?_
      refine lv_iadd hx hb dX9_then_42 ?_
      obtain ⟨hi_12, h⟩ := h
      refine va_iald hx hb hK hP 2 1 rfl rfl hi_12 dX9_then_43 ?_
      exact hret _ (s_refused, s_row_11) _ _ _ _ h hP hD hS dX9_then_44
    · have h := h.2 c_7
      exact kJ18_1  _ _ _ h hP hD hS (lv_sub hl [0] rfl)
abbrev Wd_Mo_whenTried (cy : ClassId × ClassId × ClassId × ClassId) (a_this a_row a_isKept a_refused a_text a_words a_cost a_steps a_mates a_bestMates a_comes : Nat) (s_above : Int64) (s_below : Int64) (s_length : Int32) (s_at : Int32) (s_behind : Int32) (s_readFlitches : Int32) (s_readFamilies : Int32) (s_doing : Int32) (s_row : Nat → Int32) : va_W := [(a_this, .inr (8, [.ref a_row, .ref a_isKept, .ref a_refused, .long s_above, .long s_below, .ref a_text, .int s_length, .ref a_words, .int s_at, .int s_behind, .int s_readFlitches, .int s_readFamilies, .int s_doing, .ref a_cost, .ref a_steps, .ref a_mates, .ref a_bestMates, .ref a_comes])), (a_row, .inl (cy.2.1, 770, .inl s_row))]
abbrev rm_Mo_whenTried : Room := { frames := 5, cells := 0, slots := 0, locals := 114 }
def wp_Mo_whenTried (x1 : Int32) (s_row : Nat → Int32) (Q : Int32 → (Nat → Int32) → Prop) : Prop := ∃ n : Nat, lpw2 (fun (B2 : Int32 → (Nat → Int32) → Prop) (x2_1 : Int32) (s_row_2 : Nat → Int32) => ((61 ≤ x2_1 → Q 99999 s_row_2) ∧ (¬ 61 ≤ x2_1 → wp_Mo_has (s_row_2 (Int32.toNatClampNeg 760)) x1 (fun (r_5 : Int32) => ((r_5 = 0 → wp_Mo_passTried 1 s_row_2 (fun (s_row_8 : Nat → Int32) => ∀ x2_9 : Int32, x2_9 = x2_1 + 1 → B2 x2_9 s_row_8)) ∧ (¬ r_5 = 0 → Q x2_1 s_row_2)))))) n 0 s_row
set_option maxHeartbeats 4000000 in
set_option maxRecDepth 100000 in
theorem co_Mo_whenTried (l : Launch) (D : va_G) (cy : ClassId × ClassId × ClassId × ClassId) (a_this a_row a_isKept a_refused a_text a_words a_cost a_steps a_mates a_bestMates a_comes : Nat) (s_above : Int64) (s_below : Int64) (s_length : Int32) (s_at : Int32) (s_behind : Int32) (s_readFlitches : Int32) (s_readFamilies : Int32) (s_doing : Int32) (s_row : Nat → Int32) (x1 : Int32) (Q : Int32 → (Nat → Int32) → Prop) (h : wp_Mo_whenTried x1 s_row Q) : CoI l yX9_whenTried wsX9_whenTried rm_Mo_whenTried D cy [.ref a_this, .int x1] (Wd_Mo_whenTried cy a_this a_row a_isKept a_refused a_text a_words a_cost a_steps a_mates a_bestMates a_comes s_above s_below s_length s_at s_behind s_readFlitches s_readFamilies s_doing s_row) (fun u : (Nat → Int32) => (Wd_Mo_whenTried cy a_this a_row a_isKept a_refused a_text a_words a_cost a_steps a_mates a_bestMates a_comes s_above s_below s_length s_at s_behind s_readFlitches s_readFamilies s_doing u)) (fun (r : Int32) (u : (Nat → Int32)) => Q r u) := by
  refine st_metI (cc := cX9_whenTried) (maxL := 3) RX9 (by decide) rfl rfl (Nat.le_of_ble_eq_true rfl) ?_
  intro p e s m args below meth c A QQ ls F hA hKK hP hD hS hl hret
  have hK := hKK.1
  have hnest := hKK.2.1
  have hx := F.1
  have hb := F.2.1
  have hown := F.2.2.2.1
  have hts := F.2.2.2.2
  have in_X9 : ∀ w ∈ u_ws RX9 TX9 18, w ∈ wsX9_whenTried := (fun _ h => List.mem_cons_of_mem _ (List.mem_append_right _ h))
  have fl_7 := (hts (.fieldLink RX9 7 "RasherCaseModel" "row" "[I") (List.mem_of_getElem? (i := 1) rfl))
  have hl : lv_has ls 3 [(0, .ref a_this), (1, .int x1)] := hl
  unfold wp_Mo_whenTried at h
  refine lv_iconst (v := 0) hx hb dX9_whenTried_0 (by decide) ?_
  refine lv_istore_n (lv' := [(2, .int 0), (0, .ref a_this), (1, .int x1)]) hx hb dX9_whenTried_1 rfl hl (by decide) rfl (fun ls hl => ?_)
  obtain ⟨T2_2, hz2_2, hs2_2, n2_2, h⟩ := lpw2_use h
  have kT2_2 : ∀ (n : Nat) (x2_1 : Int32) (s_row_2 : Nat → Int32) (H : Heap) (locs : List Loc) (ls : Array Slot), T2_2 n x2_1 s_row_2 → va_P D vwCl (Wd_Mo_whenTried cy a_this a_row a_isKept a_refused a_text a_words a_cost a_steps a_mates a_bestMates a_comes s_above s_below s_length s_at s_behind s_readFlitches s_readFamilies s_doing s_row_2) H → va_D A (Wd_Mo_whenTried cy a_this a_row a_isKept a_refused a_text a_words a_cost a_steps a_mates a_bestMates a_comes s_above s_below s_length s_at s_behind s_readFlitches s_readFamilies s_doing s_row_2) → va_S A s.heap H locs → lv_has ls 3 [(0, .ref a_this), (1, .int x1), (2, .int x2_1)] → W p l e rm_Mo_whenTried s m args below meth c H locs 0 0 QQ (F0 m 2 ls []) := by
    intro n
    induction n with
    | zero => intro x2_1 s_row_2 H locs ls h; exact absurd h (hz2_2 _ _)
    | succ n ih2_2 =>
      intro x2_1 s_row_2 H locs ls h hP hD hS hl
      have h := hs2_2 _ _ _ h
      refine lv_iload_n hx hb dX9_whenTried_2 rfl (lv_at hl 2 rfl) ?_
      refine lv_bipush (v := 61) hx hb dX9_whenTried_3 (by decide) ?_
      refine lv_icmp_ge (tgt := 36) hx hb dX9_whenTried_5 (by decide) (fun c_4 => ?_) (fun c_4 => ?_)
      · have h := h.1 c_4
        refine lv_ldc (v := 99999) hx hb hown (hts (.constant RX9 178 (99999)) (List.mem_of_getElem? (i := 2) rfl)) dX9_whenTried_36 ?_
        exact hret _ (s_row_2) _ _ _ _ h hP hD hS dX9_whenTried_38
      · have h := h.2 c_4
        refine lv_aload_n hx hb dX9_whenTried_8 rfl (lv_at hl 0 rfl) ?_
        refine va_get (D := D) (ci := 8) (v := .ref a_row) (C := RX9) (T := TX9) (N := 18) hx hb hts in_X9 hown hK hP 0 rfl rfl 0 (by decide) fl_7 (fun _ h9 => h9) rfl dX9_whenTried_9 ?_
        refine lv_sipush (v := 760) hx hb dX9_whenTried_12 (by decide) ?_
        refine va_iald hx hb hK hP 1 1 rfl rfl (by unfold vp_in; decide) dX9_whenTried_15 ?_
        refine lv_iload_n hx hb dX9_whenTried_16 rfl (lv_at hl 1 rfl) ?_
        refine st_callRI (st_runSR (n := 2) (As := [.int (s_row_2 (Int32.toNatClampNeg 760)), .int x1]) (rest := []) F (co_Mo_has l D cy (s_row_2 (Int32.toNatClampNeg 760)) x1 _ h) gX9_whenTried_X9_has rfl (by decide +kernel) rfl hKK hP [] rfl rfl hl.1 rfl (Nat.le_of_ble_eq_true rfl) dX9_whenTried_17) (fun r_5 h => ?_)
        refine lv_if_eq (tgt := 25) hx hb dX9_whenTried_20 (by decide) (fun c_6 => ?_) (fun c_6 => ?_)
        · have h := h.1 c_6
          refine lv_aload_n hx hb dX9_whenTried_25 rfl (lv_at hl 0 rfl) ?_
          refine lv_iconst (v := 1) hx hb dX9_whenTried_26 (by decide) ?_
          refine st_callV (WR := []) (WSn := fun u => (Wd_Mo_whenTried cy a_this a_row a_isKept a_refused a_text a_words a_cost a_steps a_mates a_bestMates a_comes s_above s_below s_length s_at s_behind s_readFlitches s_readFamilies s_doing u)) (st_runV (n := 1) (As := [.int 1]) (rest := []) (q0 := 0) F ((co_Mo_passTried l D cy a_this a_row a_isKept a_refused a_text a_words a_cost a_steps a_mates a_bestMates a_comes s_above s_below s_length s_at s_behind s_readFlitches s_readFamilies s_doing s_row_2 1 _ h) _) rfl gX9_whenTried_X9_passTried rfl (by decide +kernel) rfl hKK hP hD [0, 1] rfl rfl rfl rfl rfl hl.1 rfl (Nat.le_of_ble_eq_true rfl) dX9_whenTried_27) hP hD hS hA [0, 1] [] [0, 1] rfl rfl rfl (fun _ => rfl) (fun u H locs h hP hD hS => ?_)
          obtain ⟨s_row_8, rfl⟩ : ∃ z, z = u := ⟨_, rfl⟩
          have hP : va_P D vwCl (Wd_Mo_whenTried cy a_this a_row a_isKept a_refused a_text a_words a_cost a_steps a_mates a_bestMates a_comes s_above s_below s_length s_at s_behind s_readFlitches s_readFamilies s_doing s_row_8) H := hP
          have hD : va_D A (Wd_Mo_whenTried cy a_this a_row a_isKept a_refused a_text a_words a_cost a_steps a_mates a_bestMates a_comes s_above s_below s_length s_at s_behind s_readFlitches s_readFamilies s_doing s_row_8) := hD
          obtain ⟨x2_9, ex2_9⟩ : ∃ y : Int32, y = x2_1 + 1 := ⟨_, rfl⟩
          have h := h x2_9 ex2_9
          refine lv_iinc (v := x2_9) (lv' := [(2, .int x2_9), (0, .ref a_this), (1, .int x1)]) hx hb dX9_whenTried_30 hl (k := 2) rfl (by rw [ex2_9]; rfl) (by decide) rfl (fun ls hl => ?_)
          refine lv_goto (tgt := 2) hx hb dX9_whenTried_33 (by decide) ?_
          exact ih2_2 _ _ _ _ _ h hP hD hS (lv_sub hl [1, 2, 0] rfl)
        · have h := h.2 c_6
          refine lv_iload_n hx hb dX9_whenTried_23 rfl (lv_at hl 2 rfl) ?_
          exact hret _ (s_row_2) _ _ _ _ h hP hD hS dX9_whenTried_24
  exact kT2_2 n2_2 _ _ _ _ _ h hP hD hS (lv_sub hl [1, 2, 0] rfl)
abbrev Wd_Mo_when (cy : ClassId × ClassId × ClassId × ClassId) (a_this a_refused a_row a_isKept a_text a_words a_cost a_steps a_mates a_bestMates a_comes : Nat) (s_above : Int64) (s_below : Int64) (s_length : Int32) (s_at : Int32) (s_behind : Int32) (s_readFlitches : Int32) (s_readFamilies : Int32) (s_doing : Int32) (s_refused : Nat → Int32) (s_row : Nat → Int32) : va_W := [(a_this, .inr (8, [.ref a_row, .ref a_isKept, .ref a_refused, .long s_above, .long s_below, .ref a_text, .int s_length, .ref a_words, .int s_at, .int s_behind, .int s_readFlitches, .int s_readFamilies, .int s_doing, .ref a_cost, .ref a_steps, .ref a_mates, .ref a_bestMates, .ref a_comes])), (a_refused, .inl (cy.2.1, 3, .inl s_refused)), (a_row, .inl (cy.2.1, 770, .inl s_row))]
abbrev rm_Mo_when : Room := { frames := 6, cells := 0, slots := 0, locals := 136 }
def wp_Mo_when (x1 : Int32) (s_refused : Nat → Int32) (s_row : Nat → Int32) (Q : Int32 → (Nat → Int32) → (Nat → Int32) → Prop) : Prop := wp_Mo_isFamily x1 s_row (fun (r_1 : Int32) => ((¬ r_1 = 0 → wp_Mo_layTried s_row (fun (s_row_4 : Nat → Int32) => wp_Mo_whenTried x1 s_row_4 (fun (r_5 : Int32) (s_row_6 : Nat → Int32) => ((¬ r_5 = 99999 → Q r_5 s_refused s_row_6) ∧ (r_5 = 99999 → Q (-1) s_refused s_row_6))))) ∧ (r_1 = 0 → wp_Mo_refuse (-2) s_refused (fun (r_8 : Int32) (s_refused_9 : Nat → Int32) => Q r_8 s_refused_9 s_row))))
set_option maxHeartbeats 4000000 in
set_option maxRecDepth 100000 in
theorem co_Mo_when (l : Launch) (D : va_G) (cy : ClassId × ClassId × ClassId × ClassId) (a_this a_refused a_row a_isKept a_text a_words a_cost a_steps a_mates a_bestMates a_comes : Nat) (s_above : Int64) (s_below : Int64) (s_length : Int32) (s_at : Int32) (s_behind : Int32) (s_readFlitches : Int32) (s_readFamilies : Int32) (s_doing : Int32) (s_refused : Nat → Int32) (s_row : Nat → Int32) (x1 : Int32) (Q : Int32 → (Nat → Int32) → (Nat → Int32) → Prop) (h : wp_Mo_when x1 s_refused s_row Q) : CoI l yX9_when wsX9_when rm_Mo_when D cy [.ref a_this, .int x1] (Wd_Mo_when cy a_this a_refused a_row a_isKept a_text a_words a_cost a_steps a_mates a_bestMates a_comes s_above s_below s_length s_at s_behind s_readFlitches s_readFamilies s_doing s_refused s_row) (fun u : (Nat → Int32) × (Nat → Int32) => (Wd_Mo_when cy a_this a_refused a_row a_isKept a_text a_words a_cost a_steps a_mates a_bestMates a_comes s_above s_below s_length s_at s_behind s_readFlitches s_readFamilies s_doing u.1 u.2)) (fun (r : Int32) (u : (Nat → Int32) × (Nat → Int32)) => Q r u.1 u.2) := by
  refine st_metI (cc := cX9_when) (maxL := 3) RX9 (by decide) rfl rfl (Nat.le_of_ble_eq_true rfl) ?_
  intro p e s m args below meth c A QQ ls F hA hKK hP hD hS hl hret
  have hK := hKK.1
  have hnest := hKK.2.1
  have hx := F.1
  have hb := F.2.1
  have hown := F.2.2.2.1
  have hts := F.2.2.2.2
  have hl : lv_has ls 3 [(0, .ref a_this), (1, .int x1)] := hl
  unfold wp_Mo_when at h
  refine lv_aload_n hx hb dX9_when_0 rfl (lv_at hl 0 rfl) ?_
  refine lv_iload_n hx hb dX9_when_1 rfl (lv_at hl 1 rfl) ?_
  refine st_callRI (st_runVR (n := 1) (As := [.int x1]) (rest := []) (q0 := 0) F (co_Mo_isFamily l D cy a_this a_row a_isKept a_refused a_text a_words a_cost a_steps a_mates a_bestMates a_comes s_above s_below s_length s_at s_behind s_readFlitches s_readFamilies s_doing s_row x1 _ h) gX9_when_X9_isFamily rfl (by decide +kernel) rfl hKK hP [0, 2] rfl rfl rfl rfl hl.1 rfl (Nat.le_of_ble_eq_true rfl) dX9_when_2) (fun r_1 h => ?_)
  refine lv_if_ne (tgt := 15) hx hb dX9_when_5 (by decide) (fun c_2 => ?_) (fun c_2 => ?_)
  · have h := h.1 c_2
    refine lv_aload_n hx hb dX9_when_15 rfl (lv_at hl 0 rfl) ?_
    refine st_callV (WR := [1].filterMap (fun i => (Wd_Mo_when cy a_this a_refused a_row a_isKept a_text a_words a_cost a_steps a_mates a_bestMates a_comes s_above s_below s_length s_at s_behind s_readFlitches s_readFamilies s_doing s_refused s_row)[i]?)) (WSn := fun u => (Wd_Mo_when cy a_this a_refused a_row a_isKept a_text a_words a_cost a_steps a_mates a_bestMates a_comes s_above s_below s_length s_at s_behind s_readFlitches s_readFamilies s_doing s_refused u)) (st_runV (n := 0) (As := []) (rest := []) (q0 := 0) F ((co_Mo_layTried l D cy a_this a_row a_isKept a_refused a_text a_words a_cost a_steps a_mates a_bestMates a_comes s_above s_below s_length s_at s_behind s_readFlitches s_readFamilies s_doing s_row _ h) _) rfl gX9_when_X9_layTried rfl (by decide +kernel) rfl hKK hP hD [0, 2] rfl rfl rfl rfl rfl hl.1 rfl (Nat.le_of_ble_eq_true rfl) dX9_when_16) hP hD hS hA [0, 2] [1] [1, 0, 2] rfl rfl rfl (fun _ => rfl) (fun u H locs h hP hD hS => ?_)
    obtain ⟨s_row_4, rfl⟩ : ∃ z, z = u := ⟨_, rfl⟩
    have hP : va_P D vwCl (Wd_Mo_when cy a_this a_refused a_row a_isKept a_text a_words a_cost a_steps a_mates a_bestMates a_comes s_above s_below s_length s_at s_behind s_readFlitches s_readFamilies s_doing s_refused s_row_4) H := hP
    have hD : va_D A (Wd_Mo_when cy a_this a_refused a_row a_isKept a_text a_words a_cost a_steps a_mates a_bestMates a_comes s_above s_below s_length s_at s_behind s_readFlitches s_readFamilies s_doing s_refused s_row_4) := hD
    refine lv_aload_n hx hb dX9_when_19 rfl (lv_at hl 0 rfl) ?_
    refine lv_iload_n hx hb dX9_when_20 rfl (lv_at hl 1 rfl) ?_
    refine st_callI (WR := [1].filterMap (fun i => (Wd_Mo_when cy a_this a_refused a_row a_isKept a_text a_words a_cost a_steps a_mates a_bestMates a_comes s_above s_below s_length s_at s_behind s_readFlitches s_readFamilies s_doing s_refused s_row_4)[i]?)) (WSn := fun u => (Wd_Mo_when cy a_this a_refused a_row a_isKept a_text a_words a_cost a_steps a_mates a_bestMates a_comes s_above s_below s_length s_at s_behind s_readFlitches s_readFamilies s_doing s_refused u)) (st_runV (n := 1) (As := [.int x1]) (rest := []) (q0 := 0) F ((co_Mo_whenTried l D cy a_this a_row a_isKept a_refused a_text a_words a_cost a_steps a_mates a_bestMates a_comes s_above s_below s_length s_at s_behind s_readFlitches s_readFamilies s_doing s_row_4 x1 _ h) _) rfl gX9_when_X9_whenTried rfl (by decide +kernel) rfl hKK hP hD [0, 2] rfl rfl rfl rfl rfl hl.1 rfl (Nat.le_of_ble_eq_true rfl) dX9_when_21) hP hD hS hA [0, 2] [1] [1, 0, 2] rfl rfl rfl (fun _ => rfl) (fun r_5 u H locs h hP hD hS => ?_)
    obtain ⟨s_row_6, rfl⟩ : ∃ z, z = u := ⟨_, rfl⟩
    have hP : va_P D vwCl (Wd_Mo_when cy a_this a_refused a_row a_isKept a_text a_words a_cost a_steps a_mates a_bestMates a_comes s_above s_below s_length s_at s_behind s_readFlitches s_readFamilies s_doing s_refused s_row_6) H := hP
    have hD : va_D A (Wd_Mo_when cy a_this a_refused a_row a_isKept a_text a_words a_cost a_steps a_mates a_bestMates a_comes s_above s_below s_length s_at s_behind s_readFlitches s_readFamilies s_doing s_refused s_row_6) := hD
    refine lv_istore_n (lv' := [(2, .int r_5), (0, .ref a_this), (1, .int x1)]) hx hb dX9_when_24 rfl hl (by decide) rfl (fun ls hl => ?_)
    refine lv_iload_n hx hb dX9_when_25 rfl (lv_at hl 0 rfl) ?_
    refine lv_ldc (v := 99999) hx hb hown (hts (.constant RX9 178 (99999)) (List.mem_of_getElem? (i := 1) rfl)) dX9_when_26 ?_
    refine lv_icmp_ne (tgt := 35) hx hb dX9_when_28 (by decide) (fun c_7 => ?_) (fun c_7 => ?_)
    · have h := h.1 c_7
      refine lv_iload_n hx hb dX9_when_35 rfl (lv_at hl 0 rfl) ?_
      exact hret _ (s_refused, s_row_6) _ _ _ _ h hP hD hS dX9_when_36
    · have h := h.2 c_7
      refine lv_iconst (v := (-1)) hx hb dX9_when_31 (by decide) ?_
      refine lv_goto (tgt := 36) hx hb dX9_when_32 (by decide) ?_
      exact hret _ (s_refused, s_row_6) _ _ _ _ h hP hD hS dX9_when_36
  · have h := h.2 c_2
    refine lv_aload_n hx hb dX9_when_8 rfl (lv_at hl 0 rfl) ?_
    refine lv_bipush (v := (-2)) hx hb dX9_when_9 (by decide) ?_
    refine st_callI (WR := [2].filterMap (fun i => (Wd_Mo_when cy a_this a_refused a_row a_isKept a_text a_words a_cost a_steps a_mates a_bestMates a_comes s_above s_below s_length s_at s_behind s_readFlitches s_readFamilies s_doing s_refused s_row)[i]?)) (WSn := fun u => (Wd_Mo_when cy a_this a_refused a_row a_isKept a_text a_words a_cost a_steps a_mates a_bestMates a_comes s_above s_below s_length s_at s_behind s_readFlitches s_readFamilies s_doing u s_row)) (st_runV (n := 1) (As := [.int (-2)]) (rest := []) (q0 := 0) F ((co_Mo_refuse l D cy a_this a_refused a_row a_isKept a_text a_words a_cost a_steps a_mates a_bestMates a_comes s_above s_below s_length s_at s_behind s_readFlitches s_readFamilies s_doing s_refused (-2) _ h) _) rfl gX9_when_X9_refuse rfl (by decide +kernel) rfl hKK hP hD [0, 1] rfl rfl rfl rfl rfl hl.1 rfl (Nat.le_of_ble_eq_true rfl) dX9_when_11) hP hD hS hA [0, 1] [2] [1, 2, 0] rfl rfl rfl (fun _ => rfl) (fun r_8 u H locs h hP hD hS => ?_)
    obtain ⟨s_refused_9, rfl⟩ : ∃ z, z = u := ⟨_, rfl⟩
    have hP : va_P D vwCl (Wd_Mo_when cy a_this a_refused a_row a_isKept a_text a_words a_cost a_steps a_mates a_bestMates a_comes s_above s_below s_length s_at s_behind s_readFlitches s_readFamilies s_doing s_refused_9 s_row) H := hP
    have hD : va_D A (Wd_Mo_when cy a_this a_refused a_row a_isKept a_text a_words a_cost a_steps a_mates a_bestMates a_comes s_above s_below s_length s_at s_behind s_readFlitches s_readFamilies s_doing s_refused_9 s_row) := hD
    exact hret _ (s_refused_9, s_row) _ _ _ _ h hP hD hS dX9_when_14
abbrev Wd_Mo_rightIn (cy : ClassId × ClassId × ClassId × ClassId) (a_this a_row a_isKept a_refused a_text a_words a_cost a_steps a_mates a_bestMates a_comes : Nat) (s_above : Int64) (s_below : Int64) (s_length : Int32) (s_at : Int32) (s_behind : Int32) (s_readFlitches : Int32) (s_readFamilies : Int32) (s_doing : Int32) (s_row : Nat → Int32) : va_W := [(a_this, .inr (8, [.ref a_row, .ref a_isKept, .ref a_refused, .long s_above, .long s_below, .ref a_text, .int s_length, .ref a_words, .int s_at, .int s_behind, .int s_readFlitches, .int s_readFamilies, .int s_doing, .ref a_cost, .ref a_steps, .ref a_mates, .ref a_bestMates, .ref a_comes])), (a_row, .inl (cy.2.1, 770, .inl s_row))]
abbrev rm_Mo_rightIn : Room := { frames := 1, cells := 0, slots := 0, locals := 21 }
def wp_Mo_rightIn (x1 : Int32) (s_row : Nat → Int32) (Q : Int32 → Prop) : Prop := ∃ n : Nat, lpw3 (fun (B7 : Int32 → Int32 → Int32 → Prop) (x2_1 : Int32) (x3_2 : Int32) (x4_3 : Int32) => (((s_row (Int32.toNatClampNeg 27)) ≤ x4_3 → ((¬ x2_1 = x3_2 → ((x2_1 = 0 → Q 1) ∧ (¬ x2_1 = 0 → Q 0))) ∧ (x2_1 = x3_2 → Q (-1)))) ∧ (¬ (s_row (Int32.toNatClampNeg 27)) ≤ x4_3 → vp_in (x1 + 7) 770 ∧ wp_Mo_has (s_row (Int32.toNatClampNeg (x1 + 7))) x4_3 (fun (r_9 : Int32) => jn1 (fun (J41 : Int32 → Prop) => ((¬ r_9 = 0 → J41 0) ∧ (r_9 = 0 → J41 1))) (fun (v_10 : Int32) => jn1 (fun (J70 : Int32 → Prop) => jn0 (fun (J65 : Prop) => ((¬ x2_1 = 0 → J65) ∧ (x2_1 = 0 → jn0 (fun (J69 : Prop) => ((v_10 = 0 → J69) ∧ (¬ v_10 = 0 → vp_in (35 + x4_3) 770 ∧ ((¬ (s_row (Int32.toNatClampNeg (35 + x4_3))) = 0 → J69) ∧ ((s_row (Int32.toNatClampNeg (35 + x4_3))) = 0 → J65))))) (J70 0)))) (J70 1)) (fun (v_12 : Int32) => jn1 (fun (J99 : Int32 → Prop) => jn0 (fun (J94 : Prop) => ((¬ x3_2 = 0 → J94) ∧ (x3_2 = 0 → jn0 (fun (J98 : Prop) => ((v_10 = 0 → J98) ∧ (¬ v_10 = 0 → vp_in (35 + x4_3) 770 ∧ ((¬ (s_row (Int32.toNatClampNeg (35 + x4_3))) = 1 → J98) ∧ ((s_row (Int32.toNatClampNeg (35 + x4_3))) = 1 → J94))))) (J99 0)))) (J99 1)) (fun (v_14 : Int32) => ∀ x4_16 : Int32, x4_16 = x4_3 + 1 → B7 v_12 v_14 x4_16))))))) n 0 0 0
set_option maxHeartbeats 4000000 in
set_option maxRecDepth 100000 in
theorem co_Mo_rightIn (l : Launch) (D : va_G) (cy : ClassId × ClassId × ClassId × ClassId) (a_this a_row a_isKept a_refused a_text a_words a_cost a_steps a_mates a_bestMates a_comes : Nat) (s_above : Int64) (s_below : Int64) (s_length : Int32) (s_at : Int32) (s_behind : Int32) (s_readFlitches : Int32) (s_readFamilies : Int32) (s_doing : Int32) (s_row : Nat → Int32) (x1 : Int32) (Q : Int32 → Prop) (h : wp_Mo_rightIn x1 s_row Q) : RoI l yX9_rightIn wsX9_rightIn rm_Mo_rightIn D cy [.ref a_this, .int x1] (Wd_Mo_rightIn cy a_this a_row a_isKept a_refused a_text a_words a_cost a_steps a_mates a_bestMates a_comes s_above s_below s_length s_at s_behind s_readFlitches s_readFamilies s_doing s_row) Q := by
  refine st_metRI (cc := cX9_rightIn) (maxL := 6) RX9 (by decide) rfl rfl (Nat.le_of_ble_eq_true rfl) ?_
  intro p e s m args below meth c QQ ls F hKK hP hl hret
  have hK := hKK.1
  have hnest := hKK.2.1
  have hx := F.1
  have hb := F.2.1
  have hown := F.2.2.2.1
  have hts := F.2.2.2.2
  have in_X9 : ∀ w ∈ u_ws RX9 TX9 18, w ∈ wsX9_rightIn := (fun _ h => List.mem_cons_of_mem _ (List.mem_append_right _ h))
  have fl_7 := (hts (.fieldLink RX9 7 "RasherCaseModel" "row" "[I") (List.mem_of_getElem? (i := 1) rfl))
  have hl : lv_has ls 6 [(0, .ref a_this), (1, .int x1)] := hl
  unfold wp_Mo_rightIn at h
  refine lv_iconst (v := 0) hx hb dX9_rightIn_0 (by decide) ?_
  refine lv_istore_n (lv' := [(2, .int 0), (0, .ref a_this), (1, .int x1)]) hx hb dX9_rightIn_1 rfl hl (by decide) rfl (fun ls hl => ?_)
  refine lv_iconst (v := 0) hx hb dX9_rightIn_2 (by decide) ?_
  refine lv_istore_n (lv' := [(3, .int 0), (2, .int 0), (0, .ref a_this), (1, .int x1)]) hx hb dX9_rightIn_3 rfl hl (by decide) rfl (fun ls hl => ?_)
  refine lv_iconst (v := 0) hx hb dX9_rightIn_4 (by decide) ?_
  refine lv_istore (lv' := [(4, .int 0), (3, .int 0), (2, .int 0), (0, .ref a_this), (1, .int x1)]) hx hb dX9_rightIn_5 hl (by decide) rfl (fun ls hl => ?_)
  obtain ⟨T7_3, hz7_3, hs7_3, n7_3, h⟩ := lpw3_use h
  have kT7_3 : ∀ (n : Nat) (x2_1 : Int32) (x3_2 : Int32) (x4_3 : Int32) (ls : Array Slot), T7_3 n x2_1 x3_2 x4_3 → lv_has ls 6 [(0, .ref a_this), (1, .int x1), (2, .int x2_1), (3, .int x3_2), (4, .int x4_3)] → W p l e rm_Mo_rightIn s m args below meth c s.heap [] 0 0 QQ (F0 m 7 ls []) := by
    intro n
    induction n with
    | zero => intro x2_1 x3_2 x4_3 ls h; exact absurd h (hz7_3 _ _ _)
    | succ n ih7_3 =>
      intro x2_1 x3_2 x4_3 ls h hl
      have h := hs7_3 _ _ _ _ h
      refine lv_iload hx hb dX9_rightIn_7 (lv_at hl 4 rfl) ?_
      refine lv_aload_n hx hb dX9_rightIn_9 rfl (lv_at hl 0 rfl) ?_
      refine va_get (D := D) (ci := 8) (v := .ref a_row) (C := RX9) (T := TX9) (N := 18) hx hb hts in_X9 hown hK hP 0 rfl rfl 0 (by decide) fl_7 (fun _ h9 => h9) rfl dX9_rightIn_10 ?_
      refine lv_bipush (v := 27) hx hb dX9_rightIn_13 (by decide) ?_
      refine va_iald hx hb hK hP 1 1 rfl rfl (by unfold vp_in; decide) dX9_rightIn_15 ?_
      refine lv_icmp_ge (tgt := 106) hx hb dX9_rightIn_16 (by decide) (fun c_5 => ?_) (fun c_5 => ?_)
      · have h := h.1 c_5
        refine lv_iload_n hx hb dX9_rightIn_106 rfl (lv_at hl 2 rfl) ?_
        refine lv_iload_n hx hb dX9_rightIn_107 rfl (lv_at hl 3 rfl) ?_
        refine lv_icmp_ne (tgt := 115) hx hb dX9_rightIn_108 (by decide) (fun c_6 => ?_) (fun c_6 => ?_)
        · have h := h.1 c_6
          refine lv_iload_n hx hb dX9_rightIn_115 rfl (lv_at hl 2 rfl) ?_
          refine lv_if_eq (tgt := 123) hx hb dX9_rightIn_116 (by decide) (fun c_7 => ?_) (fun c_7 => ?_)
          · have h := h.1 c_7
            refine lv_iconst (v := 1) hx hb dX9_rightIn_123 (by decide) ?_
            exact hret _ _ _ h dX9_rightIn_124
          · have h := h.2 c_7
            refine lv_iconst (v := 0) hx hb dX9_rightIn_119 (by decide) ?_
            refine lv_goto (tgt := 124) hx hb dX9_rightIn_120 (by decide) ?_
            exact hret _ _ _ h dX9_rightIn_124
        · have h := h.2 c_6
          refine lv_iconst (v := (-1)) hx hb dX9_rightIn_111 (by decide) ?_
          refine lv_goto (tgt := 124) hx hb dX9_rightIn_112 (by decide) ?_
          exact hret _ _ _ h dX9_rightIn_124
      · have h := h.2 c_5
        refine lv_aload_n hx hb dX9_rightIn_19 rfl (lv_at hl 0 rfl) ?_
        refine va_get (D := D) (ci := 8) (v := .ref a_row) (C := RX9) (T := TX9) (N := 18) hx hb hts in_X9 hown hK hP 0 rfl rfl 0 (by decide) fl_7 (fun _ h9 => h9) rfl dX9_rightIn_20 ?_
        refine lv_iload_n hx hb dX9_rightIn_23 rfl (lv_at hl 1 rfl) ?_
        refine lv_bipush (v := 7) hx hb dX9_rightIn_24 (by decide) ?_
        refine lv_iadd hx hb dX9_rightIn_26 ?_
        obtain ⟨hi_8, h⟩ := h
        refine va_iald hx hb hK hP 1 1 rfl rfl hi_8 dX9_rightIn_27 ?_
        refine lv_iload hx hb dX9_rightIn_28 (lv_at hl 4 rfl) ?_
        refine st_callRI (st_runSR (n := 2) (As := [.int (s_row (Int32.toNatClampNeg (x1 + 7))), .int x4_3]) (rest := []) F (co_Mo_has l D cy (s_row (Int32.toNatClampNeg (x1 + 7))) x4_3 _ h) gX9_rightIn_X9_has rfl (by decide +kernel) rfl hKK hP [] rfl rfl hl.1 rfl (Nat.le_of_ble_eq_true rfl) dX9_rightIn_30) (fun r_9 h => ?_)
        obtain ⟨J41, hJ41, h⟩ := jn1_ex h
        have kJ41_10 : ∀ (v_10 : Int32) (ls : Array Slot), J41 v_10 → lv_has ls 6 [(0, .ref a_this), (1, .int x1), (2, .int x2_1), (3, .int x3_2), (4, .int x4_3)] → W p l e rm_Mo_rightIn s m args below meth c s.heap [] 0 0 QQ (F0 m 41 ls [.int v_10]) := by
          intro v_10 ls h hl
          have h := hJ41 _ h
          refine lv_istore (lv' := [(5, .int v_10), (0, .ref a_this), (1, .int x1), (2, .int x2_1), (3, .int x3_2), (4, .int x4_3)]) hx hb dX9_rightIn_41 hl (by decide) rfl (fun ls hl => ?_)
          refine lv_iload_n hx hb dX9_rightIn_43 rfl (lv_at hl 3 rfl) ?_
          obtain ⟨J70, hJ70, h⟩ := jn1_ex h
          have kJ70_12 : ∀ (v_12 : Int32) (ls : Array Slot), J70 v_12 → lv_has ls 6 [(0, .ref a_this), (1, .int x1), (3, .int x3_2), (4, .int x4_3), (5, .int v_10)] → W p l e rm_Mo_rightIn s m args below meth c s.heap [] 0 0 QQ (F0 m 70 ls [.int v_12]) := by
            intro v_12 ls h hl
            have h := hJ70 _ h
            refine lv_istore_n (lv' := [(2, .int v_12), (0, .ref a_this), (1, .int x1), (3, .int x3_2), (4, .int x4_3), (5, .int v_10)]) hx hb dX9_rightIn_70 rfl hl (by decide) rfl (fun ls hl => ?_)
            refine lv_iload_n hx hb dX9_rightIn_71 rfl (lv_at hl 3 rfl) ?_
            obtain ⟨J99, hJ99, h⟩ := jn1_ex h
            have kJ99_14 : ∀ (v_14 : Int32) (ls : Array Slot), J99 v_14 → lv_has ls 6 [(0, .ref a_this), (1, .int x1), (2, .int v_12), (4, .int x4_3)] → W p l e rm_Mo_rightIn s m args below meth c s.heap [] 0 0 QQ (F0 m 99 ls [.int v_14]) := by
              intro v_14 ls h hl
              have h := hJ99 _ h
              refine lv_istore_n (lv' := [(3, .int v_14), (0, .ref a_this), (1, .int x1), (2, .int v_12), (4, .int x4_3)]) hx hb dX9_rightIn_99 rfl hl (by decide) rfl (fun ls hl => ?_)
              obtain ⟨x4_16, ex4_16⟩ : ∃ y : Int32, y = x4_3 + 1 := ⟨_, rfl⟩
              have h := h x4_16 ex4_16
              refine lv_iinc (v := x4_16) (lv' := [(4, .int x4_16), (3, .int v_14), (0, .ref a_this), (1, .int x1), (2, .int v_12)]) hx hb dX9_rightIn_100 hl (k := 4) rfl (by rw [ex4_16]; rfl) (by decide) rfl (fun ls hl => ?_)
              refine lv_goto (tgt := 7) hx hb dX9_rightIn_103 (by decide) ?_
              exact ih7_3 _ _ _ _ h (lv_sub hl [2, 3, 4, 1, 0] rfl)
            obtain ⟨J94, hJ94, h⟩ := jn0_ex h
            have kJ94_16 : ∀  (ls : Array Slot), J94 → lv_has ls 6 [(0, .ref a_this), (1, .int x1), (2, .int v_12), (4, .int x4_3)] → W p l e rm_Mo_rightIn s m args below meth c s.heap [] 0 0 QQ (F0 m 94 ls []) := by
              intro  ls h hl
              have h := hJ94  h
              refine lv_iconst (v := 1) hx hb dX9_rightIn_94 (by decide) ?_
              refine lv_goto (tgt := 99) hx hb dX9_rightIn_95 (by decide) ?_
              exact kJ99_14 _ _ h (lv_sub hl [0, 1, 2, 3] rfl)
            refine lv_if_ne (tgt := 94) hx hb dX9_rightIn_72 (by decide) (fun c_18 => ?_) (fun c_18 => ?_)
            · have h := h.1 c_18
              exact kJ94_16  _ h (lv_sub hl [1, 2, 0, 4] rfl)
            · have h := h.2 c_18
              refine lv_iload hx hb dX9_rightIn_75 (lv_at hl 5 rfl) ?_
              obtain ⟨J98, hJ98, h⟩ := jn0_ex h
              have kJ98_18 : ∀  (ls : Array Slot), J98 → lv_has ls 6 [(0, .ref a_this), (1, .int x1), (2, .int v_12), (4, .int x4_3)] → W p l e rm_Mo_rightIn s m args below meth c s.heap [] 0 0 QQ (F0 m 98 ls []) := by
                intro  ls h hl
                have h := hJ98  h
                refine lv_iconst (v := 0) hx hb dX9_rightIn_98 (by decide) ?_
                exact kJ99_14 _ _ h (lv_sub hl [0, 1, 2, 3] rfl)
              refine lv_if_eq (tgt := 98) hx hb dX9_rightIn_77 (by decide) (fun c_20 => ?_) (fun c_20 => ?_)
              · have h := h.1 c_20
                exact kJ98_18  _ h (lv_sub hl [1, 2, 0, 4] rfl)
              · have h := h.2 c_20
                refine lv_aload_n hx hb dX9_rightIn_80 rfl (lv_at hl 1 rfl) ?_
                refine va_get (D := D) (ci := 8) (v := .ref a_row) (C := RX9) (T := TX9) (N := 18) hx hb hts in_X9 hown hK hP 0 rfl rfl 0 (by decide) fl_7 (fun _ h9 => h9) rfl dX9_rightIn_81 ?_
                refine lv_bipush (v := 35) hx hb dX9_rightIn_84 (by decide) ?_
                refine lv_iload hx hb dX9_rightIn_86 (lv_at hl 4 rfl) ?_
                refine lv_iadd hx hb dX9_rightIn_88 ?_
                obtain ⟨hi_21, h⟩ := h
                refine va_iald hx hb hK hP 1 1 rfl rfl hi_21 dX9_rightIn_89 ?_
                refine lv_iconst (v := 1) hx hb dX9_rightIn_90 (by decide) ?_
                refine lv_icmp_ne (tgt := 98) hx hb dX9_rightIn_91 (by decide) (fun c_22 => ?_) (fun c_22 => ?_)
                · have h := h.1 c_22
                  exact kJ98_18  _ h (lv_sub hl [1, 2, 0, 4] rfl)
                · have h := h.2 c_22
                  exact kJ94_16  _ h (lv_sub hl [1, 2, 0, 4] rfl)
          obtain ⟨J65, hJ65, h⟩ := jn0_ex h
          have kJ65_22 : ∀  (ls : Array Slot), J65 → lv_has ls 6 [(0, .ref a_this), (1, .int x1), (3, .int x3_2), (4, .int x4_3), (5, .int v_10)] → W p l e rm_Mo_rightIn s m args below meth c s.heap [] 0 0 QQ (F0 m 65 ls []) := by
            intro  ls h hl
            have h := hJ65  h
            refine lv_iconst (v := 1) hx hb dX9_rightIn_65 (by decide) ?_
            refine lv_goto (tgt := 70) hx hb dX9_rightIn_66 (by decide) ?_
            exact kJ70_12 _ _ h (lv_sub hl [0, 1, 2, 3, 4] rfl)
          refine lv_if_ne (tgt := 65) hx hb dX9_rightIn_44 (by decide) (fun c_24 => ?_) (fun c_24 => ?_)
          · have h := h.1 c_24
            exact kJ65_22  _ h (lv_sub hl [1, 2, 4, 5, 0] rfl)
          · have h := h.2 c_24
            refine lv_iload hx hb dX9_rightIn_47 (lv_at hl 0 rfl) ?_
            obtain ⟨J69, hJ69, h⟩ := jn0_ex h
            have kJ69_24 : ∀  (ls : Array Slot), J69 → lv_has ls 6 [(0, .ref a_this), (1, .int x1), (3, .int x3_2), (4, .int x4_3), (5, .int v_10)] → W p l e rm_Mo_rightIn s m args below meth c s.heap [] 0 0 QQ (F0 m 69 ls []) := by
              intro  ls h hl
              have h := hJ69  h
              refine lv_iconst (v := 0) hx hb dX9_rightIn_69 (by decide) ?_
              exact kJ70_12 _ _ h (lv_sub hl [0, 1, 2, 3, 4] rfl)
            refine lv_if_eq (tgt := 69) hx hb dX9_rightIn_49 (by decide) (fun c_26 => ?_) (fun c_26 => ?_)
            · have h := h.1 c_26
              exact kJ69_24  _ h (lv_sub hl [1, 2, 4, 5, 0] rfl)
            · have h := h.2 c_26
              refine lv_aload_n hx hb dX9_rightIn_52 rfl (lv_at hl 1 rfl) ?_
              refine va_get (D := D) (ci := 8) (v := .ref a_row) (C := RX9) (T := TX9) (N := 18) hx hb hts in_X9 hown hK hP 0 rfl rfl 0 (by decide) fl_7 (fun _ h9 => h9) rfl dX9_rightIn_53 ?_
              refine lv_bipush (v := 35) hx hb dX9_rightIn_56 (by decide) ?_
              refine lv_iload hx hb dX9_rightIn_58 (lv_at hl 5 rfl) ?_
              refine lv_iadd hx hb dX9_rightIn_60 ?_
              obtain ⟨hi_27, h⟩ := h
              refine va_iald hx hb hK hP 1 1 rfl rfl hi_27 dX9_rightIn_61 ?_
              refine lv_if_ne (tgt := 69) hx hb dX9_rightIn_62 (by decide) (fun c_28 => ?_) (fun c_28 => ?_)
              · have h := h.1 c_28
                exact kJ69_24  _ h (lv_sub hl [1, 2, 4, 5, 0] rfl)
              · have h := h.2 c_28
                exact kJ65_22  _ h (lv_sub hl [1, 2, 4, 5, 0] rfl)
        refine lv_if_ne (tgt := 40) hx hb dX9_rightIn_33 (by decide) (fun c_29 => ?_) (fun c_29 => ?_)
        · have h := h.1 c_29
          refine lv_iconst (v := 0) hx hb dX9_rightIn_40 (by decide) ?_
          exact kJ41_10 _ _ h (lv_sub hl [0, 1, 2, 3, 4] rfl)
        · have h := h.2 c_29
          refine lv_iconst (v := 1) hx hb dX9_rightIn_36 (by decide) ?_
          refine lv_goto (tgt := 41) hx hb dX9_rightIn_37 (by decide) ?_
          exact kJ41_10 _ _ h (lv_sub hl [0, 1, 2, 3, 4] rfl)
  exact kT7_3 n7_3 _ _ _ _ h (lv_sub hl [3, 4, 2, 1, 0] rfl)
abbrev Wd_Mo_right (cy : ClassId × ClassId × ClassId × ClassId) (a_this a_row a_isKept a_refused a_text a_words a_cost a_steps a_mates a_bestMates a_comes : Nat) (s_above : Int64) (s_below : Int64) (s_length : Int32) (s_at : Int32) (s_behind : Int32) (s_readFlitches : Int32) (s_readFamilies : Int32) (s_doing : Int32) (s_row : Nat → Int32) : va_W := [(a_this, .inr (8, [.ref a_row, .ref a_isKept, .ref a_refused, .long s_above, .long s_below, .ref a_text, .int s_length, .ref a_words, .int s_at, .int s_behind, .int s_readFlitches, .int s_readFamilies, .int s_doing, .ref a_cost, .ref a_steps, .ref a_mates, .ref a_bestMates, .ref a_comes])), (a_row, .inl (cy.2.1, 770, .inl s_row))]
abbrev rm_Mo_right : Room := { frames := 2, cells := 0, slots := 0, locals := 46 }
def wp_Mo_right (s_row : Nat → Int32) (Q : Int32 → Prop) : Prop := wp_Mo_rightIn 0 s_row (fun (r_1 : Int32) => Q r_1)
set_option maxHeartbeats 4000000 in
set_option maxRecDepth 100000 in
theorem co_Mo_right (l : Launch) (D : va_G) (cy : ClassId × ClassId × ClassId × ClassId) (a_this a_row a_isKept a_refused a_text a_words a_cost a_steps a_mates a_bestMates a_comes : Nat) (s_above : Int64) (s_below : Int64) (s_length : Int32) (s_at : Int32) (s_behind : Int32) (s_readFlitches : Int32) (s_readFamilies : Int32) (s_doing : Int32) (s_row : Nat → Int32) (Q : Int32 → Prop) (h : wp_Mo_right s_row Q) : RoI l yX9_right wsX9_right rm_Mo_right D cy [.ref a_this] (Wd_Mo_right cy a_this a_row a_isKept a_refused a_text a_words a_cost a_steps a_mates a_bestMates a_comes s_above s_below s_length s_at s_behind s_readFlitches s_readFamilies s_doing s_row) Q := by
  refine st_metRI (cc := cX9_right) (maxL := 1) RX9 (by decide) rfl rfl (Nat.le_of_ble_eq_true rfl) ?_
  intro p e s m args below meth c QQ ls F hKK hP hl hret
  have hK := hKK.1
  have hnest := hKK.2.1
  have hx := F.1
  have hb := F.2.1
  have hown := F.2.2.2.1
  have hts := F.2.2.2.2
  have hl : lv_has ls 1 [(0, .ref a_this)] := hl
  unfold wp_Mo_right at h
  refine lv_aload_n hx hb dX9_right_0 rfl (lv_at hl 0 rfl) ?_
  refine lv_iconst (v := 0) hx hb dX9_right_1 (by decide) ?_
  refine st_callRI (st_runVR (n := 1) (As := [.int 0]) (rest := []) (q0 := 0) F (co_Mo_rightIn l D cy a_this a_row a_isKept a_refused a_text a_words a_cost a_steps a_mates a_bestMates a_comes s_above s_below s_length s_at s_behind s_readFlitches s_readFamilies s_doing s_row 0 _ h) gX9_right_X9_rightIn rfl (by decide +kernel) rfl hKK hP [0, 1] rfl rfl rfl rfl hl.1 rfl (Nat.le_of_ble_eq_true rfl) dX9_right_2) (fun r_1 h => ?_)
  exact hret _ _ _ h dX9_right_5
abbrev Wd_Mo_ends (cy : ClassId × ClassId × ClassId × ClassId) (a_this a_refused a_row a_isKept a_text a_words a_cost a_steps a_mates a_bestMates a_comes : Nat) (s_above : Int64) (s_below : Int64) (s_length : Int32) (s_at : Int32) (s_behind : Int32) (s_readFlitches : Int32) (s_readFamilies : Int32) (s_doing : Int32) (s_refused : Nat → Int32) (s_row : Nat → Int32) : va_W := [(a_this, .inr (8, [.ref a_row, .ref a_isKept, .ref a_refused, .long s_above, .long s_below, .ref a_text, .int s_length, .ref a_words, .int s_at, .int s_behind, .int s_readFlitches, .int s_readFamilies, .int s_doing, .ref a_cost, .ref a_steps, .ref a_mates, .ref a_bestMates, .ref a_comes])), (a_refused, .inl (cy.2.1, 3, .inl s_refused)), (a_row, .inl (cy.2.1, 770, .inl s_row))]
abbrev rm_Mo_ends : Room := { frames := 5, cells := 0, slots := 0, locals := 114 }
def wp_Mo_ends (x1 : Int32) (s_refused : Nat → Int32) (s_row : Nat → Int32) (Q : Int32 → (Nat → Int32) → (Nat → Int32) → Prop) : Prop := wp_Mo_in x1 0 1 (fun (r_1 : Int32) => ((¬ r_1 = 0 → wp_Mo_layTried s_row (fun (s_row_4 : Nat → Int32) => ∃ n : Nat, lpw2 (fun (B22 : Int32 → (Nat → Int32) → Prop) (x2_5 : Int32) (s_row_6 : Nat → Int32) => ((61 ≤ x2_5 → Q (-1) s_refused s_row_6) ∧ (¬ 61 ≤ x2_5 → wp_Mo_rightIn 753 s_row_6 (fun (r_9 : Int32) => jn0 (fun (J60 : Prop) => ((¬ r_9 = (-1) → J60) ∧ (r_9 = (-1) → wp_Mo_bits (s_row_6 (Int32.toNatClampNeg 760)) (fun (r_14 : Int32) => ((¬ r_14 = (s_row_6 (Int32.toNatClampNeg 27)) → wp_Mo_passTried 1 s_row_6 (fun (s_row_17 : Nat → Int32) => ∀ x2_18 : Int32, x2_18 = x2_5 + 1 → B22 x2_18 s_row_17)) ∧ (r_14 = (s_row_6 (Int32.toNatClampNeg 27)) → J60)))))) (((¬ x1 = 0 → wp_Mo_rightIn 753 s_row_6 (fun (r_12 : Int32) => Q r_12 s_refused s_row_6)) ∧ (x1 = 0 → Q x2_5 s_refused s_row_6))))))) n 0 s_row_4)) ∧ (r_1 = 0 → wp_Mo_refuse (-2) s_refused (fun (r_19 : Int32) (s_refused_20 : Nat → Int32) => Q r_19 s_refused_20 s_row))))
set_option maxHeartbeats 4000000 in
set_option maxRecDepth 100000 in
theorem co_Mo_ends (l : Launch) (D : va_G) (cy : ClassId × ClassId × ClassId × ClassId) (a_this a_refused a_row a_isKept a_text a_words a_cost a_steps a_mates a_bestMates a_comes : Nat) (s_above : Int64) (s_below : Int64) (s_length : Int32) (s_at : Int32) (s_behind : Int32) (s_readFlitches : Int32) (s_readFamilies : Int32) (s_doing : Int32) (s_refused : Nat → Int32) (s_row : Nat → Int32) (x1 : Int32) (Q : Int32 → (Nat → Int32) → (Nat → Int32) → Prop) (h : wp_Mo_ends x1 s_refused s_row Q) : CoI l yX9_ends wsX9_ends rm_Mo_ends D cy [.ref a_this, .int x1] (Wd_Mo_ends cy a_this a_refused a_row a_isKept a_text a_words a_cost a_steps a_mates a_bestMates a_comes s_above s_below s_length s_at s_behind s_readFlitches s_readFamilies s_doing s_refused s_row) (fun u : (Nat → Int32) × (Nat → Int32) => (Wd_Mo_ends cy a_this a_refused a_row a_isKept a_text a_words a_cost a_steps a_mates a_bestMates a_comes s_above s_below s_length s_at s_behind s_readFlitches s_readFamilies s_doing u.1 u.2)) (fun (r : Int32) (u : (Nat → Int32) × (Nat → Int32)) => Q r u.1 u.2) := by
  refine st_metI (cc := cX9_ends) (maxL := 3) RX9 (by decide) rfl rfl (Nat.le_of_ble_eq_true rfl) ?_
  intro p e s m args below meth c A QQ ls F hA hKK hP hD hS hl hret
  have hK := hKK.1
  have hnest := hKK.2.1
  have hx := F.1
  have hb := F.2.1
  have hown := F.2.2.2.1
  have hts := F.2.2.2.2
  have in_X9 : ∀ w ∈ u_ws RX9 TX9 18, w ∈ wsX9_ends := (fun _ h => List.mem_cons_of_mem _ (List.mem_append_right _ h))
  have fl_7 := (hts (.fieldLink RX9 7 "RasherCaseModel" "row" "[I") (List.mem_of_getElem? (i := 1) rfl))
  have hl : lv_has ls 3 [(0, .ref a_this), (1, .int x1)] := hl
  unfold wp_Mo_ends at h
  refine lv_iload_n hx hb dX9_ends_0 rfl (lv_at hl 1 rfl) ?_
  refine lv_iconst (v := 0) hx hb dX9_ends_1 (by decide) ?_
  refine lv_iconst (v := 1) hx hb dX9_ends_2 (by decide) ?_
  refine st_callRI (st_runSR (n := 3) (As := [.int x1, .int 0, .int 1]) (rest := []) F (co_Mo_in l D cy x1 0 1 _ h) gX9_ends_X9_in rfl (by decide +kernel) rfl hKK hP [] rfl rfl hl.1 rfl (Nat.le_of_ble_eq_true rfl) dX9_ends_3) (fun r_1 h => ?_)
  refine lv_if_ne (tgt := 16) hx hb dX9_ends_6 (by decide) (fun c_2 => ?_) (fun c_2 => ?_)
  · have h := h.1 c_2
    refine lv_aload_n hx hb dX9_ends_16 rfl (lv_at hl 0 rfl) ?_
    refine st_callV (WR := [1].filterMap (fun i => (Wd_Mo_ends cy a_this a_refused a_row a_isKept a_text a_words a_cost a_steps a_mates a_bestMates a_comes s_above s_below s_length s_at s_behind s_readFlitches s_readFamilies s_doing s_refused s_row)[i]?)) (WSn := fun u => (Wd_Mo_ends cy a_this a_refused a_row a_isKept a_text a_words a_cost a_steps a_mates a_bestMates a_comes s_above s_below s_length s_at s_behind s_readFlitches s_readFamilies s_doing s_refused u)) (st_runV (n := 0) (As := []) (rest := []) (q0 := 0) F ((co_Mo_layTried l D cy a_this a_row a_isKept a_refused a_text a_words a_cost a_steps a_mates a_bestMates a_comes s_above s_below s_length s_at s_behind s_readFlitches s_readFamilies s_doing s_row _ h) _) rfl gX9_ends_X9_layTried rfl (by decide +kernel) rfl hKK hP hD [0, 2] rfl rfl rfl rfl rfl hl.1 rfl (Nat.le_of_ble_eq_true rfl) dX9_ends_17) hP hD hS hA [0, 2] [1] [1, 0, 2] rfl rfl rfl (fun _ => rfl) (fun u H locs h hP hD hS => ?_)
    obtain ⟨s_row_4, rfl⟩ : ∃ z, z = u := ⟨_, rfl⟩
    have hP : va_P D vwCl (Wd_Mo_ends cy a_this a_refused a_row a_isKept a_text a_words a_cost a_steps a_mates a_bestMates a_comes s_above s_below s_length s_at s_behind s_readFlitches s_readFamilies s_doing s_refused s_row_4) H := hP
    have hD : va_D A (Wd_Mo_ends cy a_this a_refused a_row a_isKept a_text a_words a_cost a_steps a_mates a_bestMates a_comes s_above s_below s_length s_at s_behind s_readFlitches s_readFamilies s_doing s_refused s_row_4) := hD
    refine lv_iconst (v := 0) hx hb dX9_ends_20 (by decide) ?_
    refine lv_istore_n (lv' := [(2, .int 0), (0, .ref a_this), (1, .int x1)]) hx hb dX9_ends_21 rfl hl (by decide) rfl (fun ls hl => ?_)
    obtain ⟨T22_6, hz22_6, hs22_6, n22_6, h⟩ := lpw2_use h
    have kT22_6 : ∀ (n : Nat) (x2_5 : Int32) (s_row_6 : Nat → Int32) (H : Heap) (locs : List Loc) (ls : Array Slot), T22_6 n x2_5 s_row_6 → va_P D vwCl (Wd_Mo_ends cy a_this a_refused a_row a_isKept a_text a_words a_cost a_steps a_mates a_bestMates a_comes s_above s_below s_length s_at s_behind s_readFlitches s_readFamilies s_doing s_refused s_row_6) H → va_D A (Wd_Mo_ends cy a_this a_refused a_row a_isKept a_text a_words a_cost a_steps a_mates a_bestMates a_comes s_above s_below s_length s_at s_behind s_readFlitches s_readFamilies s_doing s_refused s_row_6) → va_S A s.heap H locs → lv_has ls 3 [(0, .ref a_this), (1, .int x1), (2, .int x2_5)] → W p l e rm_Mo_ends s m args below meth c H locs 0 0 QQ (F0 m 22 ls []) := by
      intro n
      induction n with
      | zero => intro x2_5 s_row_6 H locs ls h; exact absurd h (hz22_6 _ _)
      | succ n ih22_6 =>
        intro x2_5 s_row_6 H locs ls h hP hD hS hl
        have h := hs22_6 _ _ _ h
        refine lv_iload_n hx hb dX9_ends_22 rfl (lv_at hl 2 rfl) ?_
        refine lv_bipush (v := 61) hx hb dX9_ends_23 (by decide) ?_
        refine lv_icmp_ge (tgt := 87) hx hb dX9_ends_25 (by decide) (fun c_8 => ?_) (fun c_8 => ?_)
        · have h := h.1 c_8
          refine lv_iconst (v := (-1)) hx hb dX9_ends_87 (by decide) ?_
          exact hret _ (s_refused, s_row_6) _ _ _ _ h hP hD hS dX9_ends_88
        · have h := h.2 c_8
          refine lv_aload_n hx hb dX9_ends_28 rfl (lv_at hl 0 rfl) ?_
          refine lv_sipush (v := 753) hx hb dX9_ends_29 (by decide) ?_
          refine st_callRI (st_runVR (n := 1) (As := [.int 753]) (rest := []) (q0 := 0) F (co_Mo_rightIn l D cy a_this a_row a_isKept a_refused a_text a_words a_cost a_steps a_mates a_bestMates a_comes s_above s_below s_length s_at s_behind s_readFlitches s_readFamilies s_doing s_row_6 753 _ h) gX9_ends_X9_rightIn rfl (by decide +kernel) rfl hKK hP [0, 2] rfl rfl rfl rfl hl.1 rfl (Nat.le_of_ble_eq_true rfl) dX9_ends_32) (fun r_9 h => ?_)
          refine lv_iconst (v := (-1)) hx hb dX9_ends_35 (by decide) ?_
          obtain ⟨J60, hJ60, h⟩ := jn0_ex h
          have kJ60_9 : ∀  (H : Heap) (locs : List Loc) (ls : Array Slot), J60 → va_P D vwCl (Wd_Mo_ends cy a_this a_refused a_row a_isKept a_text a_words a_cost a_steps a_mates a_bestMates a_comes s_above s_below s_length s_at s_behind s_readFlitches s_readFamilies s_doing s_refused s_row_6) H → va_D A (Wd_Mo_ends cy a_this a_refused a_row a_isKept a_text a_words a_cost a_steps a_mates a_bestMates a_comes s_above s_below s_length s_at s_behind s_readFlitches s_readFamilies s_doing s_refused s_row_6) → va_S A s.heap H locs → lv_has ls 3 [(0, .ref a_this), (1, .int x1), (2, .int x2_5)] → W p l e rm_Mo_ends s m args below meth c H locs 0 0 QQ (F0 m 60 ls []) := by
            intro  H locs ls h hP hD hS hl
            have h := hJ60  h
            refine lv_iload_n hx hb dX9_ends_60 rfl (lv_at hl 1 rfl) ?_
            refine lv_if_ne (tgt := 68) hx hb dX9_ends_61 (by decide) (fun c_11 => ?_) (fun c_11 => ?_)
            · have h := h.1 c_11
              refine lv_aload_n hx hb dX9_ends_68 rfl (lv_at hl 0 rfl) ?_
              refine lv_sipush (v := 753) hx hb dX9_ends_69 (by decide) ?_
              refine st_callRI (st_runVR (n := 1) (As := [.int 753]) (rest := []) (q0 := 0) F (co_Mo_rightIn l D cy a_this a_row a_isKept a_refused a_text a_words a_cost a_steps a_mates a_bestMates a_comes s_above s_below s_length s_at s_behind s_readFlitches s_readFamilies s_doing s_row_6 753 _ h) gX9_ends_X9_rightIn rfl (by decide +kernel) rfl hKK hP [0, 2] rfl rfl rfl rfl hl.1 rfl (Nat.le_of_ble_eq_true rfl) dX9_ends_72) (fun r_12 h => ?_)
              exact hret _ (s_refused, s_row_6) _ _ _ _ h hP hD hS dX9_ends_75
            · have h := h.2 c_11
              refine lv_iload_n hx hb dX9_ends_64 rfl (lv_at hl 2 rfl) ?_
              refine lv_goto (tgt := 75) hx hb dX9_ends_65 (by decide) ?_
              exact hret _ (s_refused, s_row_6) _ _ _ _ h hP hD hS dX9_ends_75
          refine lv_icmp_ne (tgt := 60) hx hb dX9_ends_36 (by decide) (fun c_13 => ?_) (fun c_13 => ?_)
          · have h := h.1 c_13
            exact kJ60_9  _ _ _ h hP hD hS (lv_sub hl [0, 1, 2] rfl)
          · have h := h.2 c_13
            refine lv_aload_n hx hb dX9_ends_39 rfl (lv_at hl 0 rfl) ?_
            refine va_get (D := D) (ci := 8) (v := .ref a_row) (C := RX9) (T := TX9) (N := 18) hx hb hts in_X9 hown hK hP 0 rfl rfl 0 (by decide) fl_7 (fun _ h9 => h9) rfl dX9_ends_40 ?_
            refine lv_sipush (v := 760) hx hb dX9_ends_43 (by decide) ?_
            refine va_iald hx hb hK hP 2 1 rfl rfl (by unfold vp_in; decide) dX9_ends_46 ?_
            refine st_callRI (st_runSR (n := 1) (As := [.int (s_row_6 (Int32.toNatClampNeg 760))]) (rest := []) F (co_Mo_bits l D cy (s_row_6 (Int32.toNatClampNeg 760)) _ h) gX9_ends_X9_bits rfl (by decide +kernel) rfl hKK hP [] rfl rfl hl.1 rfl (Nat.le_of_ble_eq_true rfl) dX9_ends_47) (fun r_14 h => ?_)
            refine lv_aload_n hx hb dX9_ends_50 rfl (lv_at hl 0 rfl) ?_
            refine va_get (D := D) (ci := 8) (v := .ref a_row) (C := RX9) (T := TX9) (N := 18) hx hb hts in_X9 hown hK hP 0 rfl rfl 0 (by decide) fl_7 (fun _ h9 => h9) rfl dX9_ends_51 ?_
            refine lv_bipush (v := 27) hx hb dX9_ends_54 (by decide) ?_
            refine va_iald hx hb hK hP 2 1 rfl rfl (by unfold vp_in; decide) dX9_ends_56 ?_
            refine lv_icmp_ne (tgt := 76) hx hb dX9_ends_57 (by decide) (fun c_15 => ?_) (fun c_15 => ?_)
            · have h := h.1 c_15
              refine lv_aload_n hx hb dX9_ends_76 rfl (lv_at hl 0 rfl) ?_
              refine lv_iconst (v := 1) hx hb dX9_ends_77 (by decide) ?_
              refine st_callV (WR := [1].filterMap (fun i => (Wd_Mo_ends cy a_this a_refused a_row a_isKept a_text a_words a_cost a_steps a_mates a_bestMates a_comes s_above s_below s_length s_at s_behind s_readFlitches s_readFamilies s_doing s_refused s_row_6)[i]?)) (WSn := fun u => (Wd_Mo_ends cy a_this a_refused a_row a_isKept a_text a_words a_cost a_steps a_mates a_bestMates a_comes s_above s_below s_length s_at s_behind s_readFlitches s_readFamilies s_doing s_refused u)) (st_runV (n := 1) (As := [.int 1]) (rest := []) (q0 := 0) F ((co_Mo_passTried l D cy a_this a_row a_isKept a_refused a_text a_words a_cost a_steps a_mates a_bestMates a_comes s_above s_below s_length s_at s_behind s_readFlitches s_readFamilies s_doing s_row_6 1 _ h) _) rfl gX9_ends_X9_passTried rfl (by decide +kernel) rfl hKK hP hD [0, 2] rfl rfl rfl rfl rfl hl.1 rfl (Nat.le_of_ble_eq_true rfl) dX9_ends_78) hP hD hS hA [0, 2] [1] [1, 0, 2] rfl rfl rfl (fun _ => rfl) (fun u H locs h hP hD hS => ?_)
              obtain ⟨s_row_17, rfl⟩ : ∃ z, z = u := ⟨_, rfl⟩
              have hP : va_P D vwCl (Wd_Mo_ends cy a_this a_refused a_row a_isKept a_text a_words a_cost a_steps a_mates a_bestMates a_comes s_above s_below s_length s_at s_behind s_readFlitches s_readFamilies s_doing s_refused s_row_17) H := hP
              have hD : va_D A (Wd_Mo_ends cy a_this a_refused a_row a_isKept a_text a_words a_cost a_steps a_mates a_bestMates a_comes s_above s_below s_length s_at s_behind s_readFlitches s_readFamilies s_doing s_refused s_row_17) := hD
              obtain ⟨x2_18, ex2_18⟩ : ∃ y : Int32, y = x2_5 + 1 := ⟨_, rfl⟩
              have h := h x2_18 ex2_18
              refine lv_iinc (v := x2_18) (lv' := [(2, .int x2_18), (0, .ref a_this), (1, .int x1)]) hx hb dX9_ends_81 hl (k := 2) rfl (by rw [ex2_18]; rfl) (by decide) rfl (fun ls hl => ?_)
              refine lv_goto (tgt := 22) hx hb dX9_ends_84 (by decide) ?_
              exact ih22_6 _ _ _ _ _ h hP hD hS (lv_sub hl [1, 2, 0] rfl)
            · have h := h.2 c_15
              exact kJ60_9  _ _ _ h hP hD hS (lv_sub hl [0, 1, 2] rfl)
    exact kT22_6 n22_6 _ _ _ _ _ h hP hD hS (lv_sub hl [1, 2, 0] rfl)
  · have h := h.2 c_2
    refine lv_aload_n hx hb dX9_ends_9 rfl (lv_at hl 0 rfl) ?_
    refine lv_bipush (v := (-2)) hx hb dX9_ends_10 (by decide) ?_
    refine st_callI (WR := [2].filterMap (fun i => (Wd_Mo_ends cy a_this a_refused a_row a_isKept a_text a_words a_cost a_steps a_mates a_bestMates a_comes s_above s_below s_length s_at s_behind s_readFlitches s_readFamilies s_doing s_refused s_row)[i]?)) (WSn := fun u => (Wd_Mo_ends cy a_this a_refused a_row a_isKept a_text a_words a_cost a_steps a_mates a_bestMates a_comes s_above s_below s_length s_at s_behind s_readFlitches s_readFamilies s_doing u s_row)) (st_runV (n := 1) (As := [.int (-2)]) (rest := []) (q0 := 0) F ((co_Mo_refuse l D cy a_this a_refused a_row a_isKept a_text a_words a_cost a_steps a_mates a_bestMates a_comes s_above s_below s_length s_at s_behind s_readFlitches s_readFamilies s_doing s_refused (-2) _ h) _) rfl gX9_ends_X9_refuse rfl (by decide +kernel) rfl hKK hP hD [0, 1] rfl rfl rfl rfl rfl hl.1 rfl (Nat.le_of_ble_eq_true rfl) dX9_ends_12) hP hD hS hA [0, 1] [2] [1, 2, 0] rfl rfl rfl (fun _ => rfl) (fun r_19 u H locs h hP hD hS => ?_)
    obtain ⟨s_refused_20, rfl⟩ : ∃ z, z = u := ⟨_, rfl⟩
    have hP : va_P D vwCl (Wd_Mo_ends cy a_this a_refused a_row a_isKept a_text a_words a_cost a_steps a_mates a_bestMates a_comes s_above s_below s_length s_at s_behind s_readFlitches s_readFamilies s_doing s_refused_20 s_row) H := hP
    have hD : va_D A (Wd_Mo_ends cy a_this a_refused a_row a_isKept a_text a_words a_cost a_steps a_mates a_bestMates a_comes s_above s_below s_length s_at s_behind s_readFlitches s_readFamilies s_doing s_refused_20 s_row) := hD
    exact hret _ (s_refused_20, s_row) _ _ _ _ h hP hD hS dX9_ends_15
abbrev Wd_Mo_beside (cy : ClassId × ClassId × ClassId × ClassId) : va_W := []
abbrev rm_Mo_beside : Room := { frames := 0, cells := 0, slots := 0, locals := 0 }
def wp_Mo_beside (x0 : Int32) (x1 : Int32) (Q : Int32 → Prop) : Prop := ((x1 = 0 → ((x0 ≤ 4 → Q (-1)) ∧ (¬ x0 ≤ 4 → Q (x0 - 5)))) ∧ (¬ x1 = 0 → ((x1 = 1 → (((irem x0 5) ≤ 0 → Q (-1)) ∧ (¬ (irem x0 5) ≤ 0 → Q (x0 - 1)))) ∧ (¬ x1 = 1 → ((x1 = 2 → ((4 ≤ (irem x0 5) → Q (-1)) ∧ (¬ 4 ≤ (irem x0 5) → Q (x0 + 1)))) ∧ (¬ x1 = 2 → ((20 ≤ x0 → Q (-1)) ∧ (¬ 20 ≤ x0 → Q (x0 + 5)))))))))
set_option maxHeartbeats 4000000 in
set_option maxRecDepth 100000 in
theorem co_Mo_beside (l : Launch) (D : va_G) (cy : ClassId × ClassId × ClassId × ClassId) (x0 : Int32) (x1 : Int32) (Q : Int32 → Prop) (h : wp_Mo_beside x0 x1 Q) : RoI l yX9_beside wsX9_beside rm_Mo_beside D cy [.int x0, .int x1] (Wd_Mo_beside cy) Q := by
  refine st_metRI (cc := cX9_beside) (maxL := 2) RX9 (by decide) rfl rfl (Nat.le_of_ble_eq_true rfl) ?_
  intro p e s m args below meth c QQ ls F hKK hP hl hret
  have hK := hKK.1
  have hnest := hKK.2.1
  have hx := F.1
  have hb := F.2.1
  have hown := F.2.2.2.1
  have hts := F.2.2.2.2
  have hl : lv_has ls 2 [(0, .int x0), (1, .int x1)] := hl
  unfold wp_Mo_beside at h
  refine lv_iload_n hx hb dX9_beside_0 rfl (lv_at hl 1 rfl) ?_
  by_cases c_1 : x1 = 0
  · have h := h.1 c_1
    refine lv_tableIn (tgt := 28) hx hb dX9_beside_1 (by rw [c_1]; decide) (by rw [c_1]; decide) (by rw [c_1]; rfl) (by decide) ?_
    refine lv_iload_n hx hb dX9_beside_28 rfl (lv_at hl 0 rfl) ?_
    refine lv_iconst (v := 4) hx hb dX9_beside_29 (by decide) ?_
    refine lv_icmp_le (tgt := 39) hx hb dX9_beside_30 (by decide) (fun c_2 => ?_) (fun c_2 => ?_)
    · have h := h.1 c_2
      refine lv_iconst (v := (-1)) hx hb dX9_beside_39 (by decide) ?_
      exact hret _ _ _ h dX9_beside_40
    · have h := h.2 c_2
      refine lv_iload_n hx hb dX9_beside_33 rfl (lv_at hl 0 rfl) ?_
      refine lv_iconst (v := 5) hx hb dX9_beside_34 (by decide) ?_
      refine lv_isub hx hb dX9_beside_35 ?_
      refine lv_goto (tgt := 40) hx hb dX9_beside_36 (by decide) ?_
      exact hret _ _ _ h dX9_beside_40
  · have h := h.2 c_1
    by_cases c_3 : x1 = 1
    · have h := h.1 c_3
      refine lv_tableIn (tgt := 41) hx hb dX9_beside_1 (by rw [c_3]; decide) (by rw [c_3]; decide) (by rw [c_3]; rfl) (by decide) ?_
      refine lv_iload_n hx hb dX9_beside_41 rfl (lv_at hl 0 rfl) ?_
      refine lv_iconst (v := 5) hx hb dX9_beside_42 (by decide) ?_
      refine lv_irem hx hb dX9_beside_43 (by decide) ?_
      refine lv_if_le (tgt := 53) hx hb dX9_beside_44 (by decide) (fun c_4 => ?_) (fun c_4 => ?_)
      · have h := h.1 c_4
        refine lv_iconst (v := (-1)) hx hb dX9_beside_53 (by decide) ?_
        exact hret _ _ _ h dX9_beside_54
      · have h := h.2 c_4
        refine lv_iload_n hx hb dX9_beside_47 rfl (lv_at hl 0 rfl) ?_
        refine lv_iconst (v := 1) hx hb dX9_beside_48 (by decide) ?_
        refine lv_isub hx hb dX9_beside_49 ?_
        refine lv_goto (tgt := 54) hx hb dX9_beside_50 (by decide) ?_
        exact hret _ _ _ h dX9_beside_54
    · have h := h.2 c_3
      by_cases c_5 : x1 = 2
      · have h := h.1 c_5
        refine lv_tableIn (tgt := 55) hx hb dX9_beside_1 (by rw [c_5]; decide) (by rw [c_5]; decide) (by rw [c_5]; rfl) (by decide) ?_
        refine lv_iload_n hx hb dX9_beside_55 rfl (lv_at hl 0 rfl) ?_
        refine lv_iconst (v := 5) hx hb dX9_beside_56 (by decide) ?_
        refine lv_irem hx hb dX9_beside_57 (by decide) ?_
        refine lv_iconst (v := 4) hx hb dX9_beside_58 (by decide) ?_
        refine lv_icmp_ge (tgt := 68) hx hb dX9_beside_59 (by decide) (fun c_6 => ?_) (fun c_6 => ?_)
        · have h := h.1 c_6
          refine lv_iconst (v := (-1)) hx hb dX9_beside_68 (by decide) ?_
          exact hret _ _ _ h dX9_beside_69
        · have h := h.2 c_6
          refine lv_iload_n hx hb dX9_beside_62 rfl (lv_at hl 0 rfl) ?_
          refine lv_iconst (v := 1) hx hb dX9_beside_63 (by decide) ?_
          refine lv_iadd hx hb dX9_beside_64 ?_
          refine lv_goto (tgt := 69) hx hb dX9_beside_65 (by decide) ?_
          exact hret _ _ _ h dX9_beside_69
      · have h := h.2 c_5
        have nc_1 := lv_neT c_1 (a := 0) (by decide)
        have nc_3 := lv_neT c_3 (a := 1) (by decide)
        have nc_5 := lv_neT c_5 (a := 2) (by decide)
        refine lv_tableOut (tgt := 70) hx hb dX9_beside_1 (by omega) (by decide) ?_
        refine lv_iload_n hx hb dX9_beside_70 rfl (lv_at hl 0 rfl) ?_
        refine lv_bipush (v := 20) hx hb dX9_beside_71 (by decide) ?_
        refine lv_icmp_ge (tgt := 82) hx hb dX9_beside_73 (by decide) (fun c_7 => ?_) (fun c_7 => ?_)
        · have h := h.1 c_7
          refine lv_iconst (v := (-1)) hx hb dX9_beside_82 (by decide) ?_
          exact hret _ _ _ h dX9_beside_83
        · have h := h.2 c_7
          refine lv_iload_n hx hb dX9_beside_76 rfl (lv_at hl 0 rfl) ?_
          refine lv_iconst (v := 5) hx hb dX9_beside_77 (by decide) ?_
          refine lv_iadd hx hb dX9_beside_78 ?_
          refine lv_goto (tgt := 83) hx hb dX9_beside_79 (by decide) ?_
          exact hret _ _ _ h dX9_beside_83
abbrev Wd_Mo_comesCheaper (cy : ClassId × ClassId × ClassId × ClassId) (a_this a_cost a_row a_steps a_isKept a_refused a_text a_words a_mates a_bestMates a_comes : Nat) (s_above : Int64) (s_below : Int64) (s_length : Int32) (s_at : Int32) (s_behind : Int32) (s_readFlitches : Int32) (s_readFamilies : Int32) (s_doing : Int32) (s_cost : Nat → Int32) (s_row : Nat → Int32) (s_steps : Nat → Int32) : va_W := [(a_this, .inr (8, [.ref a_row, .ref a_isKept, .ref a_refused, .long s_above, .long s_below, .ref a_text, .int s_length, .ref a_words, .int s_at, .int s_behind, .int s_readFlitches, .int s_readFamilies, .int s_doing, .ref a_cost, .ref a_steps, .ref a_mates, .ref a_bestMates, .ref a_comes])), (a_cost, .inl (cy.2.1, 25, .inl s_cost)), (a_row, .inl (cy.2.1, 770, .inl s_row)), (a_steps, .inl (cy.2.1, 25, .inl s_steps))]
abbrev rm_Mo_comesCheaper : Room := { frames := 3, cells := 0, slots := 0, locals := 67 }
def wp_Mo_comesCheaper (x1 : Int32) (s_cost : Nat → Int32) (s_row : Nat → Int32) (s_steps : Nat → Int32) (Q : Int32 → (Nat → Int32) → (Nat → Int32) → Prop) : Prop := ∃ n : Nat, lpw4 (fun (B4 : Int32 → Int32 → (Nat → Int32) → (Nat → Int32) → Prop) (x2_1 : Int32) (x3_2 : Int32) (s_cost_3 : Nat → Int32) (s_steps_4 : Nat → Int32) => ((4 ≤ x3_2 → bz x2_1 ∧ Q x2_1 s_cost_3 s_steps_4) ∧ (¬ 4 ≤ x3_2 → wp_Mo_beside x1 x3_2 (fun (r_8 : Int32) => jn3 (fun (J129 : Int32 → (Nat → Int32) → (Nat → Int32) → Prop) => ((r_8 = (-1) → J129 x2_1 s_cost_3 s_steps_4) ∧ (¬ r_8 = (-1) → vp_in r_8 25 ∧ ((99999 ≤ (s_cost_3 (Int32.toNatClampNeg r_8)) → J129 x2_1 s_cost_3 s_steps_4) ∧ (¬ 99999 ≤ (s_cost_3 (Int32.toNatClampNeg r_8)) → vp_in r_8 25 ∧ wp_Mo_smellOf (s_row (Int32.toNatClampNeg 15)) r_8 (s_row (Int32.toNatClampNeg 16)) s_row (fun (r_18 : Int32) => ∀ x5_19 : Int32, x5_19 = ((s_cost_3 (Int32.toNatClampNeg r_8)) + r_18) → vp_in x1 25 ∧ jn0 (fun (J104 : Prop) => ((x5_19 < (s_cost_3 (Int32.toNatClampNeg x1)) → J104) ∧ (¬ x5_19 < (s_cost_3 (Int32.toNatClampNeg x1)) → vp_in x1 25 ∧ ((¬ x5_19 = (s_cost_3 (Int32.toNatClampNeg x1)) → J129 x2_1 s_cost_3 s_steps_4) ∧ (x5_19 = (s_cost_3 (Int32.toNatClampNeg x1)) → vp_in r_8 25 ∧ vp_in x1 25 ∧ (((s_steps_4 (Int32.toNatClampNeg x1)) ≤ ((s_steps_4 (Int32.toNatClampNeg r_8)) + 1) → J129 x2_1 s_cost_3 s_steps_4) ∧ (¬ (s_steps_4 (Int32.toNatClampNeg x1)) ≤ ((s_steps_4 (Int32.toNatClampNeg r_8)) + 1) → J104))))))) (vp_in x1 25 ∧ ∀ s_cost_23 : Nat → Int32, s_cost_23 = upd s_cost_3 (Int32.toNatClampNeg x1) x5_19 → vp_in r_8 25 ∧ vp_in x1 25 ∧ ∀ s_steps_26 : Nat → Int32, s_steps_26 = upd s_steps_4 (Int32.toNatClampNeg x1) ((s_steps_4 (Int32.toNatClampNeg r_8)) + 1) → J129 1 s_cost_23 s_steps_26))))))) (fun (x2_9 : Int32) (s_cost_10 : Nat → Int32) (s_steps_11 : Nat → Int32) => ∀ x3_13 : Int32, x3_13 = x3_2 + 1 → B4 x2_9 x3_13 s_cost_10 s_steps_11))))) n 0 0 s_cost s_steps
set_option maxHeartbeats 4000000 in
set_option maxRecDepth 100000 in
theorem co_Mo_comesCheaper (l : Launch) (D : va_G) (cy : ClassId × ClassId × ClassId × ClassId) (a_this a_cost a_row a_steps a_isKept a_refused a_text a_words a_mates a_bestMates a_comes : Nat) (s_above : Int64) (s_below : Int64) (s_length : Int32) (s_at : Int32) (s_behind : Int32) (s_readFlitches : Int32) (s_readFamilies : Int32) (s_doing : Int32) (s_cost : Nat → Int32) (s_row : Nat → Int32) (s_steps : Nat → Int32) (x1 : Int32) (Q : Int32 → (Nat → Int32) → (Nat → Int32) → Prop) (h : wp_Mo_comesCheaper x1 s_cost s_row s_steps Q) : CoI l yX9_comesCheaper wsX9_comesCheaper rm_Mo_comesCheaper D cy [.ref a_this, .int x1] (Wd_Mo_comesCheaper cy a_this a_cost a_row a_steps a_isKept a_refused a_text a_words a_mates a_bestMates a_comes s_above s_below s_length s_at s_behind s_readFlitches s_readFamilies s_doing s_cost s_row s_steps) (fun u : (Nat → Int32) × (Nat → Int32) => (Wd_Mo_comesCheaper cy a_this a_cost a_row a_steps a_isKept a_refused a_text a_words a_mates a_bestMates a_comes s_above s_below s_length s_at s_behind s_readFlitches s_readFamilies s_doing u.1 s_row u.2)) (fun (r : Int32) (u : (Nat → Int32) × (Nat → Int32)) => Q r u.1 u.2) := by
  refine st_metZ (cc := cX9_comesCheaper) (maxL := 6) RX9 (by decide) rfl rfl (Nat.le_of_ble_eq_true rfl) ?_
  intro p e s m args below meth c A QQ ls F hA hKK hP hD hS hl hret
  have hK := hKK.1
  have hnest := hKK.2.1
  have hx := F.1
  have hb := F.2.1
  have hown := F.2.2.2.1
  have hts := F.2.2.2.2
  have in_X9 : ∀ w ∈ u_ws RX9 TX9 18, w ∈ wsX9_comesCheaper := (fun _ h => List.mem_cons_of_mem _ (List.mem_append_right _ h))
  have fl_7 := (hts (.fieldLink RX9 7 "RasherCaseModel" "row" "[I") (List.mem_of_getElem? (i := 3) rfl))
  have fl_30 := (hts (.fieldLink RX9 30 "RasherCaseModel" "cost" "[I") (List.mem_of_getElem? (i := 1) rfl))
  have fl_33 := (hts (.fieldLink RX9 33 "RasherCaseModel" "steps" "[I") (List.mem_of_getElem? (i := 4) rfl))
  have hl : lv_has ls 6 [(0, .ref a_this), (1, .int x1)] := hl
  unfold wp_Mo_comesCheaper at h
  refine lv_iconst (v := 0) hx hb dX9_comesCheaper_0 (by decide) ?_
  refine lv_istore_n (lv' := [(2, .int 0), (0, .ref a_this), (1, .int x1)]) hx hb dX9_comesCheaper_1 rfl hl (by decide) rfl (fun ls hl => ?_)
  refine lv_iconst (v := 0) hx hb dX9_comesCheaper_2 (by decide) ?_
  refine lv_istore_n (lv' := [(3, .int 0), (2, .int 0), (0, .ref a_this), (1, .int x1)]) hx hb dX9_comesCheaper_3 rfl hl (by decide) rfl (fun ls hl => ?_)
  obtain ⟨T4_4, hz4_4, hs4_4, n4_4, h⟩ := lpw4_use h
  have kT4_4 : ∀ (n : Nat) (x2_1 : Int32) (x3_2 : Int32) (s_cost_3 : Nat → Int32) (s_steps_4 : Nat → Int32) (H : Heap) (locs : List Loc) (ls : Array Slot), T4_4 n x2_1 x3_2 s_cost_3 s_steps_4 → va_P D vwCl (Wd_Mo_comesCheaper cy a_this a_cost a_row a_steps a_isKept a_refused a_text a_words a_mates a_bestMates a_comes s_above s_below s_length s_at s_behind s_readFlitches s_readFamilies s_doing s_cost_3 s_row s_steps_4) H → va_D A (Wd_Mo_comesCheaper cy a_this a_cost a_row a_steps a_isKept a_refused a_text a_words a_mates a_bestMates a_comes s_above s_below s_length s_at s_behind s_readFlitches s_readFamilies s_doing s_cost_3 s_row s_steps_4) → va_S A s.heap H locs → lv_has ls 6 [(0, .ref a_this), (1, .int x1), (2, .int x2_1), (3, .int x3_2)] → W p l e rm_Mo_comesCheaper s m args below meth c H locs 0 0 QQ (F0 m 4 ls []) := by
    intro n
    induction n with
    | zero => intro x2_1 x3_2 s_cost_3 s_steps_4 H locs ls h; exact absurd h (hz4_4 _ _ _ _)
    | succ n ih4_4 =>
      intro x2_1 x3_2 s_cost_3 s_steps_4 H locs ls h hP hD hS hl
      have h := hs4_4 _ _ _ _ _ h
      refine lv_iload_n hx hb dX9_comesCheaper_4 rfl (lv_at hl 3 rfl) ?_
      refine lv_iconst (v := 4) hx hb dX9_comesCheaper_5 (by decide) ?_
      refine lv_icmp_ge (tgt := 135) hx hb dX9_comesCheaper_6 (by decide) (fun c_6 => ?_) (fun c_6 => ?_)
      · have h := h.1 c_6
        refine lv_iload_n hx hb dX9_comesCheaper_135 rfl (lv_at hl 2 rfl) ?_
        obtain ⟨hz_7, h⟩ := h
        exact hret _ (s_cost_3, s_steps_4) _ _ _ _ hz_7 h hP hD hS dX9_comesCheaper_136
      · have h := h.2 c_6
        refine lv_iload_n hx hb dX9_comesCheaper_9 rfl (lv_at hl 1 rfl) ?_
        refine lv_iload_n hx hb dX9_comesCheaper_10 rfl (lv_at hl 3 rfl) ?_
        refine st_callRI (st_runSR (n := 2) (As := [.int x1, .int x3_2]) (rest := []) F (co_Mo_beside l D cy x1 x3_2 _ h) gX9_comesCheaper_X9_beside rfl (by decide +kernel) rfl hKK hP [] rfl rfl hl.1 rfl (Nat.le_of_ble_eq_true rfl) dX9_comesCheaper_11) (fun r_8 h => ?_)
        refine lv_istore (lv' := [(4, .int r_8), (0, .ref a_this), (1, .int x1), (2, .int x2_1), (3, .int x3_2)]) hx hb dX9_comesCheaper_14 hl (by decide) rfl (fun ls hl => ?_)
        refine lv_iload hx hb dX9_comesCheaper_16 (lv_at hl 0 rfl) ?_
        refine lv_iconst (v := (-1)) hx hb dX9_comesCheaper_18 (by decide) ?_
        obtain ⟨J129, hJ129, h⟩ := jn3_ex h
        have kJ129_11 : ∀ (x2_9 : Int32) (s_cost_10 : Nat → Int32) (s_steps_11 : Nat → Int32) (H : Heap) (locs : List Loc) (ls : Array Slot), J129 x2_9 s_cost_10 s_steps_11 → va_P D vwCl (Wd_Mo_comesCheaper cy a_this a_cost a_row a_steps a_isKept a_refused a_text a_words a_mates a_bestMates a_comes s_above s_below s_length s_at s_behind s_readFlitches s_readFamilies s_doing s_cost_10 s_row s_steps_11) H → va_D A (Wd_Mo_comesCheaper cy a_this a_cost a_row a_steps a_isKept a_refused a_text a_words a_mates a_bestMates a_comes s_above s_below s_length s_at s_behind s_readFlitches s_readFamilies s_doing s_cost_10 s_row s_steps_11) → va_S A s.heap H locs → lv_has ls 6 [(0, .ref a_this), (1, .int x1), (2, .int x2_9), (3, .int x3_2)] → W p l e rm_Mo_comesCheaper s m args below meth c H locs 0 0 QQ (F0 m 129 ls []) := by
          intro x2_9 s_cost_10 s_steps_11 H locs ls h hP hD hS hl
          have h := hJ129 _ _ _ h
          obtain ⟨x3_13, ex3_13⟩ : ∃ y : Int32, y = x3_2 + 1 := ⟨_, rfl⟩
          have h := h x3_13 ex3_13
          refine lv_iinc (v := x3_13) (lv' := [(3, .int x3_13), (0, .ref a_this), (1, .int x1), (2, .int x2_9)]) hx hb dX9_comesCheaper_129 hl (k := 3) rfl (by rw [ex3_13]; rfl) (by decide) rfl (fun ls hl => ?_)
          refine lv_goto (tgt := 4) hx hb dX9_comesCheaper_132 (by decide) ?_
          exact ih4_4 _ _ _ _ _ _ _ h hP hD hS (lv_sub hl [1, 2, 3, 0] rfl)
        refine lv_icmp_eq (tgt := 129) hx hb dX9_comesCheaper_19 (by decide) (fun c_14 => ?_) (fun c_14 => ?_)
        · have h := h.1 c_14
          exact kJ129_11 _ _ _ _ _ _ h hP hD hS (lv_sub hl [1, 2, 3, 4] rfl)
        · have h := h.2 c_14
          refine lv_aload_n hx hb dX9_comesCheaper_22 rfl (lv_at hl 1 rfl) ?_
          refine va_get (D := D) (ci := 8) (v := .ref a_cost) (C := RX9) (T := TX9) (N := 18) hx hb hts in_X9 hown hK hP 0 rfl rfl 13 (by decide) fl_30 (fun _ h9 => h9) rfl dX9_comesCheaper_23 ?_
          refine lv_iload hx hb dX9_comesCheaper_26 (lv_at hl 0 rfl) ?_
          obtain ⟨hi_15, h⟩ := h
          refine va_iald hx hb hK hP 1 1 rfl rfl hi_15 dX9_comesCheaper_28 ?_
          refine lv_ldc (v := 99999) hx hb hown (hts (.constant RX9 178 (99999)) (List.mem_of_getElem? (i := 2) rfl)) dX9_comesCheaper_29 ?_
          refine lv_icmp_ge (tgt := 129) hx hb dX9_comesCheaper_31 (by decide) (fun c_16 => ?_) (fun c_16 => ?_)
          · have h := h.1 c_16
            exact kJ129_11 _ _ _ _ _ _ h hP hD hS (lv_sub hl [1, 2, 3, 4] rfl)
          · have h := h.2 c_16
            refine lv_aload_n hx hb dX9_comesCheaper_34 rfl (lv_at hl 1 rfl) ?_
            refine va_get (D := D) (ci := 8) (v := .ref a_cost) (C := RX9) (T := TX9) (N := 18) hx hb hts in_X9 hown hK hP 0 rfl rfl 13 (by decide) fl_30 (fun _ h9 => h9) rfl dX9_comesCheaper_35 ?_
            refine lv_iload hx hb dX9_comesCheaper_38 (lv_at hl 0 rfl) ?_
            obtain ⟨hi_17, h⟩ := h
            refine va_iald hx hb hK hP 1 1 rfl rfl hi_17 dX9_comesCheaper_40 ?_
            refine lv_aload_n hx hb dX9_comesCheaper_41 rfl (lv_at hl 1 rfl) ?_
            refine lv_aload_n hx hb dX9_comesCheaper_42 rfl (lv_at hl 1 rfl) ?_
            refine va_get (D := D) (ci := 8) (v := .ref a_row) (C := RX9) (T := TX9) (N := 18) hx hb hts in_X9 hown hK hP 0 rfl rfl 0 (by decide) fl_7 (fun _ h9 => h9) rfl dX9_comesCheaper_43 ?_
            refine lv_bipush (v := 15) hx hb dX9_comesCheaper_46 (by decide) ?_
            refine va_iald hx hb hK hP 2 1 rfl rfl (by unfold vp_in; decide) dX9_comesCheaper_48 ?_
            refine lv_iload hx hb dX9_comesCheaper_49 (lv_at hl 0 rfl) ?_
            refine lv_aload_n hx hb dX9_comesCheaper_51 rfl (lv_at hl 1 rfl) ?_
            refine va_get (D := D) (ci := 8) (v := .ref a_row) (C := RX9) (T := TX9) (N := 18) hx hb hts in_X9 hown hK hP 0 rfl rfl 0 (by decide) fl_7 (fun _ h9 => h9) rfl dX9_comesCheaper_52 ?_
            refine lv_bipush (v := 16) hx hb dX9_comesCheaper_55 (by decide) ?_
            refine va_iald hx hb hK hP 2 1 rfl rfl (by unfold vp_in; decide) dX9_comesCheaper_57 ?_
            refine st_callRI (st_runVR (n := 3) (As := [.int (s_row (Int32.toNatClampNeg 15)), .int r_8, .int (s_row (Int32.toNatClampNeg 16))]) (rest := [.int (s_cost_3 (Int32.toNatClampNeg r_8))]) (q0 := 0) F (co_Mo_smellOf l D cy a_this a_row a_isKept a_refused a_text a_words a_cost a_steps a_mates a_bestMates a_comes s_above s_below s_length s_at s_behind s_readFlitches s_readFamilies s_doing s_row (s_row (Int32.toNatClampNeg 15)) r_8 (s_row (Int32.toNatClampNeg 16)) _ h) gX9_comesCheaper_X9_smellOf rfl (by decide +kernel) rfl hKK hP [0, 2] rfl rfl rfl rfl hl.1 rfl (Nat.le_of_ble_eq_true rfl) dX9_comesCheaper_58) (fun r_18 h => ?_)
            refine lv_iadd hx hb dX9_comesCheaper_61 ?_
            refine lv_topi (fun x5_19 ex5_19 => ?_)
            have h := h x5_19 ex5_19
            refine lv_istore (lv' := [(5, .int x5_19), (4, .int r_8), (0, .ref a_this), (1, .int x1), (2, .int x2_1), (3, .int x3_2)]) hx hb dX9_comesCheaper_62 hl (by decide) rfl (fun ls hl => ?_)
            refine lv_iload hx hb dX9_comesCheaper_64 (lv_at hl 0 rfl) ?_
            refine lv_aload_n hx hb dX9_comesCheaper_66 rfl (lv_at hl 2 rfl) ?_
            refine va_get (D := D) (ci := 8) (v := .ref a_cost) (C := RX9) (T := TX9) (N := 18) hx hb hts in_X9 hown hK hP 0 rfl rfl 13 (by decide) fl_30 (fun _ h9 => h9) rfl dX9_comesCheaper_67 ?_
            refine lv_iload_n hx hb dX9_comesCheaper_70 rfl (lv_at hl 3 rfl) ?_
            obtain ⟨hi_20, h⟩ := h
            refine va_iald hx hb hK hP 1 1 rfl rfl hi_20 dX9_comesCheaper_71 ?_
            obtain ⟨J104, hJ104, h⟩ := jn0_ex h
            have kJ104_20 : ∀  (H : Heap) (locs : List Loc) (ls : Array Slot), J104 → va_P D vwCl (Wd_Mo_comesCheaper cy a_this a_cost a_row a_steps a_isKept a_refused a_text a_words a_mates a_bestMates a_comes s_above s_below s_length s_at s_behind s_readFlitches s_readFamilies s_doing s_cost_3 s_row s_steps_4) H → va_D A (Wd_Mo_comesCheaper cy a_this a_cost a_row a_steps a_isKept a_refused a_text a_words a_mates a_bestMates a_comes s_above s_below s_length s_at s_behind s_readFlitches s_readFamilies s_doing s_cost_3 s_row s_steps_4) → va_S A s.heap H locs → lv_has ls 6 [(0, .ref a_this), (1, .int x1), (3, .int x3_2), (4, .int r_8), (5, .int x5_19)] → W p l e rm_Mo_comesCheaper s m args below meth c H locs 0 0 QQ (F0 m 104 ls []) := by
              intro  H locs ls h hP hD hS hl
              have h := hJ104  h
              refine lv_aload_n hx hb dX9_comesCheaper_104 rfl (lv_at hl 0 rfl) ?_
              refine va_get (D := D) (ci := 8) (v := .ref a_cost) (C := RX9) (T := TX9) (N := 18) hx hb hts in_X9 hown hK hP 0 rfl rfl 13 (by decide) fl_30 (fun _ h9 => h9) rfl dX9_comesCheaper_105 ?_
              refine lv_iload_n hx hb dX9_comesCheaper_108 rfl (lv_at hl 1 rfl) ?_
              refine lv_iload hx hb dX9_comesCheaper_109 (lv_at hl 4 rfl) ?_
              obtain ⟨hi_22, h⟩ := h
              refine va_iast hx hb hK hP hD hS 1 1 rfl rfl hi_22 dX9_comesCheaper_111 (fun H locs hP hD hS => ?_)
              obtain ⟨s_cost_23, es_cost_23⟩ : ∃ f : Nat → Int32, f = upd s_cost_3 (Int32.toNatClampNeg x1) x5_19 := ⟨_, rfl⟩
              have hP : va_P D vwCl (Wd_Mo_comesCheaper cy a_this a_cost a_row a_steps a_isKept a_refused a_text a_words a_mates a_bestMates a_comes s_above s_below s_length s_at s_behind s_readFlitches s_readFamilies s_doing s_cost_23 s_row s_steps_4) H := by rw [es_cost_23]; exact hP
              have hD : va_D A (Wd_Mo_comesCheaper cy a_this a_cost a_row a_steps a_isKept a_refused a_text a_words a_mates a_bestMates a_comes s_above s_below s_length s_at s_behind s_readFlitches s_readFamilies s_doing s_cost_23 s_row s_steps_4) := by rw [es_cost_23]; exact hD
              have h := h s_cost_23 es_cost_23
              refine lv_aload_n hx hb dX9_comesCheaper_112 rfl (lv_at hl 0 rfl) ?_
              refine va_get (D := D) (ci := 8) (v := .ref a_steps) (C := RX9) (T := TX9) (N := 18) hx hb hts in_X9 hown hK hP 0 rfl rfl 14 (by decide) fl_33 (fun _ h9 => h9) rfl dX9_comesCheaper_113 ?_
              refine lv_iload_n hx hb dX9_comesCheaper_116 rfl (lv_at hl 1 rfl) ?_
              refine lv_aload_n hx hb dX9_comesCheaper_117 rfl (lv_at hl 0 rfl) ?_
              refine va_get (D := D) (ci := 8) (v := .ref a_steps) (C := RX9) (T := TX9) (N := 18) hx hb hts in_X9 hown hK hP 0 rfl rfl 14 (by decide) fl_33 (fun _ h9 => h9) rfl dX9_comesCheaper_118 ?_
              refine lv_iload hx hb dX9_comesCheaper_121 (lv_at hl 3 rfl) ?_
              obtain ⟨hi_24, h⟩ := h
              refine va_iald hx hb hK hP 3 1 rfl rfl hi_24 dX9_comesCheaper_123 ?_
              refine lv_iconst (v := 1) hx hb dX9_comesCheaper_124 (by decide) ?_
              refine lv_iadd hx hb dX9_comesCheaper_125 ?_
              obtain ⟨hi_25, h⟩ := h
              refine va_iast hx hb hK hP hD hS 3 1 rfl rfl hi_25 dX9_comesCheaper_126 (fun H locs hP hD hS => ?_)
              obtain ⟨s_steps_26, es_steps_26⟩ : ∃ f : Nat → Int32, f = upd s_steps_4 (Int32.toNatClampNeg x1) ((s_steps_4 (Int32.toNatClampNeg r_8)) + 1) := ⟨_, rfl⟩
              have hP : va_P D vwCl (Wd_Mo_comesCheaper cy a_this a_cost a_row a_steps a_isKept a_refused a_text a_words a_mates a_bestMates a_comes s_above s_below s_length s_at s_behind s_readFlitches s_readFamilies s_doing s_cost_23 s_row s_steps_26) H := by rw [es_steps_26]; exact hP
              have hD : va_D A (Wd_Mo_comesCheaper cy a_this a_cost a_row a_steps a_isKept a_refused a_text a_words a_mates a_bestMates a_comes s_above s_below s_length s_at s_behind s_readFlitches s_readFamilies s_doing s_cost_23 s_row s_steps_26) := by rw [es_steps_26]; exact hD
              have h := h s_steps_26 es_steps_26
              refine lv_iconst (v := 1) hx hb dX9_comesCheaper_127 (by decide) ?_
              refine lv_istore_n (lv' := [(2, .int 1), (0, .ref a_this), (1, .int x1), (3, .int x3_2), (4, .int r_8), (5, .int x5_19)]) hx hb dX9_comesCheaper_128 rfl hl (by decide) rfl (fun ls hl => ?_)
              exact kJ129_11 _ _ _ _ _ _ h hP hD hS (lv_sub hl [1, 2, 0, 3] rfl)
            refine lv_icmp_lt (tgt := 104) hx hb dX9_comesCheaper_72 (by decide) (fun c_27 => ?_) (fun c_27 => ?_)
            · have h := h.1 c_27
              exact kJ104_20  _ _ _ h hP hD hS (lv_sub hl [2, 3, 5, 1, 0] rfl)
            · have h := h.2 c_27
              refine lv_iload hx hb dX9_comesCheaper_75 (lv_at hl 0 rfl) ?_
              refine lv_aload_n hx hb dX9_comesCheaper_77 rfl (lv_at hl 2 rfl) ?_
              refine va_get (D := D) (ci := 8) (v := .ref a_cost) (C := RX9) (T := TX9) (N := 18) hx hb hts in_X9 hown hK hP 0 rfl rfl 13 (by decide) fl_30 (fun _ h9 => h9) rfl dX9_comesCheaper_78 ?_
              refine lv_iload_n hx hb dX9_comesCheaper_81 rfl (lv_at hl 3 rfl) ?_
              obtain ⟨hi_28, h⟩ := h
              refine va_iald hx hb hK hP 1 1 rfl rfl hi_28 dX9_comesCheaper_82 ?_
              refine lv_icmp_ne (tgt := 129) hx hb dX9_comesCheaper_83 (by decide) (fun c_29 => ?_) (fun c_29 => ?_)
              · have h := h.1 c_29
                exact kJ129_11 _ _ _ _ _ _ h hP hD hS (lv_sub hl [2, 3, 4, 5] rfl)
              · have h := h.2 c_29
                refine lv_aload_n hx hb dX9_comesCheaper_86 rfl (lv_at hl 2 rfl) ?_
                refine va_get (D := D) (ci := 8) (v := .ref a_steps) (C := RX9) (T := TX9) (N := 18) hx hb hts in_X9 hown hK hP 0 rfl rfl 14 (by decide) fl_33 (fun _ h9 => h9) rfl dX9_comesCheaper_87 ?_
                refine lv_iload hx hb dX9_comesCheaper_90 (lv_at hl 1 rfl) ?_
                obtain ⟨hi_30, h⟩ := h
                refine va_iald hx hb hK hP 3 1 rfl rfl hi_30 dX9_comesCheaper_92 ?_
                refine lv_iconst (v := 1) hx hb dX9_comesCheaper_93 (by decide) ?_
                refine lv_iadd hx hb dX9_comesCheaper_94 ?_
                refine lv_aload_n hx hb dX9_comesCheaper_95 rfl (lv_at hl 2 rfl) ?_
                refine va_get (D := D) (ci := 8) (v := .ref a_steps) (C := RX9) (T := TX9) (N := 18) hx hb hts in_X9 hown hK hP 0 rfl rfl 14 (by decide) fl_33 (fun _ h9 => h9) rfl dX9_comesCheaper_96 ?_
                refine lv_iload_n hx hb dX9_comesCheaper_99 rfl (lv_at hl 3 rfl) ?_
                obtain ⟨hi_31, h⟩ := h
                refine va_iald hx hb hK hP 3 1 rfl rfl hi_31 dX9_comesCheaper_100 ?_
                refine lv_icmp_ge (tgt := 129) hx hb dX9_comesCheaper_101 (by decide) (fun c_32 => ?_) (fun c_32 => ?_)
                · have h := h.1 c_32
                  exact kJ129_11 _ _ _ _ _ _ h hP hD hS (lv_sub hl [2, 3, 4, 5] rfl)
                · have h := h.2 c_32
                  exact kJ104_20  _ _ _ h hP hD hS (lv_sub hl [2, 3, 5, 1, 0] rfl)
  exact kT4_4 n4_4 _ _ _ _ _ _ _ h hP hD hS (lv_sub hl [2, 3, 1, 0] rfl)
abbrev Wd_Mo_layCosts (cy : ClassId × ClassId × ClassId × ClassId) (a_this a_cost a_row a_steps a_isKept a_refused a_text a_words a_mates a_bestMates a_comes : Nat) (s_above : Int64) (s_below : Int64) (s_length : Int32) (s_at : Int32) (s_behind : Int32) (s_readFlitches : Int32) (s_readFamilies : Int32) (s_doing : Int32) (s_cost : Nat → Int32) (s_row : Nat → Int32) (s_steps : Nat → Int32) : va_W := [(a_this, .inr (8, [.ref a_row, .ref a_isKept, .ref a_refused, .long s_above, .long s_below, .ref a_text, .int s_length, .ref a_words, .int s_at, .int s_behind, .int s_readFlitches, .int s_readFamilies, .int s_doing, .ref a_cost, .ref a_steps, .ref a_mates, .ref a_bestMates, .ref a_comes])), (a_cost, .inl (cy.2.1, 25, .inl s_cost)), (a_row, .inl (cy.2.1, 770, .inl s_row)), (a_steps, .inl (cy.2.1, 25, .inl s_steps))]
abbrev rm_Mo_layCosts : Room := { frames := 4, cells := 0, slots := 0, locals := 92 }
def wp_Mo_layCosts (x1 : Int32) (s_cost : Nat → Int32) (s_row : Nat → Int32) (s_steps : Nat → Int32) (Q : (Nat → Int32) → (Nat → Int32) → Prop) : Prop := ∃ n : Nat, lpw3 (fun (B2 : Int32 → (Nat → Int32) → (Nat → Int32) → Prop) (x2_1 : Int32) (s_cost_2 : Nat → Int32) (s_steps_3 : Nat → Int32) => ((25 ≤ x2_1 → ∃ n : Nat, lpw3 (fun (B40 : Int32 → (Nat → Int32) → (Nat → Int32) → Prop) (x2_6 : Int32) (s_cost_7 : Nat → Int32) (s_steps_8 : Nat → Int32) => ((x2_6 = 0 → Q s_cost_7 s_steps_8) ∧ (¬ x2_6 = 0 → ∃ n : Nat, lpw4 (fun (B48 : Int32 → Int32 → (Nat → Int32) → (Nat → Int32) → Prop) (x2_11 : Int32) (x3_12 : Int32) (s_cost_13 : Nat → Int32) (s_steps_14 : Nat → Int32) => ((25 ≤ x3_12 → B40 x2_11 s_cost_13 s_steps_14) ∧ (¬ 25 ≤ x3_12 → wp_Mo_comesCheaper x3_12 s_cost_13 s_row s_steps_14 (fun (r_17 : Int32) (s_cost_18 : Nat → Int32) (s_steps_19 : Nat → Int32) => jn1 (fun (J71 : Int32 → Prop) => jn0 (fun (J66 : Prop) => ((¬ r_17 = 0 → J66) ∧ (r_17 = 0 → ((x2_11 = 0 → J71 0) ∧ (¬ x2_11 = 0 → J66))))) (J71 1)) (fun (v_20 : Int32) => ∀ x3_22 : Int32, x3_22 = x3_12 + 1 → B48 v_20 x3_22 s_cost_18 s_steps_19))))) n 0 0 s_cost_7 s_steps_8))) n 1 s_cost_2 s_steps_3) ∧ (¬ 25 ≤ x2_1 → jn1 (fun (J24 : Int32 → Prop) => ((¬ x2_1 = x1 → J24 99999) ∧ (x2_1 = x1 → J24 0))) (fun (v_26 : Int32) => vp_in x2_1 25 ∧ ∀ s_cost_29 : Nat → Int32, s_cost_29 = upd s_cost_2 (Int32.toNatClampNeg x2_1) v_26 → vp_in x2_1 25 ∧ ∀ s_steps_31 : Nat → Int32, s_steps_31 = upd s_steps_3 (Int32.toNatClampNeg x2_1) 0 → ∀ x2_32 : Int32, x2_32 = x2_1 + 1 → B2 x2_32 s_cost_29 s_steps_31)))) n 0 s_cost s_steps
set_option maxHeartbeats 4000000 in
set_option maxRecDepth 100000 in
theorem co_Mo_layCosts (l : Launch) (D : va_G) (cy : ClassId × ClassId × ClassId × ClassId) (a_this a_cost a_row a_steps a_isKept a_refused a_text a_words a_mates a_bestMates a_comes : Nat) (s_above : Int64) (s_below : Int64) (s_length : Int32) (s_at : Int32) (s_behind : Int32) (s_readFlitches : Int32) (s_readFamilies : Int32) (s_doing : Int32) (s_cost : Nat → Int32) (s_row : Nat → Int32) (s_steps : Nat → Int32) (x1 : Int32) (Q : (Nat → Int32) → (Nat → Int32) → Prop) (h : wp_Mo_layCosts x1 s_cost s_row s_steps Q) : CoV l yX9_layCosts wsX9_layCosts rm_Mo_layCosts D cy [.ref a_this, .int x1] (Wd_Mo_layCosts cy a_this a_cost a_row a_steps a_isKept a_refused a_text a_words a_mates a_bestMates a_comes s_above s_below s_length s_at s_behind s_readFlitches s_readFamilies s_doing s_cost s_row s_steps) (fun u : (Nat → Int32) × (Nat → Int32) => (Wd_Mo_layCosts cy a_this a_cost a_row a_steps a_isKept a_refused a_text a_words a_mates a_bestMates a_comes s_above s_below s_length s_at s_behind s_readFlitches s_readFamilies s_doing u.1 s_row u.2)) (fun (u : (Nat → Int32) × (Nat → Int32)) => Q u.1 u.2) := by
  refine st_metV (cc := cX9_layCosts) (maxL := 4) RX9 (by decide) rfl rfl (Nat.le_of_ble_eq_true rfl) ?_
  intro p e s m args below meth c A QQ ls F hA hKK hP hD hS hl hret
  have hK := hKK.1
  have hnest := hKK.2.1
  have hx := F.1
  have hb := F.2.1
  have hown := F.2.2.2.1
  have hts := F.2.2.2.2
  have in_X9 : ∀ w ∈ u_ws RX9 TX9 18, w ∈ wsX9_layCosts := (fun _ h => List.mem_cons_of_mem _ (List.mem_append_right _ h))
  have fl_30 := (hts (.fieldLink RX9 30 "RasherCaseModel" "cost" "[I") (List.mem_of_getElem? (i := 1) rfl))
  have fl_33 := (hts (.fieldLink RX9 33 "RasherCaseModel" "steps" "[I") (List.mem_of_getElem? (i := 3) rfl))
  have hl : lv_has ls 4 [(0, .ref a_this), (1, .int x1)] := hl
  unfold wp_Mo_layCosts at h
  refine lv_iconst (v := 0) hx hb dX9_layCosts_0 (by decide) ?_
  refine lv_istore_n (lv' := [(2, .int 0), (0, .ref a_this), (1, .int x1)]) hx hb dX9_layCosts_1 rfl hl (by decide) rfl (fun ls hl => ?_)
  obtain ⟨T2_3, hz2_3, hs2_3, n2_3, h⟩ := lpw3_use h
  have kT2_3 : ∀ (n : Nat) (x2_1 : Int32) (s_cost_2 : Nat → Int32) (s_steps_3 : Nat → Int32) (H : Heap) (locs : List Loc) (ls : Array Slot), T2_3 n x2_1 s_cost_2 s_steps_3 → va_P D vwCl (Wd_Mo_layCosts cy a_this a_cost a_row a_steps a_isKept a_refused a_text a_words a_mates a_bestMates a_comes s_above s_below s_length s_at s_behind s_readFlitches s_readFamilies s_doing s_cost_2 s_row s_steps_3) H → va_D A (Wd_Mo_layCosts cy a_this a_cost a_row a_steps a_isKept a_refused a_text a_words a_mates a_bestMates a_comes s_above s_below s_length s_at s_behind s_readFlitches s_readFamilies s_doing s_cost_2 s_row s_steps_3) → va_S A s.heap H locs → lv_has ls 4 [(0, .ref a_this), (1, .int x1), (2, .int x2_1)] → W p l e rm_Mo_layCosts s m args below meth c H locs 0 0 QQ (F0 m 2 ls []) := by
    intro n
    induction n with
    | zero => intro x2_1 s_cost_2 s_steps_3 H locs ls h; exact absurd h (hz2_3 _ _ _)
    | succ n ih2_3 =>
      intro x2_1 s_cost_2 s_steps_3 H locs ls h hP hD hS hl
      have h := hs2_3 _ _ _ _ h
      refine lv_iload_n hx hb dX9_layCosts_2 rfl (lv_at hl 2 rfl) ?_
      refine lv_bipush (v := 25) hx hb dX9_layCosts_3 (by decide) ?_
      refine lv_icmp_ge (tgt := 38) hx hb dX9_layCosts_5 (by decide) (fun c_5 => ?_) (fun c_5 => ?_)
      · have h := h.1 c_5
        refine lv_iconst (v := 1) hx hb dX9_layCosts_38 (by decide) ?_
        refine lv_istore_n (lv' := [(2, .int 1), (0, .ref a_this), (1, .int x1)]) hx hb dX9_layCosts_39 rfl hl (by decide) rfl (fun ls hl => ?_)
        obtain ⟨T40_8, hz40_8, hs40_8, n40_8, h⟩ := lpw3_use h
        have kT40_8 : ∀ (n : Nat) (x2_6 : Int32) (s_cost_7 : Nat → Int32) (s_steps_8 : Nat → Int32) (H : Heap) (locs : List Loc) (ls : Array Slot), T40_8 n x2_6 s_cost_7 s_steps_8 → va_P D vwCl (Wd_Mo_layCosts cy a_this a_cost a_row a_steps a_isKept a_refused a_text a_words a_mates a_bestMates a_comes s_above s_below s_length s_at s_behind s_readFlitches s_readFamilies s_doing s_cost_7 s_row s_steps_8) H → va_D A (Wd_Mo_layCosts cy a_this a_cost a_row a_steps a_isKept a_refused a_text a_words a_mates a_bestMates a_comes s_above s_below s_length s_at s_behind s_readFlitches s_readFamilies s_doing s_cost_7 s_row s_steps_8) → va_S A s.heap H locs → lv_has ls 4 [(0, .ref a_this), (2, .int x2_6)] → W p l e rm_Mo_layCosts s m args below meth c H locs 0 0 QQ (F0 m 40 ls []) := by
          intro n
          induction n with
          | zero => intro x2_6 s_cost_7 s_steps_8 H locs ls h; exact absurd h (hz40_8 _ _ _)
          | succ n ih40_8 =>
            intro x2_6 s_cost_7 s_steps_8 H locs ls h hP hD hS hl
            have h := hs40_8 _ _ _ _ h
            refine lv_iload_n hx hb dX9_layCosts_40 rfl (lv_at hl 1 rfl) ?_
            refine lv_if_eq (tgt := 81) hx hb dX9_layCosts_41 (by decide) (fun c_10 => ?_) (fun c_10 => ?_)
            · have h := h.1 c_10
              exact hret (s_cost_7, s_steps_8) _ _ _ _ h hP hD hS dX9_layCosts_81
            · have h := h.2 c_10
              refine lv_iconst (v := 0) hx hb dX9_layCosts_44 (by decide) ?_
              refine lv_istore_n (lv' := [(2, .int 0), (0, .ref a_this)]) hx hb dX9_layCosts_45 rfl hl (by decide) rfl (fun ls hl => ?_)
              refine lv_iconst (v := 0) hx hb dX9_layCosts_46 (by decide) ?_
              refine lv_istore_n (lv' := [(3, .int 0), (2, .int 0), (0, .ref a_this)]) hx hb dX9_layCosts_47 rfl hl (by decide) rfl (fun ls hl => ?_)
              obtain ⟨T48_14, hz48_14, hs48_14, n48_14, h⟩ := lpw4_use h
              have kT48_14 : ∀ (n : Nat) (x2_11 : Int32) (x3_12 : Int32) (s_cost_13 : Nat → Int32) (s_steps_14 : Nat → Int32) (H : Heap) (locs : List Loc) (ls : Array Slot), T48_14 n x2_11 x3_12 s_cost_13 s_steps_14 → va_P D vwCl (Wd_Mo_layCosts cy a_this a_cost a_row a_steps a_isKept a_refused a_text a_words a_mates a_bestMates a_comes s_above s_below s_length s_at s_behind s_readFlitches s_readFamilies s_doing s_cost_13 s_row s_steps_14) H → va_D A (Wd_Mo_layCosts cy a_this a_cost a_row a_steps a_isKept a_refused a_text a_words a_mates a_bestMates a_comes s_above s_below s_length s_at s_behind s_readFlitches s_readFamilies s_doing s_cost_13 s_row s_steps_14) → va_S A s.heap H locs → lv_has ls 4 [(0, .ref a_this), (2, .int x2_11), (3, .int x3_12)] → W p l e rm_Mo_layCosts s m args below meth c H locs 0 0 QQ (F0 m 48 ls []) := by
                intro n
                induction n with
                | zero => intro x2_11 x3_12 s_cost_13 s_steps_14 H locs ls h; exact absurd h (hz48_14 _ _ _ _)
                | succ n ih48_14 =>
                  intro x2_11 x3_12 s_cost_13 s_steps_14 H locs ls h hP hD hS hl
                  have h := hs48_14 _ _ _ _ _ h
                  refine lv_iload_n hx hb dX9_layCosts_48 rfl (lv_at hl 2 rfl) ?_
                  refine lv_bipush (v := 25) hx hb dX9_layCosts_49 (by decide) ?_
                  refine lv_icmp_ge (tgt := 78) hx hb dX9_layCosts_51 (by decide) (fun c_16 => ?_) (fun c_16 => ?_)
                  · have h := h.1 c_16
                    refine lv_goto (tgt := 40) hx hb dX9_layCosts_78 (by decide) ?_
                    exact ih40_8 _ _ _ _ _ _ h hP hD hS (lv_sub hl [0, 1] rfl)
                  · have h := h.2 c_16
                    refine lv_aload_n hx hb dX9_layCosts_54 rfl (lv_at hl 0 rfl) ?_
                    refine lv_iload_n hx hb dX9_layCosts_55 rfl (lv_at hl 2 rfl) ?_
                    refine st_callI (WR := []) (WSn := fun u => (Wd_Mo_layCosts cy a_this a_cost a_row a_steps a_isKept a_refused a_text a_words a_mates a_bestMates a_comes s_above s_below s_length s_at s_behind s_readFlitches s_readFamilies s_doing u.1 s_row u.2)) (st_runV (n := 1) (As := [.int x3_12]) (rest := []) (q0 := 0) F ((co_Mo_comesCheaper l D cy a_this a_cost a_row a_steps a_isKept a_refused a_text a_words a_mates a_bestMates a_comes s_above s_below s_length s_at s_behind s_readFlitches s_readFamilies s_doing s_cost_13 s_row s_steps_14 x3_12 _ h) _) rfl gX9_layCosts_X9_comesCheaper rfl (by decide +kernel) rfl hKK hP hD [0, 1, 2, 3] rfl rfl rfl rfl rfl hl.1 rfl (Nat.le_of_ble_eq_true rfl) dX9_layCosts_56) hP hD hS hA [0, 1, 2, 3] [] [0, 1, 2, 3] rfl rfl rfl (fun _ => rfl) (fun r_17 u H locs h hP hD hS => ?_)
                    obtain ⟨s_cost_18, s_steps_19⟩ := u
                    dsimp only at h hP hD
                    have hP : va_P D vwCl (Wd_Mo_layCosts cy a_this a_cost a_row a_steps a_isKept a_refused a_text a_words a_mates a_bestMates a_comes s_above s_below s_length s_at s_behind s_readFlitches s_readFamilies s_doing s_cost_18 s_row s_steps_19) H := hP
                    have hD : va_D A (Wd_Mo_layCosts cy a_this a_cost a_row a_steps a_isKept a_refused a_text a_words a_mates a_bestMates a_comes s_above s_below s_length s_at s_behind s_readFlitches s_readFamilies s_doing s_cost_18 s_row s_steps_19) := hD
                    obtain ⟨J71, hJ71, h⟩ := jn1_ex h
                    have kJ71_20 : ∀ (v_20 : Int32) (H : Heap) (locs : List Loc) (ls : Array Slot), J71 v_20 → va_P D vwCl (Wd_Mo_layCosts cy a_this a_cost a_row a_steps a_isKept a_refused a_text a_words a_mates a_bestMates a_comes s_above s_below s_length s_at s_behind s_readFlitches s_readFamilies s_doing s_cost_18 s_row s_steps_19) H → va_D A (Wd_Mo_layCosts cy a_this a_cost a_row a_steps a_isKept a_refused a_text a_words a_mates a_bestMates a_comes s_above s_below s_length s_at s_behind s_readFlitches s_readFamilies s_doing s_cost_18 s_row s_steps_19) → va_S A s.heap H locs → lv_has ls 4 [(0, .ref a_this), (3, .int x3_12)] → W p l e rm_Mo_layCosts s m args below meth c H locs 0 0 QQ (F0 m 71 ls [.int v_20]) := by
                      intro v_20 H locs ls h hP hD hS hl
                      have h := hJ71 _ h
                      refine lv_istore_n (lv' := [(2, .int v_20), (0, .ref a_this), (3, .int x3_12)]) hx hb dX9_layCosts_71 rfl hl (by decide) rfl (fun ls hl => ?_)
                      obtain ⟨x3_22, ex3_22⟩ : ∃ y : Int32, y = x3_12 + 1 := ⟨_, rfl⟩
                      have h := h x3_22 ex3_22
                      refine lv_iinc (v := x3_22) (lv' := [(3, .int x3_22), (2, .int v_20), (0, .ref a_this)]) hx hb dX9_layCosts_72 hl (k := 2) rfl (by rw [ex3_22]; rfl) (by decide) rfl (fun ls hl => ?_)
                      refine lv_goto (tgt := 48) hx hb dX9_layCosts_75 (by decide) ?_
                      exact ih48_14 _ _ _ _ _ _ _ h hP hD hS (lv_sub hl [2, 1, 0] rfl)
                    obtain ⟨J66, hJ66, h⟩ := jn0_ex h
                    have kJ66_22 : ∀  (H : Heap) (locs : List Loc) (ls : Array Slot), J66 → va_P D vwCl (Wd_Mo_layCosts cy a_this a_cost a_row a_steps a_isKept a_refused a_text a_words a_mates a_bestMates a_comes s_above s_below s_length s_at s_behind s_readFlitches s_readFamilies s_doing s_cost_18 s_row s_steps_19) H → va_D A (Wd_Mo_layCosts cy a_this a_cost a_row a_steps a_isKept a_refused a_text a_words a_mates a_bestMates a_comes s_above s_below s_length s_at s_behind s_readFlitches s_readFamilies s_doing s_cost_18 s_row s_steps_19) → va_S A s.heap H locs → lv_has ls 4 [(0, .ref a_this), (3, .int x3_12)] → W p l e rm_Mo_layCosts s m args below meth c H locs 0 0 QQ (F0 m 66 ls []) := by
                      intro  H locs ls h hP hD hS hl
                      have h := hJ66  h
                      refine lv_iconst (v := 1) hx hb dX9_layCosts_66 (by decide) ?_
                      refine lv_goto (tgt := 71) hx hb dX9_layCosts_67 (by decide) ?_
                      exact kJ71_20 _ _ _ _ h hP hD hS (lv_sub hl [0, 1] rfl)
                    refine lv_if_ne (tgt := 66) hx hb dX9_layCosts_59 (by decide) (fun c_24 => ?_) (fun c_24 => ?_)
                    · have h := h.1 c_24
                      exact kJ66_22  _ _ _ h hP hD hS (lv_sub hl [0, 2] rfl)
                    · have h := h.2 c_24
                      refine lv_iload_n hx hb dX9_layCosts_62 rfl (lv_at hl 1 rfl) ?_
                      refine lv_if_eq (tgt := 70) hx hb dX9_layCosts_63 (by decide) (fun c_25 => ?_) (fun c_25 => ?_)
                      · have h := h.1 c_25
                        refine lv_iconst (v := 0) hx hb dX9_layCosts_70 (by decide) ?_
                        exact kJ71_20 _ _ _ _ h hP hD hS (lv_sub hl [0, 2] rfl)
                      · have h := h.2 c_25
                        exact kJ66_22  _ _ _ h hP hD hS (lv_sub hl [0, 2] rfl)
              exact kT48_14 n48_14 _ _ _ _ _ _ _ h hP hD hS (lv_sub hl [2, 1, 0] rfl)
        exact kT40_8 n40_8 _ _ _ _ _ _ h hP hD hS (lv_sub hl [1, 0] rfl)
      · have h := h.2 c_5
        refine lv_aload_n hx hb dX9_layCosts_8 rfl (lv_at hl 0 rfl) ?_
        refine va_get (D := D) (ci := 8) (v := .ref a_cost) (C := RX9) (T := TX9) (N := 18) hx hb hts in_X9 hown hK hP 0 rfl rfl 13 (by decide) fl_30 (fun _ h9 => h9) rfl dX9_layCosts_9 ?_
        refine lv_iload_n hx hb dX9_layCosts_12 rfl (lv_at hl 2 rfl) ?_
        refine lv_iload_n hx hb dX9_layCosts_13 rfl (lv_at hl 2 rfl) ?_
        refine lv_iload_n hx hb dX9_layCosts_14 rfl (lv_at hl 1 rfl) ?_
        obtain ⟨J24, hJ24, h⟩ := jn1_ex h
        have kJ24_26 : ∀ (v_26 : Int32) (H : Heap) (locs : List Loc) (ls : Array Slot), J24 v_26 → va_P D vwCl (Wd_Mo_layCosts cy a_this a_cost a_row a_steps a_isKept a_refused a_text a_words a_mates a_bestMates a_comes s_above s_below s_length s_at s_behind s_readFlitches s_readFamilies s_doing s_cost_2 s_row s_steps_3) H → va_D A (Wd_Mo_layCosts cy a_this a_cost a_row a_steps a_isKept a_refused a_text a_words a_mates a_bestMates a_comes s_above s_below s_length s_at s_behind s_readFlitches s_readFamilies s_doing s_cost_2 s_row s_steps_3) → va_S A s.heap H locs → lv_has ls 4 [(0, .ref a_this), (1, .int x1), (2, .int x2_1)] → W p l e rm_Mo_layCosts s m args below meth c H locs 0 0 QQ (F0 m 24 ls [.int v_26, .int x2_1, .ref a_cost]) := by
          intro v_26 H locs ls h hP hD hS hl
          have h := hJ24 _ h
          obtain ⟨hi_28, h⟩ := h
          refine va_iast hx hb hK hP hD hS 1 1 rfl rfl hi_28 dX9_layCosts_24 (fun H locs hP hD hS => ?_)
          obtain ⟨s_cost_29, es_cost_29⟩ : ∃ f : Nat → Int32, f = upd s_cost_2 (Int32.toNatClampNeg x2_1) v_26 := ⟨_, rfl⟩
          have hP : va_P D vwCl (Wd_Mo_layCosts cy a_this a_cost a_row a_steps a_isKept a_refused a_text a_words a_mates a_bestMates a_comes s_above s_below s_length s_at s_behind s_readFlitches s_readFamilies s_doing s_cost_29 s_row s_steps_3) H := by rw [es_cost_29]; exact hP
          have hD : va_D A (Wd_Mo_layCosts cy a_this a_cost a_row a_steps a_isKept a_refused a_text a_words a_mates a_bestMates a_comes s_above s_below s_length s_at s_behind s_readFlitches s_readFamilies s_doing s_cost_29 s_row s_steps_3) := by rw [es_cost_29]; exact hD
          have h := h s_cost_29 es_cost_29
          refine lv_aload_n hx hb dX9_layCosts_25 rfl (lv_at hl 0 rfl) ?_
          refine va_get (D := D) (ci := 8) (v := .ref a_steps) (C := RX9) (T := TX9) (N := 18) hx hb hts in_X9 hown hK hP 0 rfl rfl 14 (by decide) fl_33 (fun _ h9 => h9) rfl dX9_layCosts_26 ?_
          refine lv_iload_n hx hb dX9_layCosts_29 rfl (lv_at hl 2 rfl) ?_
          refine lv_iconst (v := 0) hx hb dX9_layCosts_30 (by decide) ?_
          obtain ⟨hi_30, h⟩ := h
          refine va_iast hx hb hK hP hD hS 3 1 rfl rfl hi_30 dX9_layCosts_31 (fun H locs hP hD hS => ?_)
          obtain ⟨s_steps_31, es_steps_31⟩ : ∃ f : Nat → Int32, f = upd s_steps_3 (Int32.toNatClampNeg x2_1) 0 := ⟨_, rfl⟩
          have hP : va_P D vwCl (Wd_Mo_layCosts cy a_this a_cost a_row a_steps a_isKept a_refused a_text a_words a_mates a_bestMates a_comes s_above s_below s_length s_at s_behind s_readFlitches s_readFamilies s_doing s_cost_29 s_row s_steps_31) H := by rw [es_steps_31]; exact hP
          have hD : va_D A (Wd_Mo_layCosts cy a_this a_cost a_row a_steps a_isKept a_refused a_text a_words a_mates a_bestMates a_comes s_above s_below s_length s_at s_behind s_readFlitches s_readFamilies s_doing s_cost_29 s_row s_steps_31) := by rw [es_steps_31]; exact hD
          have h := h s_steps_31 es_steps_31
          obtain ⟨x2_32, ex2_32⟩ : ∃ y : Int32, y = x2_1 + 1 := ⟨_, rfl⟩
          have h := h x2_32 ex2_32
          refine lv_iinc (v := x2_32) (lv' := [(2, .int x2_32), (0, .ref a_this), (1, .int x1)]) hx hb dX9_layCosts_32 hl (k := 2) rfl (by rw [ex2_32]; rfl) (by decide) rfl (fun ls hl => ?_)
          refine lv_goto (tgt := 2) hx hb dX9_layCosts_35 (by decide) ?_
          exact ih2_3 _ _ _ _ _ _ h hP hD hS (lv_sub hl [1, 2, 0] rfl)
        refine lv_icmp_ne (tgt := 22) hx hb dX9_layCosts_15 (by decide) (fun c_33 => ?_) (fun c_33 => ?_)
        · have h := h.1 c_33
          refine lv_ldc (v := 99999) hx hb hown (hts (.constant RX9 178 (99999)) (List.mem_of_getElem? (i := 2) rfl)) dX9_layCosts_22 ?_
          exact kJ24_26 _ _ _ _ h hP hD hS (lv_sub hl [0, 1, 2] rfl)
        · have h := h.2 c_33
          refine lv_iconst (v := 0) hx hb dX9_layCosts_18 (by decide) ?_
          refine lv_goto (tgt := 24) hx hb dX9_layCosts_19 (by decide) ?_
          exact kJ24_26 _ _ _ _ h hP hD hS (lv_sub hl [0, 1, 2] rfl)
  exact kT2_3 n2_3 _ _ _ _ _ _ h hP hD hS (lv_sub hl [1, 2, 0] rfl)
abbrev Wd_Mo_nextOnWay (cy : ClassId × ClassId × ClassId × ClassId) (a_this a_cost a_row a_steps a_isKept a_refused a_text a_words a_mates a_bestMates a_comes : Nat) (s_above : Int64) (s_below : Int64) (s_length : Int32) (s_at : Int32) (s_behind : Int32) (s_readFlitches : Int32) (s_readFamilies : Int32) (s_doing : Int32) (s_cost : Nat → Int32) (s_row : Nat → Int32) (s_steps : Nat → Int32) : va_W := [(a_this, .inr (8, [.ref a_row, .ref a_isKept, .ref a_refused, .long s_above, .long s_below, .ref a_text, .int s_length, .ref a_words, .int s_at, .int s_behind, .int s_readFlitches, .int s_readFamilies, .int s_doing, .ref a_cost, .ref a_steps, .ref a_mates, .ref a_bestMates, .ref a_comes])), (a_cost, .inl (cy.2.1, 25, .inl s_cost)), (a_row, .inl (cy.2.1, 770, .inl s_row)), (a_steps, .inl (cy.2.1, 25, .inl s_steps))]
abbrev rm_Mo_nextOnWay : Room := { frames := 3, cells := 0, slots := 0, locals := 67 }
def wp_Mo_nextOnWay (x1 : Int32) (s_cost : Nat → Int32) (s_row : Nat → Int32) (s_steps : Nat → Int32) (Q : Int32 → Prop) : Prop := ∃ n : Nat, lpw1 (fun (B2 : Int32 → Prop) (x2_1 : Int32) => ((4 ≤ x2_1 → Q (-1)) ∧ (¬ 4 ≤ x2_1 → wp_Mo_beside x1 x2_1 (fun (r_4 : Int32) => jn0 (fun (J72 : Prop) => ((r_4 = (-1) → J72) ∧ (¬ r_4 = (-1) → vp_in r_4 25 ∧ wp_Mo_smellOf (s_row (Int32.toNatClampNeg 15)) r_4 (s_row (Int32.toNatClampNeg 16)) s_row (fun (r_9 : Int32) => vp_in x1 25 ∧ ((¬ ((s_cost (Int32.toNatClampNeg r_4)) + r_9) = (s_cost (Int32.toNatClampNeg x1)) → J72) ∧ (((s_cost (Int32.toNatClampNeg r_4)) + r_9) = (s_cost (Int32.toNatClampNeg x1)) → vp_in r_4 25 ∧ vp_in x1 25 ∧ ((¬ ((s_steps (Int32.toNatClampNeg r_4)) + 1) = (s_steps (Int32.toNatClampNeg x1)) → J72) ∧ (((s_steps (Int32.toNatClampNeg r_4)) + 1) = (s_steps (Int32.toNatClampNeg x1)) → Q r_4)))))))) (∀ x2_6 : Int32, x2_6 = x2_1 + 1 → B2 x2_6))))) n 0
set_option maxHeartbeats 4000000 in
set_option maxRecDepth 100000 in
theorem co_Mo_nextOnWay (l : Launch) (D : va_G) (cy : ClassId × ClassId × ClassId × ClassId) (a_this a_cost a_row a_steps a_isKept a_refused a_text a_words a_mates a_bestMates a_comes : Nat) (s_above : Int64) (s_below : Int64) (s_length : Int32) (s_at : Int32) (s_behind : Int32) (s_readFlitches : Int32) (s_readFamilies : Int32) (s_doing : Int32) (s_cost : Nat → Int32) (s_row : Nat → Int32) (s_steps : Nat → Int32) (x1 : Int32) (Q : Int32 → Prop) (h : wp_Mo_nextOnWay x1 s_cost s_row s_steps Q) : RoI l yX9_nextOnWay wsX9_nextOnWay rm_Mo_nextOnWay D cy [.ref a_this, .int x1] (Wd_Mo_nextOnWay cy a_this a_cost a_row a_steps a_isKept a_refused a_text a_words a_mates a_bestMates a_comes s_above s_below s_length s_at s_behind s_readFlitches s_readFamilies s_doing s_cost s_row s_steps) Q := by
  refine st_metRI (cc := cX9_nextOnWay) (maxL := 4) RX9 (by decide) rfl rfl (Nat.le_of_ble_eq_true rfl) ?_
  intro p e s m args below meth c QQ ls F hKK hP hl hret
  have hK := hKK.1
  have hnest := hKK.2.1
  have hx := F.1
  have hb := F.2.1
  have hown := F.2.2.2.1
  have hts := F.2.2.2.2
  have in_X9 : ∀ w ∈ u_ws RX9 TX9 18, w ∈ wsX9_nextOnWay := (fun _ h => List.mem_cons_of_mem _ (List.mem_append_right _ h))
  have fl_7 := (hts (.fieldLink RX9 7 "RasherCaseModel" "row" "[I") (List.mem_of_getElem? (i := 2) rfl))
  have fl_30 := (hts (.fieldLink RX9 30 "RasherCaseModel" "cost" "[I") (List.mem_of_getElem? (i := 1) rfl))
  have fl_33 := (hts (.fieldLink RX9 33 "RasherCaseModel" "steps" "[I") (List.mem_of_getElem? (i := 3) rfl))
  have hl : lv_has ls 4 [(0, .ref a_this), (1, .int x1)] := hl
  unfold wp_Mo_nextOnWay at h
  refine lv_iconst (v := 0) hx hb dX9_nextOnWay_0 (by decide) ?_
  refine lv_istore_n (lv' := [(2, .int 0), (0, .ref a_this), (1, .int x1)]) hx hb dX9_nextOnWay_1 rfl hl (by decide) rfl (fun ls hl => ?_)
  obtain ⟨T2_1, hz2_1, hs2_1, n2_1, h⟩ := lpw1_use h
  have kT2_1 : ∀ (n : Nat) (x2_1 : Int32) (ls : Array Slot), T2_1 n x2_1 → lv_has ls 4 [(0, .ref a_this), (1, .int x1), (2, .int x2_1)] → W p l e rm_Mo_nextOnWay s m args below meth c s.heap [] 0 0 QQ (F0 m 2 ls []) := by
    intro n
    induction n with
    | zero => intro x2_1 ls h; exact absurd h (hz2_1 _)
    | succ n ih2_1 =>
      intro x2_1 ls h hl
      have h := hs2_1 _ _ h
      refine lv_iload_n hx hb dX9_nextOnWay_2 rfl (lv_at hl 2 rfl) ?_
      refine lv_iconst (v := 4) hx hb dX9_nextOnWay_3 (by decide) ?_
      refine lv_icmp_ge (tgt := 78) hx hb dX9_nextOnWay_4 (by decide) (fun c_3 => ?_) (fun c_3 => ?_)
      · have h := h.1 c_3
        refine lv_iconst (v := (-1)) hx hb dX9_nextOnWay_78 (by decide) ?_
        exact hret _ _ _ h dX9_nextOnWay_79
      · have h := h.2 c_3
        refine lv_iload_n hx hb dX9_nextOnWay_7 rfl (lv_at hl 1 rfl) ?_
        refine lv_iload_n hx hb dX9_nextOnWay_8 rfl (lv_at hl 2 rfl) ?_
        refine st_callRI (st_runSR (n := 2) (As := [.int x1, .int x2_1]) (rest := []) F (co_Mo_beside l D cy x1 x2_1 _ h) gX9_nextOnWay_X9_beside rfl (by decide +kernel) rfl hKK hP [] rfl rfl hl.1 rfl (Nat.le_of_ble_eq_true rfl) dX9_nextOnWay_9) (fun r_4 h => ?_)
        refine lv_istore_n (lv' := [(3, .int r_4), (0, .ref a_this), (1, .int x1), (2, .int x2_1)]) hx hb dX9_nextOnWay_12 rfl hl (by decide) rfl (fun ls hl => ?_)
        refine lv_iload_n hx hb dX9_nextOnWay_13 rfl (lv_at hl 0 rfl) ?_
        refine lv_iconst (v := (-1)) hx hb dX9_nextOnWay_14 (by decide) ?_
        obtain ⟨J72, hJ72, h⟩ := jn0_ex h
        have kJ72_4 : ∀  (ls : Array Slot), J72 → lv_has ls 4 [(0, .ref a_this), (1, .int x1), (2, .int x2_1)] → W p l e rm_Mo_nextOnWay s m args below meth c s.heap [] 0 0 QQ (F0 m 72 ls []) := by
          intro  ls h hl
          have h := hJ72  h
          obtain ⟨x2_6, ex2_6⟩ : ∃ y : Int32, y = x2_1 + 1 := ⟨_, rfl⟩
          have h := h x2_6 ex2_6
          refine lv_iinc (v := x2_6) (lv' := [(2, .int x2_6), (0, .ref a_this), (1, .int x1)]) hx hb dX9_nextOnWay_72 hl (k := 2) rfl (by rw [ex2_6]; rfl) (by decide) rfl (fun ls hl => ?_)
          refine lv_goto (tgt := 2) hx hb dX9_nextOnWay_75 (by decide) ?_
          exact ih2_1 _ _ h (lv_sub hl [1, 2, 0] rfl)
        refine lv_icmp_eq (tgt := 72) hx hb dX9_nextOnWay_15 (by decide) (fun c_7 => ?_) (fun c_7 => ?_)
        · have h := h.1 c_7
          exact kJ72_4  _ h (lv_sub hl [1, 2, 3] rfl)
        · have h := h.2 c_7
          refine lv_aload_n hx hb dX9_nextOnWay_18 rfl (lv_at hl 1 rfl) ?_
          refine va_get (D := D) (ci := 8) (v := .ref a_cost) (C := RX9) (T := TX9) (N := 18) hx hb hts in_X9 hown hK hP 0 rfl rfl 13 (by decide) fl_30 (fun _ h9 => h9) rfl dX9_nextOnWay_19 ?_
          refine lv_iload_n hx hb dX9_nextOnWay_22 rfl (lv_at hl 0 rfl) ?_
          obtain ⟨hi_8, h⟩ := h
          refine va_iald hx hb hK hP 1 1 rfl rfl hi_8 dX9_nextOnWay_23 ?_
          refine lv_aload_n hx hb dX9_nextOnWay_24 rfl (lv_at hl 1 rfl) ?_
          refine lv_aload_n hx hb dX9_nextOnWay_25 rfl (lv_at hl 1 rfl) ?_
          refine va_get (D := D) (ci := 8) (v := .ref a_row) (C := RX9) (T := TX9) (N := 18) hx hb hts in_X9 hown hK hP 0 rfl rfl 0 (by decide) fl_7 (fun _ h9 => h9) rfl dX9_nextOnWay_26 ?_
          refine lv_bipush (v := 15) hx hb dX9_nextOnWay_29 (by decide) ?_
          refine va_iald hx hb hK hP 2 1 rfl rfl (by unfold vp_in; decide) dX9_nextOnWay_31 ?_
          refine lv_iload_n hx hb dX9_nextOnWay_32 rfl (lv_at hl 0 rfl) ?_
          refine lv_aload_n hx hb dX9_nextOnWay_33 rfl (lv_at hl 1 rfl) ?_
          refine va_get (D := D) (ci := 8) (v := .ref a_row) (C := RX9) (T := TX9) (N := 18) hx hb hts in_X9 hown hK hP 0 rfl rfl 0 (by decide) fl_7 (fun _ h9 => h9) rfl dX9_nextOnWay_34 ?_
          refine lv_bipush (v := 16) hx hb dX9_nextOnWay_37 (by decide) ?_
          refine va_iald hx hb hK hP 2 1 rfl rfl (by unfold vp_in; decide) dX9_nextOnWay_39 ?_
          refine st_callRI (st_runVR (n := 3) (As := [.int (s_row (Int32.toNatClampNeg 15)), .int r_4, .int (s_row (Int32.toNatClampNeg 16))]) (rest := [.int (s_cost (Int32.toNatClampNeg r_4))]) (q0 := 0) F (co_Mo_smellOf l D cy a_this a_row a_isKept a_refused a_text a_words a_cost a_steps a_mates a_bestMates a_comes s_above s_below s_length s_at s_behind s_readFlitches s_readFamilies s_doing s_row (s_row (Int32.toNatClampNeg 15)) r_4 (s_row (Int32.toNatClampNeg 16)) _ h) gX9_nextOnWay_X9_smellOf rfl (by decide +kernel) rfl hKK hP [0, 2] rfl rfl rfl rfl hl.1 rfl (Nat.le_of_ble_eq_true rfl) dX9_nextOnWay_40) (fun r_9 h => ?_)
          refine lv_iadd hx hb dX9_nextOnWay_43 ?_
          refine lv_aload_n hx hb dX9_nextOnWay_44 rfl (lv_at hl 1 rfl) ?_
          refine va_get (D := D) (ci := 8) (v := .ref a_cost) (C := RX9) (T := TX9) (N := 18) hx hb hts in_X9 hown hK hP 0 rfl rfl 13 (by decide) fl_30 (fun _ h9 => h9) rfl dX9_nextOnWay_45 ?_
          refine lv_iload_n hx hb dX9_nextOnWay_48 rfl (lv_at hl 2 rfl) ?_
          obtain ⟨hi_10, h⟩ := h
          refine va_iald hx hb hK hP 1 1 rfl rfl hi_10 dX9_nextOnWay_49 ?_
          refine lv_icmp_ne (tgt := 72) hx hb dX9_nextOnWay_50 (by decide) (fun c_11 => ?_) (fun c_11 => ?_)
          · have h := h.1 c_11
            exact kJ72_4  _ h (lv_sub hl [1, 2, 3] rfl)
          · have h := h.2 c_11
            refine lv_aload_n hx hb dX9_nextOnWay_53 rfl (lv_at hl 1 rfl) ?_
            refine va_get (D := D) (ci := 8) (v := .ref a_steps) (C := RX9) (T := TX9) (N := 18) hx hb hts in_X9 hown hK hP 0 rfl rfl 14 (by decide) fl_33 (fun _ h9 => h9) rfl dX9_nextOnWay_54 ?_
            refine lv_iload_n hx hb dX9_nextOnWay_57 rfl (lv_at hl 0 rfl) ?_
            obtain ⟨hi_12, h⟩ := h
            refine va_iald hx hb hK hP 3 1 rfl rfl hi_12 dX9_nextOnWay_58 ?_
            refine lv_iconst (v := 1) hx hb dX9_nextOnWay_59 (by decide) ?_
            refine lv_iadd hx hb dX9_nextOnWay_60 ?_
            refine lv_aload_n hx hb dX9_nextOnWay_61 rfl (lv_at hl 1 rfl) ?_
            refine va_get (D := D) (ci := 8) (v := .ref a_steps) (C := RX9) (T := TX9) (N := 18) hx hb hts in_X9 hown hK hP 0 rfl rfl 14 (by decide) fl_33 (fun _ h9 => h9) rfl dX9_nextOnWay_62 ?_
            refine lv_iload_n hx hb dX9_nextOnWay_65 rfl (lv_at hl 2 rfl) ?_
            obtain ⟨hi_13, h⟩ := h
            refine va_iald hx hb hK hP 3 1 rfl rfl hi_13 dX9_nextOnWay_66 ?_
            refine lv_icmp_ne (tgt := 72) hx hb dX9_nextOnWay_67 (by decide) (fun c_14 => ?_) (fun c_14 => ?_)
            · have h := h.1 c_14
              exact kJ72_4  _ h (lv_sub hl [1, 2, 3] rfl)
            · have h := h.2 c_14
              refine lv_iload_n hx hb dX9_nextOnWay_70 rfl (lv_at hl 0 rfl) ?_
              exact hret _ _ _ h dX9_nextOnWay_71
  exact kT2_1 n2_1 _ _ h (lv_sub hl [1, 2, 0] rfl)
