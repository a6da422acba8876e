abbrev Wd_Mo_readItems (cy : ClassId × ClassId × ClassId × ClassId) (a_this a_row a_text a_words a_isKept a_refused a_cost a_steps a_mates a_bestMates a_comes : Nat) (s_above : Int64) (s_below : Int64) (s_length : Int32) (s_at : Int32) (s_behind : Int32) (s_readFlitches : Int32) (s_readFamilies : Int32) (s_doing : Int32) (s_row : Nat → Int32) (s_text : Nat → Int32) (s_words : Nat → Int32) : va_W := [(a_this, .inr (8, [.ref a_row, .ref a_isKept, .ref a_refused, .long s_above, .long s_below, .ref a_text, .int s_length, .ref a_words, .int s_at, .int s_behind, .int s_readFlitches, .int s_readFamilies, .int s_doing, .ref a_cost, .ref a_steps, .ref a_mates, .ref a_bestMates, .ref a_comes])), (a_row, .inl (cy.2.1, 770, .inl s_row)), (a_text, .inl (cy.2.1, 150, .inl s_text)), (a_words, .inl (cy.2.1, 30, .inl s_words))]
abbrev rm_Mo_readItems : Room := { frames := 6, cells := 0, slots := 0, locals := 137 }
def wp_Mo_readItems (x1 : Int32) (s_length : Int32) (s_at : Int32) (s_behind : Int32) (s_readFlitches : Int32) (s_readFamilies : Int32) (s_doing : Int32) (s_row : Nat → Int32) (s_text : Nat → Int32) (s_words : Nat → Int32) (Q : Int32 → Int32 → Int32 → Int32 → Int32 → Int32 → (Nat → Int32) → Prop) : Prop := bz x1 ∧ wp_Mo_next s_length s_at 0 s_text (fun (s_at_3 : Int32) (s_behind_4 : Int32) => ∃ n : Nat, lpw6 (fun (B26 : Int32 → Int32 → Int32 → Int32 → Int32 → (Nat → Int32) → Prop) (x2_5 : Int32) (s_at_6 : Int32) (s_behind_7 : Int32) (s_readFlitches_8 : Int32) (s_readFamilies_9 : Int32) (s_row_10 : Nat → Int32) => jn0 (fun (J41 : Prop) => ((x2_5 = 0 → J41) ∧ (¬ x2_5 = 0 → ((s_length ≤ s_at_6 → Q x2_5 s_at_6 s_behind_7 s_readFlitches_8 s_readFamilies_9 x1 s_row_10) ∧ (¬ s_length ≤ s_at_6 → J41))))) (wp_Mo_wordHere s_length s_at_6 s_behind_7 s_text s_words (fun (r_13 : Int32) => ((r_13 = (-1) → Q (-1) s_at_6 s_behind_7 s_readFlitches_8 s_readFamilies_9 x1 s_row_10) ∧ (¬ r_13 = (-1) → jn1 (fun (J60 : Int32 → Prop) => ((¬ r_13 = 0 → J60 0) ∧ (r_13 = 0 → J60 1))) (fun (v_15 : Int32) => jn1 (fun (J69 : Int32 → Prop) => ((¬ x2_5 = 0 → J69 0) ∧ (x2_5 = 0 → J69 1))) (fun (v_17 : Int32) => ((¬ v_15 = v_17 → Q (-1) s_at_6 s_behind_7 s_readFlitches_8 s_readFamilies_9 x1 s_row_10) ∧ (v_15 = v_17 → wp_Mo_readsItem r_13 s_length s_at_6 s_behind_7 s_readFlitches_8 s_readFamilies_9 x1 s_row_10 s_text (fun (r_20 : Int32) (s_at_21 : Int32) (s_behind_22 : Int32) (s_readFlitches_23 : Int32) (s_readFamilies_24 : Int32) (s_row_25 : Nat → Int32) => ((¬ r_20 = 0 → wp_Mo_next s_length s_at_21 s_behind_22 s_text (fun (s_at_28 : Int32) (s_behind_29 : Int32) => ((s_at_28 = s_length → Q (-1) s_at_28 s_behind_29 s_readFlitches_23 s_readFamilies_24 x1 s_row_25) ∧ (¬ s_at_28 = s_length → vp_in s_at_28 150 ∧ (((s_text (Int32.toNatClampNeg s_at_28)) = 59 → ∀ x2_33 : Int32, x2_33 = x2_5 + 1 → wp_Mo_next s_length s_at_28 s_behind_29 s_text (fun (s_at_35 : Int32) (s_behind_36 : Int32) => B26 x2_33 s_at_35 s_behind_36 s_readFlitches_23 s_readFamilies_24 s_row_25)) ∧ (¬ (s_text (Int32.toNatClampNeg s_at_28)) = 59 → Q (-1) s_at_28 s_behind_29 s_readFlitches_23 s_readFamilies_24 x1 s_row_25)))))) ∧ (r_20 = 0 → Q (-1) s_at_21 s_behind_22 s_readFlitches_23 s_readFamilies_24 x1 s_row_25)))))))))))) n 0 s_at_3 s_behind_4 0 0 s_row)
set_option maxHeartbeats 4000000 in
set_option maxRecDepth 100000 in
theorem co_Mo_readItems (l : Launch) (D : va_G) (cy : ClassId × ClassId × ClassId × ClassId) (a_this a_row a_text a_words a_isKept a_refused a_cost a_steps a_mates a_bestMates a_comes : Nat) (s_above : Int64) (s_below : Int64) (s_length : Int32) (s_at : Int32) (s_behind : Int32) (s_readFlitches : Int32) (s_readFamilies : Int32) (s_doing : Int32) (s_row : Nat → Int32) (s_text : Nat → Int32) (s_words : Nat → Int32) (x1 : Int32) (Q : Int32 → Int32 → Int32 → Int32 → Int32 → Int32 → (Nat → Int32) → Prop) (h : wp_Mo_readItems x1 s_length s_at s_behind s_readFlitches s_readFamilies s_doing s_row s_text s_words Q) : CoI l yX9_readItems wsX9_readItems rm_Mo_readItems D cy [.ref a_this, .int x1] (Wd_Mo_readItems cy a_this a_row a_text a_words a_isKept a_refused a_cost a_steps a_mates a_bestMates a_comes s_above s_below s_length s_at s_behind s_readFlitches s_readFamilies s_doing s_row s_text s_words) (fun u : Int32 × Int32 × Int32 × Int32 × Int32 × (Nat → Int32) => (Wd_Mo_readItems cy a_this a_row a_text a_words a_isKept a_refused a_cost a_steps a_mates a_bestMates a_comes s_above s_below s_length u.1 u.2.1 u.2.2.1 u.2.2.2.1 u.2.2.2.2.1 u.2.2.2.2.2 s_text s_words)) (fun (r : Int32) (u : Int32 × Int32 × Int32 × Int32 × Int32 × (Nat → Int32)) => Q r u.1 u.2.1 u.2.2.1 u.2.2.2.1 u.2.2.2.2.1 u.2.2.2.2.2) := by
  refine st_metI (cc := cX9_readItems) (maxL := 4) RX9 (by decide) rfl rfl (Nat.le_of_ble_eq_true rfl) ?_
  intro p e s m args below meth c A QQ ls F hA hKK hP hD hS hl hret
  have hK := hKK.1
  have hnest := hKK.2.1
  have hx := F.1
  have hb := F.2.1
  have hown := F.2.2.2.1
  have hts := F.2.2.2.2
  have in_X9 : ∀ w ∈ u_ws RX9 TX9 18, w ∈ wsX9_readItems := (fun _ h => List.mem_cons_of_mem _ (List.mem_append_right _ h))
  have fl_24 := (hts (.fieldLink RX9 24 "RasherCaseModel" "text" "[I") (List.mem_of_getElem? (i := 7) rfl))
  have fl_64 := (hts (.fieldLink RX9 64 "RasherCaseModel" "length" "I") (List.mem_of_getElem? (i := 6) rfl))
  have fl_68 := (hts (.fieldLink RX9 68 "RasherCaseModel" "behind" "I") (List.mem_of_getElem? (i := 2) rfl))
  have fl_71 := (hts (.fieldLink RX9 71 "RasherCaseModel" "at" "I") (List.mem_of_getElem? (i := 5) rfl))
  have fl_87 := (hts (.fieldLink RX9 87 "RasherCaseModel" "readFlitches" "I") (List.mem_of_getElem? (i := 3) rfl))
  have fl_94 := (hts (.fieldLink RX9 94 "RasherCaseModel" "doing" "Z") (List.mem_of_getElem? (i := 1) rfl))
  have fl_98 := (hts (.fieldLink RX9 98 "RasherCaseModel" "readFamilies" "I") (List.mem_of_getElem? (i := 4) rfl))
  have hl : lv_has ls 4 [(0, .ref a_this), (1, .int x1)] := hl
  unfold wp_Mo_readItems at h
  refine lv_aload_n hx hb dX9_readItems_0 rfl (lv_at hl 0 rfl) ?_
  refine lv_iload_n hx hb dX9_readItems_1 rfl (lv_at hl 1 rfl) ?_
  obtain ⟨hz_1, h⟩ := h
  refine va_put (D := D) (ci := 8) (v := .int x1) (ty := .boolean) (C := RX9) (T := TX9) (N := 18) hx hb hts in_X9 tyX9 tyX9_ok nmX9 hown hK hP hD hS 0 rfl rfl 12 (by decide) fl_94 (fun _ h9 => h9) rfl (tyX9_ok 12 (by decide)) (bz_nar hz_1) (bz_fit hz_1) (Nat.le_of_ble_eq_true rfl) dX9_readItems_2 (fun H locs hP hD hS => ?_)
  have hP : va_P D vwCl (Wd_Mo_readItems cy a_this a_row a_text a_words a_isKept a_refused a_cost a_steps a_mates a_bestMates a_comes s_above s_below s_length s_at s_behind s_readFlitches s_readFamilies x1 s_row s_text s_words) H := hP
  have hD : va_D A (Wd_Mo_readItems cy a_this a_row a_text a_words a_isKept a_refused a_cost a_steps a_mates a_bestMates a_comes s_above s_below s_length s_at s_behind s_readFlitches s_readFamilies x1 s_row s_text s_words) := hD
  refine lv_aload_n hx hb dX9_readItems_5 rfl (lv_at hl 0 rfl) ?_
  refine lv_iconst (v := 0) hx hb dX9_readItems_6 (by decide) ?_
  refine va_put (D := D) (ci := 8) (v := .int 0) (ty := .int) (C := RX9) (T := TX9) (N := 18) hx hb hts in_X9 tyX9 tyX9_ok nmX9 hown hK hP hD hS 0 rfl rfl 9 (by decide) fl_68 (fun _ h9 => h9) rfl (tyX9_ok 9 (by decide)) rfl rfl (Nat.le_of_ble_eq_true rfl) dX9_readItems_7 (fun H locs hP hD hS => ?_)
  have hP : va_P D vwCl (Wd_Mo_readItems cy a_this a_row a_text a_words a_isKept a_refused a_cost a_steps a_mates a_bestMates a_comes s_above s_below s_length s_at 0 s_readFlitches s_readFamilies x1 s_row s_text s_words) H := hP
  have hD : va_D A (Wd_Mo_readItems cy a_this a_row a_text a_words a_isKept a_refused a_cost a_steps a_mates a_bestMates a_comes s_above s_below s_length s_at 0 s_readFlitches s_readFamilies x1 s_row s_text s_words) := hD
  refine lv_aload_n hx hb dX9_readItems_10 rfl (lv_at hl 0 rfl) ?_
  refine lv_iconst (v := 0) hx hb dX9_readItems_11 (by decide) ?_
  refine va_put (D := D) (ci := 8) (v := .int 0) (ty := .int) (C := RX9) (T := TX9) (N := 18) hx hb hts in_X9 tyX9 tyX9_ok nmX9 hown hK hP hD hS 0 rfl rfl 10 (by decide) fl_87 (fun _ h9 => h9) rfl (tyX9_ok 10 (by decide)) rfl rfl (Nat.le_of_ble_eq_true rfl) dX9_readItems_12 (fun H locs hP hD hS => ?_)
  have hP : va_P D vwCl (Wd_Mo_readItems cy a_this a_row a_text a_words a_isKept a_refused a_cost a_steps a_mates a_bestMates a_comes s_above s_below s_length s_at 0 0 s_readFamilies x1 s_row s_text s_words) H := hP
  have hD : va_D A (Wd_Mo_readItems cy a_this a_row a_text a_words a_isKept a_refused a_cost a_steps a_mates a_bestMates a_comes s_above s_below s_length s_at 0 0 s_readFamilies x1 s_row s_text s_words) := hD
  refine lv_aload_n hx hb dX9_readItems_15 rfl (lv_at hl 0 rfl) ?_
  refine lv_iconst (v := 0) hx hb dX9_readItems_16 (by decide) ?_
  refine va_put (D := D) (ci := 8) (v := .int 0) (ty := .int) (C := RX9) (T := TX9) (N := 18) hx hb hts in_X9 tyX9 tyX9_ok nmX9 hown hK hP hD hS 0 rfl rfl 11 (by decide) fl_98 (fun _ h9 => h9) rfl (tyX9_ok 11 (by decide)) rfl rfl (Nat.le_of_ble_eq_true rfl) dX9_readItems_17 (fun H locs hP hD hS => ?_)
  have hP : va_P D vwCl (Wd_Mo_readItems cy a_this a_row a_text a_words a_isKept a_refused a_cost a_steps a_mates a_bestMates a_comes s_above s_below s_length s_at 0 0 0 x1 s_row s_text s_words) H := hP
  have hD : va_D A (Wd_Mo_readItems cy a_this a_row a_text a_words a_isKept a_refused a_cost a_steps a_mates a_bestMates a_comes s_above s_below s_length s_at 0 0 0 x1 s_row s_text s_words) := hD
  refine lv_iconst (v := 0) hx hb dX9_readItems_20 (by decide) ?_
  refine lv_istore_n (lv' := [(2, .int 0), (0, .ref a_this), (1, .int x1)]) hx hb dX9_readItems_21 rfl hl (by decide) rfl (fun ls hl => ?_)
  refine lv_aload_n hx hb dX9_readItems_22 rfl (lv_at hl 1 rfl) ?_
  refine st_callV (WR := [1, 3].filterMap (fun i => (Wd_Mo_readItems cy a_this a_row a_text a_words a_isKept a_refused a_cost a_steps a_mates a_bestMates a_comes s_above s_below s_length s_at 0 0 0 x1 s_row s_text s_words)[i]?)) (WSn := fun u => (Wd_Mo_readItems cy a_this a_row a_text a_words a_isKept a_refused a_cost a_steps a_mates a_bestMates a_comes s_above s_below s_length u.1 u.2 0 0 x1 s_row s_text s_words)) (st_runV (n := 0) (As := []) (rest := []) (q0 := 0) F ((co_Mo_next l D cy a_this a_text a_row a_isKept a_refused a_words a_cost a_steps a_mates a_bestMates a_comes s_above s_below s_length s_at 0 0 0 x1 s_text _ h) _) rfl gX9_readItems_X9_next rfl (by decide +kernel) rfl hKK hP hD [0, 2] rfl rfl rfl rfl rfl hl.1 rfl (Nat.le_of_ble_eq_true rfl) dX9_readItems_23) hP hD hS hA [0, 2] [1, 3] [2, 0, 3, 1] rfl rfl rfl (fun _ => rfl) (fun u H locs h hP hD hS => ?_)
  obtain ⟨s_at_3, s_behind_4⟩ := u
  dsimp only at h hP hD
  have hP : va_P D vwCl (Wd_Mo_readItems cy a_this a_row a_text a_words a_isKept a_refused a_cost a_steps a_mates a_bestMates a_comes s_above s_below s_length s_at_3 s_behind_4 0 0 x1 s_row s_text s_words) H := hP
  have hD : va_D A (Wd_Mo_readItems cy a_this a_row a_text a_words a_isKept a_refused a_cost a_steps a_mates a_bestMates a_comes s_above s_below s_length s_at_3 s_behind_4 0 0 x1 s_row s_text s_words) := hD
  obtain ⟨T26_10, hz26_10, hs26_10, n26_10, h⟩ := lpw6_use h
  have kT26_10 : ∀ (n : Nat) (x2_5 : Int32) (s_at_6 : Int32) (s_behind_7 : Int32) (s_readFlitches_8 : Int32) (s_readFamilies_9 : Int32) (s_row_10 : Nat → Int32) (H : Heap) (locs : List Loc) (ls : Array Slot), T26_10 n x2_5 s_at_6 s_behind_7 s_readFlitches_8 s_readFamilies_9 s_row_10 → va_P D vwCl (Wd_Mo_readItems cy a_this a_row a_text a_words a_isKept a_refused a_cost a_steps a_mates a_bestMates a_comes s_above s_below s_length s_at_6 s_behind_7 s_readFlitches_8 s_readFamilies_9 x1 s_row_10 s_text s_words) H → va_D A (Wd_Mo_readItems cy a_this a_row a_text a_words a_isKept a_refused a_cost a_steps a_mates a_bestMates a_comes s_above s_below s_length s_at_6 s_behind_7 s_readFlitches_8 s_readFamilies_9 x1 s_row_10 s_text s_words) → va_S A s.heap H locs → lv_has ls 4 [(0, .ref a_this), (2, .int x2_5)] → W p l e rm_Mo_readItems s m args below meth c H locs 0 0 QQ (F0 m 26 ls []) := by
    intro n
    induction n with
    | zero => intro x2_5 s_at_6 s_behind_7 s_readFlitches_8 s_readFamilies_9 s_row_10 H locs ls h; exact absurd h (hz26_10 _ _ _ _ _ _)
    | succ n ih26_10 =>
      intro x2_5 s_at_6 s_behind_7 s_readFlitches_8 s_readFamilies_9 s_row_10 H locs ls h hP hD hS hl
      have h := hs26_10 _ _ _ _ _ _ _ h
      refine lv_iload_n hx hb dX9_readItems_26 rfl (lv_at hl 1 rfl) ?_
      obtain ⟨J41, hJ41, h⟩ := jn0_ex h
      have kJ41_11 : ∀  (H : Heap) (locs : List Loc) (ls : Array Slot), J41 → va_P D vwCl (Wd_Mo_readItems cy a_this a_row a_text a_words a_isKept a_refused a_cost a_steps a_mates a_bestMates a_comes s_above s_below s_length s_at_6 s_behind_7 s_readFlitches_8 s_readFamilies_9 x1 s_row_10 s_text s_words) H → va_D A (Wd_Mo_readItems cy a_this a_row a_text a_words a_isKept a_refused a_cost a_steps a_mates a_bestMates a_comes s_above s_below s_length s_at_6 s_behind_7 s_readFlitches_8 s_readFamilies_9 x1 s_row_10 s_text s_words) → va_S A s.heap H locs → lv_has ls 4 [(0, .ref a_this), (2, .int x2_5)] → W p l e rm_Mo_readItems s m args below meth c H locs 0 0 QQ (F0 m 41 ls []) := by
        intro  H locs ls h hP hD hS hl
        have h := hJ41  h
        refine lv_aload_n hx hb dX9_readItems_41 rfl (lv_at hl 0 rfl) ?_
        refine st_callRI (st_runVR (n := 0) (As := []) (rest := []) (q0 := 0) F (co_Mo_wordHere l D cy a_this a_text a_words a_row a_isKept a_refused a_cost a_steps a_mates a_bestMates a_comes s_above s_below s_length s_at_6 s_behind_7 s_readFlitches_8 s_readFamilies_9 x1 s_text s_words _ h) gX9_readItems_X9_wordHere rfl (by decide +kernel) rfl hKK hP [0, 2, 3] rfl rfl rfl rfl hl.1 rfl (Nat.le_of_ble_eq_true rfl) dX9_readItems_42) (fun r_13 h => ?_)
        refine lv_istore_n (lv' := [(3, .int r_13), (0, .ref a_this), (2, .int x2_5)]) hx hb dX9_readItems_45 rfl hl (by decide) rfl (fun ls hl => ?_)
        refine lv_iload_n hx hb dX9_readItems_46 rfl (lv_at hl 0 rfl) ?_
        refine lv_iconst (v := (-1)) hx hb dX9_readItems_47 (by decide) ?_
        refine lv_icmp_eq (tgt := 80) hx hb dX9_readItems_48 (by decide) (fun c_14 => ?_) (fun c_14 => ?_)
        · have h := h.1 c_14
          refine lv_iconst (v := (-1)) hx hb dX9_readItems_80 (by decide) ?_
          exact hret _ (s_at_6, s_behind_7, s_readFlitches_8, s_readFamilies_9, x1, s_row_10) _ _ _ _ h hP hD hS dX9_readItems_81
        · have h := h.2 c_14
          refine lv_iload_n hx hb dX9_readItems_51 rfl (lv_at hl 0 rfl) ?_
          obtain ⟨J60, hJ60, h⟩ := jn1_ex h
          have kJ60_15 : ∀ (v_15 : Int32) (H : Heap) (locs : List Loc) (ls : Array Slot), J60 v_15 → va_P D vwCl (Wd_Mo_readItems cy a_this a_row a_text a_words a_isKept a_refused a_cost a_steps a_mates a_bestMates a_comes s_above s_below s_length s_at_6 s_behind_7 s_readFlitches_8 s_readFamilies_9 x1 s_row_10 s_text s_words) H → va_D A (Wd_Mo_readItems cy a_this a_row a_text a_words a_isKept a_refused a_cost a_steps a_mates a_bestMates a_comes s_above s_below s_length s_at_6 s_behind_7 s_readFlitches_8 s_readFamilies_9 x1 s_row_10 s_text s_words) → va_S A s.heap H locs → lv_has ls 4 [(0, .ref a_this), (2, .int x2_5), (3, .int r_13)] → W p l e rm_Mo_readItems s m args below meth c H locs 0 0 QQ (F0 m 60 ls [.int v_15]) := by
            intro v_15 H locs ls h hP hD hS hl
            have h := hJ60 _ h
            refine lv_iload_n hx hb dX9_readItems_60 rfl (lv_at hl 1 rfl) ?_
            obtain ⟨J69, hJ69, h⟩ := jn1_ex h
            have kJ69_17 : ∀ (v_17 : Int32) (H : Heap) (locs : List Loc) (ls : Array Slot), J69 v_17 → va_P D vwCl (Wd_Mo_readItems cy a_this a_row a_text a_words a_isKept a_refused a_cost a_steps a_mates a_bestMates a_comes s_above s_below s_length s_at_6 s_behind_7 s_readFlitches_8 s_readFamilies_9 x1 s_row_10 s_text s_words) H → va_D A (Wd_Mo_readItems cy a_this a_row a_text a_words a_isKept a_refused a_cost a_steps a_mates a_bestMates a_comes s_above s_below s_length s_at_6 s_behind_7 s_readFlitches_8 s_readFamilies_9 x1 s_row_10 s_text s_words) → va_S A s.heap H locs → lv_has ls 4 [(0, .ref a_this), (2, .int x2_5), (3, .int r_13)] → W p l e rm_Mo_readItems s m args below meth c H locs 0 0 QQ (F0 m 69 ls [.int v_17, .int v_15]) := by
              intro v_17 H locs ls h hP hD hS hl
              have h := hJ69 _ h
              refine lv_icmp_ne (tgt := 80) hx hb dX9_readItems_69 (by decide) (fun c_19 => ?_) (fun c_19 => ?_)
              · have h := h.1 c_19
                refine lv_iconst (v := (-1)) hx hb dX9_readItems_80 (by decide) ?_
                exact hret _ (s_at_6, s_behind_7, s_readFlitches_8, s_readFamilies_9, x1, s_row_10) _ _ _ _ h hP hD hS dX9_readItems_81
              · have h := h.2 c_19
                refine lv_aload_n hx hb dX9_readItems_72 rfl (lv_at hl 0 rfl) ?_
                refine lv_iload_n hx hb dX9_readItems_73 rfl (lv_at hl 2 rfl) ?_
                refine st_callI (WR := [3].filterMap (fun i => (Wd_Mo_readItems cy a_this a_row a_text a_words a_isKept a_refused a_cost a_steps a_mates a_bestMates a_comes s_above s_below s_length s_at_6 s_behind_7 s_readFlitches_8 s_readFamilies_9 x1 s_row_10 s_text s_words)[i]?)) (WSn := fun u => (Wd_Mo_readItems cy a_this a_row a_text a_words a_isKept a_refused a_cost a_steps a_mates a_bestMates a_comes s_above s_below s_length u.1 u.2.1 u.2.2.1 u.2.2.2.1 x1 u.2.2.2.2 s_text s_words)) (st_runV (n := 1) (As := [.int r_13]) (rest := []) (q0 := 0) F ((co_Mo_readsItem l D cy a_this a_row a_text a_isKept a_refused a_words a_cost a_steps a_mates a_bestMates a_comes s_above s_below s_length s_at_6 s_behind_7 s_readFlitches_8 s_readFamilies_9 x1 s_row_10 s_text r_13 _ h) _) rfl gX9_readItems_X9_readsItem rfl (by decide +kernel) rfl hKK hP hD [0, 1, 2] rfl rfl rfl rfl rfl hl.1 rfl (Nat.le_of_ble_eq_true rfl) dX9_readItems_74) hP hD hS hA [0, 1, 2] [3] [1, 2, 3, 0] rfl rfl rfl (fun _ => rfl) (fun r_20 u H locs h hP hD hS => ?_)
                obtain ⟨s_at_21, s_behind_22, s_readFlitches_23, s_readFamilies_24, s_row_25⟩ := u
                dsimp only at h hP hD
                have hP : va_P D vwCl (Wd_Mo_readItems cy a_this a_row a_text a_words a_isKept a_refused a_cost a_steps a_mates a_bestMates a_comes s_above s_below s_length s_at_21 s_behind_22 s_readFlitches_23 s_readFamilies_24 x1 s_row_25 s_text s_words) H := hP
                have hD : va_D A (Wd_Mo_readItems cy a_this a_row a_text a_words a_isKept a_refused a_cost a_steps a_mates a_bestMates a_comes s_above s_below s_length s_at_21 s_behind_22 s_readFlitches_23 s_readFamilies_24 x1 s_row_25 s_text s_words) := hD
                refine lv_if_ne (tgt := 82) hx hb dX9_readItems_77 (by decide) (fun c_26 => ?_) (fun c_26 => ?_)
                · have h := h.1 c_26
                  refine lv_aload_n hx hb dX9_readItems_82 rfl (lv_at hl 0 rfl) ?_
                  refine st_callV (WR := [1, 3].filterMap (fun i => (Wd_Mo_readItems cy a_this a_row a_text a_words a_isKept a_refused a_cost a_steps a_mates a_bestMates a_comes s_above s_below s_length s_at_21 s_behind_22 s_readFlitches_23 s_readFamilies_24 x1 s_row_25 s_text s_words)[i]?)) (WSn := fun u => (Wd_Mo_readItems cy a_this a_row a_text a_words a_isKept a_refused a_cost a_steps a_mates a_bestMates a_comes s_above s_below s_length u.1 u.2 s_readFlitches_23 s_readFamilies_24 x1 s_row_25 s_text s_words)) (st_runV (n := 0) (As := []) (rest := []) (q0 := 0) F ((co_Mo_next l D cy a_this a_text a_row a_isKept a_refused a_words a_cost a_steps a_mates a_bestMates a_comes s_above s_below s_length s_at_21 s_behind_22 s_readFlitches_23 s_readFamilies_24 x1 s_text _ h) _) rfl gX9_readItems_X9_next rfl (by decide +kernel) rfl hKK hP hD [0, 2] rfl rfl rfl rfl rfl hl.1 rfl (Nat.le_of_ble_eq_true rfl) dX9_readItems_83) hP hD hS hA [0, 2] [1, 3] [2, 0, 3, 1] rfl rfl rfl (fun _ => rfl) (fun u H locs h hP hD hS => ?_)
                  obtain ⟨s_at_28, s_behind_29⟩ := u
                  dsimp only at h hP hD
                  have hP : va_P D vwCl (Wd_Mo_readItems cy a_this a_row a_text a_words a_isKept a_refused a_cost a_steps a_mates a_bestMates a_comes s_above s_below s_length s_at_28 s_behind_29 s_readFlitches_23 s_readFamilies_24 x1 s_row_25 s_text s_words) H := hP
                  have hD : va_D A (Wd_Mo_readItems cy a_this a_row a_text a_words a_isKept a_refused a_cost a_steps a_mates a_bestMates a_comes s_above s_below s_length s_at_28 s_behind_29 s_readFlitches_23 s_readFamilies_24 x1 s_row_25 s_text s_words) := hD
                  refine lv_aload_n hx hb dX9_readItems_86 rfl (lv_at hl 0 rfl) ?_
                  refine va_get (D := D) (ci := 8) (v := .int s_at_28) (C := RX9) (T := TX9) (N := 18) hx hb hts in_X9 hown hK hP 0 rfl rfl 8 (by decide) fl_71 (fun _ h9 => h9) rfl dX9_readItems_87 ?_
                  refine lv_aload_n hx hb dX9_readItems_90 rfl (lv_at hl 0 rfl) ?_
                  refine va_get (D := D) (ci := 8) (v := .int s_length) (C := RX9) (T := TX9) (N := 18) hx hb hts in_X9 hown hK hP 0 rfl rfl 6 (by decide) fl_64 (fun _ h9 => h9) rfl dX9_readItems_91 ?_
                  refine lv_icmp_eq (tgt := 111) hx hb dX9_readItems_94 (by decide) (fun c_30 => ?_) (fun c_30 => ?_)
                  · have h := h.1 c_30
                    refine lv_iconst (v := (-1)) hx hb dX9_readItems_111 (by decide) ?_
                    exact hret _ (s_at_28, s_behind_29, s_readFlitches_23, s_readFamilies_24, x1, s_row_25) _ _ _ _ h hP hD hS dX9_readItems_112
                  · have h := h.2 c_30
                    refine lv_aload_n hx hb dX9_readItems_97 rfl (lv_at hl 0 rfl) ?_
                    refine va_get (D := D) (ci := 8) (v := .ref a_text) (C := RX9) (T := TX9) (N := 18) hx hb hts in_X9 hown hK hP 0 rfl rfl 5 (by decide) fl_24 (fun _ h9 => h9) rfl dX9_readItems_98 ?_
                    refine lv_aload_n hx hb dX9_readItems_101 rfl (lv_at hl 0 rfl) ?_
                    refine va_get (D := D) (ci := 8) (v := .int s_at_28) (C := RX9) (T := TX9) (N := 18) hx hb hts in_X9 hown hK hP 0 rfl rfl 8 (by decide) fl_71 (fun _ h9 => h9) rfl dX9_readItems_102 ?_
                    obtain ⟨hi_31, h⟩ := h
                    refine va_iald hx hb hK hP 2 1 rfl rfl hi_31 dX9_readItems_105 ?_
                    refine lv_bipush (v := 59) hx hb dX9_readItems_106 (by decide) ?_
                    refine lv_icmp_eq (tgt := 113) hx hb dX9_readItems_108 (by decide) (fun c_32 => ?_) (fun c_32 => ?_)
                    · have h := h.1 c_32
                      obtain ⟨x2_33, ex2_33⟩ : ∃ y : Int32, y = x2_5 + 1 := ⟨_, rfl⟩
                      have h := h x2_33 ex2_33
                      refine lv_iinc (v := x2_33) (lv' := [(2, .int x2_33), (0, .ref a_this), (3, .int r_13)]) hx hb dX9_readItems_113 hl (k := 1) rfl (by rw [ex2_33]; rfl) (by decide) rfl (fun ls hl => ?_)
                      refine lv_aload_n hx hb dX9_readItems_116 rfl (lv_at hl 1 rfl) ?_
                      refine st_callV (WR := [1, 3].filterMap (fun i => (Wd_Mo_readItems cy a_this a_row a_text a_words a_isKept a_refused a_cost a_steps a_mates a_bestMates a_comes s_above s_below s_length s_at_28 s_behind_29 s_readFlitches_23 s_readFamilies_24 x1 s_row_25 s_text s_words)[i]?)) (WSn := fun u => (Wd_Mo_readItems cy a_this a_row a_text a_words a_isKept a_refused a_cost a_steps a_mates a_bestMates a_comes s_above s_below s_length u.1 u.2 s_readFlitches_23 s_readFamilies_24 x1 s_row_25 s_text s_words)) (st_runV (n := 0) (As := []) (rest := []) (q0 := 0) F ((co_Mo_next l D cy a_this a_text a_row a_isKept a_refused a_words a_cost a_steps a_mates a_bestMates a_comes s_above s_below s_length s_at_28 s_behind_29 s_readFlitches_23 s_readFamilies_24 x1 s_text _ h) _) rfl gX9_readItems_X9_next rfl (by decide +kernel) rfl hKK hP hD [0, 2] rfl rfl rfl rfl rfl hl.1 rfl (Nat.le_of_ble_eq_true rfl) dX9_readItems_117) hP hD hS hA [0, 2] [1, 3] [2, 0, 3, 1] rfl rfl rfl (fun _ => rfl) (fun u H locs h hP hD hS => ?_)
                      obtain ⟨s_at_35, s_behind_36⟩ := u
                      dsimp only at h hP hD
                      have hP : va_P D vwCl (Wd_Mo_readItems cy a_this a_row a_text a_words a_isKept a_refused a_cost a_steps a_mates a_bestMates a_comes s_above s_below s_length s_at_35 s_behind_36 s_readFlitches_23 s_readFamilies_24 x1 s_row_25 s_text s_words) H := hP
                      have hD : va_D A (Wd_Mo_readItems cy a_this a_row a_text a_words a_isKept a_refused a_cost a_steps a_mates a_bestMates a_comes s_above s_below s_length s_at_35 s_behind_36 s_readFlitches_23 s_readFamilies_24 x1 s_row_25 s_text s_words) := hD
                      refine lv_goto (tgt := 26) hx hb dX9_readItems_120 (by decide) ?_
                      exact ih26_10 _ _ _ _ _ _ _ _ _ h hP hD hS (lv_sub hl [1, 0] rfl)
                    · have h := h.2 c_32
                      refine lv_iconst (v := (-1)) hx hb dX9_readItems_111 (by decide) ?_
                      exact hret _ (s_at_28, s_behind_29, s_readFlitches_23, s_readFamilies_24, x1, s_row_25) _ _ _ _ h hP hD hS dX9_readItems_112
                · have h := h.2 c_26
                  refine lv_iconst (v := (-1)) hx hb dX9_readItems_80 (by decide) ?_
                  exact hret _ (s_at_21, s_behind_22, s_readFlitches_23, s_readFamilies_24, x1, s_row_25) _ _ _ _ h hP hD hS dX9_readItems_81
            refine lv_if_ne (tgt := 68) hx hb dX9_readItems_61 (by decide) (fun c_37 => ?_) (fun c_37 => ?_)
            · have h := h.1 c_37
              refine lv_iconst (v := 0) hx hb dX9_readItems_68 (by decide) ?_
              exact kJ69_17 _ _ _ _ h hP hD hS (lv_sub hl [0, 1, 2] rfl)
            · have h := h.2 c_37
              refine lv_iconst (v := 1) hx hb dX9_readItems_64 (by decide) ?_
              refine lv_goto (tgt := 69) hx hb dX9_readItems_65 (by decide) ?_
              exact kJ69_17 _ _ _ _ h hP hD hS (lv_sub hl [0, 1, 2] rfl)
          refine lv_if_ne (tgt := 59) hx hb dX9_readItems_52 (by decide) (fun c_38 => ?_) (fun c_38 => ?_)
          · have h := h.1 c_38
            refine lv_iconst (v := 0) hx hb dX9_readItems_59 (by decide) ?_
            exact kJ60_15 _ _ _ _ h hP hD hS (lv_sub hl [1, 2, 0] rfl)
          · have h := h.2 c_38
            refine lv_iconst (v := 1) hx hb dX9_readItems_55 (by decide) ?_
            refine lv_goto (tgt := 60) hx hb dX9_readItems_56 (by decide) ?_
            exact kJ60_15 _ _ _ _ h hP hD hS (lv_sub hl [1, 2, 0] rfl)
      refine lv_if_eq (tgt := 41) hx hb dX9_readItems_27 (by decide) (fun c_39 => ?_) (fun c_39 => ?_)
      · have h := h.1 c_39
        exact kJ41_11  _ _ _ h hP hD hS (lv_sub hl [0, 1] rfl)
      · have h := h.2 c_39
        refine lv_aload_n hx hb dX9_readItems_30 rfl (lv_at hl 0 rfl) ?_
        refine va_get (D := D) (ci := 8) (v := .int s_at_6) (C := RX9) (T := TX9) (N := 18) hx hb hts in_X9 hown hK hP 0 rfl rfl 8 (by decide) fl_71 (fun _ h9 => h9) rfl dX9_readItems_31 ?_
        refine lv_aload_n hx hb dX9_readItems_34 rfl (lv_at hl 0 rfl) ?_
        refine va_get (D := D) (ci := 8) (v := .int s_length) (C := RX9) (T := TX9) (N := 18) hx hb hts in_X9 hown hK hP 0 rfl rfl 6 (by decide) fl_64 (fun _ h9 => h9) rfl dX9_readItems_35 ?_
        refine lv_icmp_ge (tgt := 123) hx hb dX9_readItems_38 (by decide) (fun c_40 => ?_) (fun c_40 => ?_)
        · have h := h.1 c_40
          refine lv_iload_n hx hb dX9_readItems_123 rfl (lv_at hl 1 rfl) ?_
          exact hret _ (s_at_6, s_behind_7, s_readFlitches_8, s_readFamilies_9, x1, s_row_10) _ _ _ _ h hP hD hS dX9_readItems_124
        · have h := h.2 c_40
          exact kJ41_11  _ _ _ h hP hD hS (lv_sub hl [0, 1] rfl)
  exact kT26_10 n26_10 _ _ _ _ _ _ _ _ _ h hP hD hS (lv_sub hl [1, 0] rfl)
abbrev Wd_Mo_read (cy : ClassId × ClassId × ClassId × ClassId) (a_this a_row a_text a_words a_isKept a_refused a_cost a_steps a_mates a_bestMates a_comes : Nat) (s_above : Int64) (s_below : Int64) (s_length : Int32) (s_at : Int32) (s_behind : Int32) (s_readFlitches : Int32) (s_readFamilies : Int32) (s_doing : Int32) (s_row : Nat → Int32) (s_text : Nat → Int32) (s_words : Nat → Int32) : va_W := [(a_this, .inr (8, [.ref a_row, .ref a_isKept, .ref a_refused, .long s_above, .long s_below, .ref a_text, .int s_length, .ref a_words, .int s_at, .int s_behind, .int s_readFlitches, .int s_readFamilies, .int s_doing, .ref a_cost, .ref a_steps, .ref a_mates, .ref a_bestMates, .ref a_comes])), (a_row, .inl (cy.2.1, 770, .inl s_row)), (a_text, .inl (cy.2.1, 150, .inl s_text)), (a_words, .inl (cy.2.1, 30, .inl s_words))]
abbrev rm_Mo_read : Room := { frames := 7, cells := 0, slots := 0, locals := 160 }
def wp_Mo_read (s_length : Int32) (s_at : Int32) (s_behind : Int32) (s_readFlitches : Int32) (s_readFamilies : Int32) (s_doing : Int32) (s_row : Nat → Int32) (s_text : Nat → Int32) (s_words : Nat → Int32) (Q : Int32 → Int32 → Int32 → Int32 → Int32 → Int32 → (Nat → Int32) → Prop) : Prop := wp_Mo_readItems 0 s_length s_at s_behind s_readFlitches s_readFamilies s_doing s_row s_text s_words (fun (r_1 : Int32) (s_at_2 : Int32) (s_behind_3 : Int32) (s_readFlitches_4 : Int32) (s_readFamilies_5 : Int32) (s_doing_6 : Int32) (s_row_7 : Nat → Int32) => ((¬ r_1 = (-1) → wp_Mo_readItems 1 s_length s_at_2 s_behind_3 s_readFlitches_4 s_readFamilies_5 s_doing_6 s_row_7 s_text s_words (fun (r_9 : Int32) (s_at_10 : Int32) (s_behind_11 : Int32) (s_readFlitches_12 : Int32) (s_readFamilies_13 : Int32) (s_doing_14 : Int32) (s_row_15 : Nat → Int32) => ∀ s_row_16 : Nat → Int32, s_row_16 = upd s_row_15 (Int32.toNatClampNeg 114) 0 → Q r_1 s_at_10 s_behind_11 s_readFlitches_12 s_readFamilies_13 s_doing_14 s_row_16)) ∧ (r_1 = (-1) → Q ((-10) - s_at_2) s_at_2 s_behind_3 s_readFlitches_4 s_readFamilies_5 s_doing_6 s_row_7)))
set_option maxHeartbeats 4000000 in
set_option maxRecDepth 100000 in
theorem co_Mo_read (l : Launch) (D : va_G) (cy : ClassId × ClassId × ClassId × ClassId) (a_this a_row a_text a_words a_isKept a_refused a_cost a_steps a_mates a_bestMates a_comes : Nat) (s_above : Int64) (s_below : Int64) (s_length : Int32) (s_at : Int32) (s_behind : Int32) (s_readFlitches : Int32) (s_readFamilies : Int32) (s_doing : Int32) (s_row : Nat → Int32) (s_text : Nat → Int32) (s_words : Nat → Int32) (Q : Int32 → Int32 → Int32 → Int32 → Int32 → Int32 → (Nat → Int32) → Prop) (h : wp_Mo_read s_length s_at s_behind s_readFlitches s_readFamilies s_doing s_row s_text s_words Q) : CoI l yX9_read wsX9_read rm_Mo_read D cy [.ref a_this] (Wd_Mo_read cy a_this a_row a_text a_words a_isKept a_refused a_cost a_steps a_mates a_bestMates a_comes s_above s_below s_length s_at s_behind s_readFlitches s_readFamilies s_doing s_row s_text s_words) (fun u : Int32 × Int32 × Int32 × Int32 × Int32 × (Nat → Int32) => (Wd_Mo_read cy a_this a_row a_text a_words a_isKept a_refused a_cost a_steps a_mates a_bestMates a_comes s_above s_below s_length u.1 u.2.1 u.2.2.1 u.2.2.2.1 u.2.2.2.2.1 u.2.2.2.2.2 s_text s_words)) (fun (r : Int32) (u : Int32 × Int32 × Int32 × Int32 × Int32 × (Nat → Int32)) => Q r u.1 u.2.1 u.2.2.1 u.2.2.2.1 u.2.2.2.2.1 u.2.2.2.2.2) := by
  refine st_metI (cc := cX9_read) (maxL := 2) RX9 (by decide) rfl rfl (Nat.le_of_ble_eq_true rfl) ?_
  intro p e s m args below meth c A QQ ls F hA hKK hP hD hS hl hret
  have hK := hKK.1
  have hnest := hKK.2.1
  have hx := F.1
  have hb := F.2.1
  have hown := F.2.2.2.1
  have hts := F.2.2.2.2
  have in_X9 : ∀ w ∈ u_ws RX9 TX9 18, w ∈ wsX9_read := (fun _ h => List.mem_cons_of_mem _ (List.mem_append_right _ h))
  have fl_7 := (hts (.fieldLink RX9 7 "RasherCaseModel" "row" "[I") (List.mem_of_getElem? (i := 2) rfl))
  have fl_71 := (hts (.fieldLink RX9 71 "RasherCaseModel" "at" "I") (List.mem_of_getElem? (i := 1) rfl))
  have hl : lv_has ls 2 [(0, .ref a_this)] := hl
  unfold wp_Mo_read at h
  refine lv_aload_n hx hb dX9_read_0 rfl (lv_at hl 0 rfl) ?_
  refine lv_iconst (v := 0) hx hb dX9_read_1 (by decide) ?_
  refine st_callI (WR := []) (WSn := fun u => (Wd_Mo_read cy a_this a_row a_text a_words a_isKept a_refused a_cost a_steps a_mates a_bestMates a_comes s_above s_below s_length u.1 u.2.1 u.2.2.1 u.2.2.2.1 u.2.2.2.2.1 u.2.2.2.2.2 s_text s_words)) (st_runV (n := 1) (As := [.int 0]) (rest := []) (q0 := 0) F ((co_Mo_readItems l D cy a_this a_row a_text a_words a_isKept a_refused a_cost a_steps a_mates a_bestMates a_comes s_above s_below s_length s_at s_behind s_readFlitches s_readFamilies s_doing s_row s_text s_words 0 _ h) _) rfl gX9_read_X9_readItems rfl (by decide +kernel) rfl hKK hP hD [0, 1, 2, 3] rfl rfl rfl rfl rfl hl.1 rfl (Nat.le_of_ble_eq_true rfl) dX9_read_2) hP hD hS hA [0, 1, 2, 3] [] [0, 1, 2, 3] rfl rfl rfl (fun _ => rfl) (fun r_1 u H locs h hP hD hS => ?_)
  obtain ⟨s_at_2, s_behind_3, s_readFlitches_4, s_readFamilies_5, s_doing_6, s_row_7⟩ := u
  dsimp only at h hP hD
  have hP : va_P D vwCl (Wd_Mo_read cy a_this a_row a_text a_words a_isKept a_refused a_cost a_steps a_mates a_bestMates a_comes s_above s_below s_length s_at_2 s_behind_3 s_readFlitches_4 s_readFamilies_5 s_doing_6 s_row_7 s_text s_words) H := hP
  have hD : va_D A (Wd_Mo_read cy a_this a_row a_text a_words a_isKept a_refused a_cost a_steps a_mates a_bestMates a_comes s_above s_below s_length s_at_2 s_behind_3 s_readFlitches_4 s_readFamilies_5 s_doing_6 s_row_7 s_text s_words) := hD
  refine lv_istore_n (lv' := [(1, .int r_1), (0, .ref a_this)]) hx hb dX9_read_5 rfl hl (by decide) rfl (fun ls hl => ?_)
  refine lv_iload_n hx hb dX9_read_6 rfl (lv_at hl 0 rfl) ?_
  refine lv_iconst (v := (-1)) hx hb dX9_read_7 (by decide) ?_
  refine lv_icmp_ne (tgt := 19) hx hb dX9_read_8 (by decide) (fun c_8 => ?_) (fun c_8 => ?_)
  · have h := h.1 c_8
    refine lv_aload_n hx hb dX9_read_19 rfl (lv_at hl 1 rfl) ?_
    refine lv_iconst (v := 1) hx hb dX9_read_20 (by decide) ?_
    refine st_callI (WR := []) (WSn := fun u => (Wd_Mo_read cy a_this a_row a_text a_words a_isKept a_refused a_cost a_steps a_mates a_bestMates a_comes s_above s_below s_length u.1 u.2.1 u.2.2.1 u.2.2.2.1 u.2.2.2.2.1 u.2.2.2.2.2 s_text s_words)) (st_runV (n := 1) (As := [.int 1]) (rest := []) (q0 := 0) F ((co_Mo_readItems l D cy a_this a_row a_text a_words a_isKept a_refused a_cost a_steps a_mates a_bestMates a_comes s_above s_below s_length s_at_2 s_behind_3 s_readFlitches_4 s_readFamilies_5 s_doing_6 s_row_7 s_text s_words 1 _ h) _) rfl gX9_read_X9_readItems rfl (by decide +kernel) rfl hKK hP hD [0, 1, 2, 3] rfl rfl rfl rfl rfl hl.1 rfl (Nat.le_of_ble_eq_true rfl) dX9_read_21) hP hD hS hA [0, 1, 2, 3] [] [0, 1, 2, 3] rfl rfl rfl (fun _ => rfl) (fun r_9 u H locs h hP hD hS => ?_)
    obtain ⟨s_at_10, s_behind_11, s_readFlitches_12, s_readFamilies_13, s_doing_14, s_row_15⟩ := u
    dsimp only at h hP hD
    have hP : va_P D vwCl (Wd_Mo_read cy a_this a_row a_text a_words a_isKept a_refused a_cost a_steps a_mates a_bestMates a_comes s_above s_below s_length s_at_10 s_behind_11 s_readFlitches_12 s_readFamilies_13 s_doing_14 s_row_15 s_text s_words) H := hP
    have hD : va_D A (Wd_Mo_read cy a_this a_row a_text a_words a_isKept a_refused a_cost a_steps a_mates a_bestMates a_comes s_above s_below s_length s_at_10 s_behind_11 s_readFlitches_12 s_readFamilies_13 s_doing_14 s_row_15 s_text s_words) := hD
    refine lv_pop hx hb dX9_read_24 rfl ?_
    refine lv_aload_n hx hb dX9_read_25 rfl (lv_at hl 1 rfl) ?_
    refine va_get (D := D) (ci := 8) (v := .ref a_row) (C := RX9) (T := TX9) (N := 18) hx hb hts in_X9 hown hK hP 0 rfl rfl 0 (by decide) fl_7 (fun _ h9 => h9) rfl dX9_read_26 ?_
    refine lv_bipush (v := 114) hx hb dX9_read_29 (by decide) ?_
    refine lv_iconst (v := 0) hx hb dX9_read_31 (by decide) ?_
    refine va_iast hx hb hK hP hD hS 1 1 rfl rfl (by unfold vp_in; decide) dX9_read_32 (fun H locs hP hD hS => ?_)
    obtain ⟨s_row_16, es_row_16⟩ : ∃ f : Nat → Int32, f = upd s_row_15 (Int32.toNatClampNeg 114) 0 := ⟨_, rfl⟩
    have hP : va_P D vwCl (Wd_Mo_read cy a_this a_row a_text a_words a_isKept a_refused a_cost a_steps a_mates a_bestMates a_comes s_above s_below s_length s_at_10 s_behind_11 s_readFlitches_12 s_readFamilies_13 s_doing_14 s_row_16 s_text s_words) H := by rw [es_row_16]; exact hP
    have hD : va_D A (Wd_Mo_read cy a_this a_row a_text a_words a_isKept a_refused a_cost a_steps a_mates a_bestMates a_comes s_above s_below s_length s_at_10 s_behind_11 s_readFlitches_12 s_readFamilies_13 s_doing_14 s_row_16 s_text s_words) := by rw [es_row_16]; exact hD
    have h := h s_row_16 es_row_16
    refine lv_iload_n hx hb dX9_read_33 rfl (lv_at hl 0 rfl) ?_
    exact hret _ (s_at_10, s_behind_11, s_readFlitches_12, s_readFamilies_13, s_doing_14, s_row_16) _ _ _ _ h hP hD hS dX9_read_34
  · have h := h.2 c_8
    refine lv_bipush (v := (-10)) hx hb dX9_read_11 (by decide) ?_
    refine lv_aload_n hx hb dX9_read_13 rfl (lv_at hl 1 rfl) ?_
    refine va_get (D := D) (ci := 8) (v := .int s_at_2) (C := RX9) (T := TX9) (N := 18) hx hb hts in_X9 hown hK hP 0 rfl rfl 8 (by decide) fl_71 (fun _ h9 => h9) rfl dX9_read_14 ?_
    refine lv_isub hx hb dX9_read_17 ?_
    exact hret _ (s_at_2, s_behind_3, s_readFlitches_4, s_readFamilies_5, s_doing_6, s_row_7) _ _ _ _ h hP hD hS dX9_read_18
abbrev Wd_Mo_keepPast (cy : ClassId × ClassId × ClassId × ClassId) (a_this a_row a_isKept a_refused a_text a_words a_cost a_steps a_mates a_bestMates a_comes : Nat) (s_above : Int64) (s_below : Int64) (s_length : Int32) (s_at : Int32) (s_behind : Int32) (s_readFlitches : Int32) (s_readFamilies : Int32) (s_doing : Int32) (s_row : Nat → Int32) : va_W := [(a_this, .inr (8, [.ref a_row, .ref a_isKept, .ref a_refused, .long s_above, .long s_below, .ref a_text, .int s_length, .ref a_words, .int s_at, .int s_behind, .int s_readFlitches, .int s_readFamilies, .int s_doing, .ref a_cost, .ref a_steps, .ref a_mates, .ref a_bestMates, .ref a_comes])), (a_row, .inl (cy.2.1, 770, .inl s_row))]
abbrev rm_Mo_keepPast : Room := { frames := 0, cells := 0, slots := 0, locals := 0 }
def wp_Mo_keepPast (s_row : Nat → Int32) (Q : (Nat → Int32) → Prop) : Prop := jn1 (fun (J56 : (Nat → Int32) → Prop) => ((¬ (s_row (Int32.toNatClampNeg 114)) = 8 → J56 s_row) ∧ ((s_row (Int32.toNatClampNeg 114)) = 8 → ∃ n : Nat, lpw2 (fun (B14 : Int32 → (Nat → Int32) → Prop) (x1_13 : Int32) (s_row_14 : Nat → Int32) => ((119 ≤ x1_13 → ∀ s_row_17 : Nat → Int32, s_row_17 = upd s_row_14 (Int32.toNatClampNeg 114) ((s_row_14 (Int32.toNatClampNeg 114)) - 1) → J56 s_row_17) ∧ (¬ 119 ≤ x1_13 → vp_in (132 + x1_13) 770 ∧ vp_in (115 + x1_13) 770 ∧ ∀ s_row_20 : Nat → Int32, s_row_20 = upd s_row_14 (Int32.toNatClampNeg (115 + x1_13)) (s_row_14 (Int32.toNatClampNeg (132 + x1_13))) → ∀ x1_21 : Int32, x1_21 = x1_13 + 1 → B14 x1_21 s_row_20))) n 0 s_row))) (fun (s_row_1 : Nat → Int32) => ∃ n : Nat, lpw2 (fun (B58 : Int32 → (Nat → Int32) → Prop) (x1_3 : Int32) (s_row_4 : Nat → Int32) => ((17 ≤ x1_3 → ∀ s_row_7 : Nat → Int32, s_row_7 = upd s_row_4 (Int32.toNatClampNeg 114) ((s_row_4 (Int32.toNatClampNeg 114)) + 1) → Q s_row_7) ∧ (¬ 17 ≤ x1_3 → vp_in x1_3 770 ∧ vp_in ((115 + (17 * (s_row_4 (Int32.toNatClampNeg 114)))) + x1_3) 770 ∧ ∀ s_row_10 : Nat → Int32, s_row_10 = upd s_row_4 (Int32.toNatClampNeg ((115 + (17 * (s_row_4 (Int32.toNatClampNeg 114)))) + x1_3)) (s_row_4 (Int32.toNatClampNeg x1_3)) → ∀ x1_11 : Int32, x1_11 = x1_3 + 1 → B58 x1_11 s_row_10))) n 0 s_row_1)
set_option maxHeartbeats 4000000 in
set_option maxRecDepth 100000 in
theorem co_Mo_keepPast (l : Launch) (D : va_G) (cy : ClassId × ClassId × ClassId × ClassId) (a_this a_row a_isKept a_refused a_text a_words a_cost a_steps a_mates a_bestMates a_comes : Nat) (s_above : Int64) (s_below : Int64) (s_length : Int32) (s_at : Int32) (s_behind : Int32) (s_readFlitches : Int32) (s_readFamilies : Int32) (s_doing : Int32) (s_row : Nat → Int32) (Q : (Nat → Int32) → Prop) (h : wp_Mo_keepPast s_row Q) : CoV l yX9_keepPast wsX9_keepPast rm_Mo_keepPast D cy [.ref a_this] (Wd_Mo_keepPast cy a_this a_row a_isKept a_refused a_text a_words a_cost a_steps a_mates a_bestMates a_comes s_above s_below s_length s_at s_behind s_readFlitches s_readFamilies s_doing s_row) (fun u : (Nat → Int32) => (Wd_Mo_keepPast cy a_this a_row a_isKept a_refused a_text a_words a_cost a_steps a_mates a_bestMates a_comes s_above s_below s_length s_at s_behind s_readFlitches s_readFamilies s_doing u)) (fun (u : (Nat → Int32)) => Q u) := by
  refine st_metV (cc := cX9_keepPast) (maxL := 2) RX9 (by decide) rfl rfl (Nat.le_of_ble_eq_true rfl) ?_
  intro p e s m args below meth c A QQ ls F hA hKK hP hD hS hl hret
  have hK := hKK.1
  have hnest := hKK.2.1
  have hx := F.1
  have hb := F.2.1
  have hown := F.2.2.2.1
  have hts := F.2.2.2.2
  have in_X9 : ∀ w ∈ u_ws RX9 TX9 18, w ∈ wsX9_keepPast := (fun _ h => List.mem_cons_of_mem _ (List.mem_append_right _ h))
  have fl_7 := (hts (.fieldLink RX9 7 "RasherCaseModel" "row" "[I") (List.mem_of_getElem? (i := 1) rfl))
  have hl : lv_has ls 2 [(0, .ref a_this)] := hl
  unfold wp_Mo_keepPast at h
  refine lv_aload_n hx hb dX9_keepPast_0 rfl (lv_at hl 0 rfl) ?_
  refine va_get (D := D) (ci := 8) (v := .ref a_row) (C := RX9) (T := TX9) (N := 18) hx hb hts in_X9 hown hK hP 0 rfl rfl 0 (by decide) fl_7 (fun _ h9 => h9) rfl dX9_keepPast_1 ?_
  refine lv_bipush (v := 114) hx hb dX9_keepPast_4 (by decide) ?_
  refine va_iald hx hb hK hP 1 1 rfl rfl (by unfold vp_in; decide) dX9_keepPast_6 ?_
  refine lv_bipush (v := 8) hx hb dX9_keepPast_7 (by decide) ?_
  obtain ⟨J56, hJ56, h⟩ := jn1_ex h
  have kJ56_1 : ∀ (s_row_1 : Nat → Int32) (H : Heap) (locs : List Loc) (ls : Array Slot), J56 s_row_1 → va_P D vwCl (Wd_Mo_keepPast cy a_this a_row a_isKept a_refused a_text a_words a_cost a_steps a_mates a_bestMates a_comes s_above s_below s_length s_at s_behind s_readFlitches s_readFamilies s_doing s_row_1) H → va_D A (Wd_Mo_keepPast cy a_this a_row a_isKept a_refused a_text a_words a_cost a_steps a_mates a_bestMates a_comes s_above s_below s_length s_at s_behind s_readFlitches s_readFamilies s_doing s_row_1) → va_S A s.heap H locs → lv_has ls 2 [(0, .ref a_this)] → W p l e rm_Mo_keepPast s m args below meth c H locs 0 0 QQ (F0 m 56 ls []) := by
    intro s_row_1 H locs ls h hP hD hS hl
    have h := hJ56 _ h
    refine lv_iconst (v := 0) hx hb dX9_keepPast_56 (by decide) ?_
    refine lv_istore_n (lv' := [(1, .int 0), (0, .ref a_this)]) hx hb dX9_keepPast_57 rfl hl (by decide) rfl (fun ls hl => ?_)
    obtain ⟨T58_4, hz58_4, hs58_4, n58_4, h⟩ := lpw2_use h
    have kT58_4 : ∀ (n : Nat) (x1_3 : Int32) (s_row_4 : Nat → Int32) (H : Heap) (locs : List Loc) (ls : Array Slot), T58_4 n x1_3 s_row_4 → va_P D vwCl (Wd_Mo_keepPast cy a_this a_row a_isKept a_refused a_text a_words a_cost a_steps a_mates a_bestMates a_comes s_above s_below s_length s_at s_behind s_readFlitches s_readFamilies s_doing s_row_4) H → va_D A (Wd_Mo_keepPast cy a_this a_row a_isKept a_refused a_text a_words a_cost a_steps a_mates a_bestMates a_comes s_above s_below s_length s_at s_behind s_readFlitches s_readFamilies s_doing s_row_4) → va_S A s.heap H locs → lv_has ls 2 [(0, .ref a_this), (1, .int x1_3)] → W p l e rm_Mo_keepPast s m args below meth c H locs 0 0 QQ (F0 m 58 ls []) := by
      intro n
      induction n with
      | zero => intro x1_3 s_row_4 H locs ls h; exact absurd h (hz58_4 _ _)
      | succ n ih58_4 =>
        intro x1_3 s_row_4 H locs ls h hP hD hS hl
        have h := hs58_4 _ _ _ h
        refine lv_iload_n hx hb dX9_keepPast_58 rfl (lv_at hl 1 rfl) ?_
        refine lv_bipush (v := 17) hx hb dX9_keepPast_59 (by decide) ?_
        refine lv_icmp_ge (tgt := 96) hx hb dX9_keepPast_61 (by decide) (fun c_6 => ?_) (fun c_6 => ?_)
        · have h := h.1 c_6
          refine lv_aload_n hx hb dX9_keepPast_96 rfl (lv_at hl 0 rfl) ?_
          refine va_get (D := D) (ci := 8) (v := .ref a_row) (C := RX9) (T := TX9) (N := 18) hx hb hts in_X9 hown hK hP 0 rfl rfl 0 (by decide) fl_7 (fun _ h9 => h9) rfl dX9_keepPast_97 ?_
          refine lv_bipush (v := 114) hx hb dX9_keepPast_100 (by decide) ?_
          refine lv_dup2_11 hx hb dX9_keepPast_102 rfl rfl ?_
          refine va_iald hx hb hK hP 1 1 rfl rfl (by unfold vp_in; decide) dX9_keepPast_103 ?_
          refine lv_iconst (v := 1) hx hb dX9_keepPast_104 (by decide) ?_
          refine lv_iadd hx hb dX9_keepPast_105 ?_
          refine va_iast hx hb hK hP hD hS 1 1 rfl rfl (by unfold vp_in; decide) dX9_keepPast_106 (fun H locs hP hD hS => ?_)
          obtain ⟨s_row_7, es_row_7⟩ : ∃ f : Nat → Int32, f = upd s_row_4 (Int32.toNatClampNeg 114) ((s_row_4 (Int32.toNatClampNeg 114)) + 1) := ⟨_, rfl⟩
          have hP : va_P D vwCl (Wd_Mo_keepPast cy a_this a_row a_isKept a_refused a_text a_words a_cost a_steps a_mates a_bestMates a_comes s_above s_below s_length s_at s_behind s_readFlitches s_readFamilies s_doing s_row_7) H := by rw [es_row_7]; exact hP
          have hD : va_D A (Wd_Mo_keepPast cy a_this a_row a_isKept a_refused a_text a_words a_cost a_steps a_mates a_bestMates a_comes s_above s_below s_length s_at s_behind s_readFlitches s_readFamilies s_doing s_row_7) := by rw [es_row_7]; exact hD
          have h := h s_row_7 es_row_7
          exact hret (s_row_7) _ _ _ _ h hP hD hS dX9_keepPast_107
        · have h := h.2 c_6
          refine lv_aload_n hx hb dX9_keepPast_64 rfl (lv_at hl 0 rfl) ?_
          refine va_get (D := D) (ci := 8) (v := .ref a_row) (C := RX9) (T := TX9) (N := 18) hx hb hts in_X9 hown hK hP 0 rfl rfl 0 (by decide) fl_7 (fun _ h9 => h9) rfl dX9_keepPast_65 ?_
          refine lv_bipush (v := 115) hx hb dX9_keepPast_68 (by decide) ?_
          refine lv_bipush (v := 17) hx hb dX9_keepPast_70 (by decide) ?_
          refine lv_aload_n hx hb dX9_keepPast_72 rfl (lv_at hl 0 rfl) ?_
          refine va_get (D := D) (ci := 8) (v := .ref a_row) (C := RX9) (T := TX9) (N := 18) hx hb hts in_X9 hown hK hP 0 rfl rfl 0 (by decide) fl_7 (fun _ h9 => h9) rfl dX9_keepPast_73 ?_
          refine lv_bipush (v := 114) hx hb dX9_keepPast_76 (by decide) ?_
          refine va_iald hx hb hK hP 1 1 rfl rfl (by unfold vp_in; decide) dX9_keepPast_78 ?_
          refine lv_imul hx hb dX9_keepPast_79 ?_
          refine lv_iadd hx hb dX9_keepPast_80 ?_
          refine lv_iload_n hx hb dX9_keepPast_81 rfl (lv_at hl 1 rfl) ?_
          refine lv_iadd hx hb dX9_keepPast_82 ?_
          refine lv_aload_n hx hb dX9_keepPast_83 rfl (lv_at hl 0 rfl) ?_
          refine va_get (D := D) (ci := 8) (v := .ref a_row) (C := RX9) (T := TX9) (N := 18) hx hb hts in_X9 hown hK hP 0 rfl rfl 0 (by decide) fl_7 (fun _ h9 => h9) rfl dX9_keepPast_84 ?_
          refine lv_iload_n hx hb dX9_keepPast_87 rfl (lv_at hl 1 rfl) ?_
          obtain ⟨hi_8, h⟩ := h
          refine va_iald hx hb hK hP 1 1 rfl rfl hi_8 dX9_keepPast_88 ?_
          obtain ⟨hi_9, h⟩ := h
          refine va_iast hx hb hK hP hD hS 1 1 rfl rfl hi_9 dX9_keepPast_89 (fun H locs hP hD hS => ?_)
          obtain ⟨s_row_10, es_row_10⟩ : ∃ f : Nat → Int32, f = upd s_row_4 (Int32.toNatClampNeg ((115 + (17 * (s_row_4 (Int32.toNatClampNeg 114)))) + x1_3)) (s_row_4 (Int32.toNatClampNeg x1_3)) := ⟨_, rfl⟩
          have hP : va_P D vwCl (Wd_Mo_keepPast cy a_this a_row a_isKept a_refused a_text a_words a_cost a_steps a_mates a_bestMates a_comes s_above s_below s_length s_at s_behind s_readFlitches s_readFamilies s_doing s_row_10) H := by rw [es_row_10]; exact hP
          have hD : va_D A (Wd_Mo_keepPast cy a_this a_row a_isKept a_refused a_text a_words a_cost a_steps a_mates a_bestMates a_comes s_above s_below s_length s_at s_behind s_readFlitches s_readFamilies s_doing s_row_10) := by rw [es_row_10]; exact hD
          have h := h s_row_10 es_row_10
          obtain ⟨x1_11, ex1_11⟩ : ∃ y : Int32, y = x1_3 + 1 := ⟨_, rfl⟩
          have h := h x1_11 ex1_11
          refine lv_iinc (v := x1_11) (lv' := [(1, .int x1_11), (0, .ref a_this)]) hx hb dX9_keepPast_90 hl (k := 1) rfl (by rw [ex1_11]; rfl) (by decide) rfl (fun ls hl => ?_)
          refine lv_goto (tgt := 58) hx hb dX9_keepPast_93 (by decide) ?_
          exact ih58_4 _ _ _ _ _ h hP hD hS (lv_sub hl [1, 0] rfl)
    exact kT58_4 n58_4 _ _ _ _ _ h hP hD hS (lv_sub hl [1, 0] rfl)
  refine lv_icmp_ne (tgt := 56) hx hb dX9_keepPast_9 (by decide) (fun c_12 => ?_) (fun c_12 => ?_)
  · have h := h.1 c_12
    exact kJ56_1 _ _ _ _ h hP hD hS (lv_sub hl [0] rfl)
  · have h := h.2 c_12
    refine lv_iconst (v := 0) hx hb dX9_keepPast_12 (by decide) ?_
    refine lv_istore_n (lv' := [(1, .int 0), (0, .ref a_this)]) hx hb dX9_keepPast_13 rfl hl (by decide) rfl (fun ls hl => ?_)
    obtain ⟨T14_14, hz14_14, hs14_14, n14_14, h⟩ := lpw2_use h
    have kT14_14 : ∀ (n : Nat) (x1_13 : Int32) (s_row_14 : Nat → Int32) (H : Heap) (locs : List Loc) (ls : Array Slot), T14_14 n x1_13 s_row_14 → va_P D vwCl (Wd_Mo_keepPast cy a_this a_row a_isKept a_refused a_text a_words a_cost a_steps a_mates a_bestMates a_comes s_above s_below s_length s_at s_behind s_readFlitches s_readFamilies s_doing s_row_14) H → va_D A (Wd_Mo_keepPast cy a_this a_row a_isKept a_refused a_text a_words a_cost a_steps a_mates a_bestMates a_comes s_above s_below s_length s_at s_behind s_readFlitches s_readFamilies s_doing s_row_14) → va_S A s.heap H locs → lv_has ls 2 [(0, .ref a_this), (1, .int x1_13)] → W p l e rm_Mo_keepPast s m args below meth c H locs 0 0 QQ (F0 m 14 ls []) := by
      intro n
      induction n with
      | zero => intro x1_13 s_row_14 H locs ls h; exact absurd h (hz14_14 _ _)
      | succ n ih14_14 =>
        intro x1_13 s_row_14 H locs ls h hP hD hS hl
        have h := hs14_14 _ _ _ h
        refine lv_iload_n hx hb dX9_keepPast_14 rfl (lv_at hl 1 rfl) ?_
        refine lv_bipush (v := 119) hx hb dX9_keepPast_15 (by decide) ?_
        refine lv_icmp_ge (tgt := 45) hx hb dX9_keepPast_17 (by decide) (fun c_16 => ?_) (fun c_16 => ?_)
        · have h := h.1 c_16
          refine lv_aload_n hx hb dX9_keepPast_45 rfl (lv_at hl 0 rfl) ?_
          refine va_get (D := D) (ci := 8) (v := .ref a_row) (C := RX9) (T := TX9) (N := 18) hx hb hts in_X9 hown hK hP 0 rfl rfl 0 (by decide) fl_7 (fun _ h9 => h9) rfl dX9_keepPast_46 ?_
          refine lv_bipush (v := 114) hx hb dX9_keepPast_49 (by decide) ?_
          refine lv_dup2_11 hx hb dX9_keepPast_51 rfl rfl ?_
          refine va_iald hx hb hK hP 1 1 rfl rfl (by unfold vp_in; decide) dX9_keepPast_52 ?_
          refine lv_iconst (v := 1) hx hb dX9_keepPast_53 (by decide) ?_
          refine lv_isub hx hb dX9_keepPast_54 ?_
          refine va_iast hx hb hK hP hD hS 1 1 rfl rfl (by unfold vp_in; decide) dX9_keepPast_55 (fun H locs hP hD hS => ?_)
          obtain ⟨s_row_17, es_row_17⟩ : ∃ f : Nat → Int32, f = upd s_row_14 (Int32.toNatClampNeg 114) ((s_row_14 (Int32.toNatClampNeg 114)) - 1) := ⟨_, rfl⟩
          have hP : va_P D vwCl (Wd_Mo_keepPast cy a_this a_row a_isKept a_refused a_text a_words a_cost a_steps a_mates a_bestMates a_comes s_above s_below s_length s_at s_behind s_readFlitches s_readFamilies s_doing s_row_17) H := by rw [es_row_17]; exact hP
          have hD : va_D A (Wd_Mo_keepPast cy a_this a_row a_isKept a_refused a_text a_words a_cost a_steps a_mates a_bestMates a_comes s_above s_below s_length s_at s_behind s_readFlitches s_readFamilies s_doing s_row_17) := by rw [es_row_17]; exact hD
          have h := h s_row_17 es_row_17
          exact kJ56_1 _ _ _ _ h hP hD hS (lv_sub hl [0] rfl)
        · have h := h.2 c_16
          refine lv_aload_n hx hb dX9_keepPast_20 rfl (lv_at hl 0 rfl) ?_
          refine va_get (D := D) (ci := 8) (v := .ref a_row) (C := RX9) (T := TX9) (N := 18) hx hb hts in_X9 hown hK hP 0 rfl rfl 0 (by decide) fl_7 (fun _ h9 => h9) rfl dX9_keepPast_21 ?_
          refine lv_bipush (v := 115) hx hb dX9_keepPast_24 (by decide) ?_
          refine lv_iload_n hx hb dX9_keepPast_26 rfl (lv_at hl 1 rfl) ?_
          refine lv_iadd hx hb dX9_keepPast_27 ?_
          refine lv_aload_n hx hb dX9_keepPast_28 rfl (lv_at hl 0 rfl) ?_
          refine va_get (D := D) (ci := 8) (v := .ref a_row) (C := RX9) (T := TX9) (N := 18) hx hb hts in_X9 hown hK hP 0 rfl rfl 0 (by decide) fl_7 (fun _ h9 => h9) rfl dX9_keepPast_29 ?_
          refine lv_sipush (v := 132) hx hb dX9_keepPast_32 (by decide) ?_
          refine lv_iload_n hx hb dX9_keepPast_35 rfl (lv_at hl 1 rfl) ?_
          refine lv_iadd hx hb dX9_keepPast_36 ?_
          obtain ⟨hi_18, h⟩ := h
          refine va_iald hx hb hK hP 1 1 rfl rfl hi_18 dX9_keepPast_37 ?_
          obtain ⟨hi_19, h⟩ := h
          refine va_iast hx hb hK hP hD hS 1 1 rfl rfl hi_19 dX9_keepPast_38 (fun H locs hP hD hS => ?_)
          obtain ⟨s_row_20, es_row_20⟩ : ∃ f : Nat → Int32, f = upd s_row_14 (Int32.toNatClampNeg (115 + x1_13)) (s_row_14 (Int32.toNatClampNeg (132 + x1_13))) := ⟨_, rfl⟩
          have hP : va_P D vwCl (Wd_Mo_keepPast cy a_this a_row a_isKept a_refused a_text a_words a_cost a_steps a_mates a_bestMates a_comes s_above s_below s_length s_at s_behind s_readFlitches s_readFamilies s_doing s_row_20) H := by rw [es_row_20]; exact hP
          have hD : va_D A (Wd_Mo_keepPast cy a_this a_row a_isKept a_refused a_text a_words a_cost a_steps a_mates a_bestMates a_comes s_above s_below s_length s_at s_behind s_readFlitches s_readFamilies s_doing s_row_20) := by rw [es_row_20]; exact hD
          have h := h s_row_20 es_row_20
          obtain ⟨x1_21, ex1_21⟩ : ∃ y : Int32, y = x1_13 + 1 := ⟨_, rfl⟩
          have h := h x1_21 ex1_21
          refine lv_iinc (v := x1_21) (lv' := [(1, .int x1_21), (0, .ref a_this)]) hx hb dX9_keepPast_39 hl (k := 1) rfl (by rw [ex1_21]; rfl) (by decide) rfl (fun ls hl => ?_)
          refine lv_goto (tgt := 14) hx hb dX9_keepPast_42 (by decide) ?_
          exact ih14_14 _ _ _ _ _ h hP hD hS (lv_sub hl [1, 0] rfl)
    exact kT14_14 n14_14 _ _ _ _ _ h hP hD hS (lv_sub hl [1, 0] rfl)
abbrev Wd_Mo_isFamily (cy : ClassId × ClassId × ClassId × ClassId) (a_this a_row a_isKept a_refused a_text a_words a_cost a_steps a_mates a_bestMates a_comes : Nat) (s_above : Int64) (s_below : Int64) (s_length : Int32) (s_at : Int32) (s_behind : Int32) (s_readFlitches : Int32) (s_readFamilies : Int32) (s_doing : Int32) (s_row : Nat → Int32) : va_W := [(a_this, .inr (8, [.ref a_row, .ref a_isKept, .ref a_refused, .long s_above, .long s_below, .ref a_text, .int s_length, .ref a_words, .int s_at, .int s_behind, .int s_readFlitches, .int s_readFamilies, .int s_doing, .ref a_cost, .ref a_steps, .ref a_mates, .ref a_bestMates, .ref a_comes])), (a_row, .inl (cy.2.1, 770, .inl s_row))]
abbrev rm_Mo_isFamily : Room := { frames := 1, cells := 0, slots := 0, locals := 22 }
def wp_Mo_isFamily (x1 : Int32) (s_row : Nat → Int32) (Q : Int32 → Prop) : Prop := wp_Mo_in x1 0 ((s_row (Int32.toNatClampNeg 27)) - 1) (fun (r_1 : Int32) => bz r_1 ∧ Q r_1)
set_option maxHeartbeats 4000000 in
set_option maxRecDepth 100000 in
theorem co_Mo_isFamily (l : Launch) (D : va_G) (cy : ClassId × ClassId × ClassId × ClassId) (a_this a_row a_isKept a_refused a_text a_words a_cost a_steps a_mates a_bestMates a_comes : Nat) (s_above : Int64) (s_below : Int64) (s_length : Int32) (s_at : Int32) (s_behind : Int32) (s_readFlitches : Int32) (s_readFamilies : Int32) (s_doing : Int32) (s_row : Nat → Int32) (x1 : Int32) (Q : Int32 → Prop) (h : wp_Mo_isFamily x1 s_row Q) : RoI l yX9_isFamily wsX9_isFamily rm_Mo_isFamily D cy [.ref a_this, .int x1] (Wd_Mo_isFamily cy a_this a_row a_isKept a_refused a_text a_words a_cost a_steps a_mates a_bestMates a_comes s_above s_below s_length s_at s_behind s_readFlitches s_readFamilies s_doing s_row) Q := by
  refine st_metRZ (cc := cX9_isFamily) (maxL := 2) RX9 (by decide) rfl rfl (Nat.le_of_ble_eq_true rfl) ?_
  intro p e s m args below meth c QQ ls F hKK hP hl hret
  have hK := hKK.1
  have hnest := hKK.2.1
  have hx := F.1
  have hb := F.2.1
  have hown := F.2.2.2.1
  have hts := F.2.2.2.2
  have in_X9 : ∀ w ∈ u_ws RX9 TX9 18, w ∈ wsX9_isFamily := (fun _ h => List.mem_cons_of_mem _ (List.mem_append_right _ h))
  have fl_7 := (hts (.fieldLink RX9 7 "RasherCaseModel" "row" "[I") (List.mem_of_getElem? (i := 1) rfl))
  have hl : lv_has ls 2 [(0, .ref a_this), (1, .int x1)] := hl
  unfold wp_Mo_isFamily at h
  refine lv_iload_n hx hb dX9_isFamily_0 rfl (lv_at hl 1 rfl) ?_
  refine lv_iconst (v := 0) hx hb dX9_isFamily_1 (by decide) ?_
  refine lv_aload_n hx hb dX9_isFamily_2 rfl (lv_at hl 0 rfl) ?_
  refine va_get (D := D) (ci := 8) (v := .ref a_row) (C := RX9) (T := TX9) (N := 18) hx hb hts in_X9 hown hK hP 0 rfl rfl 0 (by decide) fl_7 (fun _ h9 => h9) rfl dX9_isFamily_3 ?_
  refine lv_bipush (v := 27) hx hb dX9_isFamily_6 (by decide) ?_
  refine va_iald hx hb hK hP 1 1 rfl rfl (by unfold vp_in; decide) dX9_isFamily_8 ?_
  refine lv_iconst (v := 1) hx hb dX9_isFamily_9 (by decide) ?_
  refine lv_isub hx hb dX9_isFamily_10 ?_
  refine st_callRI (st_runSR (n := 3) (As := [.int x1, .int 0, .int ((s_row (Int32.toNatClampNeg 27)) - 1)]) (rest := []) F (co_Mo_in l D cy x1 0 ((s_row (Int32.toNatClampNeg 27)) - 1) _ h) gX9_isFamily_X9_in rfl (by decide +kernel) rfl hKK hP [] rfl rfl hl.1 rfl (Nat.le_of_ble_eq_true rfl) dX9_isFamily_11) (fun r_1 h => ?_)
  obtain ⟨hz_2, h⟩ := h
  exact hret _ _ _ hz_2 h dX9_isFamily_14
abbrev Wd_Mo_isFlitch (cy : ClassId × ClassId × ClassId × ClassId) (a_this a_row a_isKept a_refused a_text a_words a_cost a_steps a_mates a_bestMates a_comes : Nat) (s_above : Int64) (s_below : Int64) (s_length : Int32) (s_at : Int32) (s_behind : Int32) (s_readFlitches : Int32) (s_readFamilies : Int32) (s_doing : Int32) (s_row : Nat → Int32) : va_W := [(a_this, .inr (8, [.ref a_row, .ref a_isKept, .ref a_refused, .long s_above, .long s_below, .ref a_text, .int s_length, .ref a_words, .int s_at, .int s_behind, .int s_readFlitches, .int s_readFamilies, .int s_doing, .ref a_cost, .ref a_steps, .ref a_mates, .ref a_bestMates, .ref a_comes])), (a_row, .inl (cy.2.1, 770, .inl s_row))]
abbrev rm_Mo_isFlitch : Room := { frames := 1, cells := 0, slots := 0, locals := 22 }
def wp_Mo_isFlitch (x1 : Int32) (s_row : Nat → Int32) (Q : Int32 → Prop) : Prop := wp_Mo_in x1 0 ((s_row (Int32.toNatClampNeg 17)) - 1) (fun (r_1 : Int32) => bz r_1 ∧ Q r_1)
set_option maxHeartbeats 4000000 in
set_option maxRecDepth 100000 in
theorem co_Mo_isFlitch (l : Launch) (D : va_G) (cy : ClassId × ClassId × ClassId × ClassId) (a_this a_row a_isKept a_refused a_text a_words a_cost a_steps a_mates a_bestMates a_comes : Nat) (s_above : Int64) (s_below : Int64) (s_length : Int32) (s_at : Int32) (s_behind : Int32) (s_readFlitches : Int32) (s_readFamilies : Int32) (s_doing : Int32) (s_row : Nat → Int32) (x1 : Int32) (Q : Int32 → Prop) (h : wp_Mo_isFlitch x1 s_row Q) : RoI l yX9_isFlitch wsX9_isFlitch rm_Mo_isFlitch D cy [.ref a_this, .int x1] (Wd_Mo_isFlitch cy a_this a_row a_isKept a_refused a_text a_words a_cost a_steps a_mates a_bestMates a_comes s_above s_below s_length s_at s_behind s_readFlitches s_readFamilies s_doing s_row) Q := by
  refine st_metRZ (cc := cX9_isFlitch) (maxL := 2) RX9 (by decide) rfl rfl (Nat.le_of_ble_eq_true rfl) ?_
  intro p e s m args below meth c QQ ls F hKK hP hl hret
  have hK := hKK.1
  have hnest := hKK.2.1
  have hx := F.1
  have hb := F.2.1
  have hown := F.2.2.2.1
  have hts := F.2.2.2.2
  have in_X9 : ∀ w ∈ u_ws RX9 TX9 18, w ∈ wsX9_isFlitch := (fun _ h => List.mem_cons_of_mem _ (List.mem_append_right _ h))
  have fl_7 := (hts (.fieldLink RX9 7 "RasherCaseModel" "row" "[I") (List.mem_of_getElem? (i := 1) rfl))
  have hl : lv_has ls 2 [(0, .ref a_this), (1, .int x1)] := hl
  unfold wp_Mo_isFlitch at h
  refine lv_iload_n hx hb dX9_isFlitch_0 rfl (lv_at hl 1 rfl) ?_
  refine lv_iconst (v := 0) hx hb dX9_isFlitch_1 (by decide) ?_
  refine lv_aload_n hx hb dX9_isFlitch_2 rfl (lv_at hl 0 rfl) ?_
  refine va_get (D := D) (ci := 8) (v := .ref a_row) (C := RX9) (T := TX9) (N := 18) hx hb hts in_X9 hown hK hP 0 rfl rfl 0 (by decide) fl_7 (fun _ h9 => h9) rfl dX9_isFlitch_3 ?_
  refine lv_bipush (v := 17) hx hb dX9_isFlitch_6 (by decide) ?_
  refine va_iald hx hb hK hP 1 1 rfl rfl (by unfold vp_in; decide) dX9_isFlitch_8 ?_
  refine lv_iconst (v := 1) hx hb dX9_isFlitch_9 (by decide) ?_
  refine lv_isub hx hb dX9_isFlitch_10 ?_
  refine st_callRI (st_runSR (n := 3) (As := [.int x1, .int 0, .int ((s_row (Int32.toNatClampNeg 17)) - 1)]) (rest := []) F (co_Mo_in l D cy x1 0 ((s_row (Int32.toNatClampNeg 17)) - 1) _ h) gX9_isFlitch_X9_in rfl (by decide +kernel) rfl hKK hP [] rfl rfl hl.1 rfl (Nat.le_of_ble_eq_true rfl) dX9_isFlitch_11) (fun r_1 h => ?_)
  obtain ⟨hz_2, h⟩ := h
  exact hret _ _ _ hz_2 h dX9_isFlitch_14
abbrev Wd_Mo_days (cy : ClassId × ClassId × ClassId × ClassId) (a_this a_refused a_row a_isKept a_text a_words a_cost a_steps a_mates a_bestMates a_comes : Nat) (s_above : Int64) (s_below : Int64) (s_length : Int32) (s_at : Int32) (s_behind : Int32) (s_readFlitches : Int32) (s_readFamilies : Int32) (s_doing : Int32) (s_refused : Nat → Int32) (s_row : Nat → Int32) : va_W := [(a_this, .inr (8, [.ref a_row, .ref a_isKept, .ref a_refused, .long s_above, .long s_below, .ref a_text, .int s_length, .ref a_words, .int s_at, .int s_behind, .int s_readFlitches, .int s_readFamilies, .int s_doing, .ref a_cost, .ref a_steps, .ref a_mates, .ref a_bestMates, .ref a_comes])), (a_refused, .inl (cy.2.1, 3, .inl s_refused)), (a_row, .inl (cy.2.1, 770, .inl s_row))]
abbrev rm_Mo_days : Room := { frames := 5, cells := 0, slots := 0, locals := 114 }
def wp_Mo_days (x1 : Int32) (s_refused : Nat → Int32) (s_row : Nat → Int32) (Q : Int32 → (Nat → Int32) → (Nat → Int32) → Prop) : Prop := wp_Mo_in x1 1 60 (fun (r_1 : Int32) => ((¬ r_1 = 0 → wp_Mo_keepPast s_row (fun (s_row_4 : Nat → Int32) => wp_Mo_goBy x1 s_row_4 (fun (s_row_6 : Nat → Int32) => wp_Mo_bits (s_row_6 (Int32.toNatClampNeg 7)) (fun (r_7 : Int32) => Q r_7 s_refused s_row_6)))) ∧ (r_1 = 0 → wp_Mo_refuse (-2) s_refused (fun (r_8 : Int32) (s_refused_9 : Nat → Int32) => Q r_8 s_refused_9 s_row))))
set_option maxHeartbeats 4000000 in
set_option maxRecDepth 100000 in
theorem co_Mo_days (l : Launch) (D : va_G) (cy : ClassId × ClassId × ClassId × ClassId) (a_this a_refused a_row a_isKept a_text a_words a_cost a_steps a_mates a_bestMates a_comes : Nat) (s_above : Int64) (s_below : Int64) (s_length : Int32) (s_at : Int32) (s_behind : Int32) (s_readFlitches : Int32) (s_readFamilies : Int32) (s_doing : Int32) (s_refused : Nat → Int32) (s_row : Nat → Int32) (x1 : Int32) (Q : Int32 → (Nat → Int32) → (Nat → Int32) → Prop) (h : wp_Mo_days x1 s_refused s_row Q) : CoI l yX9_days wsX9_days rm_Mo_days D cy [.ref a_this, .int x1] (Wd_Mo_days cy a_this a_refused a_row a_isKept a_text a_words a_cost a_steps a_mates a_bestMates a_comes s_above s_below s_length s_at s_behind s_readFlitches s_readFamilies s_doing s_refused s_row) (fun u : (Nat → Int32) × (Nat → Int32) => (Wd_Mo_days cy a_this a_refused a_row a_isKept a_text a_words a_cost a_steps a_mates a_bestMates a_comes s_above s_below s_length s_at s_behind s_readFlitches s_readFamilies s_doing u.1 u.2)) (fun (r : Int32) (u : (Nat → Int32) × (Nat → Int32)) => Q r u.1 u.2) := by
  refine st_metI (cc := cX9_days) (maxL := 2) RX9 (by decide) rfl rfl (Nat.le_of_ble_eq_true rfl) ?_
  intro p e s m args below meth c A QQ ls F hA hKK hP hD hS hl hret
  have hK := hKK.1
  have hnest := hKK.2.1
  have hx := F.1
  have hb := F.2.1
  have hown := F.2.2.2.1
  have hts := F.2.2.2.2
  have in_X9 : ∀ w ∈ u_ws RX9 TX9 18, w ∈ wsX9_days := (fun _ h => List.mem_cons_of_mem _ (List.mem_append_right _ h))
  have fl_7 := (hts (.fieldLink RX9 7 "RasherCaseModel" "row" "[I") (List.mem_of_getElem? (i := 1) rfl))
  have hl : lv_has ls 2 [(0, .ref a_this), (1, .int x1)] := hl
  unfold wp_Mo_days at h
  refine lv_iload_n hx hb dX9_days_0 rfl (lv_at hl 1 rfl) ?_
  refine lv_iconst (v := 1) hx hb dX9_days_1 (by decide) ?_
  refine lv_bipush (v := 60) hx hb dX9_days_2 (by decide) ?_
  refine st_callRI (st_runSR (n := 3) (As := [.int x1, .int 1, .int 60]) (rest := []) F (co_Mo_in l D cy x1 1 60 _ h) gX9_days_X9_in rfl (by decide +kernel) rfl hKK hP [] rfl rfl hl.1 rfl (Nat.le_of_ble_eq_true rfl) dX9_days_4) (fun r_1 h => ?_)
  refine lv_if_ne (tgt := 17) hx hb dX9_days_7 (by decide) (fun c_2 => ?_) (fun c_2 => ?_)
  · have h := h.1 c_2
    refine lv_aload_n hx hb dX9_days_17 rfl (lv_at hl 0 rfl) ?_
    refine st_callV (WR := [1].filterMap (fun i => (Wd_Mo_days cy a_this a_refused a_row a_isKept a_text a_words a_cost a_steps a_mates a_bestMates a_comes s_above s_below s_length s_at s_behind s_readFlitches s_readFamilies s_doing s_refused s_row)[i]?)) (WSn := fun u => (Wd_Mo_days cy a_this a_refused a_row a_isKept a_text a_words a_cost a_steps a_mates a_bestMates a_comes s_above s_below s_length s_at s_behind s_readFlitches s_readFamilies s_doing s_refused u)) (st_runV (n := 0) (As := []) (rest := []) (q0 := 0) F ((co_Mo_keepPast l D cy a_this a_row a_isKept a_refused a_text a_words a_cost a_steps a_mates a_bestMates a_comes s_above s_below s_length s_at s_behind s_readFlitches s_readFamilies s_doing s_row _ h) _) rfl gX9_days_X9_keepPast rfl (by decide +kernel) rfl hKK hP hD [0, 2] rfl rfl rfl rfl rfl hl.1 rfl (Nat.le_of_ble_eq_true rfl) dX9_days_18) hP hD hS hA [0, 2] [1] [1, 0, 2] rfl rfl rfl (fun _ => rfl) (fun u H locs h hP hD hS => ?_)
    obtain ⟨s_row_4, rfl⟩ : ∃ z, z = u := ⟨_, rfl⟩
    have hP : va_P D vwCl (Wd_Mo_days cy a_this a_refused a_row a_isKept a_text a_words a_cost a_steps a_mates a_bestMates a_comes s_above s_below s_length s_at s_behind s_readFlitches s_readFamilies s_doing s_refused s_row_4) H := hP
    have hD : va_D A (Wd_Mo_days cy a_this a_refused a_row a_isKept a_text a_words a_cost a_steps a_mates a_bestMates a_comes s_above s_below s_length s_at s_behind s_readFlitches s_readFamilies s_doing s_refused s_row_4) := hD
    refine lv_aload_n hx hb dX9_days_21 rfl (lv_at hl 0 rfl) ?_
    refine lv_iload_n hx hb dX9_days_22 rfl (lv_at hl 1 rfl) ?_
    refine st_callV (WR := [1].filterMap (fun i => (Wd_Mo_days cy a_this a_refused a_row a_isKept a_text a_words a_cost a_steps a_mates a_bestMates a_comes s_above s_below s_length s_at s_behind s_readFlitches s_readFamilies s_doing s_refused s_row_4)[i]?)) (WSn := fun u => (Wd_Mo_days cy a_this a_refused a_row a_isKept a_text a_words a_cost a_steps a_mates a_bestMates a_comes s_above s_below s_length s_at s_behind s_readFlitches s_readFamilies s_doing s_refused u)) (st_runV (n := 1) (As := [.int x1]) (rest := []) (q0 := 0) F ((co_Mo_goBy l D cy a_this a_row a_isKept a_refused a_text a_words a_cost a_steps a_mates a_bestMates a_comes s_above s_below s_length s_at s_behind s_readFlitches s_readFamilies s_doing s_row_4 x1 _ h) _) rfl gX9_days_X9_goBy rfl (by decide +kernel) rfl hKK hP hD [0, 2] rfl rfl rfl rfl rfl hl.1 rfl (Nat.le_of_ble_eq_true rfl) dX9_days_23) hP hD hS hA [0, 2] [1] [1, 0, 2] rfl rfl rfl (fun _ => rfl) (fun u H locs h hP hD hS => ?_)
    obtain ⟨s_row_6, rfl⟩ : ∃ z, z = u := ⟨_, rfl⟩
    have hP : va_P D vwCl (Wd_Mo_days cy a_this a_refused a_row a_isKept a_text a_words a_cost a_steps a_mates a_bestMates a_comes s_above s_below s_length s_at s_behind s_readFlitches s_readFamilies s_doing s_refused s_row_6) H := hP
    have hD : va_D A (Wd_Mo_days cy a_this a_refused a_row a_isKept a_text a_words a_cost a_steps a_mates a_bestMates a_comes s_above s_below s_length s_at s_behind s_readFlitches s_readFamilies s_doing s_refused s_row_6) := hD
    refine lv_aload_n hx hb dX9_days_26 rfl (lv_at hl 0 rfl) ?_
    refine va_get (D := D) (ci := 8) (v := .ref a_row) (C := RX9) (T := TX9) (N := 18) hx hb hts in_X9 hown hK hP 0 rfl rfl 0 (by decide) fl_7 (fun _ h9 => h9) rfl dX9_days_27 ?_
    refine lv_bipush (v := 7) hx hb dX9_days_30 (by decide) ?_
    refine va_iald hx hb hK hP 2 1 rfl rfl (by unfold vp_in; decide) dX9_days_32 ?_
    refine st_callRI (st_runSR (n := 1) (As := [.int (s_row_6 (Int32.toNatClampNeg 7))]) (rest := []) F (co_Mo_bits l D cy (s_row_6 (Int32.toNatClampNeg 7)) _ h) gX9_days_X9_bits rfl (by decide +kernel) rfl hKK hP [] rfl rfl hl.1 rfl (Nat.le_of_ble_eq_true rfl) dX9_days_33) (fun r_7 h => ?_)
    exact hret _ (s_refused, s_row_6) _ _ _ _ h hP hD hS dX9_days_36
  · have h := h.2 c_2
    refine lv_aload_n hx hb dX9_days_10 rfl (lv_at hl 0 rfl) ?_
    refine lv_bipush (v := (-2)) hx hb dX9_days_11 (by decide) ?_
    refine st_callI (WR := [2].filterMap (fun i => (Wd_Mo_days cy a_this a_refused a_row a_isKept a_text a_words a_cost a_steps a_mates a_bestMates a_comes s_above s_below s_length s_at s_behind s_readFlitches s_readFamilies s_doing s_refused s_row)[i]?)) (WSn := fun u => (Wd_Mo_days cy a_this a_refused a_row a_isKept a_text a_words a_cost a_steps a_mates a_bestMates a_comes s_above s_below s_length s_at s_behind s_readFlitches s_readFamilies s_doing u s_row)) (st_runV (n := 1) (As := [.int (-2)]) (rest := []) (q0 := 0) F ((co_Mo_refuse l D cy a_this a_refused a_row a_isKept a_text a_words a_cost a_steps a_mates a_bestMates a_comes s_above s_below s_length s_at s_behind s_readFlitches s_readFamilies s_doing s_refused (-2) _ h) _) rfl gX9_days_X9_refuse rfl (by decide +kernel) rfl hKK hP hD [0, 1] rfl rfl rfl rfl rfl hl.1 rfl (Nat.le_of_ble_eq_true rfl) dX9_days_13) hP hD hS hA [0, 1] [2] [1, 2, 0] rfl rfl rfl (fun _ => rfl) (fun r_8 u H locs h hP hD hS => ?_)
    obtain ⟨s_refused_9, rfl⟩ : ∃ z, z = u := ⟨_, rfl⟩
    have hP : va_P D vwCl (Wd_Mo_days cy a_this a_refused a_row a_isKept a_text a_words a_cost a_steps a_mates a_bestMates a_comes s_above s_below s_length s_at s_behind s_readFlitches s_readFamilies s_doing s_refused_9 s_row) H := hP
    have hD : va_D A (Wd_Mo_days cy a_this a_refused a_row a_isKept a_text a_words a_cost a_steps a_mates a_bestMates a_comes s_above s_below s_length s_at s_behind s_readFlitches s_readFamilies s_doing s_refused_9 s_row) := hD
    exact hret _ (s_refused_9, s_row) _ _ _ _ h hP hD hS dX9_days_16
abbrev Wd_Mo_goes (cy : ClassId × ClassId × ClassId × ClassId) (a_this a_refused a_row a_isKept a_text a_words a_cost a_steps a_mates a_bestMates a_comes : Nat) (s_above : Int64) (s_below : Int64) (s_length : Int32) (s_at : Int32) (s_behind : Int32) (s_readFlitches : Int32) (s_readFamilies : Int32) (s_doing : Int32) (s_refused : Nat → Int32) (s_row : Nat → Int32) : va_W := [(a_this, .inr (8, [.ref a_row, .ref a_isKept, .ref a_refused, .long s_above, .long s_below, .ref a_text, .int s_length, .ref a_words, .int s_at, .int s_behind, .int s_readFlitches, .int s_readFamilies, .int s_doing, .ref a_cost, .ref a_steps, .ref a_mates, .ref a_bestMates, .ref a_comes])), (a_refused, .inl (cy.2.1, 3, .inl s_refused)), (a_row, .inl (cy.2.1, 770, .inl s_row))]
abbrev rm_Mo_goes : Room := { frames := 2, cells := 0, slots := 0, locals := 43 }
def wp_Mo_goes (x1 : Int32) (x2 : Int32) (s_refused : Nat → Int32) (s_row : Nat → Int32) (Q : Int32 → (Nat → Int32) → (Nat → Int32) → Prop) : Prop := wp_Mo_isFamily x1 s_row (fun (r_1 : Int32) => jn0 (fun (J18 : Prop) => ((r_1 = 0 → J18) ∧ (¬ r_1 = 0 → wp_Mo_in x2 0 24 (fun (r_6 : Int32) => ((¬ r_6 = 0 → vp_in (8 + x1) 770 ∧ ∀ x3_9 : Int32, x3_9 = (s_row (Int32.toNatClampNeg (8 + x1))) → ((¬ x3_9 = x2 → wp_Mo_keepPast s_row (fun (s_row_12 : Nat → Int32) => vp_in (8 + x1) 770 ∧ ∀ s_row_14 : Nat → Int32, s_row_14 = upd s_row_12 (Int32.toNatClampNeg (8 + x1)) x2 → Q x3_9 s_refused s_row_14)) ∧ (x3_9 = x2 → wp_Mo_refuse (-3) s_refused (fun (r_15 : Int32) (s_refused_16 : Nat → Int32) => Q r_15 s_refused_16 s_row)))) ∧ (r_6 = 0 → J18)))))) (wp_Mo_refuse (-2) s_refused (fun (r_3 : Int32) (s_refused_4 : Nat → Int32) => Q r_3 s_refused_4 s_row)))
set_option maxHeartbeats 4000000 in
set_option maxRecDepth 100000 in
theorem co_Mo_goes (l : Launch) (D : va_G) (cy : ClassId × ClassId × ClassId × ClassId) (a_this a_refused a_row a_isKept a_text a_words a_cost a_steps a_mates a_bestMates a_comes : Nat) (s_above : Int64) (s_below : Int64) (s_length : Int32) (s_at : Int32) (s_behind : Int32) (s_readFlitches : Int32) (s_readFamilies : Int32) (s_doing : Int32) (s_refused : Nat → Int32) (s_row : Nat → Int32) (x1 : Int32) (x2 : Int32) (Q : Int32 → (Nat → Int32) → (Nat → Int32) → Prop) (h : wp_Mo_goes x1 x2 s_refused s_row Q) : CoI l yX9_goes wsX9_goes rm_Mo_goes D cy [.ref a_this, .int x1, .int x2] (Wd_Mo_goes cy a_this a_refused a_row a_isKept a_text a_words a_cost a_steps a_mates a_bestMates a_comes s_above s_below s_length s_at s_behind s_readFlitches s_readFamilies s_doing s_refused s_row) (fun u : (Nat → Int32) × (Nat → Int32) => (Wd_Mo_goes cy a_this a_refused a_row a_isKept a_text a_words a_cost a_steps a_mates a_bestMates a_comes s_above s_below s_length s_at s_behind s_readFlitches s_readFamilies s_doing u.1 u.2)) (fun (r : Int32) (u : (Nat → Int32) × (Nat → Int32)) => Q r u.1 u.2) := by
  refine st_metI (cc := cX9_goes) (maxL := 4) RX9 (by decide) rfl rfl (Nat.le_of_ble_eq_true rfl) ?_
  intro p e s m args below meth c A QQ ls F hA hKK hP hD hS hl hret
  have hK := hKK.1
  have hnest := hKK.2.1
  have hx := F.1
  have hb := F.2.1
  have hown := F.2.2.2.1
  have hts := F.2.2.2.2
  have in_X9 : ∀ w ∈ u_ws RX9 TX9 18, w ∈ wsX9_goes := (fun _ h => List.mem_cons_of_mem _ (List.mem_append_right _ h))
  have fl_7 := (hts (.fieldLink RX9 7 "RasherCaseModel" "row" "[I") (List.mem_of_getElem? (i := 1) rfl))
  have hl : lv_has ls 4 [(0, .ref a_this), (1, .int x1), (2, .int x2)] := hl
  unfold wp_Mo_goes at h
  refine lv_aload_n hx hb dX9_goes_0 rfl (lv_at hl 0 rfl) ?_
  refine lv_iload_n hx hb dX9_goes_1 rfl (lv_at hl 1 rfl) ?_
  refine st_callRI (st_runVR (n := 1) (As := [.int x1]) (rest := []) (q0 := 0) F (co_Mo_isFamily l D cy a_this a_row a_isKept a_refused a_text a_words a_cost a_steps a_mates a_bestMates a_comes s_above s_below s_length s_at s_behind s_readFlitches s_readFamilies s_doing s_row x1 _ h) gX9_goes_X9_isFamily rfl (by decide +kernel) rfl hKK hP [0, 2] rfl rfl rfl rfl hl.1 rfl (Nat.le_of_ble_eq_true rfl) dX9_goes_2) (fun r_1 h => ?_)
  obtain ⟨J18, hJ18, h⟩ := jn0_ex h
  have kJ18_1 : ∀  (H : Heap) (locs : List Loc) (ls : Array Slot), J18 → va_P D vwCl (Wd_Mo_goes cy a_this a_refused a_row a_isKept a_text a_words a_cost a_steps a_mates a_bestMates a_comes s_above s_below s_length s_at s_behind s_readFlitches s_readFamilies s_doing s_refused s_row) H → va_D A (Wd_Mo_goes cy a_this a_refused a_row a_isKept a_text a_words a_cost a_steps a_mates a_bestMates a_comes s_above s_below s_length s_at s_behind s_readFlitches s_readFamilies s_doing s_refused s_row) → va_S A s.heap H locs → lv_has ls 4 [(0, .ref a_this)] → W p l e rm_Mo_goes s m args below meth c H locs 0 0 QQ (F0 m 18 ls []) := by
    intro  H locs ls h hP hD hS hl
    have h := hJ18  h
    refine lv_aload_n hx hb dX9_goes_18 rfl (lv_at hl 0 rfl) ?_
    refine lv_bipush (v := (-2)) hx hb dX9_goes_19 (by decide) ?_
    refine st_callI (WR := [2].filterMap (fun i => (Wd_Mo_goes cy a_this a_refused a_row a_isKept a_text a_words a_cost a_steps a_mates a_bestMates a_comes s_above s_below s_length s_at s_behind s_readFlitches s_readFamilies s_doing s_refused s_row)[i]?)) (WSn := fun u => (Wd_Mo_goes cy a_this a_refused a_row a_isKept a_text a_words a_cost a_steps a_mates a_bestMates a_comes s_above s_below s_length s_at s_behind s_readFlitches s_readFamilies s_doing u s_row)) (st_runV (n := 1) (As := [.int (-2)]) (rest := []) (q0 := 0) F ((co_Mo_refuse l D cy a_this a_refused a_row a_isKept a_text a_words a_cost a_steps a_mates a_bestMates a_comes s_above s_below s_length s_at s_behind s_readFlitches s_readFamilies s_doing s_refused (-2) _ h) _) rfl gX9_goes_X9_refuse rfl (by decide +kernel) rfl hKK hP hD [0, 1] rfl rfl rfl rfl rfl hl.1 rfl (Nat.le_of_ble_eq_true rfl) dX9_goes_21) hP hD hS hA [0, 1] [2] [1, 2, 0] rfl rfl rfl (fun _ => rfl) (fun r_3 u H locs h hP hD hS => ?_)
    obtain ⟨s_refused_4, rfl⟩ : ∃ z, z = u := ⟨_, rfl⟩
    have hP : va_P D vwCl (Wd_Mo_goes cy a_this a_refused a_row a_isKept a_text a_words a_cost a_steps a_mates a_bestMates a_comes s_above s_below s_length s_at s_behind s_readFlitches s_readFamilies s_doing s_refused_4 s_row) H := hP
    have hD : va_D A (Wd_Mo_goes cy a_this a_refused a_row a_isKept a_text a_words a_cost a_steps a_mates a_bestMates a_comes s_above s_below s_length s_at s_behind s_readFlitches s_readFamilies s_doing s_refused_4 s_row) := hD
    exact hret _ (s_refused_4, s_row) _ _ _ _ h hP hD hS dX9_goes_24
  refine lv_if_eq (tgt := 18) hx hb dX9_goes_5 (by decide) (fun c_5 => ?_) (fun c_5 => ?_)
  · have h := h.1 c_5
    exact kJ18_1  _ _ _ h hP hD hS (lv_sub hl [0] rfl)
  · have h := h.2 c_5
    refine lv_iload_n hx hb dX9_goes_8 rfl (lv_at hl 2 rfl) ?_
    refine lv_iconst (v := 0) hx hb dX9_goes_9 (by decide) ?_
    refine lv_bipush (v := 24) hx hb dX9_goes_10 (by decide) ?_
    refine st_callRI (st_runSR (n := 3) (As := [.int x2, .int 0, .int 24]) (rest := []) F (co_Mo_in l D cy x2 0 24 _ h) gX9_goes_X9_in rfl (by decide +kernel) rfl hKK hP [] rfl rfl hl.1 rfl (Nat.le_of_ble_eq_true rfl) dX9_goes_12) (fun r_6 h => ?_)
    refine lv_if_ne (tgt := 25) hx hb dX9_goes_15 (by decide) (fun c_7 => ?_) (fun c_7 => ?_)
    · have h := h.1 c_7
      refine lv_aload_n hx hb dX9_goes_25 rfl (lv_at hl 0 rfl) ?_
      refine va_get (D := D) (ci := 8) (v := .ref a_row) (C := RX9) (T := TX9) (N := 18) hx hb hts in_X9 hown hK hP 0 rfl rfl 0 (by decide) fl_7 (fun _ h9 => h9) rfl dX9_goes_26 ?_
      refine lv_bipush (v := 8) hx hb dX9_goes_29 (by decide) ?_
      refine lv_iload_n hx hb dX9_goes_31 rfl (lv_at hl 1 rfl) ?_
      refine lv_iadd hx hb dX9_goes_32 ?_
      obtain ⟨hi_8, h⟩ := h
      refine va_iald hx hb hK hP 2 1 rfl rfl hi_8 dX9_goes_33 ?_
      refine lv_topi (fun x3_9 ex3_9 => ?_)
      have h := h x3_9 ex3_9
      refine lv_istore_n (lv' := [(3, .int x3_9), (0, .ref a_this), (1, .int x1), (2, .int x2)]) hx hb dX9_goes_34 rfl hl (by decide) rfl (fun ls hl => ?_)
      refine lv_iload_n hx hb dX9_goes_35 rfl (lv_at hl 0 rfl) ?_
      refine lv_iload_n hx hb dX9_goes_36 rfl (lv_at hl 3 rfl) ?_
      refine lv_icmp_ne (tgt := 47) hx hb dX9_goes_37 (by decide) (fun c_10 => ?_) (fun c_10 => ?_)
      · have h := h.1 c_10
        refine lv_aload_n hx hb dX9_goes_47 rfl (lv_at hl 1 rfl) ?_
        refine st_callV (WR := [1].filterMap (fun i => (Wd_Mo_goes cy a_this a_refused a_row a_isKept a_text a_words a_cost a_steps a_mates a_bestMates a_comes s_above s_below s_length s_at s_behind s_readFlitches s_readFamilies s_doing s_refused s_row)[i]?)) (WSn := fun u => (Wd_Mo_goes cy a_this a_refused a_row a_isKept a_text a_words a_cost a_steps a_mates a_bestMates a_comes s_above s_below s_length s_at s_behind s_readFlitches s_readFamilies s_doing s_refused u)) (st_runV (n := 0) (As := []) (rest := []) (q0 := 0) F ((co_Mo_keepPast l D cy a_this a_row a_isKept a_refused a_text a_words a_cost a_steps a_mates a_bestMates a_comes s_above s_below s_length s_at s_behind s_readFlitches s_readFamilies s_doing s_row _ h) _) rfl gX9_goes_X9_keepPast rfl (by decide +kernel) rfl hKK hP hD [0, 2] rfl rfl rfl rfl rfl hl.1 rfl (Nat.le_of_ble_eq_true rfl) dX9_goes_48) hP hD hS hA [0, 2] [1] [1, 0, 2] rfl rfl rfl (fun _ => rfl) (fun u H locs h hP hD hS => ?_)
        obtain ⟨s_row_12, rfl⟩ : ∃ z, z = u := ⟨_, rfl⟩
        have hP : va_P D vwCl (Wd_Mo_goes cy a_this a_refused a_row a_isKept a_text a_words a_cost a_steps a_mates a_bestMates a_comes s_above s_below s_length s_at s_behind s_readFlitches s_readFamilies s_doing s_refused s_row_12) H := hP
        have hD : va_D A (Wd_Mo_goes cy a_this a_refused a_row a_isKept a_text a_words a_cost a_steps a_mates a_bestMates a_comes s_above s_below s_length s_at s_behind s_readFlitches s_readFamilies s_doing s_refused s_row_12) := hD
        refine lv_aload_n hx hb dX9_goes_51 rfl (lv_at hl 1 rfl) ?_
        refine va_get (D := D) (ci := 8) (v := .ref a_row) (C := RX9) (T := TX9) (N := 18) hx hb hts in_X9 hown hK hP 0 rfl rfl 0 (by decide) fl_7 (fun _ h9 => h9) rfl dX9_goes_52 ?_
        refine lv_bipush (v := 8) hx hb dX9_goes_55 (by decide) ?_
        refine lv_iload_n hx hb dX9_goes_57 rfl (lv_at hl 2 rfl) ?_
        refine lv_iadd hx hb dX9_goes_58 ?_
        refine lv_iload_n hx hb dX9_goes_59 rfl (lv_at hl 3 rfl) ?_
        obtain ⟨hi_13, h⟩ := h
        refine va_iast hx hb hK hP hD hS 2 1 rfl rfl hi_13 dX9_goes_60 (fun H locs hP hD hS => ?_)
        obtain ⟨s_row_14, es_row_14⟩ : ∃ f : Nat → Int32, f = upd s_row_12 (Int32.toNatClampNeg (8 + x1)) x2 := ⟨_, rfl⟩
        have hP : va_P D vwCl (Wd_Mo_goes cy a_this a_refused a_row a_isKept a_text a_words a_cost a_steps a_mates a_bestMates a_comes s_above s_below s_length s_at s_behind s_readFlitches s_readFamilies s_doing s_refused s_row_14) H := by rw [es_row_14]; exact hP
        have hD : va_D A (Wd_Mo_goes cy a_this a_refused a_row a_isKept a_text a_words a_cost a_steps a_mates a_bestMates a_comes s_above s_below s_length s_at s_behind s_readFlitches s_readFamilies s_doing s_refused s_row_14) := by rw [es_row_14]; exact hD
        have h := h s_row_14 es_row_14
        refine lv_iload_n hx hb dX9_goes_61 rfl (lv_at hl 0 rfl) ?_
        exact hret _ (s_refused, s_row_14) _ _ _ _ h hP hD hS dX9_goes_62
      · have h := h.2 c_10
        refine lv_aload_n hx hb dX9_goes_40 rfl (lv_at hl 1 rfl) ?_
        refine lv_bipush (v := (-3)) hx hb dX9_goes_41 (by decide) ?_
        refine st_callI (WR := [2].filterMap (fun i => (Wd_Mo_goes cy a_this a_refused a_row a_isKept a_text a_words a_cost a_steps a_mates a_bestMates a_comes s_above s_below s_length s_at s_behind s_readFlitches s_readFamilies s_doing s_refused s_row)[i]?)) (WSn := fun u => (Wd_Mo_goes cy a_this a_refused a_row a_isKept a_text a_words a_cost a_steps a_mates a_bestMates a_comes s_above s_below s_length s_at s_behind s_readFlitches s_readFamilies s_doing u s_row)) (st_runV (n := 1) (As := [.int (-3)]) (rest := []) (q0 := 0) F ((co_Mo_refuse l D cy a_this a_refused a_row a_isKept a_text a_words a_cost a_steps a_mates a_bestMates a_comes s_above s_below s_length s_at s_behind s_readFlitches s_readFamilies s_doing s_refused (-3) _ h) _) rfl gX9_goes_X9_refuse rfl (by decide +kernel) rfl hKK hP hD [0, 1] rfl rfl rfl rfl rfl hl.1 rfl (Nat.le_of_ble_eq_true rfl) dX9_goes_43) hP hD hS hA [0, 1] [2] [1, 2, 0] rfl rfl rfl (fun _ => rfl) (fun r_15 u H locs h hP hD hS => ?_)
        obtain ⟨s_refused_16, rfl⟩ : ∃ z, z = u := ⟨_, rfl⟩
        have hP : va_P D vwCl (Wd_Mo_goes cy a_this a_refused a_row a_isKept a_text a_words a_cost a_steps a_mates a_bestMates a_comes s_above s_below s_length s_at s_behind s_readFlitches s_readFamilies s_doing s_refused_16 s_row) H := hP
        have hD : va_D A (Wd_Mo_goes cy a_this a_refused a_row a_isKept a_text a_words a_cost a_steps a_mates a_bestMates a_comes s_above s_below s_length s_at s_behind s_readFlitches s_readFamilies s_doing s_refused_16 s_row) := hD
        exact hret _ (s_refused_16, s_row) _ _ _ _ h hP hD hS dX9_goes_46
    · have h := h.2 c_7
      exact kJ18_1  _ _ _ h hP hD hS (lv_sub hl [0] rfl)
abbrev Wd_Mo_turnip (cy : ClassId × ClassId × ClassId × ClassId) (a_this a_refused a_row a_isKept a_text a_words a_cost a_steps a_mates a_bestMates a_comes : Nat) (s_above : Int64) (s_below : Int64) (s_length : Int32) (s_at : Int32) (s_behind : Int32) (s_readFlitches : Int32) (s_readFamilies : Int32) (s_doing : Int32) (s_refused : Nat → Int32) (s_row : Nat → Int32) : va_W := [(a_this, .inr (8, [.ref a_row, .ref a_isKept, .ref a_refused, .long s_above, .long s_below, .ref a_text, .int s_length, .ref a_words, .int s_at, .int s_behind, .int s_readFlitches, .int s_readFamilies, .int s_doing, .ref a_cost, .ref a_steps, .ref a_mates, .ref a_bestMates, .ref a_comes])), (a_refused, .inl (cy.2.1, 3, .inl s_refused)), (a_row, .inl (cy.2.1, 770, .inl s_row))]
abbrev rm_Mo_turnip : Room := { frames := 2, cells := 0, slots := 0, locals := 43 }
def wp_Mo_turnip (x1 : Int32) (s_refused : Nat → Int32) (s_row : Nat → Int32) (Q : Int32 → (Nat → Int32) → (Nat → Int32) → Prop) : Prop := wp_Mo_isFamily x1 s_row (fun (r_1 : Int32) => ((¬ r_1 = 0 → wp_Mo_has (s_row (Int32.toNatClampNeg 7)) x1 (fun (r_3 : Int32) => ((r_3 = 0 → wp_Mo_keepPast s_row (fun (s_row_6 : Nat → Int32) => vp_in (0 + x1) 770 ∧ jn1 (fun (J75 : Int32 → Prop) => (((s_row_6 (Int32.toNatClampNeg (0 + x1))) ≤ 96 → vp_in (0 + x1) 770 ∧ J75 ((s_row_6 (Int32.toNatClampNeg (0 + x1))) + 3)) ∧ (¬ (s_row_6 (Int32.toNatClampNeg (0 + x1))) ≤ 96 → J75 99))) (fun (v_8 : Int32) => vp_in (0 + x1) 770 ∧ ∀ s_row_11 : Nat → Int32, s_row_11 = upd s_row_6 (Int32.toNatClampNeg (0 + x1)) v_8 → vp_in (0 + x1) 770 ∧ Q (s_row_11 (Int32.toNatClampNeg (0 + x1))) s_refused s_row_11))) ∧ (¬ r_3 = 0 → wp_Mo_refuse (-3) s_refused (fun (r_15 : Int32) (s_refused_16 : Nat → Int32) => Q r_15 s_refused_16 s_row))))) ∧ (r_1 = 0 → wp_Mo_refuse (-2) s_refused (fun (r_17 : Int32) (s_refused_18 : Nat → Int32) => Q r_17 s_refused_18 s_row))))
set_option maxHeartbeats 4000000 in
set_option maxRecDepth 100000 in
theorem co_Mo_turnip (l : Launch) (D : va_G) (cy : ClassId × ClassId × ClassId × ClassId) (a_this a_refused a_row a_isKept a_text a_words a_cost a_steps a_mates a_bestMates a_comes : Nat) (s_above : Int64) (s_below : Int64) (s_length : Int32) (s_at : Int32) (s_behind : Int32) (s_readFlitches : Int32) (s_readFamilies : Int32) (s_doing : Int32) (s_refused : Nat → Int32) (s_row : Nat → Int32) (x1 : Int32) (Q : Int32 → (Nat → Int32) → (Nat → Int32) → Prop) (h : wp_Mo_turnip x1 s_refused s_row Q) : CoI l yX9_turnip wsX9_turnip rm_Mo_turnip D cy [.ref a_this, .int x1] (Wd_Mo_turnip cy a_this a_refused a_row a_isKept a_text a_words a_cost a_steps a_mates a_bestMates a_comes s_above s_below s_length s_at s_behind s_readFlitches s_readFamilies s_doing s_refused s_row) (fun u : (Nat → Int32) × (Nat → Int32) => (Wd_Mo_turnip cy a_this a_refused a_row a_isKept a_text a_words a_cost a_steps a_mates a_bestMates a_comes s_above s_below s_length s_at s_behind s_readFlitches s_readFamilies s_doing u.1 u.2)) (fun (r : Int32) (u : (Nat → Int32) × (Nat → Int32)) => Q r u.1 u.2) := by
  refine st_metI (cc := cX9_turnip) (maxL := 2) RX9 (by decide) rfl rfl (Nat.le_of_ble_eq_true rfl) ?_
  intro p e s m args below meth c A QQ ls F hA hKK hP hD hS hl hret
  have hK := hKK.1
  have hnest := hKK.2.1
  have hx := F.1
  have hb := F.2.1
  have hown := F.2.2.2.1
  have hts := F.2.2.2.2
  have in_X9 : ∀ w ∈ u_ws RX9 TX9 18, w ∈ wsX9_turnip := (fun _ h => List.mem_cons_of_mem _ (List.mem_append_right _ h))
  have fl_7 := (hts (.fieldLink RX9 7 "RasherCaseModel" "row" "[I") (List.mem_of_getElem? (i := 1) rfl))
  have hl : lv_has ls 2 [(0, .ref a_this), (1, .int x1)] := hl
  unfold wp_Mo_turnip at h
  refine lv_aload_n hx hb dX9_turnip_0 rfl (lv_at hl 0 rfl) ?_
  refine lv_iload_n hx hb dX9_turnip_1 rfl (lv_at hl 1 rfl) ?_
  refine st_callRI (st_runVR (n := 1) (As := [.int x1]) (rest := []) (q0 := 0) F (co_Mo_isFamily l D cy a_this a_row a_isKept a_refused a_text a_words a_cost a_steps a_mates a_bestMates a_comes s_above s_below s_length s_at s_behind s_readFlitches s_readFamilies s_doing s_row x1 _ h) gX9_turnip_X9_isFamily rfl (by decide +kernel) rfl hKK hP [0, 2] rfl rfl rfl rfl hl.1 rfl (Nat.le_of_ble_eq_true rfl) dX9_turnip_2) (fun r_1 h => ?_)
  refine lv_if_ne (tgt := 15) hx hb dX9_turnip_5 (by decide) (fun c_2 => ?_) (fun c_2 => ?_)
  · have h := h.1 c_2
    refine lv_aload_n hx hb dX9_turnip_15 rfl (lv_at hl 0 rfl) ?_
    refine va_get (D := D) (ci := 8) (v := .ref a_row) (C := RX9) (T := TX9) (N := 18) hx hb hts in_X9 hown hK hP 0 rfl rfl 0 (by decide) fl_7 (fun _ h9 => h9) rfl dX9_turnip_16 ?_
    refine lv_bipush (v := 7) hx hb dX9_turnip_19 (by decide) ?_
    refine va_iald hx hb hK hP 2 1 rfl rfl (by unfold vp_in; decide) dX9_turnip_21 ?_
    refine lv_iload_n hx hb dX9_turnip_22 rfl (lv_at hl 1 rfl) ?_
    refine st_callRI (st_runSR (n := 2) (As := [.int (s_row (Int32.toNatClampNeg 7)), .int x1]) (rest := []) F (co_Mo_has l D cy (s_row (Int32.toNatClampNeg 7)) x1 _ h) gX9_turnip_X9_has rfl (by decide +kernel) rfl hKK hP [] rfl rfl hl.1 rfl (Nat.le_of_ble_eq_true rfl) dX9_turnip_23) (fun r_3 h => ?_)
    refine lv_if_eq (tgt := 36) hx hb dX9_turnip_26 (by decide) (fun c_4 => ?_) (fun c_4 => ?_)
    · have h := h.1 c_4
      refine lv_aload_n hx hb dX9_turnip_36 rfl (lv_at hl 0 rfl) ?_
      refine st_callV (WR := [1].filterMap (fun i => (Wd_Mo_turnip cy a_this a_refused a_row a_isKept a_text a_words a_cost a_steps a_mates a_bestMates a_comes s_above s_below s_length s_at s_behind s_readFlitches s_readFamilies s_doing s_refused s_row)[i]?)) (WSn := fun u => (Wd_Mo_turnip cy a_this a_refused a_row a_isKept a_text a_words a_cost a_steps a_mates a_bestMates a_comes s_above s_below s_length s_at s_behind s_readFlitches s_readFamilies s_doing s_refused u)) (st_runV (n := 0) (As := []) (rest := []) (q0 := 0) F ((co_Mo_keepPast l D cy a_this a_row a_isKept a_refused a_text a_words a_cost a_steps a_mates a_bestMates a_comes s_above s_below s_length s_at s_behind s_readFlitches s_readFamilies s_doing s_row _ h) _) rfl gX9_turnip_X9_keepPast rfl (by decide +kernel) rfl hKK hP hD [0, 2] rfl rfl rfl rfl rfl hl.1 rfl (Nat.le_of_ble_eq_true rfl) dX9_turnip_37) hP hD hS hA [0, 2] [1] [1, 0, 2] rfl rfl rfl (fun _ => rfl) (fun u H locs h hP hD hS => ?_)
      obtain ⟨s_row_6, rfl⟩ : ∃ z, z = u := ⟨_, rfl⟩
      have hP : va_P D vwCl (Wd_Mo_turnip cy a_this a_refused a_row a_isKept a_text a_words a_cost a_steps a_mates a_bestMates a_comes s_above s_below s_length s_at s_behind s_readFlitches s_readFamilies s_doing s_refused s_row_6) H := hP
      have hD : va_D A (Wd_Mo_turnip cy a_this a_refused a_row a_isKept a_text a_words a_cost a_steps a_mates a_bestMates a_comes s_above s_below s_length s_at s_behind s_readFlitches s_readFamilies s_doing s_refused s_row_6) := hD
      refine lv_aload_n hx hb dX9_turnip_40 rfl (lv_at hl 0 rfl) ?_
      refine va_get (D := D) (ci := 8) (v := .ref a_row) (C := RX9) (T := TX9) (N := 18) hx hb hts in_X9 hown hK hP 0 rfl rfl 0 (by decide) fl_7 (fun _ h9 => h9) rfl dX9_turnip_41 ?_
      refine lv_iconst (v := 0) hx hb dX9_turnip_44 (by decide) ?_
      refine lv_iload_n hx hb dX9_turnip_45 rfl (lv_at hl 1 rfl) ?_
      refine lv_iadd hx hb dX9_turnip_46 ?_
      refine lv_aload_n hx hb dX9_turnip_47 rfl (lv_at hl 0 rfl) ?_
      refine va_get (D := D) (ci := 8) (v := .ref a_row) (C := RX9) (T := TX9) (N := 18) hx hb hts in_X9 hown hK hP 0 rfl rfl 0 (by decide) fl_7 (fun _ h9 => h9) rfl dX9_turnip_48 ?_
      refine lv_iconst (v := 0) hx hb dX9_turnip_51 (by decide) ?_
      refine lv_iload_n hx hb dX9_turnip_52 rfl (lv_at hl 1 rfl) ?_
      refine lv_iadd hx hb dX9_turnip_53 ?_
      obtain ⟨hi_7, h⟩ := h
      refine va_iald hx hb hK hP 2 1 rfl rfl hi_7 dX9_turnip_54 ?_
      refine lv_bipush (v := 96) hx hb dX9_turnip_55 (by decide) ?_
      obtain ⟨J75, hJ75, h⟩ := jn1_ex h
      have kJ75_8 : ∀ (v_8 : Int32) (H : Heap) (locs : List Loc) (ls : Array Slot), J75 v_8 → va_P D vwCl (Wd_Mo_turnip cy a_this a_refused a_row a_isKept a_text a_words a_cost a_steps a_mates a_bestMates a_comes s_above s_below s_length s_at s_behind s_readFlitches s_readFamilies s_doing s_refused s_row_6) H → va_D A (Wd_Mo_turnip cy a_this a_refused a_row a_isKept a_text a_words a_cost a_steps a_mates a_bestMates a_comes s_above s_below s_length s_at s_behind s_readFlitches s_readFamilies s_doing s_refused s_row_6) → va_S A s.heap H locs → lv_has ls 2 [(0, .ref a_this), (1, .int x1)] → W p l e rm_Mo_turnip s m args below meth c H locs 0 0 QQ (F0 m 75 ls [.int v_8, .int (0 + x1), .ref a_row]) := by
        intro v_8 H locs ls h hP hD hS hl
        have h := hJ75 _ h
        obtain ⟨hi_10, h⟩ := h
        refine va_iast hx hb hK hP hD hS 2 1 rfl rfl hi_10 dX9_turnip_75 (fun H locs hP hD hS => ?_)
        obtain ⟨s_row_11, es_row_11⟩ : ∃ f : Nat → Int32, f = upd s_row_6 (Int32.toNatClampNeg (0 + x1)) v_8 := ⟨_, rfl⟩
        have hP : va_P D vwCl (Wd_Mo_turnip cy a_this a_refused a_row a_isKept a_text a_words a_cost a_steps a_mates a_bestMates a_comes s_above s_below s_length s_at s_behind s_readFlitches s_readFamilies s_doing s_refused s_row_11) H := by rw [es_row_11]; exact hP
        have hD : va_D A (Wd_Mo_turnip cy a_this a_refused a_row a_isKept a_text a_words a_cost a_steps a_mates a_bestMates a_comes s_above s_below s_length s_at s_behind s_readFlitches s_readFamilies s_doing s_refused s_row_11) := by rw [es_row_11]; exact hD
        have h := h s_row_11 es_row_11
        refine lv_aload_n hx hb dX9_turnip_76 rfl (lv_at hl 0 rfl) ?_
        refine va_get (D := D) (ci := 8) (v := .ref a_row) (C := RX9) (T := TX9) (N := 18) hx hb hts in_X9 hown hK hP 0 rfl rfl 0 (by decide) fl_7 (fun _ h9 => h9) rfl dX9_turnip_77 ?_
        refine lv_iconst (v := 0) hx hb dX9_turnip_80 (by decide) ?_
        refine lv_iload_n hx hb dX9_turnip_81 rfl (lv_at hl 1 rfl) ?_
        refine lv_iadd hx hb dX9_turnip_82 ?_
        obtain ⟨hi_12, h⟩ := h
        refine va_iald hx hb hK hP 2 1 rfl rfl hi_12 dX9_turnip_83 ?_
        exact hret _ (s_refused, s_row_11) _ _ _ _ h hP hD hS dX9_turnip_84
      refine lv_icmp_le (tgt := 65) hx hb dX9_turnip_57 (by decide) (fun c_13 => ?_) (fun c_13 => ?_)
      · have h := h.1 c_13
        refine lv_aload_n hx hb dX9_turnip_65 rfl (lv_at hl 0 rfl) ?_
        refine va_get (D := D) (ci := 8) (v := .ref a_row) (C := RX9) (T := TX9) (N := 18) hx hb hts in_X9 hown hK hP 0 rfl rfl 0 (by decide) fl_7 (fun _ h9 => h9) rfl dX9_turnip_66 ?_
        refine lv_iconst (v := 0) hx hb dX9_turnip_69 (by decide) ?_
        refine lv_iload_n hx hb dX9_turnip_70 rfl (lv_at hl 1 rfl) ?_
        refine lv_iadd hx hb dX9_turnip_71 ?_
        obtain ⟨hi_14, h⟩ := h
        refine va_iald hx hb hK hP 2 1 rfl rfl hi_14 dX9_turnip_72 ?_
        refine lv_iconst (v := 3) hx hb dX9_turnip_73 (by decide) ?_
        refine lv_iadd hx hb dX9_turnip_74 ?_
        exact kJ75_8 _ _ _ _ h hP hD hS (lv_sub hl [0, 1] rfl)
      · have h := h.2 c_13
        refine lv_bipush (v := 99) hx hb dX9_turnip_60 (by decide) ?_
        refine lv_goto (tgt := 75) hx hb dX9_turnip_62 (by decide) ?_
        exact kJ75_8 _ _ _ _ h hP hD hS (lv_sub hl [0, 1] rfl)
    · have h := h.2 c_4
      refine lv_aload_n hx hb dX9_turnip_29 rfl (lv_at hl 0 rfl) ?_
      refine lv_bipush (v := (-3)) hx hb dX9_turnip_30 (by decide) ?_
      refine st_callI (WR := [2].filterMap (fun i => (Wd_Mo_turnip cy a_this a_refused a_row a_isKept a_text a_words a_cost a_steps a_mates a_bestMates a_comes s_above s_below s_length s_at s_behind s_readFlitches s_readFamilies s_doing s_refused s_row)[i]?)) (WSn := fun u => (Wd_Mo_turnip cy a_this a_refused a_row a_isKept a_text a_words a_cost a_steps a_mates a_bestMates a_comes s_above s_below s_length s_at s_behind s_readFlitches s_readFamilies s_doing u s_row)) (st_runV (n := 1) (As := [.int (-3)]) (rest := []) (q0 := 0) F ((co_Mo_refuse l D cy a_this a_refused a_row a_isKept a_text a_words a_cost a_steps a_mates a_bestMates a_comes s_above s_below s_length s_at s_behind s_readFlitches s_readFamilies s_doing s_refused (-3) _ h) _) rfl gX9_turnip_X9_refuse rfl (by decide +kernel) rfl hKK hP hD [0, 1] rfl rfl rfl rfl rfl hl.1 rfl (Nat.le_of_ble_eq_true rfl) dX9_turnip_32) hP hD hS hA [0, 1] [2] [1, 2, 0] rfl rfl rfl (fun _ => rfl) (fun r_15 u H locs h hP hD hS => ?_)
      obtain ⟨s_refused_16, rfl⟩ : ∃ z, z = u := ⟨_, rfl⟩
      have hP : va_P D vwCl (Wd_Mo_turnip cy a_this a_refused a_row a_isKept a_text a_words a_cost a_steps a_mates a_bestMates a_comes s_above s_below s_length s_at s_behind s_readFlitches s_readFamilies s_doing s_refused_16 s_row) H := hP
      have hD : va_D A (Wd_Mo_turnip cy a_this a_refused a_row a_isKept a_text a_words a_cost a_steps a_mates a_bestMates a_comes s_above s_below s_length s_at s_behind s_readFlitches s_readFamilies s_doing s_refused_16 s_row) := hD
      exact hret _ (s_refused_16, s_row) _ _ _ _ h hP hD hS dX9_turnip_35
  · have h := h.2 c_2
    refine lv_aload_n hx hb dX9_turnip_8 rfl (lv_at hl 0 rfl) ?_
    refine lv_bipush (v := (-2)) hx hb dX9_turnip_9 (by decide) ?_
    refine st_callI (WR := [2].filterMap (fun i => (Wd_Mo_turnip cy a_this a_refused a_row a_isKept a_text a_words a_cost a_steps a_mates a_bestMates a_comes s_above s_below s_length s_at s_behind s_readFlitches s_readFamilies s_doing s_refused s_row)[i]?)) (WSn := fun u => (Wd_Mo_turnip cy a_this a_refused a_row a_isKept a_text a_words a_cost a_steps a_mates a_bestMates a_comes s_above s_below s_length s_at s_behind s_readFlitches s_readFamilies s_doing u s_row)) (st_runV (n := 1) (As := [.int (-2)]) (rest := []) (q0 := 0) F ((co_Mo_refuse l D cy a_this a_refused a_row a_isKept a_text a_words a_cost a_steps a_mates a_bestMates a_comes s_above s_below s_length s_at s_behind s_readFlitches s_readFamilies s_doing s_refused (-2) _ h) _) rfl gX9_turnip_X9_refuse rfl (by decide +kernel) rfl hKK hP hD [0, 1] rfl rfl rfl rfl rfl hl.1 rfl (Nat.le_of_ble_eq_true rfl) dX9_turnip_11) hP hD hS hA [0, 1] [2] [1, 2, 0] rfl rfl rfl (fun _ => rfl) (fun r_17 u H locs h hP hD hS => ?_)
    obtain ⟨s_refused_18, rfl⟩ : ∃ z, z = u := ⟨_, rfl⟩
    have hP : va_P D vwCl (Wd_Mo_turnip cy a_this a_refused a_row a_isKept a_text a_words a_cost a_steps a_mates a_bestMates a_comes s_above s_below s_length s_at s_behind s_readFlitches s_readFamilies s_doing s_refused_18 s_row) H := hP
    have hD : va_D A (Wd_Mo_turnip cy a_this a_refused a_row a_isKept a_text a_words a_cost a_steps a_mates a_bestMates a_comes s_above s_below s_length s_at s_behind s_readFlitches s_readFamilies s_doing s_refused_18 s_row) := hD
    exact hret _ (s_refused_18, s_row) _ _ _ _ h hP hD hS dX9_turnip_14
abbrev Wd_Mo_outs (cy : ClassId × ClassId × ClassId × ClassId) (a_this a_refused a_row a_isKept a_text a_words a_cost a_steps a_mates a_bestMates a_comes : Nat) (s_above : Int64) (s_below : Int64) (s_length : Int32) (s_at : Int32) (s_behind : Int32) (s_readFlitches : Int32) (s_readFamilies : Int32) (s_doing : Int32) (s_refused : Nat → Int32) (s_row : Nat → Int32) : va_W := [(a_this, .inr (8, [.ref a_row, .ref a_isKept, .ref a_refused, .long s_above, .long s_below, .ref a_text, .int s_length, .ref a_words, .int s_at, .int s_behind, .int s_readFlitches, .int s_readFamilies, .int s_doing, .ref a_cost, .ref a_steps, .ref a_mates, .ref a_bestMates, .ref a_comes])), (a_refused, .inl (cy.2.1, 3, .inl s_refused)), (a_row, .inl (cy.2.1, 770, .inl s_row))]
abbrev rm_Mo_outs : Room := { frames := 2, cells := 0, slots := 0, locals := 43 }
def wp_Mo_outs (x1 : Int32) (s_refused : Nat → Int32) (s_row : Nat → Int32) (Q : Int32 → (Nat → Int32) → (Nat → Int32) → Prop) : Prop := wp_Mo_isFlitch x1 s_row (fun (r_1 : Int32) => ((¬ r_1 = 0 → wp_Mo_keepPast s_row (fun (s_row_4 : Nat → Int32) => ∀ s_row_5 : Nat → Int32, s_row_5 = upd s_row_4 (Int32.toNatClampNeg 15) ((s_row_4 (Int32.toNatClampNeg 15)) ^^^ (ishl 1 x1)) → Q ((ishr (s_row_5 (Int32.toNatClampNeg 15)) x1) &&& 1) s_refused s_row_5)) ∧ (r_1 = 0 → wp_Mo_refuse (-2) s_refused (fun (r_6 : Int32) (s_refused_7 : Nat → Int32) => Q r_6 s_refused_7 s_row))))
set_option maxHeartbeats 4000000 in
set_option maxRecDepth 100000 in
theorem co_Mo_outs (l : Launch) (D : va_G) (cy : ClassId × ClassId × ClassId × ClassId) (a_this a_refused a_row a_isKept a_text a_words a_cost a_steps a_mates a_bestMates a_comes : Nat) (s_above : Int64) (s_below : Int64) (s_length : Int32) (s_at : Int32) (s_behind : Int32) (s_readFlitches : Int32) (s_readFamilies : Int32) (s_doing : Int32) (s_refused : Nat → Int32) (s_row : Nat → Int32) (x1 : Int32) (Q : Int32 → (Nat → Int32) → (Nat → Int32) → Prop) (h : wp_Mo_outs x1 s_refused s_row Q) : CoI l yX9_outs wsX9_outs rm_Mo_outs D cy [.ref a_this, .int x1] (Wd_Mo_outs cy a_this a_refused a_row a_isKept a_text a_words a_cost a_steps a_mates a_bestMates a_comes s_above s_below s_length s_at s_behind s_readFlitches s_readFamilies s_doing s_refused s_row) (fun u : (Nat → Int32) × (Nat → Int32) => (Wd_Mo_outs cy a_this a_refused a_row a_isKept a_text a_words a_cost a_steps a_mates a_bestMates a_comes s_above s_below s_length s_at s_behind s_readFlitches s_readFamilies s_doing u.1 u.2)) (fun (r : Int32) (u : (Nat → Int32) × (Nat → Int32)) => Q r u.1 u.2) := by
  refine st_metI (cc := cX9_outs) (maxL := 2) RX9 (by decide) rfl rfl (Nat.le_of_ble_eq_true rfl) ?_
  intro p e s m args below meth c A QQ ls F hA hKK hP hD hS hl hret
  have hK := hKK.1
  have hnest := hKK.2.1
  have hx := F.1
  have hb := F.2.1
  have hown := F.2.2.2.1
  have hts := F.2.2.2.2
  have in_X9 : ∀ w ∈ u_ws RX9 TX9 18, w ∈ wsX9_outs := (fun _ h => List.mem_cons_of_mem _ (List.mem_append_right _ h))
  have fl_7 := (hts (.fieldLink RX9 7 "RasherCaseModel" "row" "[I") (List.mem_of_getElem? (i := 1) rfl))
  have hl : lv_has ls 2 [(0, .ref a_this), (1, .int x1)] := hl
  unfold wp_Mo_outs at h
  refine lv_aload_n hx hb dX9_outs_0 rfl (lv_at hl 0 rfl) ?_
  refine lv_iload_n hx hb dX9_outs_1 rfl (lv_at hl 1 rfl) ?_
  refine st_callRI (st_runVR (n := 1) (As := [.int x1]) (rest := []) (q0 := 0) F (co_Mo_isFlitch l D cy a_this a_row a_isKept a_refused a_text a_words a_cost a_steps a_mates a_bestMates a_comes s_above s_below s_length s_at s_behind s_readFlitches s_readFamilies s_doing s_row x1 _ h) gX9_outs_X9_isFlitch rfl (by decide +kernel) rfl hKK hP [0, 2] rfl rfl rfl rfl hl.1 rfl (Nat.le_of_ble_eq_true rfl) dX9_outs_2) (fun r_1 h => ?_)
  refine lv_if_ne (tgt := 15) hx hb dX9_outs_5 (by decide) (fun c_2 => ?_) (fun c_2 => ?_)
  · have h := h.1 c_2
    refine lv_aload_n hx hb dX9_outs_15 rfl (lv_at hl 0 rfl) ?_
    refine st_callV (WR := [1].filterMap (fun i => (Wd_Mo_outs cy a_this a_refused a_row a_isKept a_text a_words a_cost a_steps a_mates a_bestMates a_comes s_above s_below s_length s_at s_behind s_readFlitches s_readFamilies s_doing s_refused s_row)[i]?)) (WSn := fun u => (Wd_Mo_outs cy a_this a_refused a_row a_isKept a_text a_words a_cost a_steps a_mates a_bestMates a_comes s_above s_below s_length s_at s_behind s_readFlitches s_readFamilies s_doing s_refused u)) (st_runV (n := 0) (As := []) (rest := []) (q0 := 0) F ((co_Mo_keepPast l D cy a_this a_row a_isKept a_refused a_text a_words a_cost a_steps a_mates a_bestMates a_comes s_above s_below s_length s_at s_behind s_readFlitches s_readFamilies s_doing s_row _ h) _) rfl gX9_outs_X9_keepPast rfl (by decide +kernel) rfl hKK hP hD [0, 2] rfl rfl rfl rfl rfl hl.1 rfl (Nat.le_of_ble_eq_true rfl) dX9_outs_16) hP hD hS hA [0, 2] [1] [1, 0, 2] rfl rfl rfl (fun _ => rfl) (fun u H locs h hP hD hS => ?_)
    obtain ⟨s_row_4, rfl⟩ : ∃ z, z = u := ⟨_, rfl⟩
    have hP : va_P D vwCl (Wd_Mo_outs cy a_this a_refused a_row a_isKept a_text a_words a_cost a_steps a_mates a_bestMates a_comes s_above s_below s_length s_at s_behind s_readFlitches s_readFamilies s_doing s_refused s_row_4) H := hP
    have hD : va_D A (Wd_Mo_outs cy a_this a_refused a_row a_isKept a_text a_words a_cost a_steps a_mates a_bestMates a_comes s_above s_below s_length s_at s_behind s_readFlitches s_readFamilies s_doing s_refused s_row_4) := hD
    refine lv_aload_n hx hb dX9_outs_19 rfl (lv_at hl 0 rfl) ?_
    refine va_get (D := D) (ci := 8) (v := .ref a_row) (C := RX9) (T := TX9) (N := 18) hx hb hts in_X9 hown hK hP 0 rfl rfl 0 (by decide) fl_7 (fun _ h9 => h9) rfl dX9_outs_20 ?_
    refine lv_bipush (v := 15) hx hb dX9_outs_23 (by decide) ?_
    refine lv_dup2_11 hx hb dX9_outs_25 rfl rfl ?_
    refine va_iald hx hb hK hP 2 1 rfl rfl (by unfold vp_in; decide) dX9_outs_26 ?_
    refine lv_iconst (v := 1) hx hb dX9_outs_27 (by decide) ?_
    refine lv_iload_n hx hb dX9_outs_28 rfl (lv_at hl 1 rfl) ?_
    refine lv_ishl hx hb dX9_outs_29 ?_
    refine lv_ixor hx hb dX9_outs_30 ?_
    refine va_iast hx hb hK hP hD hS 2 1 rfl rfl (by unfold vp_in; decide) dX9_outs_31 (fun H locs hP hD hS => ?_)
    obtain ⟨s_row_5, es_row_5⟩ : ∃ f : Nat → Int32, f = upd s_row_4 (Int32.toNatClampNeg 15) ((s_row_4 (Int32.toNatClampNeg 15)) ^^^ (ishl 1 x1)) := ⟨_, rfl⟩
    have hP : va_P D vwCl (Wd_Mo_outs cy a_this a_refused a_row a_isKept a_text a_words a_cost a_steps a_mates a_bestMates a_comes s_above s_below s_length s_at s_behind s_readFlitches s_readFamilies s_doing s_refused s_row_5) H := by rw [es_row_5]; exact hP
    have hD : va_D A (Wd_Mo_outs cy a_this a_refused a_row a_isKept a_text a_words a_cost a_steps a_mates a_bestMates a_comes s_above s_below s_length s_at s_behind s_readFlitches s_readFamilies s_doing s_refused s_row_5) := by rw [es_row_5]; exact hD
    have h := h s_row_5 es_row_5
    refine lv_aload_n hx hb dX9_outs_32 rfl (lv_at hl 0 rfl) ?_
    refine va_get (D := D) (ci := 8) (v := .ref a_row) (C := RX9) (T := TX9) (N := 18) hx hb hts in_X9 hown hK hP 0 rfl rfl 0 (by decide) fl_7 (fun _ h9 => h9) rfl dX9_outs_33 ?_
    refine lv_bipush (v := 15) hx hb dX9_outs_36 (by decide) ?_
    refine va_iald hx hb hK hP 2 1 rfl rfl (by unfold vp_in; decide) dX9_outs_38 ?_
    refine lv_iload_n hx hb dX9_outs_39 rfl (lv_at hl 1 rfl) ?_
    refine lv_ishr hx hb dX9_outs_40 ?_
    refine lv_iconst (v := 1) hx hb dX9_outs_41 (by decide) ?_
    refine lv_iand hx hb dX9_outs_42 ?_
    exact hret _ (s_refused, s_row_5) _ _ _ _ h hP hD hS dX9_outs_43
  · have h := h.2 c_2
    refine lv_aload_n hx hb dX9_outs_8 rfl (lv_at hl 0 rfl) ?_
    refine lv_bipush (v := (-2)) hx hb dX9_outs_9 (by decide) ?_
    refine st_callI (WR := [2].filterMap (fun i => (Wd_Mo_outs cy a_this a_refused a_row a_isKept a_text a_words a_cost a_steps a_mates a_bestMates a_comes s_above s_below s_length s_at s_behind s_readFlitches s_readFamilies s_doing s_refused s_row)[i]?)) (WSn := fun u => (Wd_Mo_outs cy a_this a_refused a_row a_isKept a_text a_words a_cost a_steps a_mates a_bestMates a_comes s_above s_below s_length s_at s_behind s_readFlitches s_readFamilies s_doing u s_row)) (st_runV (n := 1) (As := [.int (-2)]) (rest := []) (q0 := 0) F ((co_Mo_refuse l D cy a_this a_refused a_row a_isKept a_text a_words a_cost a_steps a_mates a_bestMates a_comes s_above s_below s_length s_at s_behind s_readFlitches s_readFamilies s_doing s_refused (-2) _ h) _) rfl gX9_outs_X9_refuse rfl (by decide +kernel) rfl hKK hP hD [0, 1] rfl rfl rfl rfl rfl hl.1 rfl (Nat.le_of_ble_eq_true rfl) dX9_outs_11) hP hD hS hA [0, 1] [2] [1, 2, 0] rfl rfl rfl (fun _ => rfl) (fun r_6 u H locs h hP hD hS => ?_)
    obtain ⟨s_refused_7, rfl⟩ : ∃ z, z = u := ⟨_, rfl⟩
    have hP : va_P D vwCl (Wd_Mo_outs cy a_this a_refused a_row a_isKept a_text a_words a_cost a_steps a_mates a_bestMates a_comes s_above s_below s_length s_at s_behind s_readFlitches s_readFamilies s_doing s_refused_7 s_row) H := hP
    have hD : va_D A (Wd_Mo_outs cy a_this a_refused a_row a_isKept a_text a_words a_cost a_steps a_mates a_bestMates a_comes s_above s_below s_length s_at s_behind s_readFlitches s_readFamilies s_doing s_refused_7 s_row) := hD
    exact hret _ (s_refused_7, s_row) _ _ _ _ h hP hD hS dX9_outs_14
abbrev Wd_Mo_undo (cy : ClassId × ClassId × ClassId × ClassId) (a_this a_refused a_row a_isKept a_text a_words a_cost a_steps a_mates a_bestMates a_comes : Nat) (s_above : Int64) (s_below : Int64) (s_length : Int32) (s_at : Int32) (s_behind : Int32) (s_readFlitches : Int32) (s_readFamilies : Int32) (s_doing : Int32) (s_refused : Nat → Int32) (s_row : Nat → Int32) : va_W := [(a_this, .inr (8, [.ref a_row, .ref a_isKept, .ref a_refused, .long s_above, .long s_below, .ref a_text, .int s_length, .ref a_words, .int s_at, .int s_behind, .int s_readFlitches, .int s_readFamilies, .int s_doing, .ref a_cost, .ref a_steps, .ref a_mates, .ref a_bestMates, .ref a_comes])), (a_refused, .inl (cy.2.1, 3, .inl s_refused)), (a_row, .inl (cy.2.1, 770, .inl s_row))]
abbrev rm_Mo_undo : Room := { frames := 1, cells := 0, slots := 0, locals := 21 }
def wp_Mo_undo (s_refused : Nat → Int32) (s_row : Nat → Int32) (Q : Int32 → (Nat → Int32) → (Nat → Int32) → Prop) : Prop := ((¬ (s_row (Int32.toNatClampNeg 114)) = 0 → ∀ s_row_2 : Nat → Int32, s_row_2 = upd s_row (Int32.toNatClampNeg 114) ((s_row (Int32.toNatClampNeg 114)) - 1) → ∃ n : Nat, lpw2 (fun (B30 : Int32 → (Nat → Int32) → Prop) (x1_3 : Int32) (s_row_4 : Nat → Int32) => ((17 ≤ x1_3 → Q (s_row_4 (Int32.toNatClampNeg 16)) s_refused s_row_4) ∧ (¬ 17 ≤ x1_3 → vp_in ((115 + (17 * (s_row_4 (Int32.toNatClampNeg 114)))) + x1_3) 770 ∧ vp_in x1_3 770 ∧ ∀ s_row_9 : Nat → Int32, s_row_9 = upd s_row_4 (Int32.toNatClampNeg x1_3) (s_row_4 (Int32.toNatClampNeg ((115 + (17 * (s_row_4 (Int32.toNatClampNeg 114)))) + x1_3))) → ∀ x1_10 : Int32, x1_10 = x1_3 + 1 → B30 x1_10 s_row_9))) n 0 s_row_2) ∧ ((s_row (Int32.toNatClampNeg 114)) = 0 → wp_Mo_refuse (-3) s_refused (fun (r_11 : Int32) (s_refused_12 : Nat → Int32) => Q r_11 s_refused_12 s_row)))
set_option maxHeartbeats 4000000 in
set_option maxRecDepth 100000 in
theorem co_Mo_undo (l : Launch) (D : va_G) (cy : ClassId × ClassId × ClassId × ClassId) (a_this a_refused a_row a_isKept a_text a_words a_cost a_steps a_mates a_bestMates a_comes : Nat) (s_above : Int64) (s_below : Int64) (s_length : Int32) (s_at : Int32) (s_behind : Int32) (s_readFlitches : Int32) (s_readFamilies : Int32) (s_doing : Int32) (s_refused : Nat → Int32) (s_row : Nat → Int32) (Q : Int32 → (Nat → Int32) → (Nat → Int32) → Prop) (h : wp_Mo_undo s_refused s_row Q) : CoI l yX9_undo wsX9_undo rm_Mo_undo D cy [.ref a_this] (Wd_Mo_undo cy a_this a_refused a_row a_isKept a_text a_words a_cost a_steps a_mates a_bestMates a_comes s_above s_below s_length s_at s_behind s_readFlitches s_readFamilies s_doing s_refused s_row) (fun u : (Nat → Int32) × (Nat → Int32) => (Wd_Mo_undo cy a_this a_refused a_row a_isKept a_text a_words a_cost a_steps a_mates a_bestMates a_comes s_above s_below s_length s_at s_behind s_readFlitches s_readFamilies s_doing u.1 u.2)) (fun (r : Int32) (u : (Nat → Int32) × (Nat → Int32)) => Q r u.1 u.2) := by
  refine st_metI (cc := cX9_undo) (maxL := 2) RX9 (by decide) rfl rfl (Nat.le_of_ble_eq_true rfl) ?_
  intro p e s m args below meth c A QQ ls F hA hKK hP hD hS hl hret
  have hK := hKK.1
  have hnest := hKK.2.1
  have hx := F.1
  have hb := F.2.1
  have hown := F.2.2.2.1
  have hts := F.2.2.2.2
  have in_X9 : ∀ w ∈ u_ws RX9 TX9 18, w ∈ wsX9_undo := (fun _ h => List.mem_cons_of_mem _ (List.mem_append_right _ h))
  have fl_7 := (hts (.fieldLink RX9 7 "RasherCaseModel" "row" "[I") (List.mem_of_getElem? (i := 1) rfl))
  have hl : lv_has ls 2 [(0, .ref a_this)] := hl
  unfold wp_Mo_undo at h
  refine lv_aload_n hx hb dX9_undo_0 rfl (lv_at hl 0 rfl) ?_
  refine va_get (D := D) (ci := 8) (v := .ref a_row) (C := RX9) (T := TX9) (N := 18) hx hb hts in_X9 hown hK hP 0 rfl rfl 0 (by decide) fl_7 (fun _ h9 => h9) rfl dX9_undo_1 ?_
  refine lv_bipush (v := 114) hx hb dX9_undo_4 (by decide) ?_
  refine va_iald hx hb hK hP 2 1 rfl rfl (by unfold vp_in; decide) dX9_undo_6 ?_
  refine lv_if_ne (tgt := 17) hx hb dX9_undo_7 (by decide) (fun c_1 => ?_) (fun c_1 => ?_)
  · have h := h.1 c_1
    refine lv_aload_n hx hb dX9_undo_17 rfl (lv_at hl 0 rfl) ?_
    refine va_get (D := D) (ci := 8) (v := .ref a_row) (C := RX9) (T := TX9) (N := 18) hx hb hts in_X9 hown hK hP 0 rfl rfl 0 (by decide) fl_7 (fun _ h9 => h9) rfl dX9_undo_18 ?_
    refine lv_bipush (v := 114) hx hb dX9_undo_21 (by decide) ?_
    refine lv_dup2_11 hx hb dX9_undo_23 rfl rfl ?_
    refine va_iald hx hb hK hP 2 1 rfl rfl (by unfold vp_in; decide) dX9_undo_24 ?_
    refine lv_iconst (v := 1) hx hb dX9_undo_25 (by decide) ?_
    refine lv_isub hx hb dX9_undo_26 ?_
    refine va_iast hx hb hK hP hD hS 2 1 rfl rfl (by unfold vp_in; decide) dX9_undo_27 (fun H locs hP hD hS => ?_)
    obtain ⟨s_row_2, es_row_2⟩ : ∃ f : Nat → Int32, f = upd s_row (Int32.toNatClampNeg 114) ((s_row (Int32.toNatClampNeg 114)) - 1) := ⟨_, rfl⟩
    have hP : va_P D vwCl (Wd_Mo_undo cy a_this a_refused a_row a_isKept a_text a_words a_cost a_steps a_mates a_bestMates a_comes s_above s_below s_length s_at s_behind s_readFlitches s_readFamilies s_doing s_refused s_row_2) H := by rw [es_row_2]; exact hP
    have hD : va_D A (Wd_Mo_undo cy a_this a_refused a_row a_isKept a_text a_words a_cost a_steps a_mates a_bestMates a_comes s_above s_below s_length s_at s_behind s_readFlitches s_readFamilies s_doing s_refused s_row_2) := by rw [es_row_2]; exact hD
    have h := h s_row_2 es_row_2
    refine lv_iconst (v := 0) hx hb dX9_undo_28 (by decide) ?_
    refine lv_istore_n (lv' := [(1, .int 0), (0, .ref a_this)]) hx hb dX9_undo_29 rfl hl (by decide) rfl (fun ls hl => ?_)
    obtain ⟨T30_4, hz30_4, hs30_4, n30_4, h⟩ := lpw2_use h
    have kT30_4 : ∀ (n : Nat) (x1_3 : Int32) (s_row_4 : Nat → Int32) (H : Heap) (locs : List Loc) (ls : Array Slot), T30_4 n x1_3 s_row_4 → va_P D vwCl (Wd_Mo_undo cy a_this a_refused a_row a_isKept a_text a_words a_cost a_steps a_mates a_bestMates a_comes s_above s_below s_length s_at s_behind s_readFlitches s_readFamilies s_doing s_refused s_row_4) H → va_D A (Wd_Mo_undo cy a_this a_refused a_row a_isKept a_text a_words a_cost a_steps a_mates a_bestMates a_comes s_above s_below s_length s_at s_behind s_readFlitches s_readFamilies s_doing s_refused s_row_4) → va_S A s.heap H locs → lv_has ls 2 [(0, .ref a_this), (1, .int x1_3)] → W p l e rm_Mo_undo s m args below meth c H locs 0 0 QQ (F0 m 30 ls []) := by
      intro n
      induction n with
      | zero => intro x1_3 s_row_4 H locs ls h; exact absurd h (hz30_4 _ _)
      | succ n ih30_4 =>
        intro x1_3 s_row_4 H locs ls h hP hD hS hl
        have h := hs30_4 _ _ _ h
        refine lv_iload_n hx hb dX9_undo_30 rfl (lv_at hl 1 rfl) ?_
        refine lv_bipush (v := 17) hx hb dX9_undo_31 (by decide) ?_
        refine lv_icmp_ge (tgt := 68) hx hb dX9_undo_33 (by decide) (fun c_6 => ?_) (fun c_6 => ?_)
        · have h := h.1 c_6
          refine lv_aload_n hx hb dX9_undo_68 rfl (lv_at hl 0 rfl) ?_
          refine va_get (D := D) (ci := 8) (v := .ref a_row) (C := RX9) (T := TX9) (N := 18) hx hb hts in_X9 hown hK hP 0 rfl rfl 0 (by decide) fl_7 (fun _ h9 => h9) rfl dX9_undo_69 ?_
          refine lv_bipush (v := 16) hx hb dX9_undo_72 (by decide) ?_
          refine va_iald hx hb hK hP 2 1 rfl rfl (by unfold vp_in; decide) dX9_undo_74 ?_
          exact hret _ (s_refused, s_row_4) _ _ _ _ h hP hD hS dX9_undo_75
        · have h := h.2 c_6
          refine lv_aload_n hx hb dX9_undo_36 rfl (lv_at hl 0 rfl) ?_
          refine va_get (D := D) (ci := 8) (v := .ref a_row) (C := RX9) (T := TX9) (N := 18) hx hb hts in_X9 hown hK hP 0 rfl rfl 0 (by decide) fl_7 (fun _ h9 => h9) rfl dX9_undo_37 ?_
          refine lv_iload_n hx hb dX9_undo_40 rfl (lv_at hl 1 rfl) ?_
          refine lv_aload_n hx hb dX9_undo_41 rfl (lv_at hl 0 rfl) ?_
          refine va_get (D := D) (ci := 8) (v := .ref a_row) (C := RX9) (T := TX9) (N := 18) hx hb hts in_X9 hown hK hP 0 rfl rfl 0 (by decide) fl_7 (fun _ h9 => h9) rfl dX9_undo_42 ?_
          refine lv_bipush (v := 115) hx hb dX9_undo_45 (by decide) ?_
          refine lv_bipush (v := 17) hx hb dX9_undo_47 (by decide) ?_
          refine lv_aload_n hx hb dX9_undo_49 rfl (lv_at hl 0 rfl) ?_
          refine va_get (D := D) (ci := 8) (v := .ref a_row) (C := RX9) (T := TX9) (N := 18) hx hb hts in_X9 hown hK hP 0 rfl rfl 0 (by decide) fl_7 (fun _ h9 => h9) rfl dX9_undo_50 ?_
          refine lv_bipush (v := 114) hx hb dX9_undo_53 (by decide) ?_
          refine va_iald hx hb hK hP 2 1 rfl rfl (by unfold vp_in; decide) dX9_undo_55 ?_
          refine lv_imul hx hb dX9_undo_56 ?_
          refine lv_iadd hx hb dX9_undo_57 ?_
          refine lv_iload_n hx hb dX9_undo_58 rfl (lv_at hl 1 rfl) ?_
          refine lv_iadd hx hb dX9_undo_59 ?_
          obtain ⟨hi_7, h⟩ := h
          refine va_iald hx hb hK hP 2 1 rfl rfl hi_7 dX9_undo_60 ?_
          obtain ⟨hi_8, h⟩ := h
          refine va_iast hx hb hK hP hD hS 2 1 rfl rfl hi_8 dX9_undo_61 (fun H locs hP hD hS => ?_)
          obtain ⟨s_row_9, es_row_9⟩ : ∃ f : Nat → Int32, f = upd s_row_4 (Int32.toNatClampNeg x1_3) (s_row_4 (Int32.toNatClampNeg ((115 + (17 * (s_row_4 (Int32.toNatClampNeg 114)))) + x1_3))) := ⟨_, rfl⟩
          have hP : va_P D vwCl (Wd_Mo_undo cy a_this a_refused a_row a_isKept a_text a_words a_cost a_steps a_mates a_bestMates a_comes s_above s_below s_length s_at s_behind s_readFlitches s_readFamilies s_doing s_refused s_row_9) H := by rw [es_row_9]; exact hP
          have hD : va_D A (Wd_Mo_undo cy a_this a_refused a_row a_isKept a_text a_words a_cost a_steps a_mates a_bestMates a_comes s_above s_below s_length s_at s_behind s_readFlitches s_readFamilies s_doing s_refused s_row_9) := by rw [es_row_9]; exact hD
          have h := h s_row_9 es_row_9
          obtain ⟨x1_10, ex1_10⟩ : ∃ y : Int32, y = x1_3 + 1 := ⟨_, rfl⟩
          have h := h x1_10 ex1_10
          refine lv_iinc (v := x1_10) (lv' := [(1, .int x1_10), (0, .ref a_this)]) hx hb dX9_undo_62 hl (k := 1) rfl (by rw [ex1_10]; rfl) (by decide) rfl (fun ls hl => ?_)
          refine lv_goto (tgt := 30) hx hb dX9_undo_65 (by decide) ?_
          exact ih30_4 _ _ _ _ _ h hP hD hS (lv_sub hl [1, 0] rfl)
    exact kT30_4 n30_4 _ _ _ _ _ h hP hD hS (lv_sub hl [1, 0] rfl)
  · have h := h.2 c_1
    refine lv_aload_n hx hb dX9_undo_10 rfl (lv_at hl 0 rfl) ?_
    refine lv_bipush (v := (-3)) hx hb dX9_undo_11 (by decide) ?_
    refine st_callI (WR := [2].filterMap (fun i => (Wd_Mo_undo cy a_this a_refused a_row a_isKept a_text a_words a_cost a_steps a_mates a_bestMates a_comes s_above s_below s_length s_at s_behind s_readFlitches s_readFamilies s_doing s_refused s_row)[i]?)) (WSn := fun u => (Wd_Mo_undo cy a_this a_refused a_row a_isKept a_text a_words a_cost a_steps a_mates a_bestMates a_comes s_above s_below s_length s_at s_behind s_readFlitches s_readFamilies s_doing u s_row)) (st_runV (n := 1) (As := [.int (-3)]) (rest := []) (q0 := 0) F ((co_Mo_refuse l D cy a_this a_refused a_row a_isKept a_text a_words a_cost a_steps a_mates a_bestMates a_comes s_above s_below s_length s_at s_behind s_readFlitches s_readFamilies s_doing s_refused (-3) _ h) _) rfl gX9_undo_X9_refuse rfl (by decide +kernel) rfl hKK hP hD [0, 1] rfl rfl rfl rfl rfl hl.1 rfl (Nat.le_of_ble_eq_true rfl) dX9_undo_13) hP hD hS hA [0, 1] [2] [1, 2, 0] rfl rfl rfl (fun _ => rfl) (fun r_11 u H locs h hP hD hS => ?_)
    obtain ⟨s_refused_12, rfl⟩ : ∃ z, z = u := ⟨_, rfl⟩
    have hP : va_P D vwCl (Wd_Mo_undo cy a_this a_refused a_row a_isKept a_text a_words a_cost a_steps a_mates a_bestMates a_comes s_above s_below s_length s_at s_behind s_readFlitches s_readFamilies s_doing s_refused_12 s_row) H := hP
    have hD : va_D A (Wd_Mo_undo cy a_this a_refused a_row a_isKept a_text a_words a_cost a_steps a_mates a_bestMates a_comes s_above s_below s_length s_at s_behind s_readFlitches s_readFamilies s_doing s_refused_12 s_row) := hD
    exact hret _ (s_refused_12, s_row) _ _ _ _ h hP hD hS dX9_undo_16
abbrev Wd_Mo_takesToday (cy : ClassId × ClassId × ClassId × ClassId) (a_this a_row a_isKept a_refused a_text a_words a_cost a_steps a_mates a_bestMates a_comes : Nat) (s_above : Int64) (s_below : Int64) (s_length : Int32) (s_at : Int32) (s_behind : Int32) (s_readFlitches : Int32) (s_readFamilies : Int32) (s_doing : Int32) (s_row : Nat → Int32) : va_W := [(a_this, .inr (8, [.ref a_row, .ref a_isKept, .ref a_refused, .long s_above, .long s_below, .ref a_text, .int s_length, .ref a_words, .int s_at, .int s_behind, .int s_readFlitches, .int s_readFamilies, .int s_doing, .ref a_cost, .ref a_steps, .ref a_mates, .ref a_bestMates, .ref a_comes])), (a_row, .inl (cy.2.1, 770, .inl s_row))]
abbrev rm_Mo_takesToday : Room := { frames := 3, cells := 0, slots := 0, locals := 67 }
def wp_Mo_takesToday (x1 : Int32) (s_row : Nat → Int32) (Q : Int32 → Prop) : Prop := wp_Mo_has (s_row (Int32.toNatClampNeg 7)) x1 (fun (r_1 : Int32) => ((r_1 = 0 → vp_in (28 + x1) 770 ∧ vp_in (8 + x1) 770 ∧ wp_Mo_smellOf (s_row (Int32.toNatClampNeg 15)) (s_row (Int32.toNatClampNeg (8 + x1))) (s_row (Int32.toNatClampNeg 16)) s_row (fun (r_5 : Int32) => wp_Mo_takesBy (s_row (Int32.toNatClampNeg (28 + x1))) r_5 (s_row (Int32.toNatClampNeg 16)) (fun (r_6 : Int32) => Q r_6))) ∧ (¬ r_1 = 0 → Q 0)))
set_option maxHeartbeats 4000000 in
set_option maxRecDepth 100000 in
theorem co_Mo_takesToday (l : Launch) (D : va_G) (cy : ClassId × ClassId × ClassId × ClassId) (a_this a_row a_isKept a_refused a_text a_words a_cost a_steps a_mates a_bestMates a_comes : Nat) (s_above : Int64) (s_below : Int64) (s_length : Int32) (s_at : Int32) (s_behind : Int32) (s_readFlitches : Int32) (s_readFamilies : Int32) (s_doing : Int32) (s_row : Nat → Int32) (x1 : Int32) (Q : Int32 → Prop) (h : wp_Mo_takesToday x1 s_row Q) : RoI l yX9_takesToday wsX9_takesToday rm_Mo_takesToday D cy [.ref a_this, .int x1] (Wd_Mo_takesToday cy a_this a_row a_isKept a_refused a_text a_words a_cost a_steps a_mates a_bestMates a_comes s_above s_below s_length s_at s_behind s_readFlitches s_readFamilies s_doing s_row) Q := by
  refine st_metRI (cc := cX9_takesToday) (maxL := 2) RX9 (by decide) rfl rfl (Nat.le_of_ble_eq_true rfl) ?_
  intro p e s m args below meth c QQ ls F hKK hP hl hret
  have hK := hKK.1
  have hnest := hKK.2.1
  have hx := F.1
  have hb := F.2.1
  have hown := F.2.2.2.1
  have hts := F.2.2.2.2
  have in_X9 : ∀ w ∈ u_ws RX9 TX9 18, w ∈ wsX9_takesToday := (fun _ h => List.mem_cons_of_mem _ (List.mem_append_right _ h))
  have fl_7 := (hts (.fieldLink RX9 7 "RasherCaseModel" "row" "[I") (List.mem_of_getElem? (i := 1) rfl))
  have hl : lv_has ls 2 [(0, .ref a_this), (1, .int x1)] := hl
  unfold wp_Mo_takesToday at h
  refine lv_aload_n hx hb dX9_takesToday_0 rfl (lv_at hl 0 rfl) ?_
  refine va_get (D := D) (ci := 8) (v := .ref a_row) (C := RX9) (T := TX9) (N := 18) hx hb hts in_X9 hown hK hP 0 rfl rfl 0 (by decide) fl_7 (fun _ h9 => h9) rfl dX9_takesToday_1 ?_
  refine lv_bipush (v := 7) hx hb dX9_takesToday_4 (by decide) ?_
  refine va_iald hx hb hK hP 1 1 rfl rfl (by unfold vp_in; decide) dX9_takesToday_6 ?_
  refine lv_iload_n hx hb dX9_takesToday_7 rfl (lv_at hl 1 rfl) ?_
  refine st_callRI (st_runSR (n := 2) (As := [.int (s_row (Int32.toNatClampNeg 7)), .int x1]) (rest := []) F (co_Mo_has l D cy (s_row (Int32.toNatClampNeg 7)) x1 _ h) gX9_takesToday_X9_has rfl (by decide +kernel) rfl hKK hP [] rfl rfl hl.1 rfl (Nat.le_of_ble_eq_true rfl) dX9_takesToday_8) (fun r_1 h => ?_)
  refine lv_if_eq (tgt := 18) hx hb dX9_takesToday_11 (by decide) (fun c_2 => ?_) (fun c_2 => ?_)
  · have h := h.1 c_2
    refine lv_aload_n hx hb dX9_takesToday_18 rfl (lv_at hl 0 rfl) ?_
    refine va_get (D := D) (ci := 8) (v := .ref a_row) (C := RX9) (T := TX9) (N := 18) hx hb hts in_X9 hown hK hP 0 rfl rfl 0 (by decide) fl_7 (fun _ h9 => h9) rfl dX9_takesToday_19 ?_
    refine lv_bipush (v := 28) hx hb dX9_takesToday_22 (by decide) ?_
    refine lv_iload_n hx hb dX9_takesToday_24 rfl (lv_at hl 1 rfl) ?_
    refine lv_iadd hx hb dX9_takesToday_25 ?_
    obtain ⟨hi_3, h⟩ := h
    refine va_iald hx hb hK hP 1 1 rfl rfl hi_3 dX9_takesToday_26 ?_
    refine lv_aload_n hx hb dX9_takesToday_27 rfl (lv_at hl 0 rfl) ?_
    refine lv_aload_n hx hb dX9_takesToday_28 rfl (lv_at hl 0 rfl) ?_
    refine va_get (D := D) (ci := 8) (v := .ref a_row) (C := RX9) (T := TX9) (N := 18) hx hb hts in_X9 hown hK hP 0 rfl rfl 0 (by decide) fl_7 (fun _ h9 => h9) rfl dX9_takesToday_29 ?_
    refine lv_bipush (v := 15) hx hb dX9_takesToday_32 (by decide) ?_
    refine va_iald hx hb hK hP 1 1 rfl rfl (by unfold vp_in; decide) dX9_takesToday_34 ?_
    refine lv_aload_n hx hb dX9_takesToday_35 rfl (lv_at hl 0 rfl) ?_
    refine va_get (D := D) (ci := 8) (v := .ref a_row) (C := RX9) (T := TX9) (N := 18) hx hb hts in_X9 hown hK hP 0 rfl rfl 0 (by decide) fl_7 (fun _ h9 => h9) rfl dX9_takesToday_36 ?_
    refine lv_bipush (v := 8) hx hb dX9_takesToday_39 (by decide) ?_
    refine lv_iload_n hx hb dX9_takesToday_41 rfl (lv_at hl 1 rfl) ?_
    refine lv_iadd hx hb dX9_takesToday_42 ?_
    obtain ⟨hi_4, h⟩ := h
    refine va_iald hx hb hK hP 1 1 rfl rfl hi_4 dX9_takesToday_43 ?_
    refine lv_aload_n hx hb dX9_takesToday_44 rfl (lv_at hl 0 rfl) ?_
    refine va_get (D := D) (ci := 8) (v := .ref a_row) (C := RX9) (T := TX9) (N := 18) hx hb hts in_X9 hown hK hP 0 rfl rfl 0 (by decide) fl_7 (fun _ h9 => h9) rfl dX9_takesToday_45 ?_
    refine lv_bipush (v := 16) hx hb dX9_takesToday_48 (by decide) ?_
    refine va_iald hx hb hK hP 1 1 rfl rfl (by unfold vp_in; decide) dX9_takesToday_50 ?_
    refine st_callRI (st_runVR (n := 3) (As := [.int (s_row (Int32.toNatClampNeg 15)), .int (s_row (Int32.toNatClampNeg (8 + x1))), .int (s_row (Int32.toNatClampNeg 16))]) (rest := [.int (s_row (Int32.toNatClampNeg (28 + x1)))]) (q0 := 0) F (co_Mo_smellOf l D cy a_this a_row a_isKept a_refused a_text a_words a_cost a_steps a_mates a_bestMates a_comes s_above s_below s_length s_at s_behind s_readFlitches s_readFamilies s_doing s_row (s_row (Int32.toNatClampNeg 15)) (s_row (Int32.toNatClampNeg (8 + x1))) (s_row (Int32.toNatClampNeg 16)) _ h) gX9_takesToday_X9_smellOf rfl (by decide +kernel) rfl hKK hP [0, 1] rfl rfl rfl rfl hl.1 rfl (Nat.le_of_ble_eq_true rfl) dX9_takesToday_51) (fun r_5 h => ?_)
    refine lv_aload_n hx hb dX9_takesToday_54 rfl (lv_at hl 0 rfl) ?_
    refine va_get (D := D) (ci := 8) (v := .ref a_row) (C := RX9) (T := TX9) (N := 18) hx hb hts in_X9 hown hK hP 0 rfl rfl 0 (by decide) fl_7 (fun _ h9 => h9) rfl dX9_takesToday_55 ?_
    refine lv_bipush (v := 16) hx hb dX9_takesToday_58 (by decide) ?_
    refine va_iald hx hb hK hP 1 1 rfl rfl (by unfold vp_in; decide) dX9_takesToday_60 ?_
    refine st_callRI (st_runSR (n := 3) (As := [.int (s_row (Int32.toNatClampNeg (28 + x1))), .int r_5, .int (s_row (Int32.toNatClampNeg 16))]) (rest := []) F (co_Mo_takesBy l D cy (s_row (Int32.toNatClampNeg (28 + x1))) r_5 (s_row (Int32.toNatClampNeg 16)) _ h) gX9_takesToday_X9_takesBy rfl (by decide +kernel) rfl hKK hP [] rfl rfl hl.1 rfl (Nat.le_of_ble_eq_true rfl) dX9_takesToday_61) (fun r_6 h => ?_)
    exact hret _ _ _ h dX9_takesToday_64
  · have h := h.2 c_2
    refine lv_iconst (v := 0) hx hb dX9_takesToday_14 (by decide) ?_
    refine lv_goto (tgt := 64) hx hb dX9_takesToday_15 (by decide) ?_
    exact hret _ _ _ h dX9_takesToday_64
abbrev Wd_Mo_toldOf (cy : ClassId × ClassId × ClassId × ClassId) (a_this a_row a_isKept a_refused a_text a_words a_cost a_steps a_mates a_bestMates a_comes : Nat) (s_above : Int64) (s_below : Int64) (s_length : Int32) (s_at : Int32) (s_behind : Int32) (s_readFlitches : Int32) (s_readFamilies : Int32) (s_doing : Int32) (s_row : Nat → Int32) : va_W := [(a_this, .inr (8, [.ref a_row, .ref a_isKept, .ref a_refused, .long s_above, .long s_below, .ref a_text, .int s_length, .ref a_words, .int s_at, .int s_behind, .int s_readFlitches, .int s_readFamilies, .int s_doing, .ref a_cost, .ref a_steps, .ref a_mates, .ref a_bestMates, .ref a_comes])), (a_row, .inl (cy.2.1, 770, .inl s_row))]
abbrev rm_Mo_toldOf : Room := { frames := 4, cells := 0, slots := 0, locals := 88 }
def wp_Mo_toldOf (x1 : Int32) (x2 : Int32) (s_row : Nat → Int32) (Q : Int32 → Prop) : Prop := ((x2 = 0 → vp_in (28 + x1) 770 ∧ Q (s_row (Int32.toNatClampNeg (28 + x1)))) ∧ (¬ x2 = 0 → ((x2 = 1 → vp_in (35 + x1) 770 ∧ Q (s_row (Int32.toNatClampNeg (35 + x1)))) ∧ (¬ x2 = 1 → ((x2 = 2 → vp_in (8 + x1) 770 ∧ Q (s_row (Int32.toNatClampNeg (8 + x1)))) ∧ (¬ x2 = 2 → ((x2 = 3 → vp_in (0 + x1) 770 ∧ Q (s_row (Int32.toNatClampNeg (0 + x1)))) ∧ (¬ x2 = 3 → ((x2 = 4 → Q ((ishr (s_row (Int32.toNatClampNeg 7)) x1) &&& 1)) ∧ (¬ x2 = 4 → wp_Mo_takesToday x1 s_row (fun (r_10 : Int32) => Q r_10)))))))))))
set_option maxHeartbeats 4000000 in
set_option maxRecDepth 100000 in
theorem co_Mo_toldOf (l : Launch) (D : va_G) (cy : ClassId × ClassId × ClassId × ClassId) (a_this a_row a_isKept a_refused a_text a_words a_cost a_steps a_mates a_bestMates a_comes : Nat) (s_above : Int64) (s_below : Int64) (s_length : Int32) (s_at : Int32) (s_behind : Int32) (s_readFlitches : Int32) (s_readFamilies : Int32) (s_doing : Int32) (s_row : Nat → Int32) (x1 : Int32) (x2 : Int32) (Q : Int32 → Prop) (h : wp_Mo_toldOf x1 x2 s_row Q) : RoI l yX9_toldOf wsX9_toldOf rm_Mo_toldOf D cy [.ref a_this, .int x1, .int x2] (Wd_Mo_toldOf cy a_this a_row a_isKept a_refused a_text a_words a_cost a_steps a_mates a_bestMates a_comes s_above s_below s_length s_at s_behind s_readFlitches s_readFamilies s_doing s_row) Q := by
  refine st_metRI (cc := cX9_toldOf) (maxL := 3) RX9 (by decide) rfl rfl (Nat.le_of_ble_eq_true rfl) ?_
  intro p e s m args below meth c QQ ls F hKK hP hl hret
  have hK := hKK.1
  have hnest := hKK.2.1
  have hx := F.1
  have hb := F.2.1
  have hown := F.2.2.2.1
  have hts := F.2.2.2.2
  have in_X9 : ∀ w ∈ u_ws RX9 TX9 18, w ∈ wsX9_toldOf := (fun _ h => List.mem_cons_of_mem _ (List.mem_append_right _ h))
  have fl_7 := (hts (.fieldLink RX9 7 "RasherCaseModel" "row" "[I") (List.mem_of_getElem? (i := 1) rfl))
  have hl : lv_has ls 3 [(0, .ref a_this), (1, .int x1), (2, .int x2)] := hl
  unfold wp_Mo_toldOf at h
  refine lv_iload_n hx hb dX9_toldOf_0 rfl (lv_at hl 2 rfl) ?_
  by_cases c_1 : x2 = 0
  · have h := h.1 c_1
    refine lv_tableIn (tgt := 36) hx hb dX9_toldOf_1 (by rw [c_1]; decide) (by rw [c_1]; decide) (by rw [c_1]; rfl) (by decide) ?_
    refine lv_aload_n hx hb dX9_toldOf_36 rfl (lv_at hl 0 rfl) ?_
    refine va_get (D := D) (ci := 8) (v := .ref a_row) (C := RX9) (T := TX9) (N := 18) hx hb hts in_X9 hown hK hP 0 rfl rfl 0 (by decide) fl_7 (fun _ h9 => h9) rfl dX9_toldOf_37 ?_
    refine lv_bipush (v := 28) hx hb dX9_toldOf_40 (by decide) ?_
    refine lv_iload_n hx hb dX9_toldOf_42 rfl (lv_at hl 1 rfl) ?_
    refine lv_iadd hx hb dX9_toldOf_43 ?_
    obtain ⟨hi_2, h⟩ := h
    refine va_iald hx hb hK hP 1 1 rfl rfl hi_2 dX9_toldOf_44 ?_
    exact hret _ _ _ h dX9_toldOf_45
  · have h := h.2 c_1
    by_cases c_3 : x2 = 1
    · have h := h.1 c_3
      refine lv_tableIn (tgt := 46) hx hb dX9_toldOf_1 (by rw [c_3]; decide) (by rw [c_3]; decide) (by rw [c_3]; rfl) (by decide) ?_
      refine lv_aload_n hx hb dX9_toldOf_46 rfl (lv_at hl 0 rfl) ?_
      refine va_get (D := D) (ci := 8) (v := .ref a_row) (C := RX9) (T := TX9) (N := 18) hx hb hts in_X9 hown hK hP 0 rfl rfl 0 (by decide) fl_7 (fun _ h9 => h9) rfl dX9_toldOf_47 ?_
      refine lv_bipush (v := 35) hx hb dX9_toldOf_50 (by decide) ?_
      refine lv_iload_n hx hb dX9_toldOf_52 rfl (lv_at hl 1 rfl) ?_
      refine lv_iadd hx hb dX9_toldOf_53 ?_
      obtain ⟨hi_4, h⟩ := h
      refine va_iald hx hb hK hP 1 1 rfl rfl hi_4 dX9_toldOf_54 ?_
      exact hret _ _ _ h dX9_toldOf_55
    · have h := h.2 c_3
      by_cases c_5 : x2 = 2
      · have h := h.1 c_5
        refine lv_tableIn (tgt := 56) hx hb dX9_toldOf_1 (by rw [c_5]; decide) (by rw [c_5]; decide) (by rw [c_5]; rfl) (by decide) ?_
        refine lv_aload_n hx hb dX9_toldOf_56 rfl (lv_at hl 0 rfl) ?_
        refine va_get (D := D) (ci := 8) (v := .ref a_row) (C := RX9) (T := TX9) (N := 18) hx hb hts in_X9 hown hK hP 0 rfl rfl 0 (by decide) fl_7 (fun _ h9 => h9) rfl dX9_toldOf_57 ?_
        refine lv_bipush (v := 8) hx hb dX9_toldOf_60 (by decide) ?_
        refine lv_iload_n hx hb dX9_toldOf_62 rfl (lv_at hl 1 rfl) ?_
        refine lv_iadd hx hb dX9_toldOf_63 ?_
        obtain ⟨hi_6, h⟩ := h
        refine va_iald hx hb hK hP 1 1 rfl rfl hi_6 dX9_toldOf_64 ?_
        exact hret _ _ _ h dX9_toldOf_65
      · have h := h.2 c_5
        by_cases c_7 : x2 = 3
        · have h := h.1 c_7
          refine lv_tableIn (tgt := 66) hx hb dX9_toldOf_1 (by rw [c_7]; decide) (by rw [c_7]; decide) (by rw [c_7]; rfl) (by decide) ?_
          refine lv_aload_n hx hb dX9_toldOf_66 rfl (lv_at hl 0 rfl) ?_
          refine va_get (D := D) (ci := 8) (v := .ref a_row) (C := RX9) (T := TX9) (N := 18) hx hb hts in_X9 hown hK hP 0 rfl rfl 0 (by decide) fl_7 (fun _ h9 => h9) rfl dX9_toldOf_67 ?_
          refine lv_iconst (v := 0) hx hb dX9_toldOf_70 (by decide) ?_
          refine lv_iload_n hx hb dX9_toldOf_71 rfl (lv_at hl 1 rfl) ?_
          refine lv_iadd hx hb dX9_toldOf_72 ?_
          obtain ⟨hi_8, h⟩ := h
          refine va_iald hx hb hK hP 1 1 rfl rfl hi_8 dX9_toldOf_73 ?_
          exact hret _ _ _ h dX9_toldOf_74
        · have h := h.2 c_7
          by_cases c_9 : x2 = 4
          · have h := h.1 c_9
            refine lv_tableIn (tgt := 75) hx hb dX9_toldOf_1 (by rw [c_9]; decide) (by rw [c_9]; decide) (by rw [c_9]; rfl) (by decide) ?_
            refine lv_aload_n hx hb dX9_toldOf_75 rfl (lv_at hl 0 rfl) ?_
            refine va_get (D := D) (ci := 8) (v := .ref a_row) (C := RX9) (T := TX9) (N := 18) hx hb hts in_X9 hown hK hP 0 rfl rfl 0 (by decide) fl_7 (fun _ h9 => h9) rfl dX9_toldOf_76 ?_
            refine lv_bipush (v := 7) hx hb dX9_toldOf_79 (by decide) ?_
            refine va_iald hx hb hK hP 1 1 rfl rfl (by unfold vp_in; decide) dX9_toldOf_81 ?_
            refine lv_iload_n hx hb dX9_toldOf_82 rfl (lv_at hl 1 rfl) ?_
            refine lv_ishr hx hb dX9_toldOf_83 ?_
            refine lv_iconst (v := 1) hx hb dX9_toldOf_84 (by decide) ?_
            refine lv_iand hx hb dX9_toldOf_85 ?_
            exact hret _ _ _ h dX9_toldOf_86
          · have h := h.2 c_9
            have nc_1 := lv_neT c_1 (a := 0) (by decide)
            have nc_3 := lv_neT c_3 (a := 1) (by decide)
            have nc_5 := lv_neT c_5 (a := 2) (by decide)
            have nc_7 := lv_neT c_7 (a := 3) (by decide)
            have nc_9 := lv_neT c_9 (a := 4) (by decide)
            refine lv_tableOut (tgt := 87) hx hb dX9_toldOf_1 (by omega) (by decide) ?_
            refine lv_aload_n hx hb dX9_toldOf_87 rfl (lv_at hl 0 rfl) ?_
            refine lv_iload_n hx hb dX9_toldOf_88 rfl (lv_at hl 1 rfl) ?_
            refine st_callRI (st_runVR (n := 1) (As := [.int x1]) (rest := []) (q0 := 0) F (co_Mo_takesToday l D cy a_this a_row a_isKept a_refused a_text a_words a_cost a_steps a_mates a_bestMates a_comes s_above s_below s_length s_at s_behind s_readFlitches s_readFamilies s_doing s_row x1 _ h) gX9_toldOf_X9_takesToday rfl (by decide +kernel) rfl hKK hP [0, 1] rfl rfl rfl rfl hl.1 rfl (Nat.le_of_ble_eq_true rfl) dX9_toldOf_89) (fun r_10 h => ?_)
            exact hret _ _ _ h dX9_toldOf_92
abbrev Wd_Mo_of (cy : ClassId × ClassId × ClassId × ClassId) (a_this a_refused a_row a_isKept a_text a_words a_cost a_steps a_mates a_bestMates a_comes : Nat) (s_above : Int64) (s_below : Int64) (s_length : Int32) (s_at : Int32) (s_behind : Int32) (s_readFlitches : Int32) (s_readFamilies : Int32) (s_doing : Int32) (s_refused : Nat → Int32) (s_row : Nat → Int32) : va_W := [(a_this, .inr (8, [.ref a_row, .ref a_isKept, .ref a_refused, .long s_above, .long s_below, .ref a_text, .int s_length, .ref a_words, .int s_at, .int s_behind, .int s_readFlitches, .int s_readFamilies, .int s_doing, .ref a_cost, .ref a_steps, .ref a_mates, .ref a_bestMates, .ref a_comes])), (a_refused, .inl (cy.2.1, 3, .inl s_refused)), (a_row, .inl (cy.2.1, 770, .inl s_row))]
abbrev rm_Mo_of : Room := { frames := 5, cells := 0, slots := 0, locals := 110 }
def wp_Mo_of (x1 : Int32) (x2 : Int32) (s_refused : Nat → Int32) (s_row : Nat → Int32) (Q : Int32 → (Nat → Int32) → Prop) : Prop := wp_Mo_isFamily x1 s_row (fun (r_1 : Int32) => jn0 (fun (J26 : Prop) => ((r_1 = 0 → J26) ∧ (¬ r_1 = 0 → wp_Mo_in x2 0 5 (fun (r_6 : Int32) => ((r_6 = 0 → J26) ∧ (¬ r_6 = 0 → wp_Mo_toldOf x1 x2 s_row (fun (r_8 : Int32) => Q r_8 s_refused))))))) (wp_Mo_refuse (-2) s_refused (fun (r_3 : Int32) (s_refused_4 : Nat → Int32) => Q r_3 s_refused_4)))
set_option maxHeartbeats 4000000 in
set_option maxRecDepth 100000 in
theorem co_Mo_of (l : Launch) (D : va_G) (cy : ClassId × ClassId × ClassId × ClassId) (a_this a_refused a_row a_isKept a_text a_words a_cost a_steps a_mates a_bestMates a_comes : Nat) (s_above : Int64) (s_below : Int64) (s_length : Int32) (s_at : Int32) (s_behind : Int32) (s_readFlitches : Int32) (s_readFamilies : Int32) (s_doing : Int32) (s_refused : Nat → Int32) (s_row : Nat → Int32) (x1 : Int32) (x2 : Int32) (Q : Int32 → (Nat → Int32) → Prop) (h : wp_Mo_of x1 x2 s_refused s_row Q) : CoI l yX9_of wsX9_of rm_Mo_of D cy [.ref a_this, .int x1, .int x2] (Wd_Mo_of cy a_this a_refused a_row a_isKept a_text a_words a_cost a_steps a_mates a_bestMates a_comes s_above s_below s_length s_at s_behind s_readFlitches s_readFamilies s_doing s_refused s_row) (fun u : (Nat → Int32) => (Wd_Mo_of cy a_this a_refused a_row a_isKept a_text a_words a_cost a_steps a_mates a_bestMates a_comes s_above s_below s_length s_at s_behind s_readFlitches s_readFamilies s_doing u s_row)) (fun (r : Int32) (u : (Nat → Int32)) => Q r u) := by
  refine st_metI (cc := cX9_of) (maxL := 3) RX9 (by decide) rfl rfl (Nat.le_of_ble_eq_true rfl) ?_
  intro p e s m args below meth c A QQ ls F hA hKK hP hD hS hl hret
  have hK := hKK.1
  have hnest := hKK.2.1
  have hx := F.1
  have hb := F.2.1
  have hown := F.2.2.2.1
  have hts := F.2.2.2.2
  have hl : lv_has ls 3 [(0, .ref a_this), (1, .int x1), (2, .int x2)] := hl
  unfold wp_Mo_of at h
  refine lv_aload_n hx hb dX9_of_0 rfl (lv_at hl 0 rfl) ?_
  refine lv_iload_n hx hb dX9_of_1 rfl (lv_at hl 1 rfl) ?_
  refine st_callRI (st_runVR (n := 1) (As := [.int x1]) (rest := []) (q0 := 0) F (co_Mo_isFamily l D cy a_this a_row a_isKept a_refused a_text a_words a_cost a_steps a_mates a_bestMates a_comes s_above s_below s_length s_at s_behind s_readFlitches s_readFamilies s_doing s_row x1 _ h) gX9_of_X9_isFamily rfl (by decide +kernel) rfl hKK hP [0, 2] rfl rfl rfl rfl hl.1 rfl (Nat.le_of_ble_eq_true rfl) dX9_of_2) (fun r_1 h => ?_)
  obtain ⟨J26, hJ26, h⟩ := jn0_ex h
  have kJ26_1 : ∀  (H : Heap) (locs : List Loc) (ls : Array Slot), J26 → va_P D vwCl (Wd_Mo_of cy a_this a_refused a_row a_isKept a_text a_words a_cost a_steps a_mates a_bestMates a_comes s_above s_below s_length s_at s_behind s_readFlitches s_readFamilies s_doing s_refused s_row) H → va_D A (Wd_Mo_of cy a_this a_refused a_row a_isKept a_text a_words a_cost a_steps a_mates a_bestMates a_comes s_above s_below s_length s_at s_behind s_readFlitches s_readFamilies s_doing s_refused s_row) → va_S A s.heap H locs → lv_has ls 3 [(0, .ref a_this)] → W p l e rm_Mo_of s m args below meth c H locs 0 0 QQ (F0 m 26 ls []) := by
    intro  H locs ls h hP hD hS hl
    have h := hJ26  h
    refine lv_aload_n hx hb dX9_of_26 rfl (lv_at hl 0 rfl) ?_
    refine lv_bipush (v := (-2)) hx hb dX9_of_27 (by decide) ?_
    refine st_callI (WR := [2].filterMap (fun i => (Wd_Mo_of cy a_this a_refused a_row a_isKept a_text a_words a_cost a_steps a_mates a_bestMates a_comes s_above s_below s_length s_at s_behind s_readFlitches s_readFamilies s_doing s_refused s_row)[i]?)) (WSn := fun u => (Wd_Mo_of cy a_this a_refused a_row a_isKept a_text a_words a_cost a_steps a_mates a_bestMates a_comes s_above s_below s_length s_at s_behind s_readFlitches s_readFamilies s_doing u s_row)) (st_runV (n := 1) (As := [.int (-2)]) (rest := []) (q0 := 0) F ((co_Mo_refuse l D cy a_this a_refused a_row a_isKept a_text a_words a_cost a_steps a_mates a_bestMates a_comes s_above s_below s_length s_at s_behind s_readFlitches s_readFamilies s_doing s_refused (-2) _ h) _) rfl gX9_of_X9_refuse rfl (by decide +kernel) rfl hKK hP hD [0, 1] rfl rfl rfl rfl rfl hl.1 rfl (Nat.le_of_ble_eq_true rfl) dX9_of_29) hP hD hS hA [0, 1] [2] [1, 2, 0] rfl rfl rfl (fun _ => rfl) (fun r_3 u H locs h hP hD hS => ?_)
    obtain ⟨s_refused_4, rfl⟩ : ∃ z, z = u := ⟨_, rfl⟩
    have hP : va_P D vwCl (Wd_Mo_of cy a_this a_refused a_row a_isKept a_text a_words a_cost a_steps a_mates a_bestMates a_comes s_above s_below s_length s_at s_behind s_readFlitches s_readFamilies s_doing s_refused_4 s_row) H := hP
    have hD : va_D A (Wd_Mo_of cy a_this a_refused a_row a_isKept a_text a_words a_cost a_steps a_mates a_bestMates a_comes s_above s_below s_length s_at s_behind s_readFlitches s_readFamilies s_doing s_refused_4 s_row) := hD
    exact hret _ (s_refused_4) _ _ _ _ h hP hD hS dX9_of_32
  refine lv_if_eq (tgt := 26) hx hb dX9_of_5 (by decide) (fun c_5 => ?_) (fun c_5 => ?_)
  · have h := h.1 c_5
    exact kJ26_1  _ _ _ h hP hD hS (lv_sub hl [0] rfl)
  · have h := h.2 c_5
    refine lv_iload_n hx hb dX9_of_8 rfl (lv_at hl 2 rfl) ?_
    refine lv_iconst (v := 0) hx hb dX9_of_9 (by decide) ?_
    refine lv_iconst (v := 5) hx hb dX9_of_10 (by decide) ?_
    refine st_callRI (st_runSR (n := 3) (As := [.int x2, .int 0, .int 5]) (rest := []) F (co_Mo_in l D cy x2 0 5 _ h) gX9_of_X9_in rfl (by decide +kernel) rfl hKK hP [] rfl rfl hl.1 rfl (Nat.le_of_ble_eq_true rfl) dX9_of_11) (fun r_6 h => ?_)
    refine lv_if_eq (tgt := 26) hx hb dX9_of_14 (by decide) (fun c_7 => ?_) (fun c_7 => ?_)
    · have h := h.1 c_7
      exact kJ26_1  _ _ _ h hP hD hS (lv_sub hl [0] rfl)
    · have h := h.2 c_7
      refine lv_aload_n hx hb dX9_of_17 rfl (lv_at hl 0 rfl) ?_
      refine lv_iload_n hx hb dX9_of_18 rfl (lv_at hl 1 rfl) ?_
      refine lv_iload_n hx hb dX9_of_19 rfl (lv_at hl 2 rfl) ?_
      refine st_callRI (st_runVR (n := 2) (As := [.int x1, .int x2]) (rest := []) (q0 := 0) F (co_Mo_toldOf l D cy a_this a_row a_isKept a_refused a_text a_words a_cost a_steps a_mates a_bestMates a_comes s_above s_below s_length s_at s_behind s_readFlitches s_readFamilies s_doing s_row x1 x2 _ h) gX9_of_X9_toldOf rfl (by decide +kernel) rfl hKK hP [0, 2] rfl rfl rfl rfl hl.1 rfl (Nat.le_of_ble_eq_true rfl) dX9_of_20) (fun r_8 h => ?_)
      refine lv_goto (tgt := 32) hx hb dX9_of_23 (by decide) ?_
      exact hret _ (s_refused) _ _ _ _ h hP hD hS dX9_of_32
abbrev Wd_Mo_toldAbout (cy : ClassId × ClassId × ClassId × ClassId) (a_this a_row a_isKept a_refused a_text a_words a_cost a_steps a_mates a_bestMates a_comes : Nat) (s_above : Int64) (s_below : Int64) (s_length : Int32) (s_at : Int32) (s_behind : Int32) (s_readFlitches : Int32) (s_readFamilies : Int32) (s_doing : Int32) (s_row : Nat → Int32) : va_W := [(a_this, .inr (8, [.ref a_row, .ref a_isKept, .ref a_refused, .long s_above, .long s_below, .ref a_text, .int s_length, .ref a_words, .int s_at, .int s_behind, .int s_readFlitches, .int s_readFamilies, .int s_doing, .ref a_cost, .ref a_steps, .ref a_mates, .ref a_bestMates, .ref a_comes])), (a_row, .inl (cy.2.1, 770, .inl s_row))]
abbrev rm_Mo_toldAbout : Room := { frames := 0, cells := 0, slots := 0, locals := 0 }
def wp_Mo_toldAbout (x1 : Int32) (x2 : Int32) (s_row : Nat → Int32) (Q : Int32 → Prop) : Prop := ((¬ x2 = 0 → ((¬ x2 = 1 → ((¬ x2 = 2 → Q ((ishr (s_row (Int32.toNatClampNeg 15)) x1) &&& 1)) ∧ (x2 = 2 → vp_in (24 + x1) 770 ∧ Q (s_row (Int32.toNatClampNeg (24 + x1)))))) ∧ (x2 = 1 → vp_in (21 + x1) 770 ∧ Q (s_row (Int32.toNatClampNeg (21 + x1)))))) ∧ (x2 = 0 → vp_in (18 + x1) 770 ∧ Q (s_row (Int32.toNatClampNeg (18 + x1)))))
set_option maxHeartbeats 4000000 in
set_option maxRecDepth 100000 in
theorem co_Mo_toldAbout (l : Launch) (D : va_G) (cy : ClassId × ClassId × ClassId × ClassId) (a_this a_row a_isKept a_refused a_text a_words a_cost a_steps a_mates a_bestMates a_comes : Nat) (s_above : Int64) (s_below : Int64) (s_length : Int32) (s_at : Int32) (s_behind : Int32) (s_readFlitches : Int32) (s_readFamilies : Int32) (s_doing : Int32) (s_row : Nat → Int32) (x1 : Int32) (x2 : Int32) (Q : Int32 → Prop) (h : wp_Mo_toldAbout x1 x2 s_row Q) : RoI l yX9_toldAbout wsX9_toldAbout rm_Mo_toldAbout D cy [.ref a_this, .int x1, .int x2] (Wd_Mo_toldAbout cy a_this a_row a_isKept a_refused a_text a_words a_cost a_steps a_mates a_bestMates a_comes s_above s_below s_length s_at s_behind s_readFlitches s_readFamilies s_doing s_row) Q := by
  refine st_metRI (cc := cX9_toldAbout) (maxL := 3) RX9 (by decide) rfl rfl (Nat.le_of_ble_eq_true rfl) ?_
  intro p e s m args below meth c QQ ls F hKK hP hl hret
  have hK := hKK.1
  have hnest := hKK.2.1
  have hx := F.1
  have hb := F.2.1
  have hown := F.2.2.2.1
  have hts := F.2.2.2.2
  have in_X9 : ∀ w ∈ u_ws RX9 TX9 18, w ∈ wsX9_toldAbout := (fun _ h => List.mem_cons_of_mem _ (List.mem_append_right _ h))
  have fl_7 := (hts (.fieldLink RX9 7 "RasherCaseModel" "row" "[I") (List.mem_of_getElem? (i := 1) rfl))
  have hl : lv_has ls 3 [(0, .ref a_this), (1, .int x1), (2, .int x2)] := hl
  unfold wp_Mo_toldAbout at h
  refine lv_iload_n hx hb dX9_toldAbout_0 rfl (lv_at hl 2 rfl) ?_
  refine lv_if_ne (tgt := 16) hx hb dX9_toldAbout_1 (by decide) (fun c_1 => ?_) (fun c_1 => ?_)
  · have h := h.1 c_1
    refine lv_iload_n hx hb dX9_toldAbout_16 rfl (lv_at hl 2 rfl) ?_
    refine lv_iconst (v := 1) hx hb dX9_toldAbout_17 (by decide) ?_
    refine lv_icmp_ne (tgt := 33) hx hb dX9_toldAbout_18 (by decide) (fun c_2 => ?_) (fun c_2 => ?_)
    · have h := h.1 c_2
      refine lv_iload_n hx hb dX9_toldAbout_33 rfl (lv_at hl 2 rfl) ?_
      refine lv_iconst (v := 2) hx hb dX9_toldAbout_34 (by decide) ?_
      refine lv_icmp_ne (tgt := 50) hx hb dX9_toldAbout_35 (by decide) (fun c_3 => ?_) (fun c_3 => ?_)
      · have h := h.1 c_3
        refine lv_aload_n hx hb dX9_toldAbout_50 rfl (lv_at hl 0 rfl) ?_
        refine va_get (D := D) (ci := 8) (v := .ref a_row) (C := RX9) (T := TX9) (N := 18) hx hb hts in_X9 hown hK hP 0 rfl rfl 0 (by decide) fl_7 (fun _ h9 => h9) rfl dX9_toldAbout_51 ?_
        refine lv_bipush (v := 15) hx hb dX9_toldAbout_54 (by decide) ?_
        refine va_iald hx hb hK hP 1 1 rfl rfl (by unfold vp_in; decide) dX9_toldAbout_56 ?_
        refine lv_iload_n hx hb dX9_toldAbout_57 rfl (lv_at hl 1 rfl) ?_
        refine lv_ishr hx hb dX9_toldAbout_58 ?_
        refine lv_iconst (v := 1) hx hb dX9_toldAbout_59 (by decide) ?_
        refine lv_iand hx hb dX9_toldAbout_60 ?_
        exact hret _ _ _ h dX9_toldAbout_61
      · have h := h.2 c_3
        refine lv_aload_n hx hb dX9_toldAbout_38 rfl (lv_at hl 0 rfl) ?_
        refine va_get (D := D) (ci := 8) (v := .ref a_row) (C := RX9) (T := TX9) (N := 18) hx hb hts in_X9 hown hK hP 0 rfl rfl 0 (by decide) fl_7 (fun _ h9 => h9) rfl dX9_toldAbout_39 ?_
        refine lv_bipush (v := 24) hx hb dX9_toldAbout_42 (by decide) ?_
        refine lv_iload_n hx hb dX9_toldAbout_44 rfl (lv_at hl 1 rfl) ?_
        refine lv_iadd hx hb dX9_toldAbout_45 ?_
        obtain ⟨hi_4, h⟩ := h
        refine va_iald hx hb hK hP 1 1 rfl rfl hi_4 dX9_toldAbout_46 ?_
        refine lv_goto (tgt := 61) hx hb dX9_toldAbout_47 (by decide) ?_
        exact hret _ _ _ h dX9_toldAbout_61
    · have h := h.2 c_2
      refine lv_aload_n hx hb dX9_toldAbout_21 rfl (lv_at hl 0 rfl) ?_
      refine va_get (D := D) (ci := 8) (v := .ref a_row) (C := RX9) (T := TX9) (N := 18) hx hb hts in_X9 hown hK hP 0 rfl rfl 0 (by decide) fl_7 (fun _ h9 => h9) rfl dX9_toldAbout_22 ?_
      refine lv_bipush (v := 21) hx hb dX9_toldAbout_25 (by decide) ?_
      refine lv_iload_n hx hb dX9_toldAbout_27 rfl (lv_at hl 1 rfl) ?_
      refine lv_iadd hx hb dX9_toldAbout_28 ?_
      obtain ⟨hi_5, h⟩ := h
      refine va_iald hx hb hK hP 1 1 rfl rfl hi_5 dX9_toldAbout_29 ?_
      refine lv_goto (tgt := 61) hx hb dX9_toldAbout_30 (by decide) ?_
      exact hret _ _ _ h dX9_toldAbout_61
  · have h := h.2 c_1
    refine lv_aload_n hx hb dX9_toldAbout_4 rfl (lv_at hl 0 rfl) ?_
    refine va_get (D := D) (ci := 8) (v := .ref a_row) (C := RX9) (T := TX9) (N := 18) hx hb hts in_X9 hown hK hP 0 rfl rfl 0 (by decide) fl_7 (fun _ h9 => h9) rfl dX9_toldAbout_5 ?_
    refine lv_bipush (v := 18) hx hb dX9_toldAbout_8 (by decide) ?_
    refine lv_iload_n hx hb dX9_toldAbout_10 rfl (lv_at hl 1 rfl) ?_
    refine lv_iadd hx hb dX9_toldAbout_11 ?_
    obtain ⟨hi_6, h⟩ := h
    refine va_iald hx hb hK hP 1 1 rfl rfl hi_6 dX9_toldAbout_12 ?_
    refine lv_goto (tgt := 61) hx hb dX9_toldAbout_13 (by decide) ?_
    exact hret _ _ _ h dX9_toldAbout_61
