abbrev Wd_Fs_fittingWills (cy : ClassId × ClassId × ClassId × ClassId) (a_this a_parish a_parish_familyCell a_parish_familyKind a_parish_flitchCell a_parish_flitchKind a_parish_flitchStrength a_parish_sightings a_parish_sightings_numbers a_taken a_lapses a_wills a_cells a_smelling a_windy a_parish_familySide a_parish_familyWill a_parish_past a_parish_notes a_parish_marks : Nat) (s_parish_flitchCount : Int32) (s_parish_familyCount : Int32) (s_parish_hung : Int32) (s_parish_day : Int32) (s_parish_familyCell : Nat → Int32) (s_parish_familyKind : Nat → Int32) (s_parish_flitchCell : Nat → Int32) (s_parish_flitchKind : Nat → Int32) (s_parish_flitchStrength : Nat → Int32) (s_parish_sightings_width : Int32) (s_parish_sightings_limit : Int32) (s_parish_sightings_size : Int32) (s_parish_sightings_numbers : Nat → Int32) (s_taken : Nat → Int32) : va_W := [(a_this, .inr (1, [.ref a_parish, .ref a_taken, .ref a_lapses, .ref a_wills, .ref a_cells, .ref a_smelling, .ref a_windy])), (a_parish, .inr (3, [.ref a_parish_flitchKind, .ref a_parish_flitchCell, .ref a_parish_flitchStrength, .ref a_parish_familyKind, .ref a_parish_familySide, .ref a_parish_familyCell, .ref a_parish_familyWill, .ref a_parish_past, .ref a_parish_sightings, .ref a_parish_notes, .ref a_parish_marks, .int s_parish_flitchCount, .int s_parish_familyCount, .int s_parish_hung, .int s_parish_day])), (a_parish_familyCell, .inl (cy.2.1, 7, .inl s_parish_familyCell)), (a_parish_familyKind, .inl (cy.2.1, 7, .inl s_parish_familyKind)), (a_parish_flitchCell, .inl (cy.2.1, 3, .inl s_parish_flitchCell)), (a_parish_flitchKind, .inl (cy.2.1, 3, .inl s_parish_flitchKind)), (a_parish_flitchStrength, .inl (cy.2.1, 3, .inl s_parish_flitchStrength)), (a_parish_sightings, .inr (5, [.int s_parish_sightings_width, .int s_parish_sightings_limit, .ref a_parish_sightings_numbers, .int s_parish_sightings_size])), (a_parish_sightings_numbers, .inl (cy.2.1, 15, .inl s_parish_sightings_numbers)), (a_taken, .inl (cy.2.1, 61, .inl s_taken))]
abbrev rm_Fs_fittingWills : Room := { frames := 3, cells := 0, slots := 0, locals := 103 }
def wp_Fs_fittingWills (x1 : Int32) (x2 : Int32) (s_parish_flitchCount : Int32) (s_parish_hung : Int32) (s_parish_day : Int32) (s_parish_familyCell : Nat → Int32) (s_parish_familyKind : Nat → Int32) (s_parish_flitchCell : Nat → Int32) (s_parish_flitchKind : Nat → Int32) (s_parish_flitchStrength : Nat → Int32) (s_parish_sightings_width : Int32) (s_parish_sightings_size : Int32) (s_parish_sightings_numbers : Nat → Int32) (s_taken : Nat → Int32) (Q : Int32 → (Nat → Int32) → Prop) : Prop := vp_in x1 7 ∧ vp_in x1 7 ∧ wp_Fs_reckon (s_parish_familyKind (Int32.toNatClampNeg x1)) (s_parish_familyCell (Int32.toNatClampNeg x1)) s_parish_hung 60 s_parish_flitchCount s_parish_day s_parish_flitchCell s_parish_flitchKind s_parish_flitchStrength s_taken (fun (s_taken_4 : Nat → Int32) => ∃ n : Nat, lpw4 (fun (B42 : Int32 → Int32 → Int32 → Int32 → Prop) (x3_5 : Int32) (x4_6 : Int32) (x5_7 : Int32) (x6_8 : Int32) => ((99 < x6_8 → ((¬ x2 = 0 → ((¬ x2 = 1 → Q x5_7 s_taken_4) ∧ (x2 = 1 → Q x4_6 s_taken_4))) ∧ (x2 = 0 → Q x3_5 s_taken_4))) ∧ (¬ 99 < x6_8 → wp_Fs_fits x1 x6_8 s_parish_sightings_width s_parish_sightings_size s_parish_sightings_numbers s_taken_4 (fun (r_13 : Int32) => jn3 (fun (J81 : Int32 → Int32 → Int32 → Prop) => ((r_13 = 0 → J81 x3_5 x4_6 x5_7) ∧ (¬ r_13 = 0 → ∀ x3_20 : Int32, x3_20 = x3_5 + 1 → jn1 (fun (J75 : Int32 → Prop) => ((¬ x4_6 = (-1) → J75 x4_6) ∧ (x4_6 = (-1) → J75 x6_8))) (fun (v_21 : Int32) => J81 x3_20 v_21 x6_8)))) (fun (x3_14 : Int32) (x4_15 : Int32) (x5_16 : Int32) => ∀ x6_18 : Int32, x6_18 = x6_8 + 1 → B42 x3_14 x4_15 x5_16 x6_18))))) n 0 (-1) (-1) 1)
set_option maxHeartbeats 4000000 in
set_option maxRecDepth 100000 in
theorem co_Fs_fittingWills (l : Launch) (D : va_G) (cy : ClassId × ClassId × ClassId × ClassId) (a_this a_parish a_parish_familyCell a_parish_familyKind a_parish_flitchCell a_parish_flitchKind a_parish_flitchStrength a_parish_sightings a_parish_sightings_numbers a_taken a_lapses a_wills a_cells a_smelling a_windy a_parish_familySide a_parish_familyWill a_parish_past a_parish_notes a_parish_marks : Nat) (s_parish_flitchCount : Int32) (s_parish_familyCount : Int32) (s_parish_hung : Int32) (s_parish_day : Int32) (s_parish_familyCell : Nat → Int32) (s_parish_familyKind : Nat → Int32) (s_parish_flitchCell : Nat → Int32) (s_parish_flitchKind : Nat → Int32) (s_parish_flitchStrength : Nat → Int32) (s_parish_sightings_width : Int32) (s_parish_sightings_limit : Int32) (s_parish_sightings_size : Int32) (s_parish_sightings_numbers : Nat → Int32) (s_taken : Nat → Int32) (x1 : Int32) (x2 : Int32) (Q : Int32 → (Nat → Int32) → Prop) (h : wp_Fs_fittingWills x1 x2 s_parish_flitchCount s_parish_hung s_parish_day s_parish_familyCell s_parish_familyKind s_parish_flitchCell s_parish_flitchKind s_parish_flitchStrength s_parish_sightings_width s_parish_sightings_size s_parish_sightings_numbers s_taken Q) : CoI l yX1_fittingWills wsX1_fittingWills rm_Fs_fittingWills D cy [.ref a_this, .int x1, .int x2] (Wd_Fs_fittingWills cy a_this a_parish a_parish_familyCell a_parish_familyKind a_parish_flitchCell a_parish_flitchKind a_parish_flitchStrength a_parish_sightings a_parish_sightings_numbers a_taken a_lapses a_wills a_cells a_smelling a_windy a_parish_familySide a_parish_familyWill a_parish_past a_parish_notes a_parish_marks s_parish_flitchCount s_parish_familyCount s_parish_hung s_parish_day s_parish_familyCell s_parish_familyKind s_parish_flitchCell s_parish_flitchKind s_parish_flitchStrength s_parish_sightings_width s_parish_sightings_limit s_parish_sightings_size s_parish_sightings_numbers s_taken) (fun u : (Nat → Int32) => (Wd_Fs_fittingWills cy a_this a_parish a_parish_familyCell a_parish_familyKind a_parish_flitchCell a_parish_flitchKind a_parish_flitchStrength a_parish_sightings a_parish_sightings_numbers a_taken a_lapses a_wills a_cells a_smelling a_windy a_parish_familySide a_parish_familyWill a_parish_past a_parish_notes a_parish_marks s_parish_flitchCount s_parish_familyCount s_parish_hung s_parish_day s_parish_familyCell s_parish_familyKind s_parish_flitchCell s_parish_flitchKind s_parish_flitchStrength s_parish_sightings_width s_parish_sightings_limit s_parish_sightings_size s_parish_sightings_numbers u)) (fun (r : Int32) (u : (Nat → Int32)) => Q r u) := by
  refine st_metI (cc := cX1_fittingWills) (maxL := 7) RX1 (by decide) rfl rfl (Nat.le_of_ble_eq_true rfl) ?_
  intro p e s m args below meth c A QQ ls F hA hKK hP hD hS hl hret
  have hK := hKK.1
  have hnest := hKK.2.1
  have hx := F.1
  have hb := F.2.1
  have hown := F.2.2.2.1
  have hts := F.2.2.2.2
  have in_X1 : ∀ w ∈ u_ws RX1 TX1 7, w ∈ wsX1_fittingWills := (fun _ h => List.mem_cons_of_mem _ (List.mem_append_left _ (List.mem_append_left _ (List.mem_append_right _ h))))
  have in_X4 : ∀ w ∈ u_ws RX4 TX4 15, w ∈ wsX1_fittingWills := (fun _ h => List.mem_cons_of_mem _ (List.mem_append_left _ (List.mem_append_right _ h)))
  have fl_30 := (hts (.fieldLink RX1 30 "RasherCase$Foresight" "parish" "LRasherCase$Parish;") (List.mem_of_getElem? (i := 1) rfl))
  have fl_49 := (hts (.fieldLink RX1 49 "RasherCase$Parish" "familyKind" "[I") (List.mem_of_getElem? (i := 2) rfl))
  have fl_52 := (hts (.fieldLink RX1 52 "RasherCase$Parish" "familyCell" "[I") (List.mem_of_getElem? (i := 3) rfl))
  have fl_55 := (hts (.fieldLink RX1 55 "RasherCase$Parish" "hung" "I") (List.mem_of_getElem? (i := 4) rfl))
  have hl : lv_has ls 7 [(0, .ref a_this), (1, .int x1), (2, .int x2)] := hl
  unfold wp_Fs_fittingWills at h
  refine lv_aload_n hx hb dX1_fittingWills_0 rfl (lv_at hl 0 rfl) ?_
  refine lv_aload_n hx hb dX1_fittingWills_1 rfl (lv_at hl 0 rfl) ?_
  refine va_get (D := D) (ci := 1) (v := .ref a_parish) (C := RX1) (T := TX1) (N := 7) hx hb hts in_X1 hown hK hP 0 rfl rfl 0 (by decide) fl_30 (fun _ h9 => h9) rfl dX1_fittingWills_2 ?_
  refine va_get (D := D) (ci := 3) (v := .ref a_parish_familyKind) (C := RX4) (T := TX4) (N := 15) hx hb hts in_X4 hown hK hP 1 rfl rfl 3 (by decide) fl_49 (fun _ h9 => h9) rfl dX1_fittingWills_5 ?_
  refine lv_iload_n hx hb dX1_fittingWills_8 rfl (lv_at hl 1 rfl) ?_
  obtain ⟨hi_1, h⟩ := h
  refine va_iald hx hb hK hP 3 1 rfl rfl hi_1 dX1_fittingWills_9 ?_
  refine lv_aload_n hx hb dX1_fittingWills_10 rfl (lv_at hl 0 rfl) ?_
  refine va_get (D := D) (ci := 1) (v := .ref a_parish) (C := RX1) (T := TX1) (N := 7) hx hb hts in_X1 hown hK hP 0 rfl rfl 0 (by decide) fl_30 (fun _ h9 => h9) rfl dX1_fittingWills_11 ?_
  refine va_get (D := D) (ci := 3) (v := .ref a_parish_familyCell) (C := RX4) (T := TX4) (N := 15) hx hb hts in_X4 hown hK hP 1 rfl rfl 5 (by decide) fl_52 (fun _ h9 => h9) rfl dX1_fittingWills_14 ?_
  refine lv_iload_n hx hb dX1_fittingWills_17 rfl (lv_at hl 1 rfl) ?_
  obtain ⟨hi_2, h⟩ := h
  refine va_iald hx hb hK hP 2 1 rfl rfl hi_2 dX1_fittingWills_18 ?_
  refine lv_aload_n hx hb dX1_fittingWills_19 rfl (lv_at hl 0 rfl) ?_
  refine va_get (D := D) (ci := 1) (v := .ref a_parish) (C := RX1) (T := TX1) (N := 7) hx hb hts in_X1 hown hK hP 0 rfl rfl 0 (by decide) fl_30 (fun _ h9 => h9) rfl dX1_fittingWills_20 ?_
  refine va_get (D := D) (ci := 3) (v := .int s_parish_hung) (C := RX4) (T := TX4) (N := 15) hx hb hts in_X4 hown hK hP 1 rfl rfl 13 (by decide) fl_55 (fun _ h9 => h9) rfl dX1_fittingWills_23 ?_
  refine lv_bipush (v := 60) hx hb dX1_fittingWills_26 (by decide) ?_
  refine st_callV (WR := [2, 3, 7, 8].filterMap (fun i => (Wd_Fs_fittingWills cy a_this a_parish a_parish_familyCell a_parish_familyKind a_parish_flitchCell a_parish_flitchKind a_parish_flitchStrength a_parish_sightings a_parish_sightings_numbers a_taken a_lapses a_wills a_cells a_smelling a_windy a_parish_familySide a_parish_familyWill a_parish_past a_parish_notes a_parish_marks s_parish_flitchCount s_parish_familyCount s_parish_hung s_parish_day s_parish_familyCell s_parish_familyKind s_parish_flitchCell s_parish_flitchKind s_parish_flitchStrength s_parish_sightings_width s_parish_sightings_limit s_parish_sightings_size s_parish_sightings_numbers s_taken)[i]?)) (WSn := fun u => (Wd_Fs_fittingWills cy a_this a_parish a_parish_familyCell a_parish_familyKind a_parish_flitchCell a_parish_flitchKind a_parish_flitchStrength a_parish_sightings a_parish_sightings_numbers a_taken a_lapses a_wills a_cells a_smelling a_windy a_parish_familySide a_parish_familyWill a_parish_past a_parish_notes a_parish_marks s_parish_flitchCount s_parish_familyCount s_parish_hung s_parish_day s_parish_familyCell s_parish_familyKind s_parish_flitchCell s_parish_flitchKind s_parish_flitchStrength s_parish_sightings_width s_parish_sightings_limit s_parish_sightings_size s_parish_sightings_numbers u)) (st_runV (n := 4) (As := [.int (s_parish_familyKind (Int32.toNatClampNeg x1)), .int (s_parish_familyCell (Int32.toNatClampNeg x1)), .int s_parish_hung, .int 60]) (rest := []) (q0 := 0) F ((co_Fs_reckon l D cy a_this a_parish a_parish_flitchCell a_parish_flitchKind a_parish_flitchStrength a_taken a_lapses a_wills a_cells a_smelling a_windy a_parish_familyKind a_parish_familySide a_parish_familyCell a_parish_familyWill a_parish_past a_parish_sightings a_parish_notes a_parish_marks s_parish_flitchCount s_parish_familyCount s_parish_hung s_parish_day s_parish_flitchCell s_parish_flitchKind s_parish_flitchStrength s_taken (s_parish_familyKind (Int32.toNatClampNeg x1)) (s_parish_familyCell (Int32.toNatClampNeg x1)) s_parish_hung 60 _ h) _) rfl gX1_fittingWills_X1_reckon rfl (by decide +kernel) rfl hKK hP hD [0, 1, 4, 5, 6, 9] rfl rfl rfl rfl rfl hl.1 rfl (Nat.le_of_ble_eq_true rfl) dX1_fittingWills_28) hP hD hS hA [0, 1, 4, 5, 6, 9] [2, 3, 7, 8] [4, 5, 0, 1, 6, 7, 8, 2, 3, 9] rfl rfl rfl (fun _ => rfl) (fun u H locs h hP hD hS => ?_)
  obtain ⟨s_taken_4, rfl⟩ : ∃ z, z = u := ⟨_, rfl⟩
  have hP : va_P D vwCl (Wd_Fs_fittingWills cy a_this a_parish a_parish_familyCell a_parish_familyKind a_parish_flitchCell a_parish_flitchKind a_parish_flitchStrength a_parish_sightings a_parish_sightings_numbers a_taken a_lapses a_wills a_cells a_smelling a_windy a_parish_familySide a_parish_familyWill a_parish_past a_parish_notes a_parish_marks s_parish_flitchCount s_parish_familyCount s_parish_hung s_parish_day s_parish_familyCell s_parish_familyKind s_parish_flitchCell s_parish_flitchKind s_parish_flitchStrength s_parish_sightings_width s_parish_sightings_limit s_parish_sightings_size s_parish_sightings_numbers s_taken_4) H := hP
  have hD : va_D A (Wd_Fs_fittingWills cy a_this a_parish a_parish_familyCell a_parish_familyKind a_parish_flitchCell a_parish_flitchKind a_parish_flitchStrength a_parish_sightings a_parish_sightings_numbers a_taken a_lapses a_wills a_cells a_smelling a_windy a_parish_familySide a_parish_familyWill a_parish_past a_parish_notes a_parish_marks s_parish_flitchCount s_parish_familyCount s_parish_hung s_parish_day s_parish_familyCell s_parish_familyKind s_parish_flitchCell s_parish_flitchKind s_parish_flitchStrength s_parish_sightings_width s_parish_sightings_limit s_parish_sightings_size s_parish_sightings_numbers s_taken_4) := hD
  refine lv_iconst (v := 0) hx hb dX1_fittingWills_31 (by decide) ?_
  refine lv_istore_n (lv' := [(3, .int 0), (0, .ref a_this), (1, .int x1), (2, .int x2)]) hx hb dX1_fittingWills_32 rfl hl (by decide) rfl (fun ls hl => ?_)
  refine lv_iconst (v := (-1)) hx hb dX1_fittingWills_33 (by decide) ?_
  refine lv_istore (lv' := [(4, .int (-1)), (3, .int 0), (0, .ref a_this), (1, .int x1), (2, .int x2)]) hx hb dX1_fittingWills_34 hl (by decide) rfl (fun ls hl => ?_)
  refine lv_iconst (v := (-1)) hx hb dX1_fittingWills_36 (by decide) ?_
  refine lv_istore (lv' := [(5, .int (-1)), (4, .int (-1)), (3, .int 0), (0, .ref a_this), (1, .int x1), (2, .int x2)]) hx hb dX1_fittingWills_37 hl (by decide) rfl (fun ls hl => ?_)
  refine lv_iconst (v := 1) hx hb dX1_fittingWills_39 (by decide) ?_
  refine lv_istore (lv' := [(6, .int 1), (5, .int (-1)), (4, .int (-1)), (3, .int 0), (0, .ref a_this), (1, .int x1), (2, .int x2)]) hx hb dX1_fittingWills_40 hl (by decide) rfl (fun ls hl => ?_)
  obtain ⟨T42_8, hz42_8, hs42_8, n42_8, h⟩ := lpw4_use h
  have kT42_8 : ∀ (n : Nat) (x3_5 : Int32) (x4_6 : Int32) (x5_7 : Int32) (x6_8 : Int32) (H : Heap) (locs : List Loc) (ls : Array Slot), T42_8 n x3_5 x4_6 x5_7 x6_8 → va_P D vwCl (Wd_Fs_fittingWills cy a_this a_parish a_parish_familyCell a_parish_familyKind a_parish_flitchCell a_parish_flitchKind a_parish_flitchStrength a_parish_sightings a_parish_sightings_numbers a_taken a_lapses a_wills a_cells a_smelling a_windy a_parish_familySide a_parish_familyWill a_parish_past a_parish_notes a_parish_marks s_parish_flitchCount s_parish_familyCount s_parish_hung s_parish_day s_parish_familyCell s_parish_familyKind s_parish_flitchCell s_parish_flitchKind s_parish_flitchStrength s_parish_sightings_width s_parish_sightings_limit s_parish_sightings_size s_parish_sightings_numbers s_taken_4) H → va_D A (Wd_Fs_fittingWills cy a_this a_parish a_parish_familyCell a_parish_familyKind a_parish_flitchCell a_parish_flitchKind a_parish_flitchStrength a_parish_sightings a_parish_sightings_numbers a_taken a_lapses a_wills a_cells a_smelling a_windy a_parish_familySide a_parish_familyWill a_parish_past a_parish_notes a_parish_marks s_parish_flitchCount s_parish_familyCount s_parish_hung s_parish_day s_parish_familyCell s_parish_familyKind s_parish_flitchCell s_parish_flitchKind s_parish_flitchStrength s_parish_sightings_width s_parish_sightings_limit s_parish_sightings_size s_parish_sightings_numbers s_taken_4) → va_S A s.heap H locs → lv_has ls 7 [(0, .ref a_this), (1, .int x1), (2, .int x2), (3, .int x3_5), (4, .int x4_6), (5, .int x5_7), (6, .int x6_8)] → W p l e rm_Fs_fittingWills s m args below meth c H locs 0 0 QQ (F0 m 42 ls []) := by
    intro n
    induction n with
    | zero => intro x3_5 x4_6 x5_7 x6_8 H locs ls h; exact absurd h (hz42_8 _ _ _ _)
    | succ n ih42_8 =>
      intro x3_5 x4_6 x5_7 x6_8 H locs ls h hP hD hS hl
      have h := hs42_8 _ _ _ _ _ h
      refine lv_iload hx hb dX1_fittingWills_42 (lv_at hl 6 rfl) ?_
      refine lv_bipush (v := 99) hx hb dX1_fittingWills_44 (by decide) ?_
      refine lv_icmp_gt (tgt := 87) hx hb dX1_fittingWills_46 (by decide) (fun c_10 => ?_) (fun c_10 => ?_)
      · have h := h.1 c_10
        refine lv_iload_n hx hb dX1_fittingWills_87 rfl (lv_at hl 2 rfl) ?_
        refine lv_if_ne (tgt := 95) hx hb dX1_fittingWills_88 (by decide) (fun c_11 => ?_) (fun c_11 => ?_)
        · have h := h.1 c_11
          refine lv_iload_n hx hb dX1_fittingWills_95 rfl (lv_at hl 2 rfl) ?_
          refine lv_iconst (v := 1) hx hb dX1_fittingWills_96 (by decide) ?_
          refine lv_icmp_ne (tgt := 105) hx hb dX1_fittingWills_97 (by decide) (fun c_12 => ?_) (fun c_12 => ?_)
          · have h := h.1 c_12
            refine lv_iload hx hb dX1_fittingWills_105 (lv_at hl 5 rfl) ?_
            exact hret _ (s_taken_4) _ _ _ _ h hP hD hS dX1_fittingWills_107
          · have h := h.2 c_12
            refine lv_iload hx hb dX1_fittingWills_100 (lv_at hl 4 rfl) ?_
            refine lv_goto (tgt := 107) hx hb dX1_fittingWills_102 (by decide) ?_
            exact hret _ (s_taken_4) _ _ _ _ h hP hD hS dX1_fittingWills_107
        · have h := h.2 c_11
          refine lv_iload_n hx hb dX1_fittingWills_91 rfl (lv_at hl 3 rfl) ?_
          refine lv_goto (tgt := 107) hx hb dX1_fittingWills_92 (by decide) ?_
          exact hret _ (s_taken_4) _ _ _ _ h hP hD hS dX1_fittingWills_107
      · have h := h.2 c_10
        refine lv_aload_n hx hb dX1_fittingWills_49 rfl (lv_at hl 0 rfl) ?_
        refine lv_iload_n hx hb dX1_fittingWills_50 rfl (lv_at hl 1 rfl) ?_
        refine lv_iload hx hb dX1_fittingWills_51 (lv_at hl 6 rfl) ?_
        refine st_callRI (st_runVR (n := 2) (As := [.int x1, .int x6_8]) (rest := []) (q0 := 0) F (co_Fs_fits l D cy a_this a_parish a_parish_sightings a_parish_sightings_numbers a_taken a_lapses a_wills a_cells a_smelling a_windy a_parish_flitchKind a_parish_flitchCell a_parish_flitchStrength a_parish_familyKind a_parish_familySide a_parish_familyCell a_parish_familyWill a_parish_past a_parish_notes a_parish_marks s_parish_flitchCount s_parish_familyCount s_parish_hung s_parish_day s_parish_sightings_width s_parish_sightings_limit s_parish_sightings_size s_parish_sightings_numbers s_taken_4 x1 x6_8 _ h) gX1_fittingWills_X1_fits rfl (by decide +kernel) rfl hKK hP [0, 1, 7, 8, 9] rfl rfl rfl rfl hl.1 rfl (Nat.le_of_ble_eq_true rfl) dX1_fittingWills_53) (fun r_13 h => ?_)
        obtain ⟨J81, hJ81, h⟩ := jn3_ex h
        have kJ81_16 : ∀ (x3_14 : Int32) (x4_15 : Int32) (x5_16 : Int32) (H : Heap) (locs : List Loc) (ls : Array Slot), J81 x3_14 x4_15 x5_16 → va_P D vwCl (Wd_Fs_fittingWills cy a_this a_parish a_parish_familyCell a_parish_familyKind a_parish_flitchCell a_parish_flitchKind a_parish_flitchStrength a_parish_sightings a_parish_sightings_numbers a_taken a_lapses a_wills a_cells a_smelling a_windy a_parish_familySide a_parish_familyWill a_parish_past a_parish_notes a_parish_marks s_parish_flitchCount s_parish_familyCount s_parish_hung s_parish_day s_parish_familyCell s_parish_familyKind s_parish_flitchCell s_parish_flitchKind s_parish_flitchStrength s_parish_sightings_width s_parish_sightings_limit s_parish_sightings_size s_parish_sightings_numbers s_taken_4) H → va_D A (Wd_Fs_fittingWills cy a_this a_parish a_parish_familyCell a_parish_familyKind a_parish_flitchCell a_parish_flitchKind a_parish_flitchStrength a_parish_sightings a_parish_sightings_numbers a_taken a_lapses a_wills a_cells a_smelling a_windy a_parish_familySide a_parish_familyWill a_parish_past a_parish_notes a_parish_marks s_parish_flitchCount s_parish_familyCount s_parish_hung s_parish_day s_parish_familyCell s_parish_familyKind s_parish_flitchCell s_parish_flitchKind s_parish_flitchStrength s_parish_sightings_width s_parish_sightings_limit s_parish_sightings_size s_parish_sightings_numbers s_taken_4) → va_S A s.heap H locs → lv_has ls 7 [(0, .ref a_this), (1, .int x1), (2, .int x2), (3, .int x3_14), (4, .int x4_15), (5, .int x5_16), (6, .int x6_8)] → W p l e rm_Fs_fittingWills s m args below meth c H locs 0 0 QQ (F0 m 81 ls []) := by
          intro x3_14 x4_15 x5_16 H locs ls h hP hD hS hl
          have h := hJ81 _ _ _ h
          obtain ⟨x6_18, ex6_18⟩ : ∃ y : Int32, y = x6_8 + 1 := ⟨_, rfl⟩
          have h := h x6_18 ex6_18
          refine lv_iinc (v := x6_18) (lv' := [(6, .int x6_18), (0, .ref a_this), (1, .int x1), (2, .int x2), (3, .int x3_14), (4, .int x4_15), (5, .int x5_16)]) hx hb dX1_fittingWills_81 hl (k := 6) rfl (by rw [ex6_18]; rfl) (by decide) rfl (fun ls hl => ?_)
          refine lv_goto (tgt := 42) hx hb dX1_fittingWills_84 (by decide) ?_
          exact ih42_8 _ _ _ _ _ _ _ h hP hD hS (lv_sub hl [1, 2, 3, 4, 5, 6, 0] rfl)
        refine lv_if_eq (tgt := 81) hx hb dX1_fittingWills_56 (by decide) (fun c_19 => ?_) (fun c_19 => ?_)
        · have h := h.1 c_19
          exact kJ81_16 _ _ _ _ _ _ h hP hD hS (lv_sub hl [0, 1, 2, 3, 4, 5, 6] rfl)
        · have h := h.2 c_19
          obtain ⟨x3_20, ex3_20⟩ : ∃ y : Int32, y = x3_5 + 1 := ⟨_, rfl⟩
          have h := h x3_20 ex3_20
          refine lv_iinc (v := x3_20) (lv' := [(3, .int x3_20), (0, .ref a_this), (1, .int x1), (2, .int x2), (4, .int x4_6), (5, .int x5_7), (6, .int x6_8)]) hx hb dX1_fittingWills_59 hl (k := 3) rfl (by rw [ex3_20]; rfl) (by decide) rfl (fun ls hl => ?_)
          refine lv_iload hx hb dX1_fittingWills_62 (lv_at hl 4 rfl) ?_
          refine lv_iconst (v := (-1)) hx hb dX1_fittingWills_64 (by decide) ?_
          obtain ⟨J75, hJ75, h⟩ := jn1_ex h
          have kJ75_21 : ∀ (v_21 : Int32) (H : Heap) (locs : List Loc) (ls : Array Slot), J75 v_21 → va_P D vwCl (Wd_Fs_fittingWills cy a_this a_parish a_parish_familyCell a_parish_familyKind a_parish_flitchCell a_parish_flitchKind a_parish_flitchStrength a_parish_sightings a_parish_sightings_numbers a_taken a_lapses a_wills a_cells a_smelling a_windy a_parish_familySide a_parish_familyWill a_parish_past a_parish_notes a_parish_marks s_parish_flitchCount s_parish_familyCount s_parish_hung s_parish_day s_parish_familyCell s_parish_familyKind s_parish_flitchCell s_parish_flitchKind s_parish_flitchStrength s_parish_sightings_width s_parish_sightings_limit s_parish_sightings_size s_parish_sightings_numbers s_taken_4) H → va_D A (Wd_Fs_fittingWills cy a_this a_parish a_parish_familyCell a_parish_familyKind a_parish_flitchCell a_parish_flitchKind a_parish_flitchStrength a_parish_sightings a_parish_sightings_numbers a_taken a_lapses a_wills a_cells a_smelling a_windy a_parish_familySide a_parish_familyWill a_parish_past a_parish_notes a_parish_marks s_parish_flitchCount s_parish_familyCount s_parish_hung s_parish_day s_parish_familyCell s_parish_familyKind s_parish_flitchCell s_parish_flitchKind s_parish_flitchStrength s_parish_sightings_width s_parish_sightings_limit s_parish_sightings_size s_parish_sightings_numbers s_taken_4) → va_S A s.heap H locs → lv_has ls 7 [(0, .ref a_this), (1, .int x1), (2, .int x2), (3, .int x3_20), (6, .int x6_8)] → W p l e rm_Fs_fittingWills s m args below meth c H locs 0 0 QQ (F0 m 75 ls [.int v_21]) := by
            intro v_21 H locs ls h hP hD hS hl
            have h := hJ75 _ h
            refine lv_istore (lv' := [(4, .int v_21), (0, .ref a_this), (1, .int x1), (2, .int x2), (3, .int x3_20), (6, .int x6_8)]) hx hb dX1_fittingWills_75 hl (by decide) rfl (fun ls hl => ?_)
            refine lv_iload hx hb dX1_fittingWills_77 (lv_at hl 5 rfl) ?_
            refine lv_istore (lv' := [(5, .int x6_8), (4, .int v_21), (0, .ref a_this), (1, .int x1), (2, .int x2), (3, .int x3_20), (6, .int x6_8)]) hx hb dX1_fittingWills_79 hl (by decide) rfl (fun ls hl => ?_)
            exact kJ81_16 _ _ _ _ _ _ h hP hD hS (lv_sub hl [2, 3, 4, 5, 1, 0, 6] rfl)
          refine lv_icmp_ne (tgt := 73) hx hb dX1_fittingWills_65 (by decide) (fun c_23 => ?_) (fun c_23 => ?_)
          · have h := h.1 c_23
            refine lv_iload hx hb dX1_fittingWills_73 (lv_at hl 4 rfl) ?_
            exact kJ75_21 _ _ _ _ h hP hD hS (lv_sub hl [1, 2, 3, 0, 6] rfl)
          · have h := h.2 c_23
            refine lv_iload hx hb dX1_fittingWills_68 (lv_at hl 6 rfl) ?_
            refine lv_goto (tgt := 75) hx hb dX1_fittingWills_70 (by decide) ?_
            exact kJ75_21 _ _ _ _ h hP hD hS (lv_sub hl [1, 2, 3, 0, 6] rfl)
  exact kT42_8 n42_8 _ _ _ _ _ _ _ h hP hD hS (lv_sub hl [4, 5, 6, 3, 2, 1, 0] rfl)
abbrev Wd_Fs_lapsingMornings (cy : ClassId × ClassId × ClassId × ClassId) (a_this a_parish a_parish_familyCell a_parish_familyKind a_parish_familyWill a_parish_flitchCell a_parish_flitchKind a_parish_flitchStrength a_smelling a_windy a_taken a_lapses a_wills a_cells a_parish_familySide a_parish_past a_parish_sightings a_parish_notes a_parish_marks : Nat) (s_parish_flitchCount : Int32) (s_parish_familyCount : Int32) (s_parish_hung : Int32) (s_parish_day : Int32) (s_parish_familyCell : Nat → Int32) (s_parish_familyKind : Nat → Int32) (s_parish_familyWill : Nat → Int32) (s_parish_flitchCell : Nat → Int32) (s_parish_flitchKind : Nat → Int32) (s_parish_flitchStrength : Nat → Int32) (s_smelling : Nat → Int32) (s_windy : Nat → Int32) : va_W := [(a_this, .inr (1, [.ref a_parish, .ref a_taken, .ref a_lapses, .ref a_wills, .ref a_cells, .ref a_smelling, .ref a_windy])), (a_parish, .inr (3, [.ref a_parish_flitchKind, .ref a_parish_flitchCell, .ref a_parish_flitchStrength, .ref a_parish_familyKind, .ref a_parish_familySide, .ref a_parish_familyCell, .ref a_parish_familyWill, .ref a_parish_past, .ref a_parish_sightings, .ref a_parish_notes, .ref a_parish_marks, .int s_parish_flitchCount, .int s_parish_familyCount, .int s_parish_hung, .int s_parish_day])), (a_parish_familyCell, .inl (cy.2.1, 7, .inl s_parish_familyCell)), (a_parish_familyKind, .inl (cy.2.1, 7, .inl s_parish_familyKind)), (a_parish_familyWill, .inl (cy.2.1, 7, .inl s_parish_familyWill)), (a_parish_flitchCell, .inl (cy.2.1, 3, .inl s_parish_flitchCell)), (a_parish_flitchKind, .inl (cy.2.1, 3, .inl s_parish_flitchKind)), (a_parish_flitchStrength, .inl (cy.2.1, 3, .inl s_parish_flitchStrength)), (a_smelling, .inl (cy.2.1, 6, .inl s_smelling)), (a_windy, .inl (cy.2.1, 6, .inl s_windy))]
abbrev rm_Fs_lapsingMornings : Room := { frames := 2, cells := 0, slots := 0, locals := 75 }
def wp_Fs_lapsingMornings (x1 : Int32) (x2 : Int32) (x3 : Int32) (s_parish_flitchCount : Int32) (s_parish_hung : Int32) (s_parish_day : Int32) (s_parish_familyCell : Nat → Int32) (s_parish_familyKind : Nat → Int32) (s_parish_familyWill : Nat → Int32) (s_parish_flitchCell : Nat → Int32) (s_parish_flitchKind : Nat → Int32) (s_parish_flitchStrength : Nat → Int32) (s_smelling : Nat → Int32) (s_windy : Nat → Int32) (Q : Int64 → (Nat → Int32) → (Nat → Int32) → Prop) : Prop := vp_in x1 7 ∧ ∀ x4_2 : Int32, x4_2 = (s_parish_familyKind (Int32.toNatClampNeg x1)) → ∃ n : Nat, lpw3 (fun (B14 : Int32 → (Nat → Int32) → (Nat → Int32) → Prop) (x5_3 : Int32) (s_smelling_4 : Nat → Int32) (s_windy_5 : Nat → Int32) => ((x2 ≤ x5_3 → ∃ n : Nat, lpw2 (fun (B98 : Int64 → Int32 → Prop) (x5_8 : Int64) (x7_9 : Int32) => (((ishl 1 x2) ≤ x7_9 → Q x5_8 s_smelling_4 s_windy_5) ∧ (¬ (ishl 1 x2) ≤ x7_9 → ∃ n : Nat, lpw3 (fun (B115 : Int64 → Int32 → Int32 → Prop) (x8_12 : Int64) (x10_13 : Int32) (x11_14 : Int32) => ((x2 ≤ x11_14 → vp_in x1 7 ∧ jn1 (fun (J212 : Int64 → Prop) => ((x10_13 < (s_parish_familyWill (Int32.toNatClampNeg x1)) → J212 x5_8) ∧ (¬ x10_13 < (s_parish_familyWill (Int32.toNatClampNeg x1)) → ∀ x5_22 : Int64, x5_22 = (x5_8 + x8_12) → J212 x5_22))) (fun (x5_18 : Int64) => ∀ x7_20 : Int32, x7_20 = x7_9 + 1 → B98 x5_18 x7_20)) ∧ (¬ x2 ≤ x11_14 → jn1 (fun (J137 : Int32 → Prop) => ((¬ ((ishr x7_9 x11_14) &&& 1) = 1 → J137 0) ∧ (((ishr x7_9 x11_14) &&& 1) = 1 → J137 1))) (fun (v_23 : Int32) => jn1 (fun (J154 : Int32 → Prop) => ((v_23 = 0 → J154 (10 - x3)) ∧ (¬ v_23 = 0 → J154 x3))) (fun (v_25 : Int32) => ∀ x8_27 : Int64, x8_27 = (x8_12 * (Int32.toInt64 v_25)) → jn1 (fun (J182 : Int32 → Prop) => ((v_23 = 0 → vp_in x11_14 6 ∧ J182 (s_smelling_4 (Int32.toNatClampNeg x11_14))) ∧ (¬ v_23 = 0 → vp_in x11_14 6 ∧ J182 (s_windy_5 (Int32.toNatClampNeg x11_14))))) (fun (v_28 : Int32) => ∀ x10_30 : Int32, x10_30 = (x10_13 + v_28) → ∀ x11_31 : Int32, x11_31 = x11_14 + 1 → B115 x8_27 x10_30 x11_31)))))) n 1 0 0))) n 0 0) ∧ (¬ x2 ≤ x5_3 → ∀ x6_37 : Int32, x6_37 = (s_parish_day + x5_3) → vp_in x1 7 ∧ wp_Pa_scentAt (s_parish_familyCell (Int32.toNatClampNeg x1)) x6_37 s_parish_hung s_parish_flitchCount s_parish_flitchCell s_parish_flitchKind s_parish_flitchStrength (fun (r_39 : Int32) => wp_Nt_loss x4_2 r_39 x6_37 (fun (r_40 : Int32) => vp_in x5_3 6 ∧ ∀ s_smelling_42 : Nat → Int32, s_smelling_42 = upd s_smelling_4 (Int32.toNatClampNeg x5_3) r_40 → wp_Nt_loss x4_2 0 x6_37 (fun (r_43 : Int32) => vp_in x5_3 6 ∧ ∀ s_windy_45 : Nat → Int32, s_windy_45 = upd s_windy_5 (Int32.toNatClampNeg x5_3) r_43 → ∀ x5_46 : Int32, x5_46 = x5_3 + 1 → B14 x5_46 s_smelling_42 s_windy_45)))))) n 0 s_smelling s_windy
set_option maxHeartbeats 4000000 in
set_option maxRecDepth 100000 in
theorem co_Fs_lapsingMornings (l : Launch) (D : va_G) (cy : ClassId × ClassId × ClassId × ClassId) (a_this a_parish a_parish_familyCell a_parish_familyKind a_parish_familyWill a_parish_flitchCell a_parish_flitchKind a_parish_flitchStrength a_smelling a_windy a_taken a_lapses a_wills a_cells a_parish_familySide a_parish_past a_parish_sightings a_parish_notes a_parish_marks : Nat) (s_parish_flitchCount : Int32) (s_parish_familyCount : Int32) (s_parish_hung : Int32) (s_parish_day : Int32) (s_parish_familyCell : Nat → Int32) (s_parish_familyKind : Nat → Int32) (s_parish_familyWill : Nat → Int32) (s_parish_flitchCell : Nat → Int32) (s_parish_flitchKind : Nat → Int32) (s_parish_flitchStrength : Nat → Int32) (s_smelling : Nat → Int32) (s_windy : Nat → Int32) (x1 : Int32) (x2 : Int32) (x3 : Int32) (Q : Int64 → (Nat → Int32) → (Nat → Int32) → Prop) (h : wp_Fs_lapsingMornings x1 x2 x3 s_parish_flitchCount s_parish_hung s_parish_day s_parish_familyCell s_parish_familyKind s_parish_familyWill s_parish_flitchCell s_parish_flitchKind s_parish_flitchStrength s_smelling s_windy Q) : CoL l yX1_lapsingMornings wsX1_lapsingMornings rm_Fs_lapsingMornings D cy [.ref a_this, .int x1, .int x2, .int x3] (Wd_Fs_lapsingMornings cy a_this a_parish a_parish_familyCell a_parish_familyKind a_parish_familyWill a_parish_flitchCell a_parish_flitchKind a_parish_flitchStrength a_smelling a_windy a_taken a_lapses a_wills a_cells a_parish_familySide a_parish_past a_parish_sightings a_parish_notes a_parish_marks s_parish_flitchCount s_parish_familyCount s_parish_hung s_parish_day s_parish_familyCell s_parish_familyKind s_parish_familyWill s_parish_flitchCell s_parish_flitchKind s_parish_flitchStrength s_smelling s_windy) (fun u : (Nat → Int32) × (Nat → Int32) => (Wd_Fs_lapsingMornings cy a_this a_parish a_parish_familyCell a_parish_familyKind a_parish_familyWill a_parish_flitchCell a_parish_flitchKind a_parish_flitchStrength a_smelling a_windy a_taken a_lapses a_wills a_cells a_parish_familySide a_parish_past a_parish_sightings a_parish_notes a_parish_marks s_parish_flitchCount s_parish_familyCount s_parish_hung s_parish_day s_parish_familyCell s_parish_familyKind s_parish_familyWill s_parish_flitchCell s_parish_flitchKind s_parish_flitchStrength u.1 u.2)) (fun (r : Int64) (u : (Nat → Int32) × (Nat → Int32)) => Q r u.1 u.2) := by
  refine st_metL (cc := cX1_lapsingMornings) (maxL := 13) RX1 (by decide) rfl rfl (Nat.le_of_ble_eq_true rfl) ?_
  intro p e s m args below meth c A QQ ls F hA hKK hP hD hS hl hret
  have hK := hKK.1
  have hnest := hKK.2.1
  have hx := F.1
  have hb := F.2.1
  have hown := F.2.2.2.1
  have hts := F.2.2.2.2
  have in_X1 : ∀ w ∈ u_ws RX1 TX1 7, w ∈ wsX1_lapsingMornings := (fun _ h => List.mem_cons_of_mem _ (List.mem_append_left _ (List.mem_append_right _ h)))
  have in_X4 : ∀ w ∈ u_ws RX4 TX4 15, w ∈ wsX1_lapsingMornings := (fun _ h => List.mem_cons_of_mem _ (List.mem_append_right _ h))
  have fl_24 := (hts (.fieldLink RX1 24 "RasherCase$Foresight" "smelling" "[I") (List.mem_of_getElem? (i := 4) rfl))
  have fl_27 := (hts (.fieldLink RX1 27 "RasherCase$Foresight" "windy" "[I") (List.mem_of_getElem? (i := 7) rfl))
  have fl_30 := (hts (.fieldLink RX1 30 "RasherCase$Foresight" "parish" "LRasherCase$Parish;") (List.mem_of_getElem? (i := 1) rfl))
  have fl_40 := (hts (.fieldLink RX1 40 "RasherCase$Parish" "day" "I") (List.mem_of_getElem? (i := 3) rfl))
  have fl_49 := (hts (.fieldLink RX1 49 "RasherCase$Parish" "familyKind" "[I") (List.mem_of_getElem? (i := 2) rfl))
  have fl_52 := (hts (.fieldLink RX1 52 "RasherCase$Parish" "familyCell" "[I") (List.mem_of_getElem? (i := 5) rfl))
  have fl_55 := (hts (.fieldLink RX1 55 "RasherCase$Parish" "hung" "I") (List.mem_of_getElem? (i := 6) rfl))
  have fl_62 := (hts (.fieldLink RX1 62 "RasherCase$Parish" "familyWill" "[I") (List.mem_of_getElem? (i := 8) rfl))
  have hl : lv_has ls 13 [(0, .ref a_this), (1, .int x1), (2, .int x2), (3, .int x3)] := hl
  unfold wp_Fs_lapsingMornings at h
  refine lv_aload_n hx hb dX1_lapsingMornings_0 rfl (lv_at hl 0 rfl) ?_
  refine va_get (D := D) (ci := 1) (v := .ref a_parish) (C := RX1) (T := TX1) (N := 7) hx hb hts in_X1 hown hK hP 0 rfl rfl 0 (by decide) fl_30 (fun _ h9 => h9) rfl dX1_lapsingMornings_1 ?_
  refine va_get (D := D) (ci := 3) (v := .ref a_parish_familyKind) (C := RX4) (T := TX4) (N := 15) hx hb hts in_X4 hown hK hP 1 rfl rfl 3 (by decide) fl_49 (fun _ h9 => h9) rfl dX1_lapsingMornings_4 ?_
  refine lv_iload_n hx hb dX1_lapsingMornings_7 rfl (lv_at hl 1 rfl) ?_
  obtain ⟨hi_1, h⟩ := h
  refine va_iald hx hb hK hP 3 1 rfl rfl hi_1 dX1_lapsingMornings_8 ?_
  refine lv_topi (fun x4_2 ex4_2 => ?_)
  have h := h x4_2 ex4_2
  refine lv_istore (lv' := [(4, .int x4_2), (0, .ref a_this), (1, .int x1), (2, .int x2), (3, .int x3)]) hx hb dX1_lapsingMornings_9 hl (by decide) rfl (fun ls hl => ?_)
  refine lv_iconst (v := 0) hx hb dX1_lapsingMornings_11 (by decide) ?_
  refine lv_istore (lv' := [(5, .int 0), (4, .int x4_2), (0, .ref a_this), (1, .int x1), (2, .int x2), (3, .int x3)]) hx hb dX1_lapsingMornings_12 hl (by decide) rfl (fun ls hl => ?_)
  obtain ⟨T14_5, hz14_5, hs14_5, n14_5, h⟩ := lpw3_use h
  have kT14_5 : ∀ (n : Nat) (x5_3 : Int32) (s_smelling_4 : Nat → Int32) (s_windy_5 : Nat → Int32) (H : Heap) (locs : List Loc) (ls : Array Slot), T14_5 n x5_3 s_smelling_4 s_windy_5 → va_P D vwCl (Wd_Fs_lapsingMornings cy a_this a_parish a_parish_familyCell a_parish_familyKind a_parish_familyWill a_parish_flitchCell a_parish_flitchKind a_parish_flitchStrength a_smelling a_windy a_taken a_lapses a_wills a_cells a_parish_familySide a_parish_past a_parish_sightings a_parish_notes a_parish_marks s_parish_flitchCount s_parish_familyCount s_parish_hung s_parish_day s_parish_familyCell s_parish_familyKind s_parish_familyWill s_parish_flitchCell s_parish_flitchKind s_parish_flitchStrength s_smelling_4 s_windy_5) H → va_D A (Wd_Fs_lapsingMornings cy a_this a_parish a_parish_familyCell a_parish_familyKind a_parish_familyWill a_parish_flitchCell a_parish_flitchKind a_parish_flitchStrength a_smelling a_windy a_taken a_lapses a_wills a_cells a_parish_familySide a_parish_past a_parish_sightings a_parish_notes a_parish_marks s_parish_flitchCount s_parish_familyCount s_parish_hung s_parish_day s_parish_familyCell s_parish_familyKind s_parish_familyWill s_parish_flitchCell s_parish_flitchKind s_parish_flitchStrength s_smelling_4 s_windy_5) → va_S A s.heap H locs → lv_has ls 13 [(0, .ref a_this), (1, .int x1), (2, .int x2), (3, .int x3), (4, .int x4_2), (5, .int x5_3)] → W p l e rm_Fs_lapsingMornings s m args below meth c H locs 0 0 QQ (F0 m 14 ls []) := by
    intro n
    induction n with
    | zero => intro x5_3 s_smelling_4 s_windy_5 H locs ls h; exact absurd h (hz14_5 _ _ _)
    | succ n ih14_5 =>
      intro x5_3 s_smelling_4 s_windy_5 H locs ls h hP hD hS hl
      have h := hs14_5 _ _ _ _ h
      refine lv_iload hx hb dX1_lapsingMornings_14 (lv_at hl 5 rfl) ?_
      refine lv_iload_n hx hb dX1_lapsingMornings_16 rfl (lv_at hl 2 rfl) ?_
      refine lv_icmp_ge (tgt := 92) hx hb dX1_lapsingMornings_17 (by decide) (fun c_7 => ?_) (fun c_7 => ?_)
      · have h := h.1 c_7
        refine lv_lconst (v := 0) hx hb dX1_lapsingMornings_92 (by decide) ?_
        refine lv_lstore (lv' := [(5, .long 0), (0, .ref a_this), (1, .int x1), (2, .int x2), (3, .int x3), (4, .int x4_2)]) hx hb dX1_lapsingMornings_93 hl (by decide) rfl (fun ls hl => ?_)
        refine lv_iconst (v := 0) hx hb dX1_lapsingMornings_95 (by decide) ?_
        refine lv_istore (lv' := [(7, .int 0), (5, .long 0), (0, .ref a_this), (1, .int x1), (2, .int x2), (3, .int x3), (4, .int x4_2)]) hx hb dX1_lapsingMornings_96 hl (by decide) rfl (fun ls hl => ?_)
        obtain ⟨T98_9, hz98_9, hs98_9, n98_9, h⟩ := lpw2_use h
        have kT98_9 : ∀ (n : Nat) (x5_8 : Int64) (x7_9 : Int32) (H : Heap) (locs : List Loc) (ls : Array Slot), T98_9 n x5_8 x7_9 → va_P D vwCl (Wd_Fs_lapsingMornings cy a_this a_parish a_parish_familyCell a_parish_familyKind a_parish_familyWill a_parish_flitchCell a_parish_flitchKind a_parish_flitchStrength a_smelling a_windy a_taken a_lapses a_wills a_cells a_parish_familySide a_parish_past a_parish_sightings a_parish_notes a_parish_marks s_parish_flitchCount s_parish_familyCount s_parish_hung s_parish_day s_parish_familyCell s_parish_familyKind s_parish_familyWill s_parish_flitchCell s_parish_flitchKind s_parish_flitchStrength s_smelling_4 s_windy_5) H → va_D A (Wd_Fs_lapsingMornings cy a_this a_parish a_parish_familyCell a_parish_familyKind a_parish_familyWill a_parish_flitchCell a_parish_flitchKind a_parish_flitchStrength a_smelling a_windy a_taken a_lapses a_wills a_cells a_parish_familySide a_parish_past a_parish_sightings a_parish_notes a_parish_marks s_parish_flitchCount s_parish_familyCount s_parish_hung s_parish_day s_parish_familyCell s_parish_familyKind s_parish_familyWill s_parish_flitchCell s_parish_flitchKind s_parish_flitchStrength s_smelling_4 s_windy_5) → va_S A s.heap H locs → lv_has ls 13 [(0, .ref a_this), (1, .int x1), (2, .int x2), (3, .int x3), (5, .long x5_8), (7, .int x7_9)] → W p l e rm_Fs_lapsingMornings s m args below meth c H locs 0 0 QQ (F0 m 98 ls []) := by
          intro n
          induction n with
          | zero => intro x5_8 x7_9 H locs ls h; exact absurd h (hz98_9 _ _)
          | succ n ih98_9 =>
            intro x5_8 x7_9 H locs ls h hP hD hS hl
            have h := hs98_9 _ _ _ h
            refine lv_iload hx hb dX1_lapsingMornings_98 (lv_at hl 5 rfl) ?_
            refine lv_iconst (v := 1) hx hb dX1_lapsingMornings_100 (by decide) ?_
            refine lv_iload_n hx hb dX1_lapsingMornings_101 rfl (lv_at hl 2 rfl) ?_
            refine lv_ishl hx hb dX1_lapsingMornings_102 ?_
            refine lv_icmp_ge (tgt := 218) hx hb dX1_lapsingMornings_103 (by decide) (fun c_11 => ?_) (fun c_11 => ?_)
            · have h := h.1 c_11
              refine lv_lload hx hb dX1_lapsingMornings_218 (lv_at hl 4 rfl) ?_
              exact hret _ (s_smelling_4, s_windy_5) _ _ _ _ h hP hD hS dX1_lapsingMornings_220
            · have h := h.2 c_11
              refine lv_lconst (v := 1) hx hb dX1_lapsingMornings_106 (by decide) ?_
              refine lv_lstore (lv' := [(8, .long 1), (0, .ref a_this), (1, .int x1), (2, .int x2), (3, .int x3), (5, .long x5_8), (7, .int x7_9)]) hx hb dX1_lapsingMornings_107 hl (by decide) rfl (fun ls hl => ?_)
              refine lv_iconst (v := 0) hx hb dX1_lapsingMornings_109 (by decide) ?_
              refine lv_istore (lv' := [(10, .int 0), (8, .long 1), (0, .ref a_this), (1, .int x1), (2, .int x2), (3, .int x3), (5, .long x5_8), (7, .int x7_9)]) hx hb dX1_lapsingMornings_110 hl (by decide) rfl (fun ls hl => ?_)
              refine lv_iconst (v := 0) hx hb dX1_lapsingMornings_112 (by decide) ?_
              refine lv_istore (lv' := [(11, .int 0), (10, .int 0), (8, .long 1), (0, .ref a_this), (1, .int x1), (2, .int x2), (3, .int x3), (5, .long x5_8), (7, .int x7_9)]) hx hb dX1_lapsingMornings_113 hl (by decide) rfl (fun ls hl => ?_)
              obtain ⟨T115_14, hz115_14, hs115_14, n115_14, h⟩ := lpw3_use h
              have kT115_14 : ∀ (n : Nat) (x8_12 : Int64) (x10_13 : Int32) (x11_14 : Int32) (H : Heap) (locs : List Loc) (ls : Array Slot), T115_14 n x8_12 x10_13 x11_14 → va_P D vwCl (Wd_Fs_lapsingMornings cy a_this a_parish a_parish_familyCell a_parish_familyKind a_parish_familyWill a_parish_flitchCell a_parish_flitchKind a_parish_flitchStrength a_smelling a_windy a_taken a_lapses a_wills a_cells a_parish_familySide a_parish_past a_parish_sightings a_parish_notes a_parish_marks s_parish_flitchCount s_parish_familyCount s_parish_hung s_parish_day s_parish_familyCell s_parish_familyKind s_parish_familyWill s_parish_flitchCell s_parish_flitchKind s_parish_flitchStrength s_smelling_4 s_windy_5) H → va_D A (Wd_Fs_lapsingMornings cy a_this a_parish a_parish_familyCell a_parish_familyKind a_parish_familyWill a_parish_flitchCell a_parish_flitchKind a_parish_flitchStrength a_smelling a_windy a_taken a_lapses a_wills a_cells a_parish_familySide a_parish_past a_parish_sightings a_parish_notes a_parish_marks s_parish_flitchCount s_parish_familyCount s_parish_hung s_parish_day s_parish_familyCell s_parish_familyKind s_parish_familyWill s_parish_flitchCell s_parish_flitchKind s_parish_flitchStrength s_smelling_4 s_windy_5) → va_S A s.heap H locs → lv_has ls 13 [(0, .ref a_this), (1, .int x1), (2, .int x2), (3, .int x3), (5, .long x5_8), (7, .int x7_9), (8, .long x8_12), (10, .int x10_13), (11, .int x11_14)] → W p l e rm_Fs_lapsingMornings s m args below meth c H locs 0 0 QQ (F0 m 115 ls []) := by
                intro n
                induction n with
                | zero => intro x8_12 x10_13 x11_14 H locs ls h; exact absurd h (hz115_14 _ _ _)
                | succ n ih115_14 =>
                  intro x8_12 x10_13 x11_14 H locs ls h hP hD hS hl
                  have h := hs115_14 _ _ _ _ h
                  refine lv_iload hx hb dX1_lapsingMornings_115 (lv_at hl 8 rfl) ?_
                  refine lv_iload_n hx hb dX1_lapsingMornings_117 rfl (lv_at hl 2 rfl) ?_
                  refine lv_icmp_ge (tgt := 191) hx hb dX1_lapsingMornings_118 (by decide) (fun c_16 => ?_) (fun c_16 => ?_)
                  · have h := h.1 c_16
                    refine lv_iload hx hb dX1_lapsingMornings_191 (lv_at hl 7 rfl) ?_
                    refine lv_aload_n hx hb dX1_lapsingMornings_193 rfl (lv_at hl 0 rfl) ?_
                    refine va_get (D := D) (ci := 1) (v := .ref a_parish) (C := RX1) (T := TX1) (N := 7) hx hb hts in_X1 hown hK hP 0 rfl rfl 0 (by decide) fl_30 (fun _ h9 => h9) rfl dX1_lapsingMornings_194 ?_
                    refine va_get (D := D) (ci := 3) (v := .ref a_parish_familyWill) (C := RX4) (T := TX4) (N := 15) hx hb hts in_X4 hown hK hP 1 rfl rfl 6 (by decide) fl_62 (fun _ h9 => h9) rfl dX1_lapsingMornings_197 ?_
                    refine lv_iload_n hx hb dX1_lapsingMornings_200 rfl (lv_at hl 1 rfl) ?_
                    obtain ⟨hi_17, h⟩ := h
                    refine va_iald hx hb hK hP 4 1 rfl rfl hi_17 dX1_lapsingMornings_201 ?_
                    obtain ⟨J212, hJ212, h⟩ := jn1_ex h
                    have kJ212_18 : ∀ (x5_18 : Int64) (H : Heap) (locs : List Loc) (ls : Array Slot), J212 x5_18 → va_P D vwCl (Wd_Fs_lapsingMornings cy a_this a_parish a_parish_familyCell a_parish_familyKind a_parish_familyWill a_parish_flitchCell a_parish_flitchKind a_parish_flitchStrength a_smelling a_windy a_taken a_lapses a_wills a_cells a_parish_familySide a_parish_past a_parish_sightings a_parish_notes a_parish_marks s_parish_flitchCount s_parish_familyCount s_parish_hung s_parish_day s_parish_familyCell s_parish_familyKind s_parish_familyWill s_parish_flitchCell s_parish_flitchKind s_parish_flitchStrength s_smelling_4 s_windy_5) H → va_D A (Wd_Fs_lapsingMornings cy a_this a_parish a_parish_familyCell a_parish_familyKind a_parish_familyWill a_parish_flitchCell a_parish_flitchKind a_parish_flitchStrength a_smelling a_windy a_taken a_lapses a_wills a_cells a_parish_familySide a_parish_past a_parish_sightings a_parish_notes a_parish_marks s_parish_flitchCount s_parish_familyCount s_parish_hung s_parish_day s_parish_familyCell s_parish_familyKind s_parish_familyWill s_parish_flitchCell s_parish_flitchKind s_parish_flitchStrength s_smelling_4 s_windy_5) → va_S A s.heap H locs → lv_has ls 13 [(0, .ref a_this), (1, .int x1), (2, .int x2), (3, .int x3), (5, .long x5_18), (7, .int x7_9)] → W p l e rm_Fs_lapsingMornings s m args below meth c H locs 0 0 QQ (F0 m 212 ls []) := by
                      intro x5_18 H locs ls h hP hD hS hl
                      have h := hJ212 _ h
                      obtain ⟨x7_20, ex7_20⟩ : ∃ y : Int32, y = x7_9 + 1 := ⟨_, rfl⟩
                      have h := h x7_20 ex7_20
                      refine lv_iinc (v := x7_20) (lv' := [(7, .int x7_20), (0, .ref a_this), (1, .int x1), (2, .int x2), (3, .int x3), (5, .long x5_18)]) hx hb dX1_lapsingMornings_212 hl (k := 5) rfl (by rw [ex7_20]; rfl) (by decide) rfl (fun ls hl => ?_)
                      refine lv_goto (tgt := 98) hx hb dX1_lapsingMornings_215 (by decide) ?_
                      exact ih98_9 _ _ _ _ _ h hP hD hS (lv_sub hl [1, 2, 3, 4, 5, 0] rfl)
                    refine lv_icmp_lt (tgt := 212) hx hb dX1_lapsingMornings_202 (by decide) (fun c_21 => ?_) (fun c_21 => ?_)
                    · have h := h.1 c_21
                      exact kJ212_18 _ _ _ _ h hP hD hS (lv_sub hl [0, 1, 2, 3, 4, 5] rfl)
                    · have h := h.2 c_21
                      refine lv_lload hx hb dX1_lapsingMornings_205 (lv_at hl 4 rfl) ?_
                      refine lv_lload hx hb dX1_lapsingMornings_207 (lv_at hl 6 rfl) ?_
                      refine lv_ladd hx hb dX1_lapsingMornings_209 ?_
                      refine lv_topl (fun x5_22 ex5_22 => ?_)
                      have h := h x5_22 ex5_22
                      refine lv_lstore (lv' := [(5, .long x5_22), (0, .ref a_this), (1, .int x1), (2, .int x2), (3, .int x3), (7, .int x7_9), (8, .long x8_12), (10, .int x10_13), (11, .int x11_14)]) hx hb dX1_lapsingMornings_210 hl (by decide) rfl (fun ls hl => ?_)
                      exact kJ212_18 _ _ _ _ h hP hD hS (lv_sub hl [1, 2, 3, 4, 0, 5] rfl)
                  · have h := h.2 c_16
                    refine lv_iload hx hb dX1_lapsingMornings_121 (lv_at hl 5 rfl) ?_
                    refine lv_iload hx hb dX1_lapsingMornings_123 (lv_at hl 8 rfl) ?_
                    refine lv_ishr hx hb dX1_lapsingMornings_125 ?_
                    refine lv_iconst (v := 1) hx hb dX1_lapsingMornings_126 (by decide) ?_
                    refine lv_iand hx hb dX1_lapsingMornings_127 ?_
                    refine lv_iconst (v := 1) hx hb dX1_lapsingMornings_128 (by decide) ?_
                    obtain ⟨J137, hJ137, h⟩ := jn1_ex h
                    have kJ137_23 : ∀ (v_23 : Int32) (H : Heap) (locs : List Loc) (ls : Array Slot), J137 v_23 → va_P D vwCl (Wd_Fs_lapsingMornings cy a_this a_parish a_parish_familyCell a_parish_familyKind a_parish_familyWill a_parish_flitchCell a_parish_flitchKind a_parish_flitchStrength a_smelling a_windy a_taken a_lapses a_wills a_cells a_parish_familySide a_parish_past a_parish_sightings a_parish_notes a_parish_marks s_parish_flitchCount s_parish_familyCount s_parish_hung s_parish_day s_parish_familyCell s_parish_familyKind s_parish_familyWill s_parish_flitchCell s_parish_flitchKind s_parish_flitchStrength s_smelling_4 s_windy_5) H → va_D A (Wd_Fs_lapsingMornings cy a_this a_parish a_parish_familyCell a_parish_familyKind a_parish_familyWill a_parish_flitchCell a_parish_flitchKind a_parish_flitchStrength a_smelling a_windy a_taken a_lapses a_wills a_cells a_parish_familySide a_parish_past a_parish_sightings a_parish_notes a_parish_marks s_parish_flitchCount s_parish_familyCount s_parish_hung s_parish_day s_parish_familyCell s_parish_familyKind s_parish_familyWill s_parish_flitchCell s_parish_flitchKind s_parish_flitchStrength s_smelling_4 s_windy_5) → va_S A s.heap H locs → lv_has ls 13 [(0, .ref a_this), (1, .int x1), (2, .int x2), (3, .int x3), (5, .long x5_8), (7, .int x7_9), (8, .long x8_12), (10, .int x10_13), (11, .int x11_14)] → W p l e rm_Fs_lapsingMornings s m args below meth c H locs 0 0 QQ (F0 m 137 ls [.int v_23]) := by
                      intro v_23 H locs ls h hP hD hS hl
                      have h := hJ137 _ h
                      refine lv_istore (lv' := [(12, .int v_23), (0, .ref a_this), (1, .int x1), (2, .int x2), (3, .int x3), (5, .long x5_8), (7, .int x7_9), (8, .long x8_12), (10, .int x10_13), (11, .int x11_14)]) hx hb dX1_lapsingMornings_137 hl (by decide) rfl (fun ls hl => ?_)
                      refine lv_lload hx hb dX1_lapsingMornings_139 (lv_at hl 7 rfl) ?_
                      refine lv_iload hx hb dX1_lapsingMornings_141 (lv_at hl 0 rfl) ?_
                      obtain ⟨J154, hJ154, h⟩ := jn1_ex h
                      have kJ154_25 : ∀ (v_25 : Int32) (H : Heap) (locs : List Loc) (ls : Array Slot), J154 v_25 → va_P D vwCl (Wd_Fs_lapsingMornings cy a_this a_parish a_parish_familyCell a_parish_familyKind a_parish_familyWill a_parish_flitchCell a_parish_flitchKind a_parish_flitchStrength a_smelling a_windy a_taken a_lapses a_wills a_cells a_parish_familySide a_parish_past a_parish_sightings a_parish_notes a_parish_marks s_parish_flitchCount s_parish_familyCount s_parish_hung s_parish_day s_parish_familyCell s_parish_familyKind s_parish_familyWill s_parish_flitchCell s_parish_flitchKind s_parish_flitchStrength s_smelling_4 s_windy_5) H → va_D A (Wd_Fs_lapsingMornings cy a_this a_parish a_parish_familyCell a_parish_familyKind a_parish_familyWill a_parish_flitchCell a_parish_flitchKind a_parish_flitchStrength a_smelling a_windy a_taken a_lapses a_wills a_cells a_parish_familySide a_parish_past a_parish_sightings a_parish_notes a_parish_marks s_parish_flitchCount s_parish_familyCount s_parish_hung s_parish_day s_parish_familyCell s_parish_familyKind s_parish_familyWill s_parish_flitchCell s_parish_flitchKind s_parish_flitchStrength s_smelling_4 s_windy_5) → va_S A s.heap H locs → lv_has ls 13 [(0, .ref a_this), (1, .int x1), (2, .int x2), (3, .int x3), (5, .long x5_8), (7, .int x7_9), (10, .int x10_13), (11, .int x11_14), (12, .int v_23)] → W p l e rm_Fs_lapsingMornings s m args below meth c H locs 0 0 QQ (F0 m 154 ls [.int v_25, .long x8_12]) := by
                        intro v_25 H locs ls h hP hD hS hl
                        have h := hJ154 _ h
                        refine lv_i2l hx hb dX1_lapsingMornings_154 rfl ?_
                        refine lv_lmul hx hb dX1_lapsingMornings_155 ?_
                        refine lv_topl (fun x8_27 ex8_27 => ?_)
                        have h := h x8_27 ex8_27
                        refine lv_lstore (lv' := [(8, .long x8_27), (0, .ref a_this), (1, .int x1), (2, .int x2), (3, .int x3), (5, .long x5_8), (7, .int x7_9), (10, .int x10_13), (11, .int x11_14), (12, .int v_23)]) hx hb dX1_lapsingMornings_156 hl (by decide) rfl (fun ls hl => ?_)
                        refine lv_iload hx hb dX1_lapsingMornings_158 (lv_at hl 7 rfl) ?_
                        refine lv_iload hx hb dX1_lapsingMornings_160 (lv_at hl 9 rfl) ?_
                        obtain ⟨J182, hJ182, h⟩ := jn1_ex h
                        have kJ182_28 : ∀ (v_28 : Int32) (H : Heap) (locs : List Loc) (ls : Array Slot), J182 v_28 → va_P D vwCl (Wd_Fs_lapsingMornings cy a_this a_parish a_parish_familyCell a_parish_familyKind a_parish_familyWill a_parish_flitchCell a_parish_flitchKind a_parish_flitchStrength a_smelling a_windy a_taken a_lapses a_wills a_cells a_parish_familySide a_parish_past a_parish_sightings a_parish_notes a_parish_marks s_parish_flitchCount s_parish_familyCount s_parish_hung s_parish_day s_parish_familyCell s_parish_familyKind s_parish_familyWill s_parish_flitchCell s_parish_flitchKind s_parish_flitchStrength s_smelling_4 s_windy_5) H → va_D A (Wd_Fs_lapsingMornings cy a_this a_parish a_parish_familyCell a_parish_familyKind a_parish_familyWill a_parish_flitchCell a_parish_flitchKind a_parish_flitchStrength a_smelling a_windy a_taken a_lapses a_wills a_cells a_parish_familySide a_parish_past a_parish_sightings a_parish_notes a_parish_marks s_parish_flitchCount s_parish_familyCount s_parish_hung s_parish_day s_parish_familyCell s_parish_familyKind s_parish_familyWill s_parish_flitchCell s_parish_flitchKind s_parish_flitchStrength s_smelling_4 s_windy_5) → va_S A s.heap H locs → lv_has ls 13 [(0, .ref a_this), (1, .int x1), (2, .int x2), (3, .int x3), (5, .long x5_8), (7, .int x7_9), (8, .long x8_27), (11, .int x11_14)] → W p l e rm_Fs_lapsingMornings s m args below meth c H locs 0 0 QQ (F0 m 182 ls [.int v_28, .int x10_13]) := by
                          intro v_28 H locs ls h hP hD hS hl
                          have h := hJ182 _ h
                          refine lv_iadd hx hb dX1_lapsingMornings_182 ?_
                          refine lv_topi (fun x10_30 ex10_30 => ?_)
                          have h := h x10_30 ex10_30
                          refine lv_istore (lv' := [(10, .int x10_30), (0, .ref a_this), (1, .int x1), (2, .int x2), (3, .int x3), (5, .long x5_8), (7, .int x7_9), (8, .long x8_27), (11, .int x11_14)]) hx hb dX1_lapsingMornings_183 hl (by decide) rfl (fun ls hl => ?_)
                          obtain ⟨x11_31, ex11_31⟩ : ∃ y : Int32, y = x11_14 + 1 := ⟨_, rfl⟩
                          have h := h x11_31 ex11_31
                          refine lv_iinc (v := x11_31) (lv' := [(11, .int x11_31), (10, .int x10_30), (0, .ref a_this), (1, .int x1), (2, .int x2), (3, .int x3), (5, .long x5_8), (7, .int x7_9), (8, .long x8_27)]) hx hb dX1_lapsingMornings_185 hl (k := 8) rfl (by rw [ex11_31]; rfl) (by decide) rfl (fun ls hl => ?_)
                          refine lv_goto (tgt := 115) hx hb dX1_lapsingMornings_188 (by decide) ?_
                          exact ih115_14 _ _ _ _ _ _ h hP hD hS (lv_sub hl [2, 3, 4, 5, 6, 7, 8, 1, 0] rfl)
                        refine lv_if_eq (tgt := 175) hx hb dX1_lapsingMornings_162 (by decide) (fun c_32 => ?_) (fun c_32 => ?_)
                        · have h := h.1 c_32
                          refine lv_aload_n hx hb dX1_lapsingMornings_175 rfl (lv_at hl 1 rfl) ?_
                          refine va_get (D := D) (ci := 1) (v := .ref a_smelling) (C := RX1) (T := TX1) (N := 7) hx hb hts in_X1 hown hK hP 0 rfl rfl 5 (by decide) fl_24 (fun _ h9 => h9) rfl dX1_lapsingMornings_176 ?_
                          refine lv_iload hx hb dX1_lapsingMornings_179 (lv_at hl 8 rfl) ?_
                          obtain ⟨hi_33, h⟩ := h
                          refine va_iald hx hb hK hP 8 1 rfl rfl hi_33 dX1_lapsingMornings_181 ?_
                          exact kJ182_28 _ _ _ _ h hP hD hS (lv_sub hl [1, 2, 3, 4, 5, 6, 0, 8] rfl)
                        · have h := h.2 c_32
                          refine lv_aload_n hx hb dX1_lapsingMornings_165 rfl (lv_at hl 1 rfl) ?_
                          refine va_get (D := D) (ci := 1) (v := .ref a_windy) (C := RX1) (T := TX1) (N := 7) hx hb hts in_X1 hown hK hP 0 rfl rfl 6 (by decide) fl_27 (fun _ h9 => h9) rfl dX1_lapsingMornings_166 ?_
                          refine lv_iload hx hb dX1_lapsingMornings_169 (lv_at hl 8 rfl) ?_
                          obtain ⟨hi_34, h⟩ := h
                          refine va_iald hx hb hK hP 9 1 rfl rfl hi_34 dX1_lapsingMornings_171 ?_
                          refine lv_goto (tgt := 182) hx hb dX1_lapsingMornings_172 (by decide) ?_
                          exact kJ182_28 _ _ _ _ h hP hD hS (lv_sub hl [1, 2, 3, 4, 5, 6, 0, 8] rfl)
                      refine lv_if_eq (tgt := 150) hx hb dX1_lapsingMornings_143 (by decide) (fun c_35 => ?_) (fun c_35 => ?_)
                      · have h := h.1 c_35
                        refine lv_bipush (v := 10) hx hb dX1_lapsingMornings_150 (by decide) ?_
                        refine lv_iload_n hx hb dX1_lapsingMornings_152 rfl (lv_at hl 4 rfl) ?_
                        refine lv_isub hx hb dX1_lapsingMornings_153 ?_
                        exact kJ154_25 _ _ _ _ h hP hD hS (lv_sub hl [1, 2, 3, 4, 5, 6, 8, 9, 0] rfl)
                      · have h := h.2 c_35
                        refine lv_iload_n hx hb dX1_lapsingMornings_146 rfl (lv_at hl 4 rfl) ?_
                        refine lv_goto (tgt := 154) hx hb dX1_lapsingMornings_147 (by decide) ?_
                        exact kJ154_25 _ _ _ _ h hP hD hS (lv_sub hl [1, 2, 3, 4, 5, 6, 8, 9, 0] rfl)
                    refine lv_icmp_ne (tgt := 136) hx hb dX1_lapsingMornings_129 (by decide) (fun c_36 => ?_) (fun c_36 => ?_)
                    · have h := h.1 c_36
                      refine lv_iconst (v := 0) hx hb dX1_lapsingMornings_136 (by decide) ?_
                      exact kJ137_23 _ _ _ _ h hP hD hS (lv_sub hl [0, 1, 2, 3, 4, 5, 6, 7, 8] rfl)
                    · have h := h.2 c_36
                      refine lv_iconst (v := 1) hx hb dX1_lapsingMornings_132 (by decide) ?_
                      refine lv_goto (tgt := 137) hx hb dX1_lapsingMornings_133 (by decide) ?_
                      exact kJ137_23 _ _ _ _ h hP hD hS (lv_sub hl [0, 1, 2, 3, 4, 5, 6, 7, 8] rfl)
              exact kT115_14 n115_14 _ _ _ _ _ _ h hP hD hS (lv_sub hl [3, 4, 5, 6, 7, 8, 2, 1, 0] rfl)
        exact kT98_9 n98_9 _ _ _ _ _ h hP hD hS (lv_sub hl [2, 3, 4, 5, 1, 0] rfl)
      · have h := h.2 c_7
        refine lv_aload_n hx hb dX1_lapsingMornings_20 rfl (lv_at hl 0 rfl) ?_
        refine va_get (D := D) (ci := 1) (v := .ref a_parish) (C := RX1) (T := TX1) (N := 7) hx hb hts in_X1 hown hK hP 0 rfl rfl 0 (by decide) fl_30 (fun _ h9 => h9) rfl dX1_lapsingMornings_21 ?_
        refine va_get (D := D) (ci := 3) (v := .int s_parish_day) (C := RX4) (T := TX4) (N := 15) hx hb hts in_X4 hown hK hP 1 rfl rfl 14 (by decide) fl_40 (fun _ h9 => h9) rfl dX1_lapsingMornings_24 ?_
        refine lv_iload hx hb dX1_lapsingMornings_27 (lv_at hl 5 rfl) ?_
        refine lv_iadd hx hb dX1_lapsingMornings_29 ?_
        refine lv_topi (fun x6_37 ex6_37 => ?_)
        have h := h x6_37 ex6_37
        refine lv_istore (lv' := [(6, .int x6_37), (0, .ref a_this), (1, .int x1), (2, .int x2), (3, .int x3), (4, .int x4_2), (5, .int x5_3)]) hx hb dX1_lapsingMornings_30 hl (by decide) rfl (fun ls hl => ?_)
        refine lv_aload_n hx hb dX1_lapsingMornings_32 rfl (lv_at hl 1 rfl) ?_
        refine va_get (D := D) (ci := 1) (v := .ref a_smelling) (C := RX1) (T := TX1) (N := 7) hx hb hts in_X1 hown hK hP 0 rfl rfl 5 (by decide) fl_24 (fun _ h9 => h9) rfl dX1_lapsingMornings_33 ?_
        refine lv_iload hx hb dX1_lapsingMornings_36 (lv_at hl 6 rfl) ?_
        refine lv_iload hx hb dX1_lapsingMornings_38 (lv_at hl 5 rfl) ?_
        refine lv_aload_n hx hb dX1_lapsingMornings_40 rfl (lv_at hl 1 rfl) ?_
        refine va_get (D := D) (ci := 1) (v := .ref a_parish) (C := RX1) (T := TX1) (N := 7) hx hb hts in_X1 hown hK hP 0 rfl rfl 0 (by decide) fl_30 (fun _ h9 => h9) rfl dX1_lapsingMornings_41 ?_
        refine lv_aload_n hx hb dX1_lapsingMornings_44 rfl (lv_at hl 1 rfl) ?_
        refine va_get (D := D) (ci := 1) (v := .ref a_parish) (C := RX1) (T := TX1) (N := 7) hx hb hts in_X1 hown hK hP 0 rfl rfl 0 (by decide) fl_30 (fun _ h9 => h9) rfl dX1_lapsingMornings_45 ?_
        refine va_get (D := D) (ci := 3) (v := .ref a_parish_familyCell) (C := RX4) (T := TX4) (N := 15) hx hb hts in_X4 hown hK hP 1 rfl rfl 5 (by decide) fl_52 (fun _ h9 => h9) rfl dX1_lapsingMornings_48 ?_
        refine lv_iload_n hx hb dX1_lapsingMornings_51 rfl (lv_at hl 2 rfl) ?_
        obtain ⟨hi_38, h⟩ := h
        refine va_iald hx hb hK hP 2 1 rfl rfl hi_38 dX1_lapsingMornings_52 ?_
        refine lv_iload hx hb dX1_lapsingMornings_53 (lv_at hl 0 rfl) ?_
        refine lv_aload_n hx hb dX1_lapsingMornings_55 rfl (lv_at hl 1 rfl) ?_
        refine va_get (D := D) (ci := 1) (v := .ref a_parish) (C := RX1) (T := TX1) (N := 7) hx hb hts in_X1 hown hK hP 0 rfl rfl 0 (by decide) fl_30 (fun _ h9 => h9) rfl dX1_lapsingMornings_56 ?_
        refine va_get (D := D) (ci := 3) (v := .int s_parish_hung) (C := RX4) (T := TX4) (N := 15) hx hb hts in_X4 hown hK hP 1 rfl rfl 13 (by decide) fl_55 (fun _ h9 => h9) rfl dX1_lapsingMornings_59 ?_
        refine st_callRI (st_runVR (n := 3) (As := [.int (s_parish_familyCell (Int32.toNatClampNeg x1)), .int x6_37, .int s_parish_hung]) (rest := [.int x4_2, .int x5_3, .ref a_smelling]) (q0 := 0) F (co_Pa_scentAt l D cy a_parish a_parish_flitchCell a_parish_flitchKind a_parish_flitchStrength a_parish_familyKind a_parish_familySide a_parish_familyCell a_parish_familyWill a_parish_past a_parish_sightings a_parish_notes a_parish_marks s_parish_flitchCount s_parish_familyCount s_parish_hung s_parish_day s_parish_flitchCell s_parish_flitchKind s_parish_flitchStrength (s_parish_familyCell (Int32.toNatClampNeg x1)) x6_37 s_parish_hung _ h) gX1_lapsingMornings_X4_scentAt rfl (by decide +kernel) rfl hKK hP [1, 5, 6, 7] rfl rfl rfl rfl hl.1 rfl (Nat.le_of_ble_eq_true rfl) dX1_lapsingMornings_62) (fun r_39 h => ?_)
        refine lv_iload hx hb dX1_lapsingMornings_65 (lv_at hl 0 rfl) ?_
        refine st_callRI (st_runSR (n := 3) (As := [.int x4_2, .int r_39, .int x6_37]) (rest := [.int x5_3, .ref a_smelling]) F (co_Nt_loss l D cy x4_2 r_39 x6_37 _ h) gX1_lapsingMornings_X3_loss rfl (by decide +kernel) rfl hKK hP [] rfl rfl hl.1 rfl (Nat.le_of_ble_eq_true rfl) dX1_lapsingMornings_67) (fun r_40 h => ?_)
        obtain ⟨hi_41, h⟩ := h
        refine va_iast hx hb hK hP hD hS 8 1 rfl rfl hi_41 dX1_lapsingMornings_70 (fun H locs hP hD hS => ?_)
        obtain ⟨s_smelling_42, es_smelling_42⟩ : ∃ f : Nat → Int32, f = upd s_smelling_4 (Int32.toNatClampNeg x5_3) r_40 := ⟨_, rfl⟩
        have hP : va_P D vwCl (Wd_Fs_lapsingMornings cy a_this a_parish a_parish_familyCell a_parish_familyKind a_parish_familyWill a_parish_flitchCell a_parish_flitchKind a_parish_flitchStrength a_smelling a_windy a_taken a_lapses a_wills a_cells a_parish_familySide a_parish_past a_parish_sightings a_parish_notes a_parish_marks s_parish_flitchCount s_parish_familyCount s_parish_hung s_parish_day s_parish_familyCell s_parish_familyKind s_parish_familyWill s_parish_flitchCell s_parish_flitchKind s_parish_flitchStrength s_smelling_42 s_windy_5) H := by rw [es_smelling_42]; exact hP
        have hD : va_D A (Wd_Fs_lapsingMornings cy a_this a_parish a_parish_familyCell a_parish_familyKind a_parish_familyWill a_parish_flitchCell a_parish_flitchKind a_parish_flitchStrength a_smelling a_windy a_taken a_lapses a_wills a_cells a_parish_familySide a_parish_past a_parish_sightings a_parish_notes a_parish_marks s_parish_flitchCount s_parish_familyCount s_parish_hung s_parish_day s_parish_familyCell s_parish_familyKind s_parish_familyWill s_parish_flitchCell s_parish_flitchKind s_parish_flitchStrength s_smelling_42 s_windy_5) := by rw [es_smelling_42]; exact hD
        have h := h s_smelling_42 es_smelling_42
        refine lv_aload_n hx hb dX1_lapsingMornings_71 rfl (lv_at hl 1 rfl) ?_
        refine va_get (D := D) (ci := 1) (v := .ref a_windy) (C := RX1) (T := TX1) (N := 7) hx hb hts in_X1 hown hK hP 0 rfl rfl 6 (by decide) fl_27 (fun _ h9 => h9) rfl dX1_lapsingMornings_72 ?_
        refine lv_iload hx hb dX1_lapsingMornings_75 (lv_at hl 6 rfl) ?_
        refine lv_iload hx hb dX1_lapsingMornings_77 (lv_at hl 5 rfl) ?_
        refine lv_iconst (v := 0) hx hb dX1_lapsingMornings_79 (by decide) ?_
        refine lv_iload hx hb dX1_lapsingMornings_80 (lv_at hl 0 rfl) ?_
        refine st_callRI (st_runSR (n := 3) (As := [.int x4_2, .int 0, .int x6_37]) (rest := [.int x5_3, .ref a_windy]) F (co_Nt_loss l D cy x4_2 0 x6_37 _ h) gX1_lapsingMornings_X3_loss rfl (by decide +kernel) rfl hKK hP [] rfl rfl hl.1 rfl (Nat.le_of_ble_eq_true rfl) dX1_lapsingMornings_82) (fun r_43 h => ?_)
        obtain ⟨hi_44, h⟩ := h
        refine va_iast hx hb hK hP hD hS 9 1 rfl rfl hi_44 dX1_lapsingMornings_85 (fun H locs hP hD hS => ?_)
        obtain ⟨s_windy_45, es_windy_45⟩ : ∃ f : Nat → Int32, f = upd s_windy_5 (Int32.toNatClampNeg x5_3) r_43 := ⟨_, rfl⟩
        have hP : va_P D vwCl (Wd_Fs_lapsingMornings cy a_this a_parish a_parish_familyCell a_parish_familyKind a_parish_familyWill a_parish_flitchCell a_parish_flitchKind a_parish_flitchStrength a_smelling a_windy a_taken a_lapses a_wills a_cells a_parish_familySide a_parish_past a_parish_sightings a_parish_notes a_parish_marks s_parish_flitchCount s_parish_familyCount s_parish_hung s_parish_day s_parish_familyCell s_parish_familyKind s_parish_familyWill s_parish_flitchCell s_parish_flitchKind s_parish_flitchStrength s_smelling_42 s_windy_45) H := by rw [es_windy_45]; exact hP
        have hD : va_D A (Wd_Fs_lapsingMornings cy a_this a_parish a_parish_familyCell a_parish_familyKind a_parish_familyWill a_parish_flitchCell a_parish_flitchKind a_parish_flitchStrength a_smelling a_windy a_taken a_lapses a_wills a_cells a_parish_familySide a_parish_past a_parish_sightings a_parish_notes a_parish_marks s_parish_flitchCount s_parish_familyCount s_parish_hung s_parish_day s_parish_familyCell s_parish_familyKind s_parish_familyWill s_parish_flitchCell s_parish_flitchKind s_parish_flitchStrength s_smelling_42 s_windy_45) := by rw [es_windy_45]; exact hD
        have h := h s_windy_45 es_windy_45
        obtain ⟨x5_46, ex5_46⟩ : ∃ y : Int32, y = x5_3 + 1 := ⟨_, rfl⟩
        have h := h x5_46 ex5_46
        refine lv_iinc (v := x5_46) (lv' := [(5, .int x5_46), (6, .int x6_37), (0, .ref a_this), (1, .int x1), (2, .int x2), (3, .int x3), (4, .int x4_2)]) hx hb dX1_lapsingMornings_86 hl (k := 6) rfl (by rw [ex5_46]; rfl) (by decide) rfl (fun ls hl => ?_)
        refine lv_goto (tgt := 14) hx hb dX1_lapsingMornings_89 (by decide) ?_
        exact ih14_5 _ _ _ _ _ _ h hP hD hS (lv_sub hl [2, 3, 4, 5, 6, 0] rfl)
  exact kT14_5 n14_5 _ _ _ _ _ _ h hP hD hS (lv_sub hl [2, 3, 4, 5, 1, 0] rfl)
abbrev Wd_Pa_wearDown (cy : ClassId × ClassId × ClassId × ClassId) (a_this a_familyKind a_flitchCell a_flitchKind a_flitchStrength a_r1 a_r2 a_familySide a_familyCell a_familyWill a_past a_sightings a_notes a_marks : Nat) (n_r1 n_r2 : Nat) (s_flitchCount : Int32) (s_familyCount : Int32) (s_hung : Int32) (s_day : Int32) (s_familyKind : Nat → Int32) (s_flitchCell : Nat → Int32) (s_flitchKind : Nat → Int32) (s_flitchStrength : Nat → Int32) (s_r1 : Nat → Int32) (s_r2 : Nat → Int32) : va_W := [(a_this, .inr (3, [.ref a_flitchKind, .ref a_flitchCell, .ref a_flitchStrength, .ref a_familyKind, .ref a_familySide, .ref a_familyCell, .ref a_familyWill, .ref a_past, .ref a_sightings, .ref a_notes, .ref a_marks, .int s_flitchCount, .int s_familyCount, .int s_hung, .int s_day])), (a_familyKind, .inl (cy.2.1, 7, .inl s_familyKind)), (a_flitchCell, .inl (cy.2.1, 3, .inl s_flitchCell)), (a_flitchKind, .inl (cy.2.1, 3, .inl s_flitchKind)), (a_flitchStrength, .inl (cy.2.1, 3, .inl s_flitchStrength)), (a_r1, .inl (cy.2.1, n_r1, .inl s_r1)), (a_r2, .inl (cy.2.1, n_r2, .inl s_r2))]
abbrev rm_Pa_wearDown : Room := { frames := 2, cells := 0, slots := 0, locals := 75 }
def wp_Pa_wearDown (x3 : Int32) (n_r1 n_r2 : Nat) (s_flitchCount : Int32) (s_familyCount : Int32) (s_hung : Int32) (s_familyKind : Nat → Int32) (s_flitchCell : Nat → Int32) (s_flitchKind : Nat → Int32) (s_flitchStrength : Nat → Int32) (s_r1 : Nat → Int32) (s_r2 : Nat → Int32) (Q : (Nat → Int32) → Prop) : Prop := ∃ n : Nat, lpw2 (fun (B3 : Int32 → (Nat → Int32) → Prop) (x4_1 : Int32) (s_r2_2 : Nat → Int32) => ((s_familyCount ≤ x4_1 → Q s_r2_2) ∧ (¬ s_familyCount ≤ x4_1 → vp_in x4_1 n_r2 ∧ jn1 (fun (J61 : (Nat → Int32) → Prop) => (((s_r2_2 (Int32.toNatClampNeg x4_1)) < 1 → J61 s_r2_2) ∧ (¬ (s_r2_2 (Int32.toNatClampNeg x4_1)) < 1 → vp_in x4_1 7 ∧ vp_in x4_1 n_r1 ∧ wp_Pa_scentAt (s_r1 (Int32.toNatClampNeg x4_1)) x3 s_hung s_flitchCount s_flitchCell s_flitchKind s_flitchStrength (fun (r_12 : Int32) => wp_Nt_loss (s_familyKind (Int32.toNatClampNeg x4_1)) r_12 x3 (fun (r_13 : Int32) => vp_in x4_1 n_r2 ∧ vp_in x4_1 n_r2 ∧ ∀ s_r2_16 : Nat → Int32, s_r2_16 = upd s_r2_2 (Int32.toNatClampNeg x4_1) (imax 0 ((s_r2_2 (Int32.toNatClampNeg x4_1)) - r_13)) → J61 s_r2_16))))) (fun (s_r2_6 : Nat → Int32) => ∀ x4_8 : Int32, x4_8 = x4_1 + 1 → B3 x4_8 s_r2_6)))) n 0 s_r2
set_option maxHeartbeats 4000000 in
set_option maxRecDepth 100000 in
theorem co_Pa_wearDown (l : Launch) (D : va_G) (cy : ClassId × ClassId × ClassId × ClassId) (a_this a_familyKind a_flitchCell a_flitchKind a_flitchStrength a_r1 a_r2 a_familySide a_familyCell a_familyWill a_past a_sightings a_notes a_marks : Nat) (n_r1 n_r2 : Nat) (s_flitchCount : Int32) (s_familyCount : Int32) (s_hung : Int32) (s_day : Int32) (s_familyKind : Nat → Int32) (s_flitchCell : Nat → Int32) (s_flitchKind : Nat → Int32) (s_flitchStrength : Nat → Int32) (s_r1 : Nat → Int32) (s_r2 : Nat → Int32) (x3 : Int32) (Q : (Nat → Int32) → Prop) (h : wp_Pa_wearDown x3 n_r1 n_r2 s_flitchCount s_familyCount s_hung s_familyKind s_flitchCell s_flitchKind s_flitchStrength s_r1 s_r2 Q) : CoV l yX4_wearDown wsX4_wearDown rm_Pa_wearDown D cy [.ref a_this, .ref a_r1, .ref a_r2, .int x3] (Wd_Pa_wearDown cy a_this a_familyKind a_flitchCell a_flitchKind a_flitchStrength a_r1 a_r2 a_familySide a_familyCell a_familyWill a_past a_sightings a_notes a_marks n_r1 n_r2 s_flitchCount s_familyCount s_hung s_day s_familyKind s_flitchCell s_flitchKind s_flitchStrength s_r1 s_r2) (fun u : (Nat → Int32) => (Wd_Pa_wearDown cy a_this a_familyKind a_flitchCell a_flitchKind a_flitchStrength a_r1 a_r2 a_familySide a_familyCell a_familyWill a_past a_sightings a_notes a_marks n_r1 n_r2 s_flitchCount s_familyCount s_hung s_day s_familyKind s_flitchCell s_flitchKind s_flitchStrength s_r1 u)) (fun (u : (Nat → Int32)) => Q u) := by
  refine st_metV (cc := cX4_wearDown) (maxL := 6) RX4 (by decide) rfl rfl (Nat.le_of_ble_eq_true rfl) ?_
  intro p e s m args below meth c A QQ ls F hA hKK hP hD hS hl hret
  have hK := hKK.1
  have hnest := hKK.2.1
  have hx := F.1
  have hb := F.2.1
  have hown := F.2.2.2.1
  have hts := F.2.2.2.2
  have in_X4 : ∀ w ∈ u_ws RX4 TX4 15, w ∈ wsX4_wearDown := (fun _ h => List.mem_cons_of_mem _ (List.mem_append_right _ h))
  have fl_21 := (hts (.fieldLink RX4 21 "RasherCase$Parish" "familyKind" "[I") (List.mem_of_getElem? (i := 2) rfl))
  have fl_55 := (hts (.fieldLink RX4 55 "RasherCase$Parish" "familyCount" "I") (List.mem_of_getElem? (i := 1) rfl))
  have fl_58 := (hts (.fieldLink RX4 58 "RasherCase$Parish" "hung" "I") (List.mem_of_getElem? (i := 3) rfl))
  have hl : lv_has ls 6 [(0, .ref a_this), (1, .ref a_r1), (2, .ref a_r2), (3, .int x3)] := hl
  unfold wp_Pa_wearDown at h
  refine lv_iconst (v := 0) hx hb dX4_wearDown_0 (by decide) ?_
  refine lv_istore (lv' := [(4, .int 0), (0, .ref a_this), (1, .ref a_r1), (2, .ref a_r2), (3, .int x3)]) hx hb dX4_wearDown_1 hl (by decide) rfl (fun ls hl => ?_)
  obtain ⟨T3_2, hz3_2, hs3_2, n3_2, h⟩ := lpw2_use h
  have kT3_2 : ∀ (n : Nat) (x4_1 : Int32) (s_r2_2 : Nat → Int32) (H : Heap) (locs : List Loc) (ls : Array Slot), T3_2 n x4_1 s_r2_2 → va_P D vwCl (Wd_Pa_wearDown cy a_this a_familyKind a_flitchCell a_flitchKind a_flitchStrength a_r1 a_r2 a_familySide a_familyCell a_familyWill a_past a_sightings a_notes a_marks n_r1 n_r2 s_flitchCount s_familyCount s_hung s_day s_familyKind s_flitchCell s_flitchKind s_flitchStrength s_r1 s_r2_2) H → va_D A (Wd_Pa_wearDown cy a_this a_familyKind a_flitchCell a_flitchKind a_flitchStrength a_r1 a_r2 a_familySide a_familyCell a_familyWill a_past a_sightings a_notes a_marks n_r1 n_r2 s_flitchCount s_familyCount s_hung s_day s_familyKind s_flitchCell s_flitchKind s_flitchStrength s_r1 s_r2_2) → va_S A s.heap H locs → lv_has ls 6 [(0, .ref a_this), (1, .ref a_r1), (2, .ref a_r2), (3, .int x3), (4, .int x4_1)] → W p l e rm_Pa_wearDown s m args below meth c H locs 0 0 QQ (F0 m 3 ls []) := by
    intro n
    induction n with
    | zero => intro x4_1 s_r2_2 H locs ls h; exact absurd h (hz3_2 _ _)
    | succ n ih3_2 =>
      intro x4_1 s_r2_2 H locs ls h hP hD hS hl
      have h := hs3_2 _ _ _ h
      refine lv_iload hx hb dX4_wearDown_3 (lv_at hl 4 rfl) ?_
      refine lv_aload_n hx hb dX4_wearDown_5 rfl (lv_at hl 0 rfl) ?_
      refine va_get (D := D) (ci := 3) (v := .int s_familyCount) (C := RX4) (T := TX4) (N := 15) hx hb hts in_X4 hown hK hP 0 rfl rfl 12 (by decide) fl_55 (fun _ h9 => h9) rfl dX4_wearDown_6 ?_
      refine lv_icmp_ge (tgt := 67) hx hb dX4_wearDown_9 (by decide) (fun c_4 => ?_) (fun c_4 => ?_)
      · have h := h.1 c_4
        exact hret (s_r2_2) _ _ _ _ h hP hD hS dX4_wearDown_67
      · have h := h.2 c_4
        refine lv_aload_n hx hb dX4_wearDown_12 rfl (lv_at hl 2 rfl) ?_
        refine lv_iload hx hb dX4_wearDown_13 (lv_at hl 4 rfl) ?_
        obtain ⟨hi_5, h⟩ := h
        refine va_iald hx hb hK hP 6 1 rfl rfl hi_5 dX4_wearDown_15 ?_
        refine lv_iconst (v := 1) hx hb dX4_wearDown_16 (by decide) ?_
        obtain ⟨J61, hJ61, h⟩ := jn1_ex h
        have kJ61_6 : ∀ (s_r2_6 : Nat → Int32) (H : Heap) (locs : List Loc) (ls : Array Slot), J61 s_r2_6 → va_P D vwCl (Wd_Pa_wearDown cy a_this a_familyKind a_flitchCell a_flitchKind a_flitchStrength a_r1 a_r2 a_familySide a_familyCell a_familyWill a_past a_sightings a_notes a_marks n_r1 n_r2 s_flitchCount s_familyCount s_hung s_day s_familyKind s_flitchCell s_flitchKind s_flitchStrength s_r1 s_r2_6) H → va_D A (Wd_Pa_wearDown cy a_this a_familyKind a_flitchCell a_flitchKind a_flitchStrength a_r1 a_r2 a_familySide a_familyCell a_familyWill a_past a_sightings a_notes a_marks n_r1 n_r2 s_flitchCount s_familyCount s_hung s_day s_familyKind s_flitchCell s_flitchKind s_flitchStrength s_r1 s_r2_6) → va_S A s.heap H locs → lv_has ls 6 [(0, .ref a_this), (1, .ref a_r1), (2, .ref a_r2), (3, .int x3), (4, .int x4_1)] → W p l e rm_Pa_wearDown s m args below meth c H locs 0 0 QQ (F0 m 61 ls []) := by
          intro s_r2_6 H locs ls h hP hD hS hl
          have h := hJ61 _ h
          obtain ⟨x4_8, ex4_8⟩ : ∃ y : Int32, y = x4_1 + 1 := ⟨_, rfl⟩
          have h := h x4_8 ex4_8
          refine lv_iinc (v := x4_8) (lv' := [(4, .int x4_8), (0, .ref a_this), (1, .ref a_r1), (2, .ref a_r2), (3, .int x3)]) hx hb dX4_wearDown_61 hl (k := 4) rfl (by rw [ex4_8]; rfl) (by decide) rfl (fun ls hl => ?_)
          refine lv_goto (tgt := 3) hx hb dX4_wearDown_64 (by decide) ?_
          exact ih3_2 _ _ _ _ _ h hP hD hS (lv_sub hl [1, 2, 3, 4, 0] rfl)
        refine lv_icmp_lt (tgt := 61) hx hb dX4_wearDown_17 (by decide) (fun c_9 => ?_) (fun c_9 => ?_)
        · have h := h.1 c_9
          exact kJ61_6 _ _ _ _ h hP hD hS (lv_sub hl [0, 1, 2, 3, 4] rfl)
        · have h := h.2 c_9
          refine lv_aload_n hx hb dX4_wearDown_20 rfl (lv_at hl 0 rfl) ?_
          refine va_get (D := D) (ci := 3) (v := .ref a_familyKind) (C := RX4) (T := TX4) (N := 15) hx hb hts in_X4 hown hK hP 0 rfl rfl 3 (by decide) fl_21 (fun _ h9 => h9) rfl dX4_wearDown_21 ?_
          refine lv_iload hx hb dX4_wearDown_24 (lv_at hl 4 rfl) ?_
          obtain ⟨hi_10, h⟩ := h
          refine va_iald hx hb hK hP 1 1 rfl rfl hi_10 dX4_wearDown_26 ?_
          refine lv_aload_n hx hb dX4_wearDown_27 rfl (lv_at hl 0 rfl) ?_
          refine lv_aload_n hx hb dX4_wearDown_28 rfl (lv_at hl 1 rfl) ?_
          refine lv_iload hx hb dX4_wearDown_29 (lv_at hl 4 rfl) ?_
          obtain ⟨hi_11, h⟩ := h
          refine va_iald hx hb hK hP 5 1 rfl rfl hi_11 dX4_wearDown_31 ?_
          refine lv_iload_n hx hb dX4_wearDown_32 rfl (lv_at hl 3 rfl) ?_
          refine lv_aload_n hx hb dX4_wearDown_33 rfl (lv_at hl 0 rfl) ?_
          refine va_get (D := D) (ci := 3) (v := .int s_hung) (C := RX4) (T := TX4) (N := 15) hx hb hts in_X4 hown hK hP 0 rfl rfl 13 (by decide) fl_58 (fun _ h9 => h9) rfl dX4_wearDown_34 ?_
          refine st_callRI (st_runVR (n := 3) (As := [.int (s_r1 (Int32.toNatClampNeg x4_1)), .int x3, .int s_hung]) (rest := [.int (s_familyKind (Int32.toNatClampNeg x4_1))]) (q0 := 0) F (co_Pa_scentAt l D cy a_this a_flitchCell a_flitchKind a_flitchStrength a_familyKind a_familySide a_familyCell a_familyWill a_past a_sightings a_notes a_marks s_flitchCount s_familyCount s_hung s_day s_flitchCell s_flitchKind s_flitchStrength (s_r1 (Int32.toNatClampNeg x4_1)) x3 s_hung _ h) gX4_wearDown_X4_scentAt rfl (by decide +kernel) rfl hKK hP [0, 2, 3, 4] rfl rfl rfl rfl hl.1 rfl (Nat.le_of_ble_eq_true rfl) dX4_wearDown_37) (fun r_12 h => ?_)
          refine lv_iload_n hx hb dX4_wearDown_40 rfl (lv_at hl 3 rfl) ?_
          refine st_callRI (st_runSR (n := 3) (As := [.int (s_familyKind (Int32.toNatClampNeg x4_1)), .int r_12, .int x3]) (rest := []) F (co_Nt_loss l D cy (s_familyKind (Int32.toNatClampNeg x4_1)) r_12 x3 _ h) gX4_wearDown_X3_loss rfl (by decide +kernel) rfl hKK hP [] rfl rfl hl.1 rfl (Nat.le_of_ble_eq_true rfl) dX4_wearDown_41) (fun r_13 h => ?_)
          refine lv_istore (lv' := [(5, .int r_13), (0, .ref a_this), (1, .ref a_r1), (2, .ref a_r2), (3, .int x3), (4, .int x4_1)]) hx hb dX4_wearDown_44 hl (by decide) rfl (fun ls hl => ?_)
          refine lv_aload_n hx hb dX4_wearDown_46 rfl (lv_at hl 3 rfl) ?_
          refine lv_iload hx hb dX4_wearDown_47 (lv_at hl 5 rfl) ?_
          refine lv_iconst (v := 0) hx hb dX4_wearDown_49 (by decide) ?_
          refine lv_aload_n hx hb dX4_wearDown_50 rfl (lv_at hl 3 rfl) ?_
          refine lv_iload hx hb dX4_wearDown_51 (lv_at hl 5 rfl) ?_
          obtain ⟨hi_14, h⟩ := h
          refine va_iald hx hb hK hP 6 1 rfl rfl hi_14 dX4_wearDown_53 ?_
          refine lv_iload hx hb dX4_wearDown_54 (lv_at hl 0 rfl) ?_
          refine lv_isub hx hb dX4_wearDown_56 ?_
          refine va_mmax hx hb (F.2.2.1.trans hl.1.symm) hown (hts (.methodLink RX4 108 Lib.Math.max.name) (List.mem_of_getElem? (i := 4) rfl)) (hts (.static Lib.Math.max.name) (List.mem_of_getElem? (i := 5) rfl)) (hts (.initialized "java/lang/Math") (List.mem_of_getElem? (i := 6) rfl)) (hts (.code Lib.Math.max.name Lib.Math.max.code 2 (some .int)) (List.mem_of_getElem? (i := 7) rfl)) (Nat.le_of_ble_eq_true rfl) (Nat.le_of_ble_eq_true rfl) (Nat.zero_le _) (Nat.zero_le _) dX4_wearDown_57 ?_
          obtain ⟨hi_15, h⟩ := h
          refine va_iast hx hb hK hP hD hS 6 1 rfl rfl hi_15 dX4_wearDown_60 (fun H locs hP hD hS => ?_)
          obtain ⟨s_r2_16, es_r2_16⟩ : ∃ f : Nat → Int32, f = upd s_r2_2 (Int32.toNatClampNeg x4_1) (imax 0 ((s_r2_2 (Int32.toNatClampNeg x4_1)) - r_13)) := ⟨_, rfl⟩
          have hP : va_P D vwCl (Wd_Pa_wearDown cy a_this a_familyKind a_flitchCell a_flitchKind a_flitchStrength a_r1 a_r2 a_familySide a_familyCell a_familyWill a_past a_sightings a_notes a_marks n_r1 n_r2 s_flitchCount s_familyCount s_hung s_day s_familyKind s_flitchCell s_flitchKind s_flitchStrength s_r1 s_r2_16) H := by rw [es_r2_16]; exact hP
          have hD : va_D A (Wd_Pa_wearDown cy a_this a_familyKind a_flitchCell a_flitchKind a_flitchStrength a_r1 a_r2 a_familySide a_familyCell a_familyWill a_past a_sightings a_notes a_marks n_r1 n_r2 s_flitchCount s_familyCount s_hung s_day s_familyKind s_flitchCell s_flitchKind s_flitchStrength s_r1 s_r2_16) := by rw [es_r2_16]; exact hD
          have h := h s_r2_16 es_r2_16
          exact kJ61_6 _ _ _ _ h hP hD hS (lv_sub hl [1, 2, 3, 4, 5] rfl)
  exact kT3_2 n3_2 _ _ _ _ _ h hP hD hS (lv_sub hl [1, 2, 3, 4, 0] rfl)
abbrev Wd_Pa_lapsedOf (cy : ClassId × ClassId × ClassId × ClassId) (a_this a_r1 a_flitchKind a_flitchCell a_flitchStrength a_familyKind a_familySide a_familyCell a_familyWill a_past a_sightings a_notes a_marks : Nat) (n_r1 : Nat) (s_flitchCount : Int32) (s_familyCount : Int32) (s_hung : Int32) (s_day : Int32) (s_r1 : Nat → Int32) : va_W := [(a_this, .inr (3, [.ref a_flitchKind, .ref a_flitchCell, .ref a_flitchStrength, .ref a_familyKind, .ref a_familySide, .ref a_familyCell, .ref a_familyWill, .ref a_past, .ref a_sightings, .ref a_notes, .ref a_marks, .int s_flitchCount, .int s_familyCount, .int s_hung, .int s_day])), (a_r1, .inl (cy.2.1, n_r1, .inl s_r1))]
abbrev rm_Pa_lapsedOf : Room := { frames := 0, cells := 0, slots := 0, locals := 0 }
def wp_Pa_lapsedOf (n_r1 : Nat) (s_familyCount : Int32) (s_r1 : Nat → Int32) (Q : Int32 → Prop) : Prop := ∃ n : Nat, lpw2 (fun (B4 : Int32 → Int32 → Prop) (x2_1 : Int32) (x3_2 : Int32) => ((s_familyCount ≤ x3_2 → Q x2_1) ∧ (¬ s_familyCount ≤ x3_2 → vp_in x3_2 n_r1 ∧ jn1 (fun (J22 : Int32 → Prop) => ((1 ≤ (s_r1 (Int32.toNatClampNeg x3_2)) → J22 x2_1) ∧ (¬ 1 ≤ (s_r1 (Int32.toNatClampNeg x3_2)) → ∀ x2_10 : Int32, x2_10 = x2_1 + 1 → J22 x2_10))) (fun (x2_6 : Int32) => ∀ x3_8 : Int32, x3_8 = x3_2 + 1 → B4 x2_6 x3_8)))) n 0 0
set_option maxHeartbeats 4000000 in
set_option maxRecDepth 100000 in
theorem co_Pa_lapsedOf (l : Launch) (D : va_G) (cy : ClassId × ClassId × ClassId × ClassId) (a_this a_r1 a_flitchKind a_flitchCell a_flitchStrength a_familyKind a_familySide a_familyCell a_familyWill a_past a_sightings a_notes a_marks : Nat) (n_r1 : Nat) (s_flitchCount : Int32) (s_familyCount : Int32) (s_hung : Int32) (s_day : Int32) (s_r1 : Nat → Int32) (Q : Int32 → Prop) (h : wp_Pa_lapsedOf n_r1 s_familyCount s_r1 Q) : RoI l yX4_lapsedOf wsX4_lapsedOf rm_Pa_lapsedOf D cy [.ref a_this, .ref a_r1] (Wd_Pa_lapsedOf cy a_this a_r1 a_flitchKind a_flitchCell a_flitchStrength a_familyKind a_familySide a_familyCell a_familyWill a_past a_sightings a_notes a_marks n_r1 s_flitchCount s_familyCount s_hung s_day s_r1) Q := by
  refine st_metRI (cc := cX4_lapsedOf) (maxL := 4) RX4 (by decide) rfl rfl (Nat.le_of_ble_eq_true rfl) ?_
  intro p e s m args below meth c QQ ls F hKK hP hl hret
  have hK := hKK.1
  have hnest := hKK.2.1
  have hx := F.1
  have hb := F.2.1
  have hown := F.2.2.2.1
  have hts := F.2.2.2.2
  have in_X4 : ∀ w ∈ u_ws RX4 TX4 15, w ∈ wsX4_lapsedOf := (fun _ h => List.mem_cons_of_mem _ (List.mem_append_right _ h))
  have fl_55 := (hts (.fieldLink RX4 55 "RasherCase$Parish" "familyCount" "I") (List.mem_of_getElem? (i := 1) rfl))
  have hl : lv_has ls 4 [(0, .ref a_this), (1, .ref a_r1)] := hl
  unfold wp_Pa_lapsedOf at h
  refine lv_iconst (v := 0) hx hb dX4_lapsedOf_0 (by decide) ?_
  refine lv_istore_n (lv' := [(2, .int 0), (0, .ref a_this), (1, .ref a_r1)]) hx hb dX4_lapsedOf_1 rfl hl (by decide) rfl (fun ls hl => ?_)
  refine lv_iconst (v := 0) hx hb dX4_lapsedOf_2 (by decide) ?_
  refine lv_istore_n (lv' := [(3, .int 0), (2, .int 0), (0, .ref a_this), (1, .ref a_r1)]) hx hb dX4_lapsedOf_3 rfl hl (by decide) rfl (fun ls hl => ?_)
  obtain ⟨T4_2, hz4_2, hs4_2, n4_2, h⟩ := lpw2_use h
  have kT4_2 : ∀ (n : Nat) (x2_1 : Int32) (x3_2 : Int32) (ls : Array Slot), T4_2 n x2_1 x3_2 → lv_has ls 4 [(0, .ref a_this), (1, .ref a_r1), (2, .int x2_1), (3, .int x3_2)] → W p l e rm_Pa_lapsedOf s m args below meth c s.heap [] 0 0 QQ (F0 m 4 ls []) := by
    intro n
    induction n with
    | zero => intro x2_1 x3_2 ls h; exact absurd h (hz4_2 _ _)
    | succ n ih4_2 =>
      intro x2_1 x3_2 ls h hl
      have h := hs4_2 _ _ _ h
      refine lv_iload_n hx hb dX4_lapsedOf_4 rfl (lv_at hl 3 rfl) ?_
      refine lv_aload_n hx hb dX4_lapsedOf_5 rfl (lv_at hl 0 rfl) ?_
      refine va_get (D := D) (ci := 3) (v := .int s_familyCount) (C := RX4) (T := TX4) (N := 15) hx hb hts in_X4 hown hK hP 0 rfl rfl 12 (by decide) fl_55 (fun _ h9 => h9) rfl dX4_lapsedOf_6 ?_
      refine lv_icmp_ge (tgt := 28) hx hb dX4_lapsedOf_9 (by decide) (fun c_4 => ?_) (fun c_4 => ?_)
      · have h := h.1 c_4
        refine lv_iload_n hx hb dX4_lapsedOf_28 rfl (lv_at hl 2 rfl) ?_
        exact hret _ _ _ h dX4_lapsedOf_29
      · have h := h.2 c_4
        refine lv_aload_n hx hb dX4_lapsedOf_12 rfl (lv_at hl 1 rfl) ?_
        refine lv_iload_n hx hb dX4_lapsedOf_13 rfl (lv_at hl 3 rfl) ?_
        obtain ⟨hi_5, h⟩ := h
        refine va_iald hx hb hK hP 1 1 rfl rfl hi_5 dX4_lapsedOf_14 ?_
        refine lv_iconst (v := 1) hx hb dX4_lapsedOf_15 (by decide) ?_
        obtain ⟨J22, hJ22, h⟩ := jn1_ex h
        have kJ22_6 : ∀ (x2_6 : Int32) (ls : Array Slot), J22 x2_6 → lv_has ls 4 [(0, .ref a_this), (1, .ref a_r1), (2, .int x2_6), (3, .int x3_2)] → W p l e rm_Pa_lapsedOf s m args below meth c s.heap [] 0 0 QQ (F0 m 22 ls []) := by
          intro x2_6 ls h hl
          have h := hJ22 _ h
          obtain ⟨x3_8, ex3_8⟩ : ∃ y : Int32, y = x3_2 + 1 := ⟨_, rfl⟩
          have h := h x3_8 ex3_8
          refine lv_iinc (v := x3_8) (lv' := [(3, .int x3_8), (0, .ref a_this), (1, .ref a_r1), (2, .int x2_6)]) hx hb dX4_lapsedOf_22 hl (k := 3) rfl (by rw [ex3_8]; rfl) (by decide) rfl (fun ls hl => ?_)
          refine lv_goto (tgt := 4) hx hb dX4_lapsedOf_25 (by decide) ?_
          exact ih4_2 _ _ _ h (lv_sub hl [1, 2, 3, 0] rfl)
        refine lv_icmp_ge (tgt := 22) hx hb dX4_lapsedOf_16 (by decide) (fun c_9 => ?_) (fun c_9 => ?_)
        · have h := h.1 c_9
          exact kJ22_6 _ _ h (lv_sub hl [0, 1, 2, 3] rfl)
        · have h := h.2 c_9
          obtain ⟨x2_10, ex2_10⟩ : ∃ y : Int32, y = x2_1 + 1 := ⟨_, rfl⟩
          have h := h x2_10 ex2_10
          refine lv_iinc (v := x2_10) (lv' := [(2, .int x2_10), (0, .ref a_this), (1, .ref a_r1), (3, .int x3_2)]) hx hb dX4_lapsedOf_19 hl (k := 2) rfl (by rw [ex2_10]; rfl) (by decide) rfl (fun ls hl => ?_)
          exact kJ22_6 _ _ h (lv_sub hl [1, 2, 0, 3] rfl)
  exact kT4_2 n4_2 _ _ _ h (lv_sub hl [2, 3, 1, 0] rfl)
abbrev Wd_Fs_lapsedByYears (cy : ClassId × ClassId × ClassId × ClassId) (a_this a_cells a_parish a_parish_familyCell a_parish_familyKind a_parish_familyWill a_parish_flitchCell a_parish_flitchKind a_parish_flitchStrength a_wills a_taken a_lapses a_smelling a_windy a_parish_familySide a_parish_past a_parish_sightings a_parish_notes a_parish_marks : Nat) (s_cells : Nat → Int32) (s_parish_flitchCount : Int32) (s_parish_familyCount : Int32) (s_parish_hung : Int32) (s_parish_day : Int32) (s_parish_familyCell : Nat → Int32) (s_parish_familyKind : Nat → Int32) (s_parish_familyWill : Nat → Int32) (s_parish_flitchCell : Nat → Int32) (s_parish_flitchKind : Nat → Int32) (s_parish_flitchStrength : Nat → Int32) (s_wills : Nat → Int32) : va_W := [(a_this, .inr (1, [.ref a_parish, .ref a_taken, .ref a_lapses, .ref a_wills, .ref a_cells, .ref a_smelling, .ref a_windy])), (a_cells, .inl (cy.2.1, 7, .inl s_cells)), (a_parish, .inr (3, [.ref a_parish_flitchKind, .ref a_parish_flitchCell, .ref a_parish_flitchStrength, .ref a_parish_familyKind, .ref a_parish_familySide, .ref a_parish_familyCell, .ref a_parish_familyWill, .ref a_parish_past, .ref a_parish_sightings, .ref a_parish_notes, .ref a_parish_marks, .int s_parish_flitchCount, .int s_parish_familyCount, .int s_parish_hung, .int s_parish_day])), (a_parish_familyCell, .inl (cy.2.1, 7, .inl s_parish_familyCell)), (a_parish_familyKind, .inl (cy.2.1, 7, .inl s_parish_familyKind)), (a_parish_familyWill, .inl (cy.2.1, 7, .inl s_parish_familyWill)), (a_parish_flitchCell, .inl (cy.2.1, 3, .inl s_parish_flitchCell)), (a_parish_flitchKind, .inl (cy.2.1, 3, .inl s_parish_flitchKind)), (a_parish_flitchStrength, .inl (cy.2.1, 3, .inl s_parish_flitchStrength)), (a_wills, .inl (cy.2.1, 7, .inl s_wills))]
abbrev rm_Fs_lapsedByYears : Room := { frames := 3, cells := 0, slots := 0, locals := 100 }
def wp_Fs_lapsedByYears (x1 : Int32) (x2 : Int32) (s_cells : Nat → Int32) (s_parish_flitchCount : Int32) (s_parish_familyCount : Int32) (s_parish_hung : Int32) (s_parish_day : Int32) (s_parish_familyCell : Nat → Int32) (s_parish_familyKind : Nat → Int32) (s_parish_familyWill : Nat → Int32) (s_parish_flitchCell : Nat → Int32) (s_parish_flitchKind : Nat → Int32) (s_parish_flitchStrength : Nat → Int32) (s_wills : Nat → Int32) (Q : Int32 → (Nat → Int32) → (Nat → Int32) → Prop) : Prop := ∀ s_wills_2 : Nat → Int32, s_wills_2 = va_cpy s_parish_familyWill s_wills (Int32.toNatClampNeg 0) (Int32.toNatClampNeg 0) (Int32.toNatClampNeg 7) → ∀ s_cells_4 : Nat → Int32, s_cells_4 = va_cpy s_parish_familyCell s_cells (Int32.toNatClampNeg 0) (Int32.toNatClampNeg 0) (Int32.toNatClampNeg 7) → ∀ x3_5 : Int64, x3_5 = (Int32.toInt64 x1) → ∃ n : Nat, lpw4 (fun (B42 : Int64 → Int32 → (Nat → Int32) → (Nat → Int32) → Prop) (x3_6 : Int64) (x5_7 : Int32) (s_cells_8 : Nat → Int32) (s_wills_9 : Nat → Int32) => ((x2 ≤ x5_7 → wp_Pa_lapsedOf 7 s_parish_familyCount s_wills_9 (fun (r_12 : Int32) => Q r_12 s_cells_8 s_wills_9)) ∧ (¬ x2 ≤ x5_7 → ∀ x3_13 : Int64, x3_13 = (lrem ((x3_6 * 1103515245) + 12345) 2147483648) → ∀ x6_14 : Int32, x6_14 = (Int64.toInt32 (lrem (x3_13 / 65536) 7)) → jn1 (fun (J103 : (Nat → Int32) → Prop) => ((s_parish_familyCount ≤ x6_14 → J103 s_cells_8) ∧ (¬ s_parish_familyCount ≤ x6_14 → vp_in x6_14 7 ∧ ∀ s_cells_22 : Nat → Int32, s_cells_22 = upd s_cells_8 (Int32.toNatClampNeg x6_14) (Int64.toInt32 (lrem (x3_13 / 1048576) 25)) → J103 s_cells_22))) (fun (s_cells_15 : Nat → Int32) => wp_Pa_wearDown (s_parish_day + x5_7) 7 7 s_parish_flitchCount s_parish_familyCount s_parish_hung s_parish_familyKind s_parish_flitchCell s_parish_flitchKind s_parish_flitchStrength s_cells_15 s_wills_9 (fun (s_wills_18 : Nat → Int32) => ∀ x5_19 : Int32, x5_19 = x5_7 + 1 → B42 x3_13 x5_19 s_cells_15 s_wills_18))))) n x3_5 0 s_cells_4 s_wills_2
set_option maxHeartbeats 4000000 in
set_option maxRecDepth 100000 in
theorem co_Fs_lapsedByYears (l : Launch) (D : va_G) (cy : ClassId × ClassId × ClassId × ClassId) (a_this a_cells a_parish a_parish_familyCell a_parish_familyKind a_parish_familyWill a_parish_flitchCell a_parish_flitchKind a_parish_flitchStrength a_wills a_taken a_lapses a_smelling a_windy a_parish_familySide a_parish_past a_parish_sightings a_parish_notes a_parish_marks : Nat) (s_cells : Nat → Int32) (s_parish_flitchCount : Int32) (s_parish_familyCount : Int32) (s_parish_hung : Int32) (s_parish_day : Int32) (s_parish_familyCell : Nat → Int32) (s_parish_familyKind : Nat → Int32) (s_parish_familyWill : Nat → Int32) (s_parish_flitchCell : Nat → Int32) (s_parish_flitchKind : Nat → Int32) (s_parish_flitchStrength : Nat → Int32) (s_wills : Nat → Int32) (x1 : Int32) (x2 : Int32) (Q : Int32 → (Nat → Int32) → (Nat → Int32) → Prop) (h : wp_Fs_lapsedByYears x1 x2 s_cells s_parish_flitchCount s_parish_familyCount s_parish_hung s_parish_day s_parish_familyCell s_parish_familyKind s_parish_familyWill s_parish_flitchCell s_parish_flitchKind s_parish_flitchStrength s_wills Q) : CoI l yX1_lapsedByYears wsX1_lapsedByYears rm_Fs_lapsedByYears D cy [.ref a_this, .int x1, .int x2] (Wd_Fs_lapsedByYears cy a_this a_cells a_parish a_parish_familyCell a_parish_familyKind a_parish_familyWill a_parish_flitchCell a_parish_flitchKind a_parish_flitchStrength a_wills a_taken a_lapses a_smelling a_windy a_parish_familySide a_parish_past a_parish_sightings a_parish_notes a_parish_marks s_cells s_parish_flitchCount s_parish_familyCount s_parish_hung s_parish_day s_parish_familyCell s_parish_familyKind s_parish_familyWill s_parish_flitchCell s_parish_flitchKind s_parish_flitchStrength s_wills) (fun u : (Nat → Int32) × (Nat → Int32) => (Wd_Fs_lapsedByYears cy a_this a_cells a_parish a_parish_familyCell a_parish_familyKind a_parish_familyWill a_parish_flitchCell a_parish_flitchKind a_parish_flitchStrength a_wills a_taken a_lapses a_smelling a_windy a_parish_familySide a_parish_past a_parish_sightings a_parish_notes a_parish_marks u.1 s_parish_flitchCount s_parish_familyCount s_parish_hung s_parish_day s_parish_familyCell s_parish_familyKind s_parish_familyWill s_parish_flitchCell s_parish_flitchKind s_parish_flitchStrength u.2)) (fun (r : Int32) (u : (Nat → Int32) × (Nat → Int32)) => Q r u.1 u.2) := by
  refine st_metI (cc := cX1_lapsedByYears) (maxL := 7) RX1 (by decide) rfl rfl (Nat.le_of_ble_eq_true rfl) ?_
  intro p e s m args below meth c A QQ ls F hA hKK hP hD hS hl hret
  have hK := hKK.1
  have hnest := hKK.2.1
  have hx := F.1
  have hb := F.2.1
  have hown := F.2.2.2.1
  have hts := F.2.2.2.2
  have in_X1 : ∀ w ∈ u_ws RX1 TX1 7, w ∈ wsX1_lapsedByYears := (fun _ h => List.mem_cons_of_mem _ (List.mem_append_left _ (List.mem_append_right _ h)))
  have in_X4 : ∀ w ∈ u_ws RX4 TX4 15, w ∈ wsX1_lapsedByYears := (fun _ h => List.mem_cons_of_mem _ (List.mem_append_right _ h))
  have fl_18 := (hts (.fieldLink RX1 18 "RasherCase$Foresight" "wills" "[I") (List.mem_of_getElem? (i := 3) rfl))
  have fl_21 := (hts (.fieldLink RX1 21 "RasherCase$Foresight" "cells" "[I") (List.mem_of_getElem? (i := 9) rfl))
  have fl_30 := (hts (.fieldLink RX1 30 "RasherCase$Foresight" "parish" "LRasherCase$Parish;") (List.mem_of_getElem? (i := 1) rfl))
  have fl_40 := (hts (.fieldLink RX1 40 "RasherCase$Parish" "day" "I") (List.mem_of_getElem? (i := 18) rfl))
  have fl_52 := (hts (.fieldLink RX1 52 "RasherCase$Parish" "familyCell" "[I") (List.mem_of_getElem? (i := 8) rfl))
  have fl_62 := (hts (.fieldLink RX1 62 "RasherCase$Parish" "familyWill" "[I") (List.mem_of_getElem? (i := 2) rfl))
  have fl_74 := (hts (.fieldLink RX1 74 "RasherCase$Parish" "familyCount" "I") (List.mem_of_getElem? (i := 15) rfl))
  have hl : lv_has ls 7 [(0, .ref a_this), (1, .int x1), (2, .int x2)] := hl
  unfold wp_Fs_lapsedByYears at h
  refine lv_aload_n hx hb dX1_lapsedByYears_0 rfl (lv_at hl 0 rfl) ?_
  refine va_get (D := D) (ci := 1) (v := .ref a_parish) (C := RX1) (T := TX1) (N := 7) hx hb hts in_X1 hown hK hP 0 rfl rfl 0 (by decide) fl_30 (fun _ h9 => h9) rfl dX1_lapsedByYears_1 ?_
  refine va_get (D := D) (ci := 3) (v := .ref a_parish_familyWill) (C := RX4) (T := TX4) (N := 15) hx hb hts in_X4 hown hK hP 2 rfl rfl 6 (by decide) fl_62 (fun _ h9 => h9) rfl dX1_lapsedByYears_4 ?_
  refine lv_iconst (v := 0) hx hb dX1_lapsedByYears_7 (by decide) ?_
  refine lv_aload_n hx hb dX1_lapsedByYears_8 rfl (lv_at hl 0 rfl) ?_
  refine va_get (D := D) (ci := 1) (v := .ref a_wills) (C := RX1) (T := TX1) (N := 7) hx hb hts in_X1 hown hK hP 0 rfl rfl 3 (by decide) fl_18 (fun _ h9 => h9) rfl dX1_lapsedByYears_9 ?_
  refine lv_iconst (v := 0) hx hb dX1_lapsedByYears_12 (by decide) ?_
  refine lv_bipush (v := 7) hx hb dX1_lapsedByYears_13 (by decide) ?_
  have hc_1 : cpok 0 0 7 7 7 := by decide
  refine va_copyi hx hb (F.2.2.1.trans hl.1.symm) hown (hts (.methodLink RX1 122 arraycopyName) (List.mem_of_getElem? (i := 4) rfl)) (hts (.native arraycopyName) (List.mem_of_getElem? (i := 5) rfl)) (hts (.static arraycopyName) (List.mem_of_getElem? (i := 6) rfl)) (hts (.initialized "java/lang/System") (List.mem_of_getElem? (i := 7) rfl)) hK hP hD hS 5 9 1 1 rfl rfl rfl rfl rfl hc_1.1 hc_1.2.1 hc_1.2.2.1 hc_1.2.2.2.1 hc_1.2.2.2.2 (fun _ _ => rfl) (Nat.le_of_ble_eq_true rfl) (Nat.le_of_ble_eq_true rfl) dX1_lapsedByYears_15 (fun H locs hP hD hS => ?_)
  obtain ⟨s_wills_2, es_wills_2⟩ : ∃ f : Nat → Int32, f = va_cpy s_parish_familyWill s_wills (Int32.toNatClampNeg 0) (Int32.toNatClampNeg 0) (Int32.toNatClampNeg 7) := ⟨_, rfl⟩
  have hP : va_P D vwCl (Wd_Fs_lapsedByYears cy a_this a_cells a_parish a_parish_familyCell a_parish_familyKind a_parish_familyWill a_parish_flitchCell a_parish_flitchKind a_parish_flitchStrength a_wills a_taken a_lapses a_smelling a_windy a_parish_familySide a_parish_past a_parish_sightings a_parish_notes a_parish_marks s_cells s_parish_flitchCount s_parish_familyCount s_parish_hung s_parish_day s_parish_familyCell s_parish_familyKind s_parish_familyWill s_parish_flitchCell s_parish_flitchKind s_parish_flitchStrength s_wills_2) H := by rw [es_wills_2]; exact hP
  have hD : va_D A (Wd_Fs_lapsedByYears cy a_this a_cells a_parish a_parish_familyCell a_parish_familyKind a_parish_familyWill a_parish_flitchCell a_parish_flitchKind a_parish_flitchStrength a_wills a_taken a_lapses a_smelling a_windy a_parish_familySide a_parish_past a_parish_sightings a_parish_notes a_parish_marks s_cells s_parish_flitchCount s_parish_familyCount s_parish_hung s_parish_day s_parish_familyCell s_parish_familyKind s_parish_familyWill s_parish_flitchCell s_parish_flitchKind s_parish_flitchStrength s_wills_2) := by rw [es_wills_2]; exact hD
  have h := h s_wills_2 es_wills_2
  refine lv_aload_n hx hb dX1_lapsedByYears_18 rfl (lv_at hl 0 rfl) ?_
  refine va_get (D := D) (ci := 1) (v := .ref a_parish) (C := RX1) (T := TX1) (N := 7) hx hb hts in_X1 hown hK hP 0 rfl rfl 0 (by decide) fl_30 (fun _ h9 => h9) rfl dX1_lapsedByYears_19 ?_
  refine va_get (D := D) (ci := 3) (v := .ref a_parish_familyCell) (C := RX4) (T := TX4) (N := 15) hx hb hts in_X4 hown hK hP 2 rfl rfl 5 (by decide) fl_52 (fun _ h9 => h9) rfl dX1_lapsedByYears_22 ?_
  refine lv_iconst (v := 0) hx hb dX1_lapsedByYears_25 (by decide) ?_
  refine lv_aload_n hx hb dX1_lapsedByYears_26 rfl (lv_at hl 0 rfl) ?_
  refine va_get (D := D) (ci := 1) (v := .ref a_cells) (C := RX1) (T := TX1) (N := 7) hx hb hts in_X1 hown hK hP 0 rfl rfl 4 (by decide) fl_21 (fun _ h9 => h9) rfl dX1_lapsedByYears_27 ?_
  refine lv_iconst (v := 0) hx hb dX1_lapsedByYears_30 (by decide) ?_
  refine lv_bipush (v := 7) hx hb dX1_lapsedByYears_31 (by decide) ?_
  have hc_3 : cpok 0 0 7 7 7 := by decide
  refine va_copyi hx hb (F.2.2.1.trans hl.1.symm) hown (hts (.methodLink RX1 122 arraycopyName) (List.mem_of_getElem? (i := 4) rfl)) (hts (.native arraycopyName) (List.mem_of_getElem? (i := 5) rfl)) (hts (.static arraycopyName) (List.mem_of_getElem? (i := 6) rfl)) (hts (.initialized "java/lang/System") (List.mem_of_getElem? (i := 7) rfl)) hK hP hD hS 3 1 1 1 rfl rfl rfl rfl rfl hc_3.1 hc_3.2.1 hc_3.2.2.1 hc_3.2.2.2.1 hc_3.2.2.2.2 (fun _ _ => rfl) (Nat.le_of_ble_eq_true rfl) (Nat.le_of_ble_eq_true rfl) dX1_lapsedByYears_33 (fun H locs hP hD hS => ?_)
  obtain ⟨s_cells_4, es_cells_4⟩ : ∃ f : Nat → Int32, f = va_cpy s_parish_familyCell s_cells (Int32.toNatClampNeg 0) (Int32.toNatClampNeg 0) (Int32.toNatClampNeg 7) := ⟨_, rfl⟩
  have hP : va_P D vwCl (Wd_Fs_lapsedByYears cy a_this a_cells a_parish a_parish_familyCell a_parish_familyKind a_parish_familyWill a_parish_flitchCell a_parish_flitchKind a_parish_flitchStrength a_wills a_taken a_lapses a_smelling a_windy a_parish_familySide a_parish_past a_parish_sightings a_parish_notes a_parish_marks s_cells_4 s_parish_flitchCount s_parish_familyCount s_parish_hung s_parish_day s_parish_familyCell s_parish_familyKind s_parish_familyWill s_parish_flitchCell s_parish_flitchKind s_parish_flitchStrength s_wills_2) H := by rw [es_cells_4]; exact hP
  have hD : va_D A (Wd_Fs_lapsedByYears cy a_this a_cells a_parish a_parish_familyCell a_parish_familyKind a_parish_familyWill a_parish_flitchCell a_parish_flitchKind a_parish_flitchStrength a_wills a_taken a_lapses a_smelling a_windy a_parish_familySide a_parish_past a_parish_sightings a_parish_notes a_parish_marks s_cells_4 s_parish_flitchCount s_parish_familyCount s_parish_hung s_parish_day s_parish_familyCell s_parish_familyKind s_parish_familyWill s_parish_flitchCell s_parish_flitchKind s_parish_flitchStrength s_wills_2) := by rw [es_cells_4]; exact hD
  have h := h s_cells_4 es_cells_4
  refine lv_iload_n hx hb dX1_lapsedByYears_36 rfl (lv_at hl 1 rfl) ?_
  refine lv_i2l hx hb dX1_lapsedByYears_37 rfl ?_
  refine lv_topl (fun x3_5 ex3_5 => ?_)
  have h := h x3_5 ex3_5
  refine lv_lstore_n (lv' := [(3, .long x3_5), (0, .ref a_this), (1, .int x1), (2, .int x2)]) hx hb dX1_lapsedByYears_38 rfl hl (by decide) rfl (fun ls hl => ?_)
  refine lv_iconst (v := 0) hx hb dX1_lapsedByYears_39 (by decide) ?_
  refine lv_istore (lv' := [(5, .int 0), (3, .long x3_5), (0, .ref a_this), (1, .int x1), (2, .int x2)]) hx hb dX1_lapsedByYears_40 hl (by decide) rfl (fun ls hl => ?_)
  obtain ⟨T42_9, hz42_9, hs42_9, n42_9, h⟩ := lpw4_use h
  have kT42_9 : ∀ (n : Nat) (x3_6 : Int64) (x5_7 : Int32) (s_cells_8 : Nat → Int32) (s_wills_9 : Nat → Int32) (H : Heap) (locs : List Loc) (ls : Array Slot), T42_9 n x3_6 x5_7 s_cells_8 s_wills_9 → va_P D vwCl (Wd_Fs_lapsedByYears cy a_this a_cells a_parish a_parish_familyCell a_parish_familyKind a_parish_familyWill a_parish_flitchCell a_parish_flitchKind a_parish_flitchStrength a_wills a_taken a_lapses a_smelling a_windy a_parish_familySide a_parish_past a_parish_sightings a_parish_notes a_parish_marks s_cells_8 s_parish_flitchCount s_parish_familyCount s_parish_hung s_parish_day s_parish_familyCell s_parish_familyKind s_parish_familyWill s_parish_flitchCell s_parish_flitchKind s_parish_flitchStrength s_wills_9) H → va_D A (Wd_Fs_lapsedByYears cy a_this a_cells a_parish a_parish_familyCell a_parish_familyKind a_parish_familyWill a_parish_flitchCell a_parish_flitchKind a_parish_flitchStrength a_wills a_taken a_lapses a_smelling a_windy a_parish_familySide a_parish_past a_parish_sightings a_parish_notes a_parish_marks s_cells_8 s_parish_flitchCount s_parish_familyCount s_parish_hung s_parish_day s_parish_familyCell s_parish_familyKind s_parish_familyWill s_parish_flitchCell s_parish_flitchKind s_parish_flitchStrength s_wills_9) → va_S A s.heap H locs → lv_has ls 7 [(0, .ref a_this), (2, .int x2), (3, .long x3_6), (5, .int x5_7)] → W p l e rm_Fs_lapsedByYears s m args below meth c H locs 0 0 QQ (F0 m 42 ls []) := by
    intro n
    induction n with
    | zero => intro x3_6 x5_7 s_cells_8 s_wills_9 H locs ls h; exact absurd h (hz42_9 _ _ _ _)
    | succ n ih42_9 =>
      intro x3_6 x5_7 s_cells_8 s_wills_9 H locs ls h hP hD hS hl
      have h := hs42_9 _ _ _ _ _ h
      refine lv_iload hx hb dX1_lapsedByYears_42 (lv_at hl 3 rfl) ?_
      refine lv_iload_n hx hb dX1_lapsedByYears_44 rfl (lv_at hl 1 rfl) ?_
      refine lv_icmp_ge (tgt := 134) hx hb dX1_lapsedByYears_45 (by decide) (fun c_11 => ?_) (fun c_11 => ?_)
      · have h := h.1 c_11
        refine lv_aload_n hx hb dX1_lapsedByYears_134 rfl (lv_at hl 0 rfl) ?_
        refine va_get (D := D) (ci := 1) (v := .ref a_parish) (C := RX1) (T := TX1) (N := 7) hx hb hts in_X1 hown hK hP 0 rfl rfl 0 (by decide) fl_30 (fun _ h9 => h9) rfl dX1_lapsedByYears_135 ?_
        refine lv_aload_n hx hb dX1_lapsedByYears_138 rfl (lv_at hl 0 rfl) ?_
        refine va_get (D := D) (ci := 1) (v := .ref a_wills) (C := RX1) (T := TX1) (N := 7) hx hb hts in_X1 hown hK hP 0 rfl rfl 3 (by decide) fl_18 (fun _ h9 => h9) rfl dX1_lapsedByYears_139 ?_
        refine st_callRI (st_runVR (n := 1) (As := [.ref a_wills]) (rest := []) (q0 := 0) F (co_Pa_lapsedOf l D cy a_parish a_wills a_parish_flitchKind a_parish_flitchCell a_parish_flitchStrength a_parish_familyKind a_parish_familySide a_parish_familyCell a_parish_familyWill a_parish_past a_parish_sightings a_parish_notes a_parish_marks 7 s_parish_flitchCount s_parish_familyCount s_parish_hung s_parish_day s_wills_9 _ h) gX1_lapsedByYears_X4_lapsedOf rfl (by decide +kernel) rfl hKK hP [2, 9] rfl rfl rfl rfl hl.1 rfl (Nat.le_of_ble_eq_true rfl) dX1_lapsedByYears_142) (fun r_12 h => ?_)
        exact hret _ (s_cells_8, s_wills_9) _ _ _ _ h hP hD hS dX1_lapsedByYears_145
      · have h := h.2 c_11
        refine lv_lload_n hx hb dX1_lapsedByYears_48 rfl (lv_at hl 2 rfl) ?_
        refine lv_ldc2 (v := 1103515245) hx hb hown (hts (.constantLong RX1 128 (1103515245)) (List.mem_of_getElem? (i := 10) rfl)) dX1_lapsedByYears_49 ?_
        refine lv_lmul hx hb dX1_lapsedByYears_52 ?_
        refine lv_ldc2 (v := 12345) hx hb hown (hts (.constantLong RX1 130 (12345)) (List.mem_of_getElem? (i := 11) rfl)) dX1_lapsedByYears_53 ?_
        refine lv_ladd hx hb dX1_lapsedByYears_56 ?_
        refine lv_ldc2 (v := 2147483648) hx hb hown (hts (.constantLong RX1 132 (2147483648)) (List.mem_of_getElem? (i := 12) rfl)) dX1_lapsedByYears_57 ?_
        refine lv_lrem hx hb dX1_lapsedByYears_60 (by decide) ?_
        refine lv_topl (fun x3_13 ex3_13 => ?_)
        have h := h x3_13 ex3_13
        refine lv_lstore_n (lv' := [(3, .long x3_13), (0, .ref a_this), (2, .int x2), (5, .int x5_7)]) hx hb dX1_lapsedByYears_61 rfl hl (by decide) rfl (fun ls hl => ?_)
        refine lv_lload_n hx hb dX1_lapsedByYears_62 rfl (lv_at hl 0 rfl) ?_
        refine lv_ldc2 (v := 65536) hx hb hown (hts (.constantLong RX1 134 (65536)) (List.mem_of_getElem? (i := 13) rfl)) dX1_lapsedByYears_63 ?_
        refine lv_ldiv hx hb dX1_lapsedByYears_66 (by decide) ?_
        refine lv_ldc2 (v := 7) hx hb hown (hts (.constantLong RX1 136 (7)) (List.mem_of_getElem? (i := 14) rfl)) dX1_lapsedByYears_67 ?_
        refine lv_lrem hx hb dX1_lapsedByYears_70 (by decide) ?_
        refine lv_l2i hx hb dX1_lapsedByYears_71 rfl ?_
        refine lv_topi (fun x6_14 ex6_14 => ?_)
        have h := h x6_14 ex6_14
        refine lv_istore (lv' := [(6, .int x6_14), (3, .long x3_13), (0, .ref a_this), (2, .int x2), (5, .int x5_7)]) hx hb dX1_lapsedByYears_72 hl (by decide) rfl (fun ls hl => ?_)
        refine lv_iload hx hb dX1_lapsedByYears_74 (lv_at hl 0 rfl) ?_
        refine lv_aload_n hx hb dX1_lapsedByYears_76 rfl (lv_at hl 2 rfl) ?_
        refine va_get (D := D) (ci := 1) (v := .ref a_parish) (C := RX1) (T := TX1) (N := 7) hx hb hts in_X1 hown hK hP 0 rfl rfl 0 (by decide) fl_30 (fun _ h9 => h9) rfl dX1_lapsedByYears_77 ?_
        refine va_get (D := D) (ci := 3) (v := .int s_parish_familyCount) (C := RX4) (T := TX4) (N := 15) hx hb hts in_X4 hown hK hP 2 rfl rfl 12 (by decide) fl_74 (fun _ h9 => h9) rfl dX1_lapsedByYears_80 ?_
        obtain ⟨J103, hJ103, h⟩ := jn1_ex h
        have kJ103_15 : ∀ (s_cells_15 : Nat → Int32) (H : Heap) (locs : List Loc) (ls : Array Slot), J103 s_cells_15 → va_P D vwCl (Wd_Fs_lapsedByYears cy a_this a_cells a_parish a_parish_familyCell a_parish_familyKind a_parish_familyWill a_parish_flitchCell a_parish_flitchKind a_parish_flitchStrength a_wills a_taken a_lapses a_smelling a_windy a_parish_familySide a_parish_past a_parish_sightings a_parish_notes a_parish_marks s_cells_15 s_parish_flitchCount s_parish_familyCount s_parish_hung s_parish_day s_parish_familyCell s_parish_familyKind s_parish_familyWill s_parish_flitchCell s_parish_flitchKind s_parish_flitchStrength s_wills_9) H → va_D A (Wd_Fs_lapsedByYears cy a_this a_cells a_parish a_parish_familyCell a_parish_familyKind a_parish_familyWill a_parish_flitchCell a_parish_flitchKind a_parish_flitchStrength a_wills a_taken a_lapses a_smelling a_windy a_parish_familySide a_parish_past a_parish_sightings a_parish_notes a_parish_marks s_cells_15 s_parish_flitchCount s_parish_familyCount s_parish_hung s_parish_day s_parish_familyCell s_parish_familyKind s_parish_familyWill s_parish_flitchCell s_parish_flitchKind s_parish_flitchStrength s_wills_9) → va_S A s.heap H locs → lv_has ls 7 [(0, .ref a_this), (2, .int x2), (3, .long x3_13), (5, .int x5_7)] → W p l e rm_Fs_lapsedByYears s m args below meth c H locs 0 0 QQ (F0 m 103 ls []) := by
          intro s_cells_15 H locs ls h hP hD hS hl
          have h := hJ103 _ h
          refine lv_aload_n hx hb dX1_lapsedByYears_103 rfl (lv_at hl 0 rfl) ?_
          refine va_get (D := D) (ci := 1) (v := .ref a_parish) (C := RX1) (T := TX1) (N := 7) hx hb hts in_X1 hown hK hP 0 rfl rfl 0 (by decide) fl_30 (fun _ h9 => h9) rfl dX1_lapsedByYears_104 ?_
          refine lv_aload_n hx hb dX1_lapsedByYears_107 rfl (lv_at hl 0 rfl) ?_
          refine va_get (D := D) (ci := 1) (v := .ref a_cells) (C := RX1) (T := TX1) (N := 7) hx hb hts in_X1 hown hK hP 0 rfl rfl 4 (by decide) fl_21 (fun _ h9 => h9) rfl dX1_lapsedByYears_108 ?_
          refine lv_aload_n hx hb dX1_lapsedByYears_111 rfl (lv_at hl 0 rfl) ?_
          refine va_get (D := D) (ci := 1) (v := .ref a_wills) (C := RX1) (T := TX1) (N := 7) hx hb hts in_X1 hown hK hP 0 rfl rfl 3 (by decide) fl_18 (fun _ h9 => h9) rfl dX1_lapsedByYears_112 ?_
          refine lv_aload_n hx hb dX1_lapsedByYears_115 rfl (lv_at hl 0 rfl) ?_
          refine va_get (D := D) (ci := 1) (v := .ref a_parish) (C := RX1) (T := TX1) (N := 7) hx hb hts in_X1 hown hK hP 0 rfl rfl 0 (by decide) fl_30 (fun _ h9 => h9) rfl dX1_lapsedByYears_116 ?_
          refine va_get (D := D) (ci := 3) (v := .int s_parish_day) (C := RX4) (T := TX4) (N := 15) hx hb hts in_X4 hown hK hP 2 rfl rfl 14 (by decide) fl_40 (fun _ h9 => h9) rfl dX1_lapsedByYears_119 ?_
          refine lv_iload hx hb dX1_lapsedByYears_122 (lv_at hl 3 rfl) ?_
          refine lv_iadd hx hb dX1_lapsedByYears_124 ?_
          refine st_callV (WR := [0, 3, 5].filterMap (fun i => (Wd_Fs_lapsedByYears cy a_this a_cells a_parish a_parish_familyCell a_parish_familyKind a_parish_familyWill a_parish_flitchCell a_parish_flitchKind a_parish_flitchStrength a_wills a_taken a_lapses a_smelling a_windy a_parish_familySide a_parish_past a_parish_sightings a_parish_notes a_parish_marks s_cells_15 s_parish_flitchCount s_parish_familyCount s_parish_hung s_parish_day s_parish_familyCell s_parish_familyKind s_parish_familyWill s_parish_flitchCell s_parish_flitchKind s_parish_flitchStrength s_wills_9)[i]?)) (WSn := fun u => (Wd_Fs_lapsedByYears cy a_this a_cells a_parish a_parish_familyCell a_parish_familyKind a_parish_familyWill a_parish_flitchCell a_parish_flitchKind a_parish_flitchStrength a_wills a_taken a_lapses a_smelling a_windy a_parish_familySide a_parish_past a_parish_sightings a_parish_notes a_parish_marks s_cells_15 s_parish_flitchCount s_parish_familyCount s_parish_hung s_parish_day s_parish_familyCell s_parish_familyKind s_parish_familyWill s_parish_flitchCell s_parish_flitchKind s_parish_flitchStrength u)) (st_runV (n := 3) (As := [.ref a_cells, .ref a_wills, .int (s_parish_day + x5_7)]) (rest := []) (q0 := 0) F ((co_Pa_wearDown l D cy a_parish a_parish_familyKind a_parish_flitchCell a_parish_flitchKind a_parish_flitchStrength a_cells a_wills a_parish_familySide a_parish_familyCell a_parish_familyWill a_parish_past a_parish_sightings a_parish_notes a_parish_marks 7 7 s_parish_flitchCount s_parish_familyCount s_parish_hung s_parish_day s_parish_familyKind s_parish_flitchCell s_parish_flitchKind s_parish_flitchStrength s_cells_15 s_wills_9 (s_parish_day + x5_7) _ h) _) rfl gX1_lapsedByYears_X4_wearDown rfl (by decide +kernel) rfl hKK hP hD [2, 4, 6, 7, 8, 1, 9] rfl rfl rfl rfl rfl hl.1 rfl (Nat.le_of_ble_eq_true rfl) dX1_lapsedByYears_125) hP hD hS hA [2, 4, 6, 7, 8, 1, 9] [0, 3, 5] [0, 8, 3, 1, 4, 2, 5, 6, 7, 9] rfl rfl rfl (fun _ => rfl) (fun u H locs h hP hD hS => ?_)
          obtain ⟨s_wills_18, rfl⟩ : ∃ z, z = u := ⟨_, rfl⟩
          have hP : va_P D vwCl (Wd_Fs_lapsedByYears cy a_this a_cells a_parish a_parish_familyCell a_parish_familyKind a_parish_familyWill a_parish_flitchCell a_parish_flitchKind a_parish_flitchStrength a_wills a_taken a_lapses a_smelling a_windy a_parish_familySide a_parish_past a_parish_sightings a_parish_notes a_parish_marks s_cells_15 s_parish_flitchCount s_parish_familyCount s_parish_hung s_parish_day s_parish_familyCell s_parish_familyKind s_parish_familyWill s_parish_flitchCell s_parish_flitchKind s_parish_flitchStrength s_wills_18) H := hP
          have hD : va_D A (Wd_Fs_lapsedByYears cy a_this a_cells a_parish a_parish_familyCell a_parish_familyKind a_parish_familyWill a_parish_flitchCell a_parish_flitchKind a_parish_flitchStrength a_wills a_taken a_lapses a_smelling a_windy a_parish_familySide a_parish_past a_parish_sightings a_parish_notes a_parish_marks s_cells_15 s_parish_flitchCount s_parish_familyCount s_parish_hung s_parish_day s_parish_familyCell s_parish_familyKind s_parish_familyWill s_parish_flitchCell s_parish_flitchKind s_parish_flitchStrength s_wills_18) := hD
          obtain ⟨x5_19, ex5_19⟩ : ∃ y : Int32, y = x5_7 + 1 := ⟨_, rfl⟩
          have h := h x5_19 ex5_19
          refine lv_iinc (v := x5_19) (lv' := [(5, .int x5_19), (0, .ref a_this), (2, .int x2), (3, .long x3_13)]) hx hb dX1_lapsedByYears_128 hl (k := 3) rfl (by rw [ex5_19]; rfl) (by decide) rfl (fun ls hl => ?_)
          refine lv_goto (tgt := 42) hx hb dX1_lapsedByYears_131 (by decide) ?_
          exact ih42_9 _ _ _ _ _ _ _ h hP hD hS (lv_sub hl [1, 2, 3, 0] rfl)
        refine lv_icmp_ge (tgt := 103) hx hb dX1_lapsedByYears_83 (by decide) (fun c_20 => ?_) (fun c_20 => ?_)
        · have h := h.1 c_20
          exact kJ103_15 _ _ _ _ h hP hD hS (lv_sub hl [2, 3, 1, 4] rfl)
        · have h := h.2 c_20
          refine lv_aload_n hx hb dX1_lapsedByYears_86 rfl (lv_at hl 2 rfl) ?_
          refine va_get (D := D) (ci := 1) (v := .ref a_cells) (C := RX1) (T := TX1) (N := 7) hx hb hts in_X1 hown hK hP 0 rfl rfl 4 (by decide) fl_21 (fun _ h9 => h9) rfl dX1_lapsedByYears_87 ?_
          refine lv_iload hx hb dX1_lapsedByYears_90 (lv_at hl 0 rfl) ?_
          refine lv_lload_n hx hb dX1_lapsedByYears_92 rfl (lv_at hl 1 rfl) ?_
          refine lv_ldc2 (v := 1048576) hx hb hown (hts (.constantLong RX1 138 (1048576)) (List.mem_of_getElem? (i := 16) rfl)) dX1_lapsedByYears_93 ?_
          refine lv_ldiv hx hb dX1_lapsedByYears_96 (by decide) ?_
          refine lv_ldc2 (v := 25) hx hb hown (hts (.constantLong RX1 140 (25)) (List.mem_of_getElem? (i := 17) rfl)) dX1_lapsedByYears_97 ?_
          refine lv_lrem hx hb dX1_lapsedByYears_100 (by decide) ?_
          refine lv_l2i hx hb dX1_lapsedByYears_101 rfl ?_
          obtain ⟨hi_21, h⟩ := h
          refine va_iast hx hb hK hP hD hS 1 1 rfl rfl hi_21 dX1_lapsedByYears_102 (fun H locs hP hD hS => ?_)
          obtain ⟨s_cells_22, es_cells_22⟩ : ∃ f : Nat → Int32, f = upd s_cells_8 (Int32.toNatClampNeg x6_14) (Int64.toInt32 (lrem (x3_13 / 1048576) 25)) := ⟨_, rfl⟩
          have hP : va_P D vwCl (Wd_Fs_lapsedByYears cy a_this a_cells a_parish a_parish_familyCell a_parish_familyKind a_parish_familyWill a_parish_flitchCell a_parish_flitchKind a_parish_flitchStrength a_wills a_taken a_lapses a_smelling a_windy a_parish_familySide a_parish_past a_parish_sightings a_parish_notes a_parish_marks s_cells_22 s_parish_flitchCount s_parish_familyCount s_parish_hung s_parish_day s_parish_familyCell s_parish_familyKind s_parish_familyWill s_parish_flitchCell s_parish_flitchKind s_parish_flitchStrength s_wills_9) H := by rw [es_cells_22]; exact hP
          have hD : va_D A (Wd_Fs_lapsedByYears cy a_this a_cells a_parish a_parish_familyCell a_parish_familyKind a_parish_familyWill a_parish_flitchCell a_parish_flitchKind a_parish_flitchStrength a_wills a_taken a_lapses a_smelling a_windy a_parish_familySide a_parish_past a_parish_sightings a_parish_notes a_parish_marks s_cells_22 s_parish_flitchCount s_parish_familyCount s_parish_hung s_parish_day s_parish_familyCell s_parish_familyKind s_parish_familyWill s_parish_flitchCell s_parish_flitchKind s_parish_flitchStrength s_wills_9) := by rw [es_cells_22]; exact hD
          have h := h s_cells_22 es_cells_22
          exact kJ103_15 _ _ _ _ h hP hD hS (lv_sub hl [2, 3, 1, 4] rfl)
  exact kT42_9 n42_9 _ _ _ _ _ _ _ h hP hD hS (lv_sub hl [2, 4, 1, 0] rfl)
abbrev Wd_Gs_fitsNotes (cy : ClassId × ClassId × ClassId × ClassId) (a_this a_parish a_parish_notes a_parish_notes_numbers a_outcome a_parish_flitchKind a_parish_flitchCell a_parish_flitchStrength a_parish_familyKind a_parish_familySide a_parish_familyCell a_parish_familyWill a_parish_past a_parish_sightings a_parish_marks : Nat) (s_parish_flitchCount : Int32) (s_parish_familyCount : Int32) (s_parish_hung : Int32) (s_parish_day : Int32) (s_parish_notes_width : Int32) (s_parish_notes_limit : Int32) (s_parish_notes_size : Int32) (s_parish_notes_numbers : Nat → Int32) : va_W := [(a_this, .inr (2, [.ref a_parish, .ref a_outcome])), (a_parish, .inr (3, [.ref a_parish_flitchKind, .ref a_parish_flitchCell, .ref a_parish_flitchStrength, .ref a_parish_familyKind, .ref a_parish_familySide, .ref a_parish_familyCell, .ref a_parish_familyWill, .ref a_parish_past, .ref a_parish_sightings, .ref a_parish_notes, .ref a_parish_marks, .int s_parish_flitchCount, .int s_parish_familyCount, .int s_parish_hung, .int s_parish_day])), (a_parish_notes, .inr (5, [.int s_parish_notes_width, .int s_parish_notes_limit, .ref a_parish_notes_numbers, .int s_parish_notes_size])), (a_parish_notes_numbers, .inl (cy.2.1, 30, .inl s_parish_notes_numbers))]
abbrev rm_Gs_fitsNotes : Room := { frames := 1, cells := 0, slots := 0, locals := 26 }
def wp_Gs_fitsNotes (x1 : Int32) (x2 : Int32) (s_parish_notes_width : Int32) (s_parish_notes_size : Int32) (s_parish_notes_numbers : Nat → Int32) (Q : Int32 → Prop) : Prop := ∃ n : Nat, lpw1 (fun (B11 : Int32 → Prop) (x4_1 : Int32) => ((s_parish_notes_size ≤ x4_1 → Q 1) ∧ (¬ s_parish_notes_size ≤ x4_1 → wp_Rw_at x4_1 0 30 s_parish_notes_width s_parish_notes_numbers (fun (r_4 : Int32) => jn0 (fun (J72 : Prop) => ((¬ r_4 = x1 → J72) ∧ (r_4 = x1 → wp_Rw_at x4_1 1 30 s_parish_notes_width s_parish_notes_numbers (fun (r_8 : Int32) => wp_Rw_at x4_1 2 30 s_parish_notes_width s_parish_notes_numbers (fun (r_9 : Int32) => wp_Rw_at x4_1 3 30 s_parish_notes_width s_parish_notes_numbers (fun (r_10 : Int32) => wp_Nt_scent x2 r_8 r_9 r_10 (fun (r_11 : Int32) => wp_Rw_at x4_1 4 30 s_parish_notes_width s_parish_notes_numbers (fun (r_12 : Int32) => ((r_11 = r_12 → J72) ∧ (¬ r_11 = r_12 → Q 0)))))))))) (∀ x4_6 : Int32, x4_6 = x4_1 + 1 → B11 x4_6))))) n 0
set_option maxHeartbeats 4000000 in
set_option maxRecDepth 100000 in
theorem co_Gs_fitsNotes (l : Launch) (D : va_G) (cy : ClassId × ClassId × ClassId × ClassId) (a_this a_parish a_parish_notes a_parish_notes_numbers a_outcome a_parish_flitchKind a_parish_flitchCell a_parish_flitchStrength a_parish_familyKind a_parish_familySide a_parish_familyCell a_parish_familyWill a_parish_past a_parish_sightings a_parish_marks : Nat) (s_parish_flitchCount : Int32) (s_parish_familyCount : Int32) (s_parish_hung : Int32) (s_parish_day : Int32) (s_parish_notes_width : Int32) (s_parish_notes_limit : Int32) (s_parish_notes_size : Int32) (s_parish_notes_numbers : Nat → Int32) (x1 : Int32) (x2 : Int32) (Q : Int32 → Prop) (h : wp_Gs_fitsNotes x1 x2 s_parish_notes_width s_parish_notes_size s_parish_notes_numbers Q) : RoI l yX2_fitsNotes wsX2_fitsNotes rm_Gs_fitsNotes D cy [.ref a_this, .int x1, .int x2] (Wd_Gs_fitsNotes cy a_this a_parish a_parish_notes a_parish_notes_numbers a_outcome a_parish_flitchKind a_parish_flitchCell a_parish_flitchStrength a_parish_familyKind a_parish_familySide a_parish_familyCell a_parish_familyWill a_parish_past a_parish_sightings a_parish_marks s_parish_flitchCount s_parish_familyCount s_parish_hung s_parish_day s_parish_notes_width s_parish_notes_limit s_parish_notes_size s_parish_notes_numbers) Q := by
  refine st_metRZ (cc := cX2_fitsNotes) (maxL := 6) RX2 (by decide) rfl rfl (Nat.le_of_ble_eq_true rfl) ?_
  intro p e s m args below meth c QQ ls F hKK hP hl hret
  have hK := hKK.1
  have hnest := hKK.2.1
  have hx := F.1
  have hb := F.2.1
  have hown := F.2.2.2.1
  have hts := F.2.2.2.2
  have in_X2 : ∀ w ∈ u_ws RX2 TX2 2, w ∈ wsX2_fitsNotes := (fun _ h => List.mem_cons_of_mem _ (List.mem_append_left _ (List.mem_append_left _ (List.mem_append_right _ h))))
  have in_X4 : ∀ w ∈ u_ws RX4 TX4 15, w ∈ wsX2_fitsNotes := (fun _ h => List.mem_cons_of_mem _ (List.mem_append_left _ (List.mem_append_right _ h)))
  have in_X6 : ∀ w ∈ u_ws RX6 TX6 4, w ∈ wsX2_fitsNotes := (fun _ h => List.mem_cons_of_mem _ (List.mem_append_right _ h))
  have fl_15 := (hts (.fieldLink RX2 15 "RasherCase$Guesses" "parish" "LRasherCase$Parish;") (List.mem_of_getElem? (i := 1) rfl))
  have fl_23 := (hts (.fieldLink RX2 23 "RasherCase$Parish" "notes" "LRasherCase$Rows;") (List.mem_of_getElem? (i := 2) rfl))
  have fl_29 := (hts (.fieldLink RX2 29 "RasherCase$Rows" "size" "I") (List.mem_of_getElem? (i := 3) rfl))
  have hl : lv_has ls 6 [(0, .ref a_this), (1, .int x1), (2, .int x2)] := hl
  unfold wp_Gs_fitsNotes at h
  refine lv_aload_n hx hb dX2_fitsNotes_0 rfl (lv_at hl 0 rfl) ?_
  refine va_get (D := D) (ci := 2) (v := .ref a_parish) (C := RX2) (T := TX2) (N := 2) hx hb hts in_X2 hown hK hP 0 rfl rfl 0 (by decide) fl_15 (fun _ h9 => h9) rfl dX2_fitsNotes_1 ?_
  refine va_get (D := D) (ci := 3) (v := .ref a_parish_notes) (C := RX4) (T := TX4) (N := 15) hx hb hts in_X4 hown hK hP 1 rfl rfl 9 (by decide) fl_23 (fun _ h9 => h9) rfl dX2_fitsNotes_4 ?_
  refine lv_astore_n (lv' := [(3, .ref a_parish_notes), (0, .ref a_this), (1, .int x1), (2, .int x2)]) hx hb dX2_fitsNotes_7 rfl hl (by decide) rfl (fun ls hl => ?_)
  refine lv_iconst (v := 0) hx hb dX2_fitsNotes_8 (by decide) ?_
  refine lv_istore (lv' := [(4, .int 0), (3, .ref a_parish_notes), (0, .ref a_this), (1, .int x1), (2, .int x2)]) hx hb dX2_fitsNotes_9 hl (by decide) rfl (fun ls hl => ?_)
  obtain ⟨T11_1, hz11_1, hs11_1, n11_1, h⟩ := lpw1_use h
  have kT11_1 : ∀ (n : Nat) (x4_1 : Int32) (ls : Array Slot), T11_1 n x4_1 → lv_has ls 6 [(1, .int x1), (2, .int x2), (3, .ref a_parish_notes), (4, .int x4_1)] → W p l e rm_Gs_fitsNotes s m args below meth c s.heap [] 0 0 QQ (F0 m 11 ls []) := by
    intro n
    induction n with
    | zero => intro x4_1 ls h; exact absurd h (hz11_1 _)
    | succ n ih11_1 =>
      intro x4_1 ls h hl
      have h := hs11_1 _ _ h
      refine lv_iload hx hb dX2_fitsNotes_11 (lv_at hl 3 rfl) ?_
      refine lv_aload_n hx hb dX2_fitsNotes_13 rfl (lv_at hl 2 rfl) ?_
      refine va_get (D := D) (ci := 5) (v := .int s_parish_notes_size) (C := RX6) (T := TX6) (N := 4) hx hb hts in_X6 hown hK hP 2 rfl rfl 3 (by decide) fl_29 (fun _ h9 => h9) rfl dX2_fitsNotes_14 ?_
      refine lv_icmp_ge (tgt := 78) hx hb dX2_fitsNotes_17 (by decide) (fun c_3 => ?_) (fun c_3 => ?_)
      · have h := h.1 c_3
        refine lv_iconst (v := 1) hx hb dX2_fitsNotes_78 (by decide) ?_
        exact hret _ _ _ bz1 h dX2_fitsNotes_79
      · have h := h.2 c_3
        refine lv_aload_n hx hb dX2_fitsNotes_20 rfl (lv_at hl 2 rfl) ?_
        refine lv_iload hx hb dX2_fitsNotes_21 (lv_at hl 3 rfl) ?_
        refine lv_iconst (v := 0) hx hb dX2_fitsNotes_23 (by decide) ?_
        refine st_callRI (st_runVR (n := 2) (As := [.int x4_1, .int 0]) (rest := []) (q0 := 0) F (co_Rw_at l D cy a_parish_notes a_parish_notes_numbers 30 s_parish_notes_width s_parish_notes_limit s_parish_notes_size s_parish_notes_numbers x4_1 0 _ h) gX2_fitsNotes_X6_at rfl (by decide +kernel) rfl hKK hP [2, 3] rfl rfl rfl rfl hl.1 rfl (Nat.le_of_ble_eq_true rfl) dX2_fitsNotes_24) (fun r_4 h => ?_)
        refine lv_iload_n hx hb dX2_fitsNotes_27 rfl (lv_at hl 0 rfl) ?_
        obtain ⟨J72, hJ72, h⟩ := jn0_ex h
        have kJ72_4 : ∀  (ls : Array Slot), J72 → lv_has ls 6 [(1, .int x1), (2, .int x2), (3, .ref a_parish_notes), (4, .int x4_1)] → W p l e rm_Gs_fitsNotes s m args below meth c s.heap [] 0 0 QQ (F0 m 72 ls []) := by
          intro  ls h hl
          have h := hJ72  h
          obtain ⟨x4_6, ex4_6⟩ : ∃ y : Int32, y = x4_1 + 1 := ⟨_, rfl⟩
          have h := h x4_6 ex4_6
          refine lv_iinc (v := x4_6) (lv' := [(4, .int x4_6), (1, .int x1), (2, .int x2), (3, .ref a_parish_notes)]) hx hb dX2_fitsNotes_72 hl (k := 3) rfl (by rw [ex4_6]; rfl) (by decide) rfl (fun ls hl => ?_)
          refine lv_goto (tgt := 11) hx hb dX2_fitsNotes_75 (by decide) ?_
          exact ih11_1 _ _ h (lv_sub hl [1, 2, 3, 0] rfl)
        refine lv_icmp_ne (tgt := 72) hx hb dX2_fitsNotes_28 (by decide) (fun c_7 => ?_) (fun c_7 => ?_)
        · have h := h.1 c_7
          exact kJ72_4  _ h (lv_sub hl [0, 1, 2, 3] rfl)
        · have h := h.2 c_7
          refine lv_iload_n hx hb dX2_fitsNotes_31 rfl (lv_at hl 1 rfl) ?_
          refine lv_aload_n hx hb dX2_fitsNotes_32 rfl (lv_at hl 2 rfl) ?_
          refine lv_iload hx hb dX2_fitsNotes_33 (lv_at hl 3 rfl) ?_
          refine lv_iconst (v := 1) hx hb dX2_fitsNotes_35 (by decide) ?_
          refine st_callRI (st_runVR (n := 2) (As := [.int x4_1, .int 1]) (rest := [.int x2]) (q0 := 0) F (co_Rw_at l D cy a_parish_notes a_parish_notes_numbers 30 s_parish_notes_width s_parish_notes_limit s_parish_notes_size s_parish_notes_numbers x4_1 1 _ h) gX2_fitsNotes_X6_at rfl (by decide +kernel) rfl hKK hP [2, 3] rfl rfl rfl rfl hl.1 rfl (Nat.le_of_ble_eq_true rfl) dX2_fitsNotes_36) (fun r_8 h => ?_)
          refine lv_aload_n hx hb dX2_fitsNotes_39 rfl (lv_at hl 2 rfl) ?_
          refine lv_iload hx hb dX2_fitsNotes_40 (lv_at hl 3 rfl) ?_
          refine lv_iconst (v := 2) hx hb dX2_fitsNotes_42 (by decide) ?_
          refine st_callRI (st_runVR (n := 2) (As := [.int x4_1, .int 2]) (rest := [.int r_8, .int x2]) (q0 := 0) F (co_Rw_at l D cy a_parish_notes a_parish_notes_numbers 30 s_parish_notes_width s_parish_notes_limit s_parish_notes_size s_parish_notes_numbers x4_1 2 _ h) gX2_fitsNotes_X6_at rfl (by decide +kernel) rfl hKK hP [2, 3] rfl rfl rfl rfl hl.1 rfl (Nat.le_of_ble_eq_true rfl) dX2_fitsNotes_43) (fun r_9 h => ?_)
          refine lv_aload_n hx hb dX2_fitsNotes_46 rfl (lv_at hl 2 rfl) ?_
          refine lv_iload hx hb dX2_fitsNotes_47 (lv_at hl 3 rfl) ?_
          refine lv_iconst (v := 3) hx hb dX2_fitsNotes_49 (by decide) ?_
          refine st_callRI (st_runVR (n := 2) (As := [.int x4_1, .int 3]) (rest := [.int r_9, .int r_8, .int x2]) (q0 := 0) F (co_Rw_at l D cy a_parish_notes a_parish_notes_numbers 30 s_parish_notes_width s_parish_notes_limit s_parish_notes_size s_parish_notes_numbers x4_1 3 _ h) gX2_fitsNotes_X6_at rfl (by decide +kernel) rfl hKK hP [2, 3] rfl rfl rfl rfl hl.1 rfl (Nat.le_of_ble_eq_true rfl) dX2_fitsNotes_50) (fun r_10 h => ?_)
          refine st_callRI (st_runSR (n := 4) (As := [.int x2, .int r_8, .int r_9, .int r_10]) (rest := []) F (co_Nt_scent l D cy x2 r_8 r_9 r_10 _ h) gX2_fitsNotes_X3_scent rfl (by decide +kernel) rfl hKK hP [] rfl rfl hl.1 rfl (Nat.le_of_ble_eq_true rfl) dX2_fitsNotes_53) (fun r_11 h => ?_)
          refine lv_istore (lv' := [(5, .int r_11), (1, .int x1), (2, .int x2), (3, .ref a_parish_notes), (4, .int x4_1)]) hx hb dX2_fitsNotes_56 hl (by decide) rfl (fun ls hl => ?_)
          refine lv_iload hx hb dX2_fitsNotes_58 (lv_at hl 0 rfl) ?_
          refine lv_aload_n hx hb dX2_fitsNotes_60 rfl (lv_at hl 3 rfl) ?_
          refine lv_iload hx hb dX2_fitsNotes_61 (lv_at hl 4 rfl) ?_
          refine lv_iconst (v := 4) hx hb dX2_fitsNotes_63 (by decide) ?_
          refine st_callRI (st_runVR (n := 2) (As := [.int x4_1, .int 4]) (rest := [.int r_11]) (q0 := 0) F (co_Rw_at l D cy a_parish_notes a_parish_notes_numbers 30 s_parish_notes_width s_parish_notes_limit s_parish_notes_size s_parish_notes_numbers x4_1 4 _ h) gX2_fitsNotes_X6_at rfl (by decide +kernel) rfl hKK hP [2, 3] rfl rfl rfl rfl hl.1 rfl (Nat.le_of_ble_eq_true rfl) dX2_fitsNotes_64) (fun r_12 h => ?_)
          refine lv_icmp_eq (tgt := 72) hx hb dX2_fitsNotes_67 (by decide) (fun c_13 => ?_) (fun c_13 => ?_)
          · have h := h.1 c_13
            exact kJ72_4  _ h (lv_sub hl [1, 2, 3, 4] rfl)
          · have h := h.2 c_13
            refine lv_iconst (v := 0) hx hb dX2_fitsNotes_70 (by decide) ?_
            exact hret _ _ _ bz0 h dX2_fitsNotes_71
  exact kT11_1 n11_1 _ _ h (lv_sub hl [3, 4, 1, 0] rfl)
abbrev Wd_Gs_flitchKinds (cy : ClassId × ClassId × ClassId × ClassId) (a_this a_parish a_parish_notes a_parish_notes_numbers a_outcome a_parish_flitchKind a_parish_flitchCell a_parish_flitchStrength a_parish_familyKind a_parish_familySide a_parish_familyCell a_parish_familyWill a_parish_past a_parish_sightings a_parish_marks : Nat) (s_parish_flitchCount : Int32) (s_parish_familyCount : Int32) (s_parish_hung : Int32) (s_parish_day : Int32) (s_parish_notes_width : Int32) (s_parish_notes_limit : Int32) (s_parish_notes_size : Int32) (s_parish_notes_numbers : Nat → Int32) : va_W := [(a_this, .inr (2, [.ref a_parish, .ref a_outcome])), (a_parish, .inr (3, [.ref a_parish_flitchKind, .ref a_parish_flitchCell, .ref a_parish_flitchStrength, .ref a_parish_familyKind, .ref a_parish_familySide, .ref a_parish_familyCell, .ref a_parish_familyWill, .ref a_parish_past, .ref a_parish_sightings, .ref a_parish_notes, .ref a_parish_marks, .int s_parish_flitchCount, .int s_parish_familyCount, .int s_parish_hung, .int s_parish_day])), (a_parish_notes, .inr (5, [.int s_parish_notes_width, .int s_parish_notes_limit, .ref a_parish_notes_numbers, .int s_parish_notes_size])), (a_parish_notes_numbers, .inl (cy.2.1, 30, .inl s_parish_notes_numbers))]
abbrev rm_Gs_flitchKinds : Room := { frames := 2, cells := 0, slots := 0, locals := 51 }
def wp_Gs_flitchKinds (x1 : Int32) (s_parish_notes_width : Int32) (s_parish_notes_size : Int32) (s_parish_notes_numbers : Nat → Int32) (Q : Int32 → Prop) : Prop := ∃ n : Nat, lpw2 (fun (B4 : Int32 → Int32 → Prop) (x2_1 : Int32) (x3_2 : Int32) => ((6 ≤ x3_2 → Q x2_1) ∧ (¬ 6 ≤ x3_2 → wp_Gs_fitsNotes x1 x3_2 s_parish_notes_width s_parish_notes_size s_parish_notes_numbers (fun (r_5 : Int32) => jn1 (fun (J25 : Int32 → Prop) => ((r_5 = 0 → J25 x2_1) ∧ (¬ r_5 = 0 → ∀ x2_10 : Int32, x2_10 = (x2_1 ||| (ishl 1 x3_2)) → J25 x2_10))) (fun (x2_6 : Int32) => ∀ x3_8 : Int32, x3_8 = x3_2 + 1 → B4 x2_6 x3_8))))) n 0 0
set_option maxHeartbeats 4000000 in
set_option maxRecDepth 100000 in
theorem co_Gs_flitchKinds (l : Launch) (D : va_G) (cy : ClassId × ClassId × ClassId × ClassId) (a_this a_parish a_parish_notes a_parish_notes_numbers a_outcome a_parish_flitchKind a_parish_flitchCell a_parish_flitchStrength a_parish_familyKind a_parish_familySide a_parish_familyCell a_parish_familyWill a_parish_past a_parish_sightings a_parish_marks : Nat) (s_parish_flitchCount : Int32) (s_parish_familyCount : Int32) (s_parish_hung : Int32) (s_parish_day : Int32) (s_parish_notes_width : Int32) (s_parish_notes_limit : Int32) (s_parish_notes_size : Int32) (s_parish_notes_numbers : Nat → Int32) (x1 : Int32) (Q : Int32 → Prop) (h : wp_Gs_flitchKinds x1 s_parish_notes_width s_parish_notes_size s_parish_notes_numbers Q) : RoI l yX2_flitchKinds wsX2_flitchKinds rm_Gs_flitchKinds D cy [.ref a_this, .int x1] (Wd_Gs_flitchKinds cy a_this a_parish a_parish_notes a_parish_notes_numbers a_outcome a_parish_flitchKind a_parish_flitchCell a_parish_flitchStrength a_parish_familyKind a_parish_familySide a_parish_familyCell a_parish_familyWill a_parish_past a_parish_sightings a_parish_marks s_parish_flitchCount s_parish_familyCount s_parish_hung s_parish_day s_parish_notes_width s_parish_notes_limit s_parish_notes_size s_parish_notes_numbers) Q := by
  refine st_metRI (cc := cX2_flitchKinds) (maxL := 4) RX2 (by decide) rfl rfl (Nat.le_of_ble_eq_true rfl) ?_
  intro p e s m args below meth c QQ ls F hKK hP hl hret
  have hK := hKK.1
  have hnest := hKK.2.1
  have hx := F.1
  have hb := F.2.1
  have hown := F.2.2.2.1
  have hts := F.2.2.2.2
  have hl : lv_has ls 4 [(0, .ref a_this), (1, .int x1)] := hl
  unfold wp_Gs_flitchKinds at h
  refine lv_iconst (v := 0) hx hb dX2_flitchKinds_0 (by decide) ?_
  refine lv_istore_n (lv' := [(2, .int 0), (0, .ref a_this), (1, .int x1)]) hx hb dX2_flitchKinds_1 rfl hl (by decide) rfl (fun ls hl => ?_)
  refine lv_iconst (v := 0) hx hb dX2_flitchKinds_2 (by decide) ?_
  refine lv_istore_n (lv' := [(3, .int 0), (2, .int 0), (0, .ref a_this), (1, .int x1)]) hx hb dX2_flitchKinds_3 rfl hl (by decide) rfl (fun ls hl => ?_)
  obtain ⟨T4_2, hz4_2, hs4_2, n4_2, h⟩ := lpw2_use h
  have kT4_2 : ∀ (n : Nat) (x2_1 : Int32) (x3_2 : Int32) (ls : Array Slot), T4_2 n x2_1 x3_2 → lv_has ls 4 [(0, .ref a_this), (1, .int x1), (2, .int x2_1), (3, .int x3_2)] → W p l e rm_Gs_flitchKinds s m args below meth c s.heap [] 0 0 QQ (F0 m 4 ls []) := by
    intro n
    induction n with
    | zero => intro x2_1 x3_2 ls h; exact absurd h (hz4_2 _ _)
    | succ n ih4_2 =>
      intro x2_1 x3_2 ls h hl
      have h := hs4_2 _ _ _ h
      refine lv_iload_n hx hb dX2_flitchKinds_4 rfl (lv_at hl 3 rfl) ?_
      refine lv_bipush (v := 6) hx hb dX2_flitchKinds_5 (by decide) ?_
      refine lv_icmp_ge (tgt := 31) hx hb dX2_flitchKinds_7 (by decide) (fun c_4 => ?_) (fun c_4 => ?_)
      · have h := h.1 c_4
        refine lv_iload_n hx hb dX2_flitchKinds_31 rfl (lv_at hl 2 rfl) ?_
        exact hret _ _ _ h dX2_flitchKinds_32
      · have h := h.2 c_4
        refine lv_aload_n hx hb dX2_flitchKinds_10 rfl (lv_at hl 0 rfl) ?_
        refine lv_iload_n hx hb dX2_flitchKinds_11 rfl (lv_at hl 1 rfl) ?_
        refine lv_iload_n hx hb dX2_flitchKinds_12 rfl (lv_at hl 3 rfl) ?_
        refine st_callRI (st_runVR (n := 2) (As := [.int x1, .int x3_2]) (rest := []) (q0 := 0) F (co_Gs_fitsNotes l D cy a_this a_parish a_parish_notes a_parish_notes_numbers a_outcome a_parish_flitchKind a_parish_flitchCell a_parish_flitchStrength a_parish_familyKind a_parish_familySide a_parish_familyCell a_parish_familyWill a_parish_past a_parish_sightings a_parish_marks s_parish_flitchCount s_parish_familyCount s_parish_hung s_parish_day s_parish_notes_width s_parish_notes_limit s_parish_notes_size s_parish_notes_numbers x1 x3_2 _ h) gX2_flitchKinds_X2_fitsNotes rfl (by decide +kernel) rfl hKK hP [0, 1, 2, 3] rfl rfl rfl rfl hl.1 rfl (Nat.le_of_ble_eq_true rfl) dX2_flitchKinds_13) (fun r_5 h => ?_)
        obtain ⟨J25, hJ25, h⟩ := jn1_ex h
        have kJ25_6 : ∀ (x2_6 : Int32) (ls : Array Slot), J25 x2_6 → lv_has ls 4 [(0, .ref a_this), (1, .int x1), (2, .int x2_6), (3, .int x3_2)] → W p l e rm_Gs_flitchKinds s m args below meth c s.heap [] 0 0 QQ (F0 m 25 ls []) := by
          intro x2_6 ls h hl
          have h := hJ25 _ h
          obtain ⟨x3_8, ex3_8⟩ : ∃ y : Int32, y = x3_2 + 1 := ⟨_, rfl⟩
          have h := h x3_8 ex3_8
          refine lv_iinc (v := x3_8) (lv' := [(3, .int x3_8), (0, .ref a_this), (1, .int x1), (2, .int x2_6)]) hx hb dX2_flitchKinds_25 hl (k := 3) rfl (by rw [ex3_8]; rfl) (by decide) rfl (fun ls hl => ?_)
          refine lv_goto (tgt := 4) hx hb dX2_flitchKinds_28 (by decide) ?_
          exact ih4_2 _ _ _ h (lv_sub hl [1, 2, 3, 0] rfl)
        refine lv_if_eq (tgt := 25) hx hb dX2_flitchKinds_16 (by decide) (fun c_9 => ?_) (fun c_9 => ?_)
        · have h := h.1 c_9
          exact kJ25_6 _ _ h (lv_sub hl [0, 1, 2, 3] rfl)
        · have h := h.2 c_9
          refine lv_iload_n hx hb dX2_flitchKinds_19 rfl (lv_at hl 2 rfl) ?_
          refine lv_iconst (v := 1) hx hb dX2_flitchKinds_20 (by decide) ?_
          refine lv_iload_n hx hb dX2_flitchKinds_21 rfl (lv_at hl 3 rfl) ?_
          refine lv_ishl hx hb dX2_flitchKinds_22 ?_
          refine lv_ior hx hb dX2_flitchKinds_23 ?_
          refine lv_topi (fun x2_10 ex2_10 => ?_)
          have h := h x2_10 ex2_10
          refine lv_istore_n (lv' := [(2, .int x2_10), (0, .ref a_this), (1, .int x1), (3, .int x3_2)]) hx hb dX2_flitchKinds_24 rfl hl (by decide) rfl (fun ls hl => ?_)
          exact kJ25_6 _ _ h (lv_sub hl [1, 2, 0, 3] rfl)
  exact kT4_2 n4_2 _ _ _ h (lv_sub hl [2, 3, 1, 0] rfl)
abbrev Wd_Gs_fitsMarks (cy : ClassId × ClassId × ClassId × ClassId) (a_this a_parish a_parish_marks a_parish_marks_numbers a_outcome a_parish_flitchKind a_parish_flitchCell a_parish_flitchStrength a_parish_familyKind a_parish_familySide a_parish_familyCell a_parish_familyWill a_parish_past a_parish_sightings a_parish_notes : Nat) (s_parish_flitchCount : Int32) (s_parish_familyCount : Int32) (s_parish_hung : Int32) (s_parish_day : Int32) (s_parish_marks_width : Int32) (s_parish_marks_limit : Int32) (s_parish_marks_size : Int32) (s_parish_marks_numbers : Nat → Int32) : va_W := [(a_this, .inr (2, [.ref a_parish, .ref a_outcome])), (a_parish, .inr (3, [.ref a_parish_flitchKind, .ref a_parish_flitchCell, .ref a_parish_flitchStrength, .ref a_parish_familyKind, .ref a_parish_familySide, .ref a_parish_familyCell, .ref a_parish_familyWill, .ref a_parish_past, .ref a_parish_sightings, .ref a_parish_notes, .ref a_parish_marks, .int s_parish_flitchCount, .int s_parish_familyCount, .int s_parish_hung, .int s_parish_day])), (a_parish_marks, .inr (5, [.int s_parish_marks_width, .int s_parish_marks_limit, .ref a_parish_marks_numbers, .int s_parish_marks_size])), (a_parish_marks_numbers, .inl (cy.2.1, 24, .inl s_parish_marks_numbers))]
abbrev rm_Gs_fitsMarks : Room := { frames := 2, cells := 0, slots := 0, locals := 73 }
def wp_Gs_fitsMarks (x1 : Int32) (x2 : Int32) (s_parish_marks_width : Int32) (s_parish_marks_size : Int32) (s_parish_marks_numbers : Nat → Int32) (Q : Int32 → Prop) : Prop := ∃ n : Nat, lpw1 (fun (B11 : Int32 → Prop) (x4_1 : Int32) => ((s_parish_marks_size ≤ x4_1 → Q 1) ∧ (¬ s_parish_marks_size ≤ x4_1 → wp_Rw_at x4_1 0 24 s_parish_marks_width s_parish_marks_numbers (fun (r_4 : Int32) => jn0 (fun (J65 : Prop) => ((¬ r_4 = x1 → J65) ∧ (r_4 = x1 → wp_Rw_at x4_1 1 24 s_parish_marks_width s_parish_marks_numbers (fun (r_8 : Int32) => wp_Rw_at x4_1 2 24 s_parish_marks_width s_parish_marks_numbers (fun (r_9 : Int32) => wp_Nt_loss x2 r_8 r_9 (fun (r_10 : Int32) => wp_Rw_at x4_1 3 24 s_parish_marks_width s_parish_marks_numbers (fun (r_11 : Int32) => ((r_10 = r_11 → J65) ∧ (¬ r_10 = r_11 → Q 0))))))))) (∀ x4_6 : Int32, x4_6 = x4_1 + 1 → B11 x4_6))))) n 0
set_option maxHeartbeats 4000000 in
set_option maxRecDepth 100000 in
theorem co_Gs_fitsMarks (l : Launch) (D : va_G) (cy : ClassId × ClassId × ClassId × ClassId) (a_this a_parish a_parish_marks a_parish_marks_numbers a_outcome a_parish_flitchKind a_parish_flitchCell a_parish_flitchStrength a_parish_familyKind a_parish_familySide a_parish_familyCell a_parish_familyWill a_parish_past a_parish_sightings a_parish_notes : Nat) (s_parish_flitchCount : Int32) (s_parish_familyCount : Int32) (s_parish_hung : Int32) (s_parish_day : Int32) (s_parish_marks_width : Int32) (s_parish_marks_limit : Int32) (s_parish_marks_size : Int32) (s_parish_marks_numbers : Nat → Int32) (x1 : Int32) (x2 : Int32) (Q : Int32 → Prop) (h : wp_Gs_fitsMarks x1 x2 s_parish_marks_width s_parish_marks_size s_parish_marks_numbers Q) : RoI l yX2_fitsMarks wsX2_fitsMarks rm_Gs_fitsMarks D cy [.ref a_this, .int x1, .int x2] (Wd_Gs_fitsMarks cy a_this a_parish a_parish_marks a_parish_marks_numbers a_outcome a_parish_flitchKind a_parish_flitchCell a_parish_flitchStrength a_parish_familyKind a_parish_familySide a_parish_familyCell a_parish_familyWill a_parish_past a_parish_sightings a_parish_notes s_parish_flitchCount s_parish_familyCount s_parish_hung s_parish_day s_parish_marks_width s_parish_marks_limit s_parish_marks_size s_parish_marks_numbers) Q := by
  refine st_metRZ (cc := cX2_fitsMarks) (maxL := 6) RX2 (by decide) rfl rfl (Nat.le_of_ble_eq_true rfl) ?_
  intro p e s m args below meth c QQ ls F hKK hP hl hret
  have hK := hKK.1
  have hnest := hKK.2.1
  have hx := F.1
  have hb := F.2.1
  have hown := F.2.2.2.1
  have hts := F.2.2.2.2
  have in_X2 : ∀ w ∈ u_ws RX2 TX2 2, w ∈ wsX2_fitsMarks := (fun _ h => List.mem_cons_of_mem _ (List.mem_append_left _ (List.mem_append_left _ (List.mem_append_right _ h))))
  have in_X4 : ∀ w ∈ u_ws RX4 TX4 15, w ∈ wsX2_fitsMarks := (fun _ h => List.mem_cons_of_mem _ (List.mem_append_left _ (List.mem_append_right _ h)))
  have in_X6 : ∀ w ∈ u_ws RX6 TX6 4, w ∈ wsX2_fitsMarks := (fun _ h => List.mem_cons_of_mem _ (List.mem_append_right _ h))
  have fl_15 := (hts (.fieldLink RX2 15 "RasherCase$Guesses" "parish" "LRasherCase$Parish;") (List.mem_of_getElem? (i := 1) rfl))
  have fl_29 := (hts (.fieldLink RX2 29 "RasherCase$Rows" "size" "I") (List.mem_of_getElem? (i := 3) rfl))
  have fl_48 := (hts (.fieldLink RX2 48 "RasherCase$Parish" "marks" "LRasherCase$Rows;") (List.mem_of_getElem? (i := 2) rfl))
  have hl : lv_has ls 6 [(0, .ref a_this), (1, .int x1), (2, .int x2)] := hl
  unfold wp_Gs_fitsMarks at h
  refine lv_aload_n hx hb dX2_fitsMarks_0 rfl (lv_at hl 0 rfl) ?_
  refine va_get (D := D) (ci := 2) (v := .ref a_parish) (C := RX2) (T := TX2) (N := 2) hx hb hts in_X2 hown hK hP 0 rfl rfl 0 (by decide) fl_15 (fun _ h9 => h9) rfl dX2_fitsMarks_1 ?_
  refine va_get (D := D) (ci := 3) (v := .ref a_parish_marks) (C := RX4) (T := TX4) (N := 15) hx hb hts in_X4 hown hK hP 1 rfl rfl 10 (by decide) fl_48 (fun _ h9 => h9) rfl dX2_fitsMarks_4 ?_
  refine lv_astore_n (lv' := [(3, .ref a_parish_marks), (0, .ref a_this), (1, .int x1), (2, .int x2)]) hx hb dX2_fitsMarks_7 rfl hl (by decide) rfl (fun ls hl => ?_)
  refine lv_iconst (v := 0) hx hb dX2_fitsMarks_8 (by decide) ?_
  refine lv_istore (lv' := [(4, .int 0), (3, .ref a_parish_marks), (0, .ref a_this), (1, .int x1), (2, .int x2)]) hx hb dX2_fitsMarks_9 hl (by decide) rfl (fun ls hl => ?_)
  obtain ⟨T11_1, hz11_1, hs11_1, n11_1, h⟩ := lpw1_use h
  have kT11_1 : ∀ (n : Nat) (x4_1 : Int32) (ls : Array Slot), T11_1 n x4_1 → lv_has ls 6 [(1, .int x1), (2, .int x2), (3, .ref a_parish_marks), (4, .int x4_1)] → W p l e rm_Gs_fitsMarks s m args below meth c s.heap [] 0 0 QQ (F0 m 11 ls []) := by
    intro n
    induction n with
    | zero => intro x4_1 ls h; exact absurd h (hz11_1 _)
    | succ n ih11_1 =>
      intro x4_1 ls h hl
      have h := hs11_1 _ _ h
      refine lv_iload hx hb dX2_fitsMarks_11 (lv_at hl 3 rfl) ?_
      refine lv_aload_n hx hb dX2_fitsMarks_13 rfl (lv_at hl 2 rfl) ?_
      refine va_get (D := D) (ci := 5) (v := .int s_parish_marks_size) (C := RX6) (T := TX6) (N := 4) hx hb hts in_X6 hown hK hP 2 rfl rfl 3 (by decide) fl_29 (fun _ h9 => h9) rfl dX2_fitsMarks_14 ?_
      refine lv_icmp_ge (tgt := 71) hx hb dX2_fitsMarks_17 (by decide) (fun c_3 => ?_) (fun c_3 => ?_)
      · have h := h.1 c_3
        refine lv_iconst (v := 1) hx hb dX2_fitsMarks_71 (by decide) ?_
        exact hret _ _ _ bz1 h dX2_fitsMarks_72
      · have h := h.2 c_3
        refine lv_aload_n hx hb dX2_fitsMarks_20 rfl (lv_at hl 2 rfl) ?_
        refine lv_iload hx hb dX2_fitsMarks_21 (lv_at hl 3 rfl) ?_
        refine lv_iconst (v := 0) hx hb dX2_fitsMarks_23 (by decide) ?_
        refine st_callRI (st_runVR (n := 2) (As := [.int x4_1, .int 0]) (rest := []) (q0 := 0) F (co_Rw_at l D cy a_parish_marks a_parish_marks_numbers 24 s_parish_marks_width s_parish_marks_limit s_parish_marks_size s_parish_marks_numbers x4_1 0 _ h) gX2_fitsMarks_X6_at rfl (by decide +kernel) rfl hKK hP [2, 3] rfl rfl rfl rfl hl.1 rfl (Nat.le_of_ble_eq_true rfl) dX2_fitsMarks_24) (fun r_4 h => ?_)
        refine lv_iload_n hx hb dX2_fitsMarks_27 rfl (lv_at hl 0 rfl) ?_
        obtain ⟨J65, hJ65, h⟩ := jn0_ex h
        have kJ65_4 : ∀  (ls : Array Slot), J65 → lv_has ls 6 [(1, .int x1), (2, .int x2), (3, .ref a_parish_marks), (4, .int x4_1)] → W p l e rm_Gs_fitsMarks s m args below meth c s.heap [] 0 0 QQ (F0 m 65 ls []) := by
          intro  ls h hl
          have h := hJ65  h
          obtain ⟨x4_6, ex4_6⟩ : ∃ y : Int32, y = x4_1 + 1 := ⟨_, rfl⟩
          have h := h x4_6 ex4_6
          refine lv_iinc (v := x4_6) (lv' := [(4, .int x4_6), (1, .int x1), (2, .int x2), (3, .ref a_parish_marks)]) hx hb dX2_fitsMarks_65 hl (k := 3) rfl (by rw [ex4_6]; rfl) (by decide) rfl (fun ls hl => ?_)
          refine lv_goto (tgt := 11) hx hb dX2_fitsMarks_68 (by decide) ?_
          exact ih11_1 _ _ h (lv_sub hl [1, 2, 3, 0] rfl)
        refine lv_icmp_ne (tgt := 65) hx hb dX2_fitsMarks_28 (by decide) (fun c_7 => ?_) (fun c_7 => ?_)
        · have h := h.1 c_7
          exact kJ65_4  _ h (lv_sub hl [0, 1, 2, 3] rfl)
        · have h := h.2 c_7
          refine lv_iload_n hx hb dX2_fitsMarks_31 rfl (lv_at hl 1 rfl) ?_
          refine lv_aload_n hx hb dX2_fitsMarks_32 rfl (lv_at hl 2 rfl) ?_
          refine lv_iload hx hb dX2_fitsMarks_33 (lv_at hl 3 rfl) ?_
          refine lv_iconst (v := 1) hx hb dX2_fitsMarks_35 (by decide) ?_
          refine st_callRI (st_runVR (n := 2) (As := [.int x4_1, .int 1]) (rest := [.int x2]) (q0 := 0) F (co_Rw_at l D cy a_parish_marks a_parish_marks_numbers 24 s_parish_marks_width s_parish_marks_limit s_parish_marks_size s_parish_marks_numbers x4_1 1 _ h) gX2_fitsMarks_X6_at rfl (by decide +kernel) rfl hKK hP [2, 3] rfl rfl rfl rfl hl.1 rfl (Nat.le_of_ble_eq_true rfl) dX2_fitsMarks_36) (fun r_8 h => ?_)
          refine lv_aload_n hx hb dX2_fitsMarks_39 rfl (lv_at hl 2 rfl) ?_
          refine lv_iload hx hb dX2_fitsMarks_40 (lv_at hl 3 rfl) ?_
          refine lv_iconst (v := 2) hx hb dX2_fitsMarks_42 (by decide) ?_
          refine st_callRI (st_runVR (n := 2) (As := [.int x4_1, .int 2]) (rest := [.int r_8, .int x2]) (q0 := 0) F (co_Rw_at l D cy a_parish_marks a_parish_marks_numbers 24 s_parish_marks_width s_parish_marks_limit s_parish_marks_size s_parish_marks_numbers x4_1 2 _ h) gX2_fitsMarks_X6_at rfl (by decide +kernel) rfl hKK hP [2, 3] rfl rfl rfl rfl hl.1 rfl (Nat.le_of_ble_eq_true rfl) dX2_fitsMarks_43) (fun r_9 h => ?_)
          refine st_callRI (st_runSR (n := 3) (As := [.int x2, .int r_8, .int r_9]) (rest := []) F (co_Nt_loss l D cy x2 r_8 r_9 _ h) gX2_fitsMarks_X3_loss rfl (by decide +kernel) rfl hKK hP [] rfl rfl hl.1 rfl (Nat.le_of_ble_eq_true rfl) dX2_fitsMarks_46) (fun r_10 h => ?_)
          refine lv_istore (lv' := [(5, .int r_10), (1, .int x1), (2, .int x2), (3, .ref a_parish_marks), (4, .int x4_1)]) hx hb dX2_fitsMarks_49 hl (by decide) rfl (fun ls hl => ?_)
          refine lv_iload hx hb dX2_fitsMarks_51 (lv_at hl 0 rfl) ?_
          refine lv_aload_n hx hb dX2_fitsMarks_53 rfl (lv_at hl 3 rfl) ?_
          refine lv_iload hx hb dX2_fitsMarks_54 (lv_at hl 4 rfl) ?_
          refine lv_iconst (v := 3) hx hb dX2_fitsMarks_56 (by decide) ?_
          refine st_callRI (st_runVR (n := 2) (As := [.int x4_1, .int 3]) (rest := [.int r_10]) (q0 := 0) F (co_Rw_at l D cy a_parish_marks a_parish_marks_numbers 24 s_parish_marks_width s_parish_marks_limit s_parish_marks_size s_parish_marks_numbers x4_1 3 _ h) gX2_fitsMarks_X6_at rfl (by decide +kernel) rfl hKK hP [2, 3] rfl rfl rfl rfl hl.1 rfl (Nat.le_of_ble_eq_true rfl) dX2_fitsMarks_57) (fun r_11 h => ?_)
          refine lv_icmp_eq (tgt := 65) hx hb dX2_fitsMarks_60 (by decide) (fun c_12 => ?_) (fun c_12 => ?_)
          · have h := h.1 c_12
            exact kJ65_4  _ h (lv_sub hl [1, 2, 3, 4] rfl)
          · have h := h.2 c_12
            refine lv_iconst (v := 0) hx hb dX2_fitsMarks_63 (by decide) ?_
            exact hret _ _ _ bz0 h dX2_fitsMarks_64
  exact kT11_1 n11_1 _ _ h (lv_sub hl [3, 4, 1, 0] rfl)
