abbrev Wd_Fs_reckonLapses (cy : ClassId × ClassId × ClassId × ClassId) (a_this a_lapses a_parish a_parish_familyCell a_parish_familyKind a_parish_familyWill a_parish_flitchCell a_parish_flitchKind a_parish_flitchStrength a_taken a_wills a_cells a_smelling a_windy a_parish_familySide a_parish_past a_parish_sightings a_parish_notes a_parish_marks : Nat) (s_lapses : Nat → Int32) (s_parish_flitchCount : Int32) (s_parish_familyCount : Int32) (s_parish_hung : Int32) (s_parish_day : Int32) (s_parish_familyCell : Nat → Int32) (s_parish_familyKind : Nat → Int32) (s_parish_familyWill : Nat → Int32) (s_parish_flitchCell : Nat → Int32) (s_parish_flitchKind : Nat → Int32) (s_parish_flitchStrength : Nat → Int32) (s_taken : Nat → Int32) : va_W := [(a_this, .inr (1, [.ref a_parish, .ref a_taken, .ref a_lapses, .ref a_wills, .ref a_cells, .ref a_smelling, .ref a_windy])), (a_lapses, .inl (cy.2.1, 7, .inl s_lapses)), (a_parish, .inr (3, [.ref a_parish_flitchKind, .ref a_parish_flitchCell, .ref a_parish_flitchStrength, .ref a_parish_familyKind, .ref a_parish_familySide, .ref a_parish_familyCell, .ref a_parish_familyWill, .ref a_parish_past, .ref a_parish_sightings, .ref a_parish_notes, .ref a_parish_marks, .int s_parish_flitchCount, .int s_parish_familyCount, .int s_parish_hung, .int s_parish_day])), (a_parish_familyCell, .inl (cy.2.1, 7, .inl s_parish_familyCell)), (a_parish_familyKind, .inl (cy.2.1, 7, .inl s_parish_familyKind)), (a_parish_familyWill, .inl (cy.2.1, 7, .inl s_parish_familyWill)), (a_parish_flitchCell, .inl (cy.2.1, 3, .inl s_parish_flitchCell)), (a_parish_flitchKind, .inl (cy.2.1, 3, .inl s_parish_flitchKind)), (a_parish_flitchStrength, .inl (cy.2.1, 3, .inl s_parish_flitchStrength)), (a_taken, .inl (cy.2.1, 61, .inl s_taken))]
abbrev rm_Fs_reckonLapses : Room := { frames := 3, cells := 0, slots := 0, locals := 103 }
def wp_Fs_reckonLapses (x1 : Int32) (s_lapses : Nat → Int32) (s_parish_flitchCount : Int32) (s_parish_familyCount : Int32) (s_parish_hung : Int32) (s_parish_day : Int32) (s_parish_familyCell : Nat → Int32) (s_parish_familyKind : Nat → Int32) (s_parish_familyWill : Nat → Int32) (s_parish_flitchCell : Nat → Int32) (s_parish_flitchKind : Nat → Int32) (s_parish_flitchStrength : Nat → Int32) (s_taken : Nat → Int32) (Q : (Nat → Int32) → (Nat → Int32) → Prop) : Prop := ∃ n : Nat, lpw3 (fun (B2 : Int32 → (Nat → Int32) → (Nat → Int32) → Prop) (x2_1 : Int32) (s_lapses_2 : Nat → Int32) (s_taken_3 : Nat → Int32) => ((s_parish_familyCount ≤ x2_1 → Q s_lapses_2 s_taken_3) ∧ (¬ s_parish_familyCount ≤ x2_1 → vp_in x2_1 7 ∧ vp_in x2_1 7 ∧ wp_Fs_reckon (s_parish_familyKind (Int32.toNatClampNeg x2_1)) (s_parish_familyCell (Int32.toNatClampNeg x2_1)) s_parish_hung x1 s_parish_flitchCount s_parish_day s_parish_flitchCell s_parish_flitchKind s_parish_flitchStrength s_taken_3 (fun (s_taken_9 : Nat → Int32) => vp_in x2_1 7 ∧ wp_Fs_firstLapse (s_parish_familyWill (Int32.toNatClampNeg x2_1)) x1 s_taken_9 (fun (r_11 : Int32) => vp_in x2_1 7 ∧ ∀ s_lapses_13 : Nat → Int32, s_lapses_13 = upd s_lapses_2 (Int32.toNatClampNeg x2_1) r_11 → ∀ x2_14 : Int32, x2_14 = x2_1 + 1 → B2 x2_14 s_lapses_13 s_taken_9))))) n 0 s_lapses s_taken
set_option maxHeartbeats 4000000 in
set_option maxRecDepth 100000 in
theorem co_Fs_reckonLapses (l : Launch) (D : va_G) (cy : ClassId × ClassId × ClassId × ClassId) (a_this a_lapses a_parish a_parish_familyCell a_parish_familyKind a_parish_familyWill a_parish_flitchCell a_parish_flitchKind a_parish_flitchStrength a_taken a_wills a_cells a_smelling a_windy a_parish_familySide a_parish_past a_parish_sightings a_parish_notes a_parish_marks : Nat) (s_lapses : Nat → Int32) (s_parish_flitchCount : Int32) (s_parish_familyCount : Int32) (s_parish_hung : Int32) (s_parish_day : Int32) (s_parish_familyCell : Nat → Int32) (s_parish_familyKind : Nat → Int32) (s_parish_familyWill : Nat → Int32) (s_parish_flitchCell : Nat → Int32) (s_parish_flitchKind : Nat → Int32) (s_parish_flitchStrength : Nat → Int32) (s_taken : Nat → Int32) (x1 : Int32) (Q : (Nat → Int32) → (Nat → Int32) → Prop) (h : wp_Fs_reckonLapses x1 s_lapses s_parish_flitchCount s_parish_familyCount s_parish_hung s_parish_day s_parish_familyCell s_parish_familyKind s_parish_familyWill s_parish_flitchCell s_parish_flitchKind s_parish_flitchStrength s_taken Q) : CoV l yX1_reckonLapses wsX1_reckonLapses rm_Fs_reckonLapses D cy [.ref a_this, .int x1] (Wd_Fs_reckonLapses cy a_this a_lapses a_parish a_parish_familyCell a_parish_familyKind a_parish_familyWill a_parish_flitchCell a_parish_flitchKind a_parish_flitchStrength a_taken a_wills a_cells a_smelling a_windy a_parish_familySide a_parish_past a_parish_sightings a_parish_notes a_parish_marks s_lapses s_parish_flitchCount s_parish_familyCount s_parish_hung s_parish_day s_parish_familyCell s_parish_familyKind s_parish_familyWill s_parish_flitchCell s_parish_flitchKind s_parish_flitchStrength s_taken) (fun u : (Nat → Int32) × (Nat → Int32) => (Wd_Fs_reckonLapses cy a_this a_lapses a_parish a_parish_familyCell a_parish_familyKind a_parish_familyWill a_parish_flitchCell a_parish_flitchKind a_parish_flitchStrength a_taken a_wills a_cells a_smelling a_windy a_parish_familySide a_parish_past a_parish_sightings a_parish_notes a_parish_marks u.1 s_parish_flitchCount s_parish_familyCount s_parish_hung s_parish_day s_parish_familyCell s_parish_familyKind s_parish_familyWill s_parish_flitchCell s_parish_flitchKind s_parish_flitchStrength u.2)) (fun (u : (Nat → Int32) × (Nat → Int32)) => Q u.1 u.2) := by
  refine st_metV (cc := cX1_reckonLapses) (maxL := 3) RX1 (by decide) rfl rfl (Nat.le_of_ble_eq_true rfl) ?_
  intro p e s m args below meth c A QQ ls F hA hKK hP hD hS hl hret
  have hK := hKK.1
  have hnest := hKK.2.1
  have hx := F.1
  have hb := F.2.1
  have hown := F.2.2.2.1
  have hts := F.2.2.2.2
  have in_X1 : ∀ w ∈ u_ws RX1 TX1 7, w ∈ wsX1_reckonLapses := (fun _ h => List.mem_cons_of_mem _ (List.mem_append_left _ (List.mem_append_right _ h)))
  have in_X4 : ∀ w ∈ u_ws RX4 TX4 15, w ∈ wsX1_reckonLapses := (fun _ h => List.mem_cons_of_mem _ (List.mem_append_right _ h))
  have fl_15 := (hts (.fieldLink RX1 15 "RasherCase$Foresight" "lapses" "[I") (List.mem_of_getElem? (i := 6) rfl))
  have fl_30 := (hts (.fieldLink RX1 30 "RasherCase$Foresight" "parish" "LRasherCase$Parish;") (List.mem_of_getElem? (i := 1) rfl))
  have fl_49 := (hts (.fieldLink RX1 49 "RasherCase$Parish" "familyKind" "[I") (List.mem_of_getElem? (i := 3) rfl))
  have fl_52 := (hts (.fieldLink RX1 52 "RasherCase$Parish" "familyCell" "[I") (List.mem_of_getElem? (i := 4) rfl))
  have fl_55 := (hts (.fieldLink RX1 55 "RasherCase$Parish" "hung" "I") (List.mem_of_getElem? (i := 5) rfl))
  have fl_62 := (hts (.fieldLink RX1 62 "RasherCase$Parish" "familyWill" "[I") (List.mem_of_getElem? (i := 7) rfl))
  have fl_74 := (hts (.fieldLink RX1 74 "RasherCase$Parish" "familyCount" "I") (List.mem_of_getElem? (i := 2) rfl))
  have hl : lv_has ls 3 [(0, .ref a_this), (1, .int x1)] := hl
  unfold wp_Fs_reckonLapses at h
  refine lv_iconst (v := 0) hx hb dX1_reckonLapses_0 (by decide) ?_
  refine lv_istore_n (lv' := [(2, .int 0), (0, .ref a_this), (1, .int x1)]) hx hb dX1_reckonLapses_1 rfl hl (by decide) rfl (fun ls hl => ?_)
  obtain ⟨T2_3, hz2_3, hs2_3, n2_3, h⟩ := lpw3_use h
  have kT2_3 : ∀ (n : Nat) (x2_1 : Int32) (s_lapses_2 : Nat → Int32) (s_taken_3 : Nat → Int32) (H : Heap) (locs : List Loc) (ls : Array Slot), T2_3 n x2_1 s_lapses_2 s_taken_3 → va_P D vwCl (Wd_Fs_reckonLapses cy a_this a_lapses a_parish a_parish_familyCell a_parish_familyKind a_parish_familyWill a_parish_flitchCell a_parish_flitchKind a_parish_flitchStrength a_taken a_wills a_cells a_smelling a_windy a_parish_familySide a_parish_past a_parish_sightings a_parish_notes a_parish_marks s_lapses_2 s_parish_flitchCount s_parish_familyCount s_parish_hung s_parish_day s_parish_familyCell s_parish_familyKind s_parish_familyWill s_parish_flitchCell s_parish_flitchKind s_parish_flitchStrength s_taken_3) H → va_D A (Wd_Fs_reckonLapses cy a_this a_lapses a_parish a_parish_familyCell a_parish_familyKind a_parish_familyWill a_parish_flitchCell a_parish_flitchKind a_parish_flitchStrength a_taken a_wills a_cells a_smelling a_windy a_parish_familySide a_parish_past a_parish_sightings a_parish_notes a_parish_marks s_lapses_2 s_parish_flitchCount s_parish_familyCount s_parish_hung s_parish_day s_parish_familyCell s_parish_familyKind s_parish_familyWill s_parish_flitchCell s_parish_flitchKind s_parish_flitchStrength s_taken_3) → va_S A s.heap H locs → lv_has ls 3 [(0, .ref a_this), (1, .int x1), (2, .int x2_1)] → W p l e rm_Fs_reckonLapses s m args below meth c H locs 0 0 QQ (F0 m 2 ls []) := by
    intro n
    induction n with
    | zero => intro x2_1 s_lapses_2 s_taken_3 H locs ls h; exact absurd h (hz2_3 _ _ _)
    | succ n ih2_3 =>
      intro x2_1 s_lapses_2 s_taken_3 H locs ls h hP hD hS hl
      have h := hs2_3 _ _ _ _ h
      refine lv_iload_n hx hb dX1_reckonLapses_2 rfl (lv_at hl 2 rfl) ?_
      refine lv_aload_n hx hb dX1_reckonLapses_3 rfl (lv_at hl 0 rfl) ?_
      refine va_get (D := D) (ci := 1) (v := .ref a_parish) (C := RX1) (T := TX1) (N := 7) hx hb hts in_X1 hown hK hP 0 rfl rfl 0 (by decide) fl_30 (fun _ h9 => h9) rfl dX1_reckonLapses_4 ?_
      refine va_get (D := D) (ci := 3) (v := .int s_parish_familyCount) (C := RX4) (T := TX4) (N := 15) hx hb hts in_X4 hown hK hP 2 rfl rfl 12 (by decide) fl_74 (fun _ h9 => h9) rfl dX1_reckonLapses_7 ?_
      refine lv_icmp_ge (tgt := 69) hx hb dX1_reckonLapses_10 (by decide) (fun c_5 => ?_) (fun c_5 => ?_)
      · have h := h.1 c_5
        exact hret (s_lapses_2, s_taken_3) _ _ _ _ h hP hD hS dX1_reckonLapses_69
      · have h := h.2 c_5
        refine lv_aload_n hx hb dX1_reckonLapses_13 rfl (lv_at hl 0 rfl) ?_
        refine lv_aload_n hx hb dX1_reckonLapses_14 rfl (lv_at hl 0 rfl) ?_
        refine va_get (D := D) (ci := 1) (v := .ref a_parish) (C := RX1) (T := TX1) (N := 7) hx hb hts in_X1 hown hK hP 0 rfl rfl 0 (by decide) fl_30 (fun _ h9 => h9) rfl dX1_reckonLapses_15 ?_
        refine va_get (D := D) (ci := 3) (v := .ref a_parish_familyKind) (C := RX4) (T := TX4) (N := 15) hx hb hts in_X4 hown hK hP 2 rfl rfl 3 (by decide) fl_49 (fun _ h9 => h9) rfl dX1_reckonLapses_18 ?_
        refine lv_iload_n hx hb dX1_reckonLapses_21 rfl (lv_at hl 2 rfl) ?_
        obtain ⟨hi_6, h⟩ := h
        refine va_iald hx hb hK hP 4 1 rfl rfl hi_6 dX1_reckonLapses_22 ?_
        refine lv_aload_n hx hb dX1_reckonLapses_23 rfl (lv_at hl 0 rfl) ?_
        refine va_get (D := D) (ci := 1) (v := .ref a_parish) (C := RX1) (T := TX1) (N := 7) hx hb hts in_X1 hown hK hP 0 rfl rfl 0 (by decide) fl_30 (fun _ h9 => h9) rfl dX1_reckonLapses_24 ?_
        refine va_get (D := D) (ci := 3) (v := .ref a_parish_familyCell) (C := RX4) (T := TX4) (N := 15) hx hb hts in_X4 hown hK hP 2 rfl rfl 5 (by decide) fl_52 (fun _ h9 => h9) rfl dX1_reckonLapses_27 ?_
        refine lv_iload_n hx hb dX1_reckonLapses_30 rfl (lv_at hl 2 rfl) ?_
        obtain ⟨hi_7, h⟩ := h
        refine va_iald hx hb hK hP 3 1 rfl rfl hi_7 dX1_reckonLapses_31 ?_
        refine lv_aload_n hx hb dX1_reckonLapses_32 rfl (lv_at hl 0 rfl) ?_
        refine va_get (D := D) (ci := 1) (v := .ref a_parish) (C := RX1) (T := TX1) (N := 7) hx hb hts in_X1 hown hK hP 0 rfl rfl 0 (by decide) fl_30 (fun _ h9 => h9) rfl dX1_reckonLapses_33 ?_
        refine va_get (D := D) (ci := 3) (v := .int s_parish_hung) (C := RX4) (T := TX4) (N := 15) hx hb hts in_X4 hown hK hP 2 rfl rfl 13 (by decide) fl_55 (fun _ h9 => h9) rfl dX1_reckonLapses_36 ?_
        refine lv_iload_n hx hb dX1_reckonLapses_39 rfl (lv_at hl 1 rfl) ?_
        refine st_callV (WR := [1, 3, 4, 5].filterMap (fun i => (Wd_Fs_reckonLapses cy a_this a_lapses a_parish a_parish_familyCell a_parish_familyKind a_parish_familyWill a_parish_flitchCell a_parish_flitchKind a_parish_flitchStrength a_taken a_wills a_cells a_smelling a_windy a_parish_familySide a_parish_past a_parish_sightings a_parish_notes a_parish_marks s_lapses_2 s_parish_flitchCount s_parish_familyCount s_parish_hung s_parish_day s_parish_familyCell s_parish_familyKind s_parish_familyWill s_parish_flitchCell s_parish_flitchKind s_parish_flitchStrength s_taken_3)[i]?)) (WSn := fun u => (Wd_Fs_reckonLapses cy a_this a_lapses a_parish a_parish_familyCell a_parish_familyKind a_parish_familyWill a_parish_flitchCell a_parish_flitchKind a_parish_flitchStrength a_taken a_wills a_cells a_smelling a_windy a_parish_familySide a_parish_past a_parish_sightings a_parish_notes a_parish_marks s_lapses_2 s_parish_flitchCount s_parish_familyCount s_parish_hung s_parish_day s_parish_familyCell s_parish_familyKind s_parish_familyWill s_parish_flitchCell s_parish_flitchKind s_parish_flitchStrength u)) (st_runV (n := 4) (As := [.int (s_parish_familyKind (Int32.toNatClampNeg x2_1)), .int (s_parish_familyCell (Int32.toNatClampNeg x2_1)), .int s_parish_hung, .int x1]) (rest := []) (q0 := 0) F ((co_Fs_reckon l D cy a_this a_parish a_parish_flitchCell a_parish_flitchKind a_parish_flitchStrength a_taken a_lapses a_wills a_cells a_smelling a_windy a_parish_familyKind a_parish_familySide a_parish_familyCell a_parish_familyWill a_parish_past a_parish_sightings a_parish_notes a_parish_marks s_parish_flitchCount s_parish_familyCount s_parish_hung s_parish_day s_parish_flitchCell s_parish_flitchKind s_parish_flitchStrength s_taken_3 (s_parish_familyKind (Int32.toNatClampNeg x2_1)) (s_parish_familyCell (Int32.toNatClampNeg x2_1)) s_parish_hung x1 _ h) _) rfl gX1_reckonLapses_X1_reckon rfl (by decide +kernel) rfl hKK hP hD [0, 2, 6, 7, 8, 9] rfl rfl rfl rfl rfl hl.1 rfl (Nat.le_of_ble_eq_true rfl) dX1_reckonLapses_40) hP hD hS hA [0, 2, 6, 7, 8, 9] [1, 3, 4, 5] [4, 0, 5, 1, 2, 3, 6, 7, 8, 9] rfl rfl rfl (fun _ => rfl) (fun u H locs h hP hD hS => ?_)
        obtain ⟨s_taken_9, rfl⟩ : ∃ z, z = u := ⟨_, rfl⟩
        have hP : va_P D vwCl (Wd_Fs_reckonLapses cy a_this a_lapses a_parish a_parish_familyCell a_parish_familyKind a_parish_familyWill a_parish_flitchCell a_parish_flitchKind a_parish_flitchStrength a_taken a_wills a_cells a_smelling a_windy a_parish_familySide a_parish_past a_parish_sightings a_parish_notes a_parish_marks s_lapses_2 s_parish_flitchCount s_parish_familyCount s_parish_hung s_parish_day s_parish_familyCell s_parish_familyKind s_parish_familyWill s_parish_flitchCell s_parish_flitchKind s_parish_flitchStrength s_taken_9) H := hP
        have hD : va_D A (Wd_Fs_reckonLapses cy a_this a_lapses a_parish a_parish_familyCell a_parish_familyKind a_parish_familyWill a_parish_flitchCell a_parish_flitchKind a_parish_flitchStrength a_taken a_wills a_cells a_smelling a_windy a_parish_familySide a_parish_past a_parish_sightings a_parish_notes a_parish_marks s_lapses_2 s_parish_flitchCount s_parish_familyCount s_parish_hung s_parish_day s_parish_familyCell s_parish_familyKind s_parish_familyWill s_parish_flitchCell s_parish_flitchKind s_parish_flitchStrength s_taken_9) := hD
        refine lv_aload_n hx hb dX1_reckonLapses_43 rfl (lv_at hl 0 rfl) ?_
        refine va_get (D := D) (ci := 1) (v := .ref a_lapses) (C := RX1) (T := TX1) (N := 7) hx hb hts in_X1 hown hK hP 0 rfl rfl 2 (by decide) fl_15 (fun _ h9 => h9) rfl dX1_reckonLapses_44 ?_
        refine lv_iload_n hx hb dX1_reckonLapses_47 rfl (lv_at hl 2 rfl) ?_
        refine lv_aload_n hx hb dX1_reckonLapses_48 rfl (lv_at hl 0 rfl) ?_
        refine lv_aload_n hx hb dX1_reckonLapses_49 rfl (lv_at hl 0 rfl) ?_
        refine va_get (D := D) (ci := 1) (v := .ref a_parish) (C := RX1) (T := TX1) (N := 7) hx hb hts in_X1 hown hK hP 0 rfl rfl 0 (by decide) fl_30 (fun _ h9 => h9) rfl dX1_reckonLapses_50 ?_
        refine va_get (D := D) (ci := 3) (v := .ref a_parish_familyWill) (C := RX4) (T := TX4) (N := 15) hx hb hts in_X4 hown hK hP 2 rfl rfl 6 (by decide) fl_62 (fun _ h9 => h9) rfl dX1_reckonLapses_53 ?_
        refine lv_iload_n hx hb dX1_reckonLapses_56 rfl (lv_at hl 2 rfl) ?_
        obtain ⟨hi_10, h⟩ := h
        refine va_iald hx hb hK hP 5 1 rfl rfl hi_10 dX1_reckonLapses_57 ?_
        refine lv_iload_n hx hb dX1_reckonLapses_58 rfl (lv_at hl 1 rfl) ?_
        refine st_callRI (st_runVR (n := 2) (As := [.int (s_parish_familyWill (Int32.toNatClampNeg x2_1)), .int x1]) (rest := [.int x2_1, .ref a_lapses]) (q0 := 0) F (co_Fs_firstLapse l D cy a_this a_taken a_parish a_lapses a_wills a_cells a_smelling a_windy s_taken_9 (s_parish_familyWill (Int32.toNatClampNeg x2_1)) x1 _ h) gX1_reckonLapses_X1_firstLapse rfl (by decide +kernel) rfl hKK hP [0, 9] rfl rfl rfl rfl hl.1 rfl (Nat.le_of_ble_eq_true rfl) dX1_reckonLapses_59) (fun r_11 h => ?_)
        obtain ⟨hi_12, h⟩ := h
        refine va_iast hx hb hK hP hD hS 1 1 rfl rfl hi_12 dX1_reckonLapses_62 (fun H locs hP hD hS => ?_)
        obtain ⟨s_lapses_13, es_lapses_13⟩ : ∃ f : Nat → Int32, f = upd s_lapses_2 (Int32.toNatClampNeg x2_1) r_11 := ⟨_, rfl⟩
        have hP : va_P D vwCl (Wd_Fs_reckonLapses cy a_this a_lapses a_parish a_parish_familyCell a_parish_familyKind a_parish_familyWill a_parish_flitchCell a_parish_flitchKind a_parish_flitchStrength a_taken a_wills a_cells a_smelling a_windy a_parish_familySide a_parish_past a_parish_sightings a_parish_notes a_parish_marks s_lapses_13 s_parish_flitchCount s_parish_familyCount s_parish_hung s_parish_day s_parish_familyCell s_parish_familyKind s_parish_familyWill s_parish_flitchCell s_parish_flitchKind s_parish_flitchStrength s_taken_9) H := by rw [es_lapses_13]; exact hP
        have hD : va_D A (Wd_Fs_reckonLapses cy a_this a_lapses a_parish a_parish_familyCell a_parish_familyKind a_parish_familyWill a_parish_flitchCell a_parish_flitchKind a_parish_flitchStrength a_taken a_wills a_cells a_smelling a_windy a_parish_familySide a_parish_past a_parish_sightings a_parish_notes a_parish_marks s_lapses_13 s_parish_flitchCount s_parish_familyCount s_parish_hung s_parish_day s_parish_familyCell s_parish_familyKind s_parish_familyWill s_parish_flitchCell s_parish_flitchKind s_parish_flitchStrength s_taken_9) := by rw [es_lapses_13]; exact hD
        have h := h s_lapses_13 es_lapses_13
        obtain ⟨x2_14, ex2_14⟩ : ∃ y : Int32, y = x2_1 + 1 := ⟨_, rfl⟩
        have h := h x2_14 ex2_14
        refine lv_iinc (v := x2_14) (lv' := [(2, .int x2_14), (0, .ref a_this), (1, .int x1)]) hx hb dX1_reckonLapses_63 hl (k := 2) rfl (by rw [ex2_14]; rfl) (by decide) rfl (fun ls hl => ?_)
        refine lv_goto (tgt := 2) hx hb dX1_reckonLapses_66 (by decide) ?_
        exact ih2_3 _ _ _ _ _ _ h hP hD hS (lv_sub hl [1, 2, 0] rfl)
  exact kT2_3 n2_3 _ _ _ _ _ _ h hP hD hS (lv_sub hl [1, 2, 0] rfl)
abbrev Wd_Fs_holdingSides (cy : ClassId × ClassId × ClassId × ClassId) (a_this a_lapses a_parish a_parish_familySide a_taken a_wills a_cells a_smelling a_windy a_parish_flitchKind a_parish_flitchCell a_parish_flitchStrength a_parish_familyKind a_parish_familyCell a_parish_familyWill a_parish_past a_parish_sightings a_parish_notes a_parish_marks : Nat) (s_lapses : Nat → Int32) (s_parish_flitchCount : Int32) (s_parish_familyCount : Int32) (s_parish_hung : Int32) (s_parish_day : Int32) (s_parish_familySide : Nat → Int32) : va_W := [(a_this, .inr (1, [.ref a_parish, .ref a_taken, .ref a_lapses, .ref a_wills, .ref a_cells, .ref a_smelling, .ref a_windy])), (a_lapses, .inl (cy.2.1, 7, .inl s_lapses)), (a_parish, .inr (3, [.ref a_parish_flitchKind, .ref a_parish_flitchCell, .ref a_parish_flitchStrength, .ref a_parish_familyKind, .ref a_parish_familySide, .ref a_parish_familyCell, .ref a_parish_familyWill, .ref a_parish_past, .ref a_parish_sightings, .ref a_parish_notes, .ref a_parish_marks, .int s_parish_flitchCount, .int s_parish_familyCount, .int s_parish_hung, .int s_parish_day])), (a_parish_familySide, .inl (cy.2.1, 7, .inl s_parish_familySide))]
abbrev rm_Fs_holdingSides : Room := { frames := 0, cells := 0, slots := 0, locals := 0 }
def wp_Fs_holdingSides (x1 : Int32) (s_lapses : Nat → Int32) (s_parish_familyCount : Int32) (s_parish_familySide : Nat → Int32) (Q : Int32 → Prop) : Prop := ∃ n : Nat, lpw2 (fun (B4 : Int32 → Int32 → Prop) (x2_1 : Int32) (x3_2 : Int32) => ((s_parish_familyCount ≤ x3_2 → Q x2_1) ∧ (¬ s_parish_familyCount ≤ x3_2 → vp_in x3_2 7 ∧ jn1 (fun (J49 : Int32 → Prop) => jn0 (fun (J35 : Prop) => (((s_lapses (Int32.toNatClampNeg x3_2)) = (-1) → J35) ∧ (¬ (s_lapses (Int32.toNatClampNeg x3_2)) = (-1) → vp_in x3_2 7 ∧ (((s_lapses (Int32.toNatClampNeg x3_2)) ≤ x1 → J49 x2_1) ∧ (¬ (s_lapses (Int32.toNatClampNeg x3_2)) ≤ x1 → J35))))) (vp_in x3_2 7 ∧ ∀ x2_11 : Int32, x2_11 = (x2_1 ||| (ishl 1 (s_parish_familySide (Int32.toNatClampNeg x3_2)))) → J49 x2_11)) (fun (x2_6 : Int32) => ∀ x3_8 : Int32, x3_8 = x3_2 + 1 → B4 x2_6 x3_8)))) n 0 0
set_option maxHeartbeats 4000000 in
set_option maxRecDepth 100000 in
theorem co_Fs_holdingSides (l : Launch) (D : va_G) (cy : ClassId × ClassId × ClassId × ClassId) (a_this a_lapses a_parish a_parish_familySide a_taken a_wills a_cells a_smelling a_windy a_parish_flitchKind a_parish_flitchCell a_parish_flitchStrength a_parish_familyKind a_parish_familyCell a_parish_familyWill a_parish_past a_parish_sightings a_parish_notes a_parish_marks : Nat) (s_lapses : Nat → Int32) (s_parish_flitchCount : Int32) (s_parish_familyCount : Int32) (s_parish_hung : Int32) (s_parish_day : Int32) (s_parish_familySide : Nat → Int32) (x1 : Int32) (Q : Int32 → Prop) (h : wp_Fs_holdingSides x1 s_lapses s_parish_familyCount s_parish_familySide Q) : RoI l yX1_holdingSides wsX1_holdingSides rm_Fs_holdingSides D cy [.ref a_this, .int x1] (Wd_Fs_holdingSides cy a_this a_lapses a_parish a_parish_familySide a_taken a_wills a_cells a_smelling a_windy a_parish_flitchKind a_parish_flitchCell a_parish_flitchStrength a_parish_familyKind a_parish_familyCell a_parish_familyWill a_parish_past a_parish_sightings a_parish_notes a_parish_marks s_lapses s_parish_flitchCount s_parish_familyCount s_parish_hung s_parish_day s_parish_familySide) Q := by
  refine st_metRI (cc := cX1_holdingSides) (maxL := 4) RX1 (by decide) rfl rfl (Nat.le_of_ble_eq_true rfl) ?_
  intro p e s m args below meth c QQ ls F hKK hP hl hret
  have hK := hKK.1
  have hnest := hKK.2.1
  have hx := F.1
  have hb := F.2.1
  have hown := F.2.2.2.1
  have hts := F.2.2.2.2
  have in_X1 : ∀ w ∈ u_ws RX1 TX1 7, w ∈ wsX1_holdingSides := (fun _ h => List.mem_cons_of_mem _ (List.mem_append_left _ (List.mem_append_right _ h)))
  have in_X4 : ∀ w ∈ u_ws RX4 TX4 15, w ∈ wsX1_holdingSides := (fun _ h => List.mem_cons_of_mem _ (List.mem_append_right _ h))
  have fl_15 := (hts (.fieldLink RX1 15 "RasherCase$Foresight" "lapses" "[I") (List.mem_of_getElem? (i := 3) rfl))
  have fl_30 := (hts (.fieldLink RX1 30 "RasherCase$Foresight" "parish" "LRasherCase$Parish;") (List.mem_of_getElem? (i := 1) rfl))
  have fl_74 := (hts (.fieldLink RX1 74 "RasherCase$Parish" "familyCount" "I") (List.mem_of_getElem? (i := 2) rfl))
  have fl_77 := (hts (.fieldLink RX1 77 "RasherCase$Parish" "familySide" "[I") (List.mem_of_getElem? (i := 4) rfl))
  have hl : lv_has ls 4 [(0, .ref a_this), (1, .int x1)] := hl
  unfold wp_Fs_holdingSides at h
  refine lv_iconst (v := 0) hx hb dX1_holdingSides_0 (by decide) ?_
  refine lv_istore_n (lv' := [(2, .int 0), (0, .ref a_this), (1, .int x1)]) hx hb dX1_holdingSides_1 rfl hl (by decide) rfl (fun ls hl => ?_)
  refine lv_iconst (v := 0) hx hb dX1_holdingSides_2 (by decide) ?_
  refine lv_istore_n (lv' := [(3, .int 0), (2, .int 0), (0, .ref a_this), (1, .int x1)]) hx hb dX1_holdingSides_3 rfl hl (by decide) rfl (fun ls hl => ?_)
  obtain ⟨T4_2, hz4_2, hs4_2, n4_2, h⟩ := lpw2_use h
  have kT4_2 : ∀ (n : Nat) (x2_1 : Int32) (x3_2 : Int32) (ls : Array Slot), T4_2 n x2_1 x3_2 → lv_has ls 4 [(0, .ref a_this), (1, .int x1), (2, .int x2_1), (3, .int x3_2)] → W p l e rm_Fs_holdingSides s m args below meth c s.heap [] 0 0 QQ (F0 m 4 ls []) := by
    intro n
    induction n with
    | zero => intro x2_1 x3_2 ls h; exact absurd h (hz4_2 _ _)
    | succ n ih4_2 =>
      intro x2_1 x3_2 ls h hl
      have h := hs4_2 _ _ _ h
      refine lv_iload_n hx hb dX1_holdingSides_4 rfl (lv_at hl 3 rfl) ?_
      refine lv_aload_n hx hb dX1_holdingSides_5 rfl (lv_at hl 0 rfl) ?_
      refine va_get (D := D) (ci := 1) (v := .ref a_parish) (C := RX1) (T := TX1) (N := 7) hx hb hts in_X1 hown hK hP 0 rfl rfl 0 (by decide) fl_30 (fun _ h9 => h9) rfl dX1_holdingSides_6 ?_
      refine va_get (D := D) (ci := 3) (v := .int s_parish_familyCount) (C := RX4) (T := TX4) (N := 15) hx hb hts in_X4 hown hK hP 2 rfl rfl 12 (by decide) fl_74 (fun _ h9 => h9) rfl dX1_holdingSides_9 ?_
      refine lv_icmp_ge (tgt := 55) hx hb dX1_holdingSides_12 (by decide) (fun c_4 => ?_) (fun c_4 => ?_)
      · have h := h.1 c_4
        refine lv_iload_n hx hb dX1_holdingSides_55 rfl (lv_at hl 2 rfl) ?_
        exact hret _ _ _ h dX1_holdingSides_56
      · have h := h.2 c_4
        refine lv_aload_n hx hb dX1_holdingSides_15 rfl (lv_at hl 0 rfl) ?_
        refine va_get (D := D) (ci := 1) (v := .ref a_lapses) (C := RX1) (T := TX1) (N := 7) hx hb hts in_X1 hown hK hP 0 rfl rfl 2 (by decide) fl_15 (fun _ h9 => h9) rfl dX1_holdingSides_16 ?_
        refine lv_iload_n hx hb dX1_holdingSides_19 rfl (lv_at hl 3 rfl) ?_
        obtain ⟨hi_5, h⟩ := h
        refine va_iald hx hb hK hP 1 1 rfl rfl hi_5 dX1_holdingSides_20 ?_
        refine lv_iconst (v := (-1)) hx hb dX1_holdingSides_21 (by decide) ?_
        obtain ⟨J49, hJ49, h⟩ := jn1_ex h
        have kJ49_6 : ∀ (x2_6 : Int32) (ls : Array Slot), J49 x2_6 → lv_has ls 4 [(0, .ref a_this), (1, .int x1), (2, .int x2_6), (3, .int x3_2)] → W p l e rm_Fs_holdingSides s m args below meth c s.heap [] 0 0 QQ (F0 m 49 ls []) := by
          intro x2_6 ls h hl
          have h := hJ49 _ h
          obtain ⟨x3_8, ex3_8⟩ : ∃ y : Int32, y = x3_2 + 1 := ⟨_, rfl⟩
          have h := h x3_8 ex3_8
          refine lv_iinc (v := x3_8) (lv' := [(3, .int x3_8), (0, .ref a_this), (1, .int x1), (2, .int x2_6)]) hx hb dX1_holdingSides_49 hl (k := 3) rfl (by rw [ex3_8]; rfl) (by decide) rfl (fun ls hl => ?_)
          refine lv_goto (tgt := 4) hx hb dX1_holdingSides_52 (by decide) ?_
          exact ih4_2 _ _ _ h (lv_sub hl [1, 2, 3, 0] rfl)
        obtain ⟨J35, hJ35, h⟩ := jn0_ex h
        have kJ35_8 : ∀  (ls : Array Slot), J35 → lv_has ls 4 [(0, .ref a_this), (1, .int x1), (2, .int x2_1), (3, .int x3_2)] → W p l e rm_Fs_holdingSides s m args below meth c s.heap [] 0 0 QQ (F0 m 35 ls []) := by
          intro  ls h hl
          have h := hJ35  h
          refine lv_iload_n hx hb dX1_holdingSides_35 rfl (lv_at hl 2 rfl) ?_
          refine lv_iconst (v := 1) hx hb dX1_holdingSides_36 (by decide) ?_
          refine lv_aload_n hx hb dX1_holdingSides_37 rfl (lv_at hl 0 rfl) ?_
          refine va_get (D := D) (ci := 1) (v := .ref a_parish) (C := RX1) (T := TX1) (N := 7) hx hb hts in_X1 hown hK hP 0 rfl rfl 0 (by decide) fl_30 (fun _ h9 => h9) rfl dX1_holdingSides_38 ?_
          refine va_get (D := D) (ci := 3) (v := .ref a_parish_familySide) (C := RX4) (T := TX4) (N := 15) hx hb hts in_X4 hown hK hP 2 rfl rfl 4 (by decide) fl_77 (fun _ h9 => h9) rfl dX1_holdingSides_41 ?_
          refine lv_iload_n hx hb dX1_holdingSides_44 rfl (lv_at hl 3 rfl) ?_
          obtain ⟨hi_10, h⟩ := h
          refine va_iald hx hb hK hP 3 1 rfl rfl hi_10 dX1_holdingSides_45 ?_
          refine lv_ishl hx hb dX1_holdingSides_46 ?_
          refine lv_ior hx hb dX1_holdingSides_47 ?_
          refine lv_topi (fun x2_11 ex2_11 => ?_)
          have h := h x2_11 ex2_11
          refine lv_istore_n (lv' := [(2, .int x2_11), (0, .ref a_this), (1, .int x1), (3, .int x3_2)]) hx hb dX1_holdingSides_48 rfl hl (by decide) rfl (fun ls hl => ?_)
          exact kJ49_6 _ _ h (lv_sub hl [1, 2, 0, 3] rfl)
        refine lv_icmp_eq (tgt := 35) hx hb dX1_holdingSides_22 (by decide) (fun c_12 => ?_) (fun c_12 => ?_)
        · have h := h.1 c_12
          exact kJ35_8  _ h (lv_sub hl [0, 1, 2, 3] rfl)
        · have h := h.2 c_12
          refine lv_aload_n hx hb dX1_holdingSides_25 rfl (lv_at hl 0 rfl) ?_
          refine va_get (D := D) (ci := 1) (v := .ref a_lapses) (C := RX1) (T := TX1) (N := 7) hx hb hts in_X1 hown hK hP 0 rfl rfl 2 (by decide) fl_15 (fun _ h9 => h9) rfl dX1_holdingSides_26 ?_
          refine lv_iload_n hx hb dX1_holdingSides_29 rfl (lv_at hl 3 rfl) ?_
          obtain ⟨hi_13, h⟩ := h
          refine va_iald hx hb hK hP 1 1 rfl rfl hi_13 dX1_holdingSides_30 ?_
          refine lv_iload_n hx hb dX1_holdingSides_31 rfl (lv_at hl 1 rfl) ?_
          refine lv_icmp_le (tgt := 49) hx hb dX1_holdingSides_32 (by decide) (fun c_14 => ?_) (fun c_14 => ?_)
          · have h := h.1 c_14
            exact kJ49_6 _ _ h (lv_sub hl [0, 1, 2, 3] rfl)
          · have h := h.2 c_14
            exact kJ35_8  _ h (lv_sub hl [0, 1, 2, 3] rfl)
  exact kT4_2 n4_2 _ _ _ h (lv_sub hl [2, 3, 1, 0] rfl)
abbrev Wd_Fs_rightAfter (cy : ClassId × ClassId × ClassId × ClassId) (a_this a_lapses a_parish a_parish_familyCell a_parish_familyKind a_parish_familySide a_parish_familyWill a_parish_flitchCell a_parish_flitchKind a_parish_flitchStrength a_taken a_wills a_cells a_smelling a_windy a_parish_past a_parish_sightings a_parish_notes a_parish_marks : Nat) (s_lapses : Nat → Int32) (s_parish_flitchCount : Int32) (s_parish_familyCount : Int32) (s_parish_hung : Int32) (s_parish_day : Int32) (s_parish_familyCell : Nat → Int32) (s_parish_familyKind : Nat → Int32) (s_parish_familySide : Nat → Int32) (s_parish_familyWill : Nat → Int32) (s_parish_flitchCell : Nat → Int32) (s_parish_flitchKind : Nat → Int32) (s_parish_flitchStrength : Nat → Int32) (s_taken : Nat → Int32) : va_W := [(a_this, .inr (1, [.ref a_parish, .ref a_taken, .ref a_lapses, .ref a_wills, .ref a_cells, .ref a_smelling, .ref a_windy])), (a_lapses, .inl (cy.2.1, 7, .inl s_lapses)), (a_parish, .inr (3, [.ref a_parish_flitchKind, .ref a_parish_flitchCell, .ref a_parish_flitchStrength, .ref a_parish_familyKind, .ref a_parish_familySide, .ref a_parish_familyCell, .ref a_parish_familyWill, .ref a_parish_past, .ref a_parish_sightings, .ref a_parish_notes, .ref a_parish_marks, .int s_parish_flitchCount, .int s_parish_familyCount, .int s_parish_hung, .int s_parish_day])), (a_parish_familyCell, .inl (cy.2.1, 7, .inl s_parish_familyCell)), (a_parish_familyKind, .inl (cy.2.1, 7, .inl s_parish_familyKind)), (a_parish_familySide, .inl (cy.2.1, 7, .inl s_parish_familySide)), (a_parish_familyWill, .inl (cy.2.1, 7, .inl s_parish_familyWill)), (a_parish_flitchCell, .inl (cy.2.1, 3, .inl s_parish_flitchCell)), (a_parish_flitchKind, .inl (cy.2.1, 3, .inl s_parish_flitchKind)), (a_parish_flitchStrength, .inl (cy.2.1, 3, .inl s_parish_flitchStrength)), (a_taken, .inl (cy.2.1, 61, .inl s_taken))]
abbrev rm_Fs_rightAfter : Room := { frames := 4, cells := 0, slots := 0, locals := 125 }
def wp_Fs_rightAfter (x1 : Int32) (s_lapses : Nat → Int32) (s_parish_flitchCount : Int32) (s_parish_familyCount : Int32) (s_parish_hung : Int32) (s_parish_day : Int32) (s_parish_familyCell : Nat → Int32) (s_parish_familyKind : Nat → Int32) (s_parish_familySide : Nat → Int32) (s_parish_familyWill : Nat → Int32) (s_parish_flitchCell : Nat → Int32) (s_parish_flitchKind : Nat → Int32) (s_parish_flitchStrength : Nat → Int32) (s_taken : Nat → Int32) (Q : Int32 → (Nat → Int32) → (Nat → Int32) → Prop) : Prop := wp_Fs_reckonLapses x1 s_lapses s_parish_flitchCount s_parish_familyCount s_parish_hung s_parish_day s_parish_familyCell s_parish_familyKind s_parish_familyWill s_parish_flitchCell s_parish_flitchKind s_parish_flitchStrength s_taken (fun (s_lapses_2 : Nat → Int32) (s_taken_3 : Nat → Int32) => wp_Fs_holdingSides x1 s_lapses_2 s_parish_familyCount s_parish_familySide (fun (r_4 : Int32) => ((¬ r_4 = 1 → ((¬ r_4 = 2 → Q (-1) s_lapses_2 s_taken_3) ∧ (r_4 = 2 → Q 1 s_lapses_2 s_taken_3))) ∧ (r_4 = 1 → Q 0 s_lapses_2 s_taken_3))))
set_option maxHeartbeats 4000000 in
set_option maxRecDepth 100000 in
theorem co_Fs_rightAfter (l : Launch) (D : va_G) (cy : ClassId × ClassId × ClassId × ClassId) (a_this a_lapses a_parish a_parish_familyCell a_parish_familyKind a_parish_familySide a_parish_familyWill a_parish_flitchCell a_parish_flitchKind a_parish_flitchStrength a_taken a_wills a_cells a_smelling a_windy a_parish_past a_parish_sightings a_parish_notes a_parish_marks : Nat) (s_lapses : Nat → Int32) (s_parish_flitchCount : Int32) (s_parish_familyCount : Int32) (s_parish_hung : Int32) (s_parish_day : Int32) (s_parish_familyCell : Nat → Int32) (s_parish_familyKind : Nat → Int32) (s_parish_familySide : Nat → Int32) (s_parish_familyWill : Nat → Int32) (s_parish_flitchCell : Nat → Int32) (s_parish_flitchKind : Nat → Int32) (s_parish_flitchStrength : Nat → Int32) (s_taken : Nat → Int32) (x1 : Int32) (Q : Int32 → (Nat → Int32) → (Nat → Int32) → Prop) (h : wp_Fs_rightAfter x1 s_lapses s_parish_flitchCount s_parish_familyCount s_parish_hung s_parish_day s_parish_familyCell s_parish_familyKind s_parish_familySide s_parish_familyWill s_parish_flitchCell s_parish_flitchKind s_parish_flitchStrength s_taken Q) : CoI l yX1_rightAfter wsX1_rightAfter rm_Fs_rightAfter D cy [.ref a_this, .int x1] (Wd_Fs_rightAfter cy a_this a_lapses a_parish a_parish_familyCell a_parish_familyKind a_parish_familySide a_parish_familyWill a_parish_flitchCell a_parish_flitchKind a_parish_flitchStrength a_taken a_wills a_cells a_smelling a_windy a_parish_past a_parish_sightings a_parish_notes a_parish_marks s_lapses s_parish_flitchCount s_parish_familyCount s_parish_hung s_parish_day s_parish_familyCell s_parish_familyKind s_parish_familySide s_parish_familyWill s_parish_flitchCell s_parish_flitchKind s_parish_flitchStrength s_taken) (fun u : (Nat → Int32) × (Nat → Int32) => (Wd_Fs_rightAfter cy a_this a_lapses a_parish a_parish_familyCell a_parish_familyKind a_parish_familySide a_parish_familyWill a_parish_flitchCell a_parish_flitchKind a_parish_flitchStrength a_taken a_wills a_cells a_smelling a_windy a_parish_past a_parish_sightings a_parish_notes a_parish_marks u.1 s_parish_flitchCount s_parish_familyCount s_parish_hung s_parish_day s_parish_familyCell s_parish_familyKind s_parish_familySide s_parish_familyWill s_parish_flitchCell s_parish_flitchKind s_parish_flitchStrength u.2)) (fun (r : Int32) (u : (Nat → Int32) × (Nat → Int32)) => Q r u.1 u.2) := by
  refine st_metI (cc := cX1_rightAfter) (maxL := 3) RX1 (by decide) rfl rfl (Nat.le_of_ble_eq_true rfl) ?_
  intro p e s m args below meth c A QQ ls F hA hKK hP hD hS hl hret
  have hK := hKK.1
  have hnest := hKK.2.1
  have hx := F.1
  have hb := F.2.1
  have hown := F.2.2.2.1
  have hts := F.2.2.2.2
  have hl : lv_has ls 3 [(0, .ref a_this), (1, .int x1)] := hl
  unfold wp_Fs_rightAfter at h
  refine lv_aload_n hx hb dX1_rightAfter_0 rfl (lv_at hl 0 rfl) ?_
  refine lv_iload_n hx hb dX1_rightAfter_1 rfl (lv_at hl 1 rfl) ?_
  refine st_callV (WR := [5].filterMap (fun i => (Wd_Fs_rightAfter cy a_this a_lapses a_parish a_parish_familyCell a_parish_familyKind a_parish_familySide a_parish_familyWill a_parish_flitchCell a_parish_flitchKind a_parish_flitchStrength a_taken a_wills a_cells a_smelling a_windy a_parish_past a_parish_sightings a_parish_notes a_parish_marks s_lapses s_parish_flitchCount s_parish_familyCount s_parish_hung s_parish_day s_parish_familyCell s_parish_familyKind s_parish_familySide s_parish_familyWill s_parish_flitchCell s_parish_flitchKind s_parish_flitchStrength s_taken)[i]?)) (WSn := fun u => (Wd_Fs_rightAfter cy a_this a_lapses a_parish a_parish_familyCell a_parish_familyKind a_parish_familySide a_parish_familyWill a_parish_flitchCell a_parish_flitchKind a_parish_flitchStrength a_taken a_wills a_cells a_smelling a_windy a_parish_past a_parish_sightings a_parish_notes a_parish_marks u.1 s_parish_flitchCount s_parish_familyCount s_parish_hung s_parish_day s_parish_familyCell s_parish_familyKind s_parish_familySide s_parish_familyWill s_parish_flitchCell s_parish_flitchKind s_parish_flitchStrength u.2)) (st_runV (n := 1) (As := [.int x1]) (rest := []) (q0 := 0) F ((co_Fs_reckonLapses l D cy a_this a_lapses a_parish a_parish_familyCell a_parish_familyKind a_parish_familyWill a_parish_flitchCell a_parish_flitchKind a_parish_flitchStrength a_taken a_wills a_cells a_smelling a_windy a_parish_familySide a_parish_past a_parish_sightings a_parish_notes a_parish_marks s_lapses s_parish_flitchCount s_parish_familyCount s_parish_hung s_parish_day s_parish_familyCell s_parish_familyKind s_parish_familyWill s_parish_flitchCell s_parish_flitchKind s_parish_flitchStrength s_taken x1 _ h) _) rfl gX1_rightAfter_X1_reckonLapses rfl (by decide +kernel) rfl hKK hP hD [0, 1, 2, 3, 4, 6, 7, 8, 9, 10] rfl rfl rfl rfl rfl hl.1 rfl (Nat.le_of_ble_eq_true rfl) dX1_rightAfter_2) hP hD hS hA [0, 1, 2, 3, 4, 6, 7, 8, 9, 10] [5] [1, 2, 3, 4, 5, 0, 6, 7, 8, 9, 10] rfl rfl rfl (fun _ => rfl) (fun u H locs h hP hD hS => ?_)
  obtain ⟨s_lapses_2, s_taken_3⟩ := u
  dsimp only at h hP hD
  have hP : va_P D vwCl (Wd_Fs_rightAfter cy a_this a_lapses a_parish a_parish_familyCell a_parish_familyKind a_parish_familySide a_parish_familyWill a_parish_flitchCell a_parish_flitchKind a_parish_flitchStrength a_taken a_wills a_cells a_smelling a_windy a_parish_past a_parish_sightings a_parish_notes a_parish_marks s_lapses_2 s_parish_flitchCount s_parish_familyCount s_parish_hung s_parish_day s_parish_familyCell s_parish_familyKind s_parish_familySide s_parish_familyWill s_parish_flitchCell s_parish_flitchKind s_parish_flitchStrength s_taken_3) H := hP
  have hD : va_D A (Wd_Fs_rightAfter cy a_this a_lapses a_parish a_parish_familyCell a_parish_familyKind a_parish_familySide a_parish_familyWill a_parish_flitchCell a_parish_flitchKind a_parish_flitchStrength a_taken a_wills a_cells a_smelling a_windy a_parish_past a_parish_sightings a_parish_notes a_parish_marks s_lapses_2 s_parish_flitchCount s_parish_familyCount s_parish_hung s_parish_day s_parish_familyCell s_parish_familyKind s_parish_familySide s_parish_familyWill s_parish_flitchCell s_parish_flitchKind s_parish_flitchStrength s_taken_3) := hD
  refine lv_aload_n hx hb dX1_rightAfter_5 rfl (lv_at hl 0 rfl) ?_
  refine lv_iload_n hx hb dX1_rightAfter_6 rfl (lv_at hl 1 rfl) ?_
  refine st_callRI (st_runVR (n := 1) (As := [.int x1]) (rest := []) (q0 := 0) F (co_Fs_holdingSides l D cy a_this a_lapses a_parish a_parish_familySide a_taken a_wills a_cells a_smelling a_windy a_parish_flitchKind a_parish_flitchCell a_parish_flitchStrength a_parish_familyKind a_parish_familyCell a_parish_familyWill a_parish_past a_parish_sightings a_parish_notes a_parish_marks s_lapses_2 s_parish_flitchCount s_parish_familyCount s_parish_hung s_parish_day s_parish_familySide x1 _ h) gX1_rightAfter_X1_holdingSides rfl (by decide +kernel) rfl hKK hP [0, 1, 2, 5] rfl rfl rfl rfl hl.1 rfl (Nat.le_of_ble_eq_true rfl) dX1_rightAfter_7) (fun r_4 h => ?_)
  refine lv_istore_n (lv' := [(2, .int r_4), (0, .ref a_this), (1, .int x1)]) hx hb dX1_rightAfter_10 rfl hl (by decide) rfl (fun ls hl => ?_)
  refine lv_iload_n hx hb dX1_rightAfter_11 rfl (lv_at hl 0 rfl) ?_
  refine lv_iconst (v := 1) hx hb dX1_rightAfter_12 (by decide) ?_
  refine lv_icmp_ne (tgt := 20) hx hb dX1_rightAfter_13 (by decide) (fun c_5 => ?_) (fun c_5 => ?_)
  · have h := h.1 c_5
    refine lv_iload_n hx hb dX1_rightAfter_20 rfl (lv_at hl 0 rfl) ?_
    refine lv_iconst (v := 2) hx hb dX1_rightAfter_21 (by decide) ?_
    refine lv_icmp_ne (tgt := 29) hx hb dX1_rightAfter_22 (by decide) (fun c_6 => ?_) (fun c_6 => ?_)
    · have h := h.1 c_6
      refine lv_iconst (v := (-1)) hx hb dX1_rightAfter_29 (by decide) ?_
      exact hret _ (s_lapses_2, s_taken_3) _ _ _ _ h hP hD hS dX1_rightAfter_30
    · have h := h.2 c_6
      refine lv_iconst (v := 1) hx hb dX1_rightAfter_25 (by decide) ?_
      refine lv_goto (tgt := 30) hx hb dX1_rightAfter_26 (by decide) ?_
      exact hret _ (s_lapses_2, s_taken_3) _ _ _ _ h hP hD hS dX1_rightAfter_30
  · have h := h.2 c_5
    refine lv_iconst (v := 0) hx hb dX1_rightAfter_16 (by decide) ?_
    refine lv_goto (tgt := 30) hx hb dX1_rightAfter_17 (by decide) ?_
    exact hret _ (s_lapses_2, s_taken_3) _ _ _ _ h hP hD hS dX1_rightAfter_30
abbrev Wd_Fs_endOfCase (cy : ClassId × ClassId × ClassId × ClassId) (a_this a_lapses a_parish a_parish_familyCell a_parish_familyKind a_parish_familySide a_parish_familyWill a_parish_flitchCell a_parish_flitchKind a_parish_flitchStrength a_taken a_wills a_cells a_smelling a_windy a_parish_past a_parish_sightings a_parish_notes a_parish_marks : Nat) (s_lapses : Nat → Int32) (s_parish_flitchCount : Int32) (s_parish_familyCount : Int32) (s_parish_hung : Int32) (s_parish_day : Int32) (s_parish_familyCell : Nat → Int32) (s_parish_familyKind : Nat → Int32) (s_parish_familySide : Nat → Int32) (s_parish_familyWill : Nat → Int32) (s_parish_flitchCell : Nat → Int32) (s_parish_flitchKind : Nat → Int32) (s_parish_flitchStrength : Nat → Int32) (s_taken : Nat → Int32) : va_W := [(a_this, .inr (1, [.ref a_parish, .ref a_taken, .ref a_lapses, .ref a_wills, .ref a_cells, .ref a_smelling, .ref a_windy])), (a_lapses, .inl (cy.2.1, 7, .inl s_lapses)), (a_parish, .inr (3, [.ref a_parish_flitchKind, .ref a_parish_flitchCell, .ref a_parish_flitchStrength, .ref a_parish_familyKind, .ref a_parish_familySide, .ref a_parish_familyCell, .ref a_parish_familyWill, .ref a_parish_past, .ref a_parish_sightings, .ref a_parish_notes, .ref a_parish_marks, .int s_parish_flitchCount, .int s_parish_familyCount, .int s_parish_hung, .int s_parish_day])), (a_parish_familyCell, .inl (cy.2.1, 7, .inl s_parish_familyCell)), (a_parish_familyKind, .inl (cy.2.1, 7, .inl s_parish_familyKind)), (a_parish_familySide, .inl (cy.2.1, 7, .inl s_parish_familySide)), (a_parish_familyWill, .inl (cy.2.1, 7, .inl s_parish_familyWill)), (a_parish_flitchCell, .inl (cy.2.1, 3, .inl s_parish_flitchCell)), (a_parish_flitchKind, .inl (cy.2.1, 3, .inl s_parish_flitchKind)), (a_parish_flitchStrength, .inl (cy.2.1, 3, .inl s_parish_flitchStrength)), (a_taken, .inl (cy.2.1, 61, .inl s_taken))]
abbrev rm_Fs_endOfCase : Room := { frames := 4, cells := 0, slots := 0, locals := 125 }
def wp_Fs_endOfCase (s_lapses : Nat → Int32) (s_parish_flitchCount : Int32) (s_parish_familyCount : Int32) (s_parish_hung : Int32) (s_parish_day : Int32) (s_parish_familyCell : Nat → Int32) (s_parish_familyKind : Nat → Int32) (s_parish_familySide : Nat → Int32) (s_parish_familyWill : Nat → Int32) (s_parish_flitchCell : Nat → Int32) (s_parish_flitchKind : Nat → Int32) (s_parish_flitchStrength : Nat → Int32) (s_taken : Nat → Int32) (Q : Int32 → (Nat → Int32) → (Nat → Int32) → Prop) : Prop := wp_Fs_reckonLapses 60 s_lapses s_parish_flitchCount s_parish_familyCount s_parish_hung s_parish_day s_parish_familyCell s_parish_familyKind s_parish_familyWill s_parish_flitchCell s_parish_flitchKind s_parish_flitchStrength s_taken (fun (s_lapses_2 : Nat → Int32) (s_taken_3 : Nat → Int32) => ∃ n : Nat, lpw1 (fun (B8 : Int32 → Prop) (x1_4 : Int32) => ((60 < x1_4 → Q (-1) s_lapses_2 s_taken_3) ∧ (¬ 60 < x1_4 → wp_Fs_holdingSides x1_4 s_lapses_2 s_parish_familyCount s_parish_familySide (fun (r_7 : Int32) => ((r_7 = 3 → ∀ x1_9 : Int32, x1_9 = x1_4 + 1 → B8 x1_9) ∧ (¬ r_7 = 3 → Q x1_4 s_lapses_2 s_taken_3)))))) n 0)
set_option maxHeartbeats 4000000 in
set_option maxRecDepth 100000 in
theorem co_Fs_endOfCase (l : Launch) (D : va_G) (cy : ClassId × ClassId × ClassId × ClassId) (a_this a_lapses a_parish a_parish_familyCell a_parish_familyKind a_parish_familySide a_parish_familyWill a_parish_flitchCell a_parish_flitchKind a_parish_flitchStrength a_taken a_wills a_cells a_smelling a_windy a_parish_past a_parish_sightings a_parish_notes a_parish_marks : Nat) (s_lapses : Nat → Int32) (s_parish_flitchCount : Int32) (s_parish_familyCount : Int32) (s_parish_hung : Int32) (s_parish_day : Int32) (s_parish_familyCell : Nat → Int32) (s_parish_familyKind : Nat → Int32) (s_parish_familySide : Nat → Int32) (s_parish_familyWill : Nat → Int32) (s_parish_flitchCell : Nat → Int32) (s_parish_flitchKind : Nat → Int32) (s_parish_flitchStrength : Nat → Int32) (s_taken : Nat → Int32) (Q : Int32 → (Nat → Int32) → (Nat → Int32) → Prop) (h : wp_Fs_endOfCase s_lapses s_parish_flitchCount s_parish_familyCount s_parish_hung s_parish_day s_parish_familyCell s_parish_familyKind s_parish_familySide s_parish_familyWill s_parish_flitchCell s_parish_flitchKind s_parish_flitchStrength s_taken Q) : CoI l yX1_endOfCase wsX1_endOfCase rm_Fs_endOfCase D cy [.ref a_this] (Wd_Fs_endOfCase cy a_this a_lapses a_parish a_parish_familyCell a_parish_familyKind a_parish_familySide a_parish_familyWill a_parish_flitchCell a_parish_flitchKind a_parish_flitchStrength a_taken a_wills a_cells a_smelling a_windy a_parish_past a_parish_sightings a_parish_notes a_parish_marks s_lapses s_parish_flitchCount s_parish_familyCount s_parish_hung s_parish_day s_parish_familyCell s_parish_familyKind s_parish_familySide s_parish_familyWill s_parish_flitchCell s_parish_flitchKind s_parish_flitchStrength s_taken) (fun u : (Nat → Int32) × (Nat → Int32) => (Wd_Fs_endOfCase cy a_this a_lapses a_parish a_parish_familyCell a_parish_familyKind a_parish_familySide a_parish_familyWill a_parish_flitchCell a_parish_flitchKind a_parish_flitchStrength a_taken a_wills a_cells a_smelling a_windy a_parish_past a_parish_sightings a_parish_notes a_parish_marks u.1 s_parish_flitchCount s_parish_familyCount s_parish_hung s_parish_day s_parish_familyCell s_parish_familyKind s_parish_familySide s_parish_familyWill s_parish_flitchCell s_parish_flitchKind s_parish_flitchStrength u.2)) (fun (r : Int32) (u : (Nat → Int32) × (Nat → Int32)) => Q r u.1 u.2) := by
  refine st_metI (cc := cX1_endOfCase) (maxL := 2) RX1 (by decide) rfl rfl (Nat.le_of_ble_eq_true rfl) ?_
  intro p e s m args below meth c A QQ ls F hA hKK hP hD hS hl hret
  have hK := hKK.1
  have hnest := hKK.2.1
  have hx := F.1
  have hb := F.2.1
  have hown := F.2.2.2.1
  have hts := F.2.2.2.2
  have hl : lv_has ls 2 [(0, .ref a_this)] := hl
  unfold wp_Fs_endOfCase at h
  refine lv_aload_n hx hb dX1_endOfCase_0 rfl (lv_at hl 0 rfl) ?_
  refine lv_bipush (v := 60) hx hb dX1_endOfCase_1 (by decide) ?_
  refine st_callV (WR := [5].filterMap (fun i => (Wd_Fs_endOfCase cy a_this a_lapses a_parish a_parish_familyCell a_parish_familyKind a_parish_familySide a_parish_familyWill a_parish_flitchCell a_parish_flitchKind a_parish_flitchStrength a_taken a_wills a_cells a_smelling a_windy a_parish_past a_parish_sightings a_parish_notes a_parish_marks s_lapses s_parish_flitchCount s_parish_familyCount s_parish_hung s_parish_day s_parish_familyCell s_parish_familyKind s_parish_familySide s_parish_familyWill s_parish_flitchCell s_parish_flitchKind s_parish_flitchStrength s_taken)[i]?)) (WSn := fun u => (Wd_Fs_endOfCase cy a_this a_lapses a_parish a_parish_familyCell a_parish_familyKind a_parish_familySide a_parish_familyWill a_parish_flitchCell a_parish_flitchKind a_parish_flitchStrength a_taken a_wills a_cells a_smelling a_windy a_parish_past a_parish_sightings a_parish_notes a_parish_marks u.1 s_parish_flitchCount s_parish_familyCount s_parish_hung s_parish_day s_parish_familyCell s_parish_familyKind s_parish_familySide s_parish_familyWill s_parish_flitchCell s_parish_flitchKind s_parish_flitchStrength u.2)) (st_runV (n := 1) (As := [.int 60]) (rest := []) (q0 := 0) F ((co_Fs_reckonLapses l D cy a_this a_lapses a_parish a_parish_familyCell a_parish_familyKind a_parish_familyWill a_parish_flitchCell a_parish_flitchKind a_parish_flitchStrength a_taken a_wills a_cells a_smelling a_windy a_parish_familySide a_parish_past a_parish_sightings a_parish_notes a_parish_marks s_lapses s_parish_flitchCount s_parish_familyCount s_parish_hung s_parish_day s_parish_familyCell s_parish_familyKind s_parish_familyWill s_parish_flitchCell s_parish_flitchKind s_parish_flitchStrength s_taken 60 _ h) _) rfl gX1_endOfCase_X1_reckonLapses rfl (by decide +kernel) rfl hKK hP hD [0, 1, 2, 3, 4, 6, 7, 8, 9, 10] rfl rfl rfl rfl rfl hl.1 rfl (Nat.le_of_ble_eq_true rfl) dX1_endOfCase_3) hP hD hS hA [0, 1, 2, 3, 4, 6, 7, 8, 9, 10] [5] [1, 2, 3, 4, 5, 0, 6, 7, 8, 9, 10] rfl rfl rfl (fun _ => rfl) (fun u H locs h hP hD hS => ?_)
  obtain ⟨s_lapses_2, s_taken_3⟩ := u
  dsimp only at h hP hD
  have hP : va_P D vwCl (Wd_Fs_endOfCase cy a_this a_lapses a_parish a_parish_familyCell a_parish_familyKind a_parish_familySide a_parish_familyWill a_parish_flitchCell a_parish_flitchKind a_parish_flitchStrength a_taken a_wills a_cells a_smelling a_windy a_parish_past a_parish_sightings a_parish_notes a_parish_marks s_lapses_2 s_parish_flitchCount s_parish_familyCount s_parish_hung s_parish_day s_parish_familyCell s_parish_familyKind s_parish_familySide s_parish_familyWill s_parish_flitchCell s_parish_flitchKind s_parish_flitchStrength s_taken_3) H := hP
  have hD : va_D A (Wd_Fs_endOfCase cy a_this a_lapses a_parish a_parish_familyCell a_parish_familyKind a_parish_familySide a_parish_familyWill a_parish_flitchCell a_parish_flitchKind a_parish_flitchStrength a_taken a_wills a_cells a_smelling a_windy a_parish_past a_parish_sightings a_parish_notes a_parish_marks s_lapses_2 s_parish_flitchCount s_parish_familyCount s_parish_hung s_parish_day s_parish_familyCell s_parish_familyKind s_parish_familySide s_parish_familyWill s_parish_flitchCell s_parish_flitchKind s_parish_flitchStrength s_taken_3) := hD
  refine lv_iconst (v := 0) hx hb dX1_endOfCase_6 (by decide) ?_
  refine lv_istore_n (lv' := [(1, .int 0), (0, .ref a_this)]) hx hb dX1_endOfCase_7 rfl hl (by decide) rfl (fun ls hl => ?_)
  obtain ⟨T8_4, hz8_4, hs8_4, n8_4, h⟩ := lpw1_use h
  have kT8_4 : ∀ (n : Nat) (x1_4 : Int32) (H : Heap) (locs : List Loc) (ls : Array Slot), T8_4 n x1_4 → va_P D vwCl (Wd_Fs_endOfCase cy a_this a_lapses a_parish a_parish_familyCell a_parish_familyKind a_parish_familySide a_parish_familyWill a_parish_flitchCell a_parish_flitchKind a_parish_flitchStrength a_taken a_wills a_cells a_smelling a_windy a_parish_past a_parish_sightings a_parish_notes a_parish_marks s_lapses_2 s_parish_flitchCount s_parish_familyCount s_parish_hung s_parish_day s_parish_familyCell s_parish_familyKind s_parish_familySide s_parish_familyWill s_parish_flitchCell s_parish_flitchKind s_parish_flitchStrength s_taken_3) H → va_D A (Wd_Fs_endOfCase cy a_this a_lapses a_parish a_parish_familyCell a_parish_familyKind a_parish_familySide a_parish_familyWill a_parish_flitchCell a_parish_flitchKind a_parish_flitchStrength a_taken a_wills a_cells a_smelling a_windy a_parish_past a_parish_sightings a_parish_notes a_parish_marks s_lapses_2 s_parish_flitchCount s_parish_familyCount s_parish_hung s_parish_day s_parish_familyCell s_parish_familyKind s_parish_familySide s_parish_familyWill s_parish_flitchCell s_parish_flitchKind s_parish_flitchStrength s_taken_3) → va_S A s.heap H locs → lv_has ls 2 [(0, .ref a_this), (1, .int x1_4)] → W p l e rm_Fs_endOfCase s m args below meth c H locs 0 0 QQ (F0 m 8 ls []) := by
    intro n
    induction n with
    | zero => intro x1_4 H locs ls h; exact absurd h (hz8_4 _)
    | succ n ih8_4 =>
      intro x1_4 H locs ls h hP hD hS hl
      have h := hs8_4 _ _ h
      refine lv_iload_n hx hb dX1_endOfCase_8 rfl (lv_at hl 1 rfl) ?_
      refine lv_bipush (v := 60) hx hb dX1_endOfCase_9 (by decide) ?_
      refine lv_icmp_gt (tgt := 31) hx hb dX1_endOfCase_11 (by decide) (fun c_6 => ?_) (fun c_6 => ?_)
      · have h := h.1 c_6
        refine lv_iconst (v := (-1)) hx hb dX1_endOfCase_31 (by decide) ?_
        exact hret _ (s_lapses_2, s_taken_3) _ _ _ _ h hP hD hS dX1_endOfCase_32
      · have h := h.2 c_6
        refine lv_aload_n hx hb dX1_endOfCase_14 rfl (lv_at hl 0 rfl) ?_
        refine lv_iload_n hx hb dX1_endOfCase_15 rfl (lv_at hl 1 rfl) ?_
        refine st_callRI (st_runVR (n := 1) (As := [.int x1_4]) (rest := []) (q0 := 0) F (co_Fs_holdingSides l D cy a_this a_lapses a_parish a_parish_familySide a_taken a_wills a_cells a_smelling a_windy a_parish_flitchKind a_parish_flitchCell a_parish_flitchStrength a_parish_familyKind a_parish_familyCell a_parish_familyWill a_parish_past a_parish_sightings a_parish_notes a_parish_marks s_lapses_2 s_parish_flitchCount s_parish_familyCount s_parish_hung s_parish_day s_parish_familySide x1_4 _ h) gX1_endOfCase_X1_holdingSides rfl (by decide +kernel) rfl hKK hP [0, 1, 2, 5] rfl rfl rfl rfl hl.1 rfl (Nat.le_of_ble_eq_true rfl) dX1_endOfCase_16) (fun r_7 h => ?_)
        refine lv_iconst (v := 3) hx hb dX1_endOfCase_19 (by decide) ?_
        refine lv_icmp_eq (tgt := 25) hx hb dX1_endOfCase_20 (by decide) (fun c_8 => ?_) (fun c_8 => ?_)
        · have h := h.1 c_8
          obtain ⟨x1_9, ex1_9⟩ : ∃ y : Int32, y = x1_4 + 1 := ⟨_, rfl⟩
          have h := h x1_9 ex1_9
          refine lv_iinc (v := x1_9) (lv' := [(1, .int x1_9), (0, .ref a_this)]) hx hb dX1_endOfCase_25 hl (k := 1) rfl (by rw [ex1_9]; rfl) (by decide) rfl (fun ls hl => ?_)
          refine lv_goto (tgt := 8) hx hb dX1_endOfCase_28 (by decide) ?_
          exact ih8_4 _ _ _ _ h hP hD hS (lv_sub hl [1, 0] rfl)
        · have h := h.2 c_8
          refine lv_iload_n hx hb dX1_endOfCase_23 rfl (lv_at hl 1 rfl) ?_
          exact hret _ (s_lapses_2, s_taken_3) _ _ _ _ h hP hD hS dX1_endOfCase_24
  exact kT8_4 n8_4 _ _ _ _ h hP hD hS (lv_sub hl [1, 0] rfl)
abbrev Wd_Fs_bestCell (cy : ClassId × ClassId × ClassId × ClassId) (a_this a_parish a_parish_familyKind a_parish_familyWill a_parish_flitchCell a_parish_flitchKind a_parish_flitchStrength a_taken a_lapses a_wills a_cells a_smelling a_windy a_parish_familySide a_parish_familyCell a_parish_past a_parish_sightings a_parish_notes a_parish_marks : Nat) (s_parish_flitchCount : Int32) (s_parish_familyCount : Int32) (s_parish_hung : Int32) (s_parish_day : Int32) (s_parish_familyKind : Nat → Int32) (s_parish_familyWill : Nat → Int32) (s_parish_flitchCell : Nat → Int32) (s_parish_flitchKind : Nat → Int32) (s_parish_flitchStrength : Nat → Int32) (s_taken : Nat → Int32) : va_W := [(a_this, .inr (1, [.ref a_parish, .ref a_taken, .ref a_lapses, .ref a_wills, .ref a_cells, .ref a_smelling, .ref a_windy])), (a_parish, .inr (3, [.ref a_parish_flitchKind, .ref a_parish_flitchCell, .ref a_parish_flitchStrength, .ref a_parish_familyKind, .ref a_parish_familySide, .ref a_parish_familyCell, .ref a_parish_familyWill, .ref a_parish_past, .ref a_parish_sightings, .ref a_parish_notes, .ref a_parish_marks, .int s_parish_flitchCount, .int s_parish_familyCount, .int s_parish_hung, .int s_parish_day])), (a_parish_familyKind, .inl (cy.2.1, 7, .inl s_parish_familyKind)), (a_parish_familyWill, .inl (cy.2.1, 7, .inl s_parish_familyWill)), (a_parish_flitchCell, .inl (cy.2.1, 3, .inl s_parish_flitchCell)), (a_parish_flitchKind, .inl (cy.2.1, 3, .inl s_parish_flitchKind)), (a_parish_flitchStrength, .inl (cy.2.1, 3, .inl s_parish_flitchStrength)), (a_taken, .inl (cy.2.1, 61, .inl s_taken))]
abbrev rm_Fs_bestCell : Room := { frames := 4, cells := 0, slots := 0, locals := 126 }
def wp_Fs_bestCell (x1 : Int32) (s_parish_flitchCount : Int32) (s_parish_hung : Int32) (s_parish_day : Int32) (s_parish_familyKind : Nat → Int32) (s_parish_familyWill : Nat → Int32) (s_parish_flitchCell : Nat → Int32) (s_parish_flitchKind : Nat → Int32) (s_parish_flitchStrength : Nat → Int32) (s_taken : Nat → Int32) (Q : Int32 → (Nat → Int32) → Prop) : Prop := ∃ n : Nat, lpw4 (fun (B7 : Int32 → Int32 → Int32 → (Nat → Int32) → Prop) (x2_1 : Int32) (x3_2 : Int32) (x4_3 : Int32) (s_taken_4 : Nat → Int32) => ((25 ≤ x4_3 → Q x2_1 s_taken_4) ∧ (¬ 25 ≤ x4_3 → wp_Fs_lapseWithin x1 x4_3 60 s_parish_flitchCount s_parish_hung s_parish_day s_parish_familyKind s_parish_familyWill s_parish_flitchCell s_parish_flitchKind s_parish_flitchStrength s_taken_4 (fun (r_7 : Int32) (s_taken_8 : Nat → Int32) => jn1 (fun (J38 : Int32 → Prop) => ((¬ r_7 = (-1) → J38 r_7) ∧ (r_7 = (-1) → J38 61))) (fun (v_9 : Int32) => jn2 (fun (J52 : Int32 → Int32 → Prop) => ((v_9 ≤ x3_2 → J52 x2_1 x3_2) ∧ (¬ v_9 ≤ x3_2 → J52 x4_3 v_9))) (fun (x2_11 : Int32) (x3_12 : Int32) => ∀ x4_14 : Int32, x4_14 = x4_3 + 1 → B7 x2_11 x3_12 x4_14 s_taken_8)))))) n 0 (-1) 0 s_taken
set_option maxHeartbeats 4000000 in
set_option maxRecDepth 100000 in
theorem co_Fs_bestCell (l : Launch) (D : va_G) (cy : ClassId × ClassId × ClassId × ClassId) (a_this a_parish a_parish_familyKind a_parish_familyWill a_parish_flitchCell a_parish_flitchKind a_parish_flitchStrength a_taken a_lapses a_wills a_cells a_smelling a_windy a_parish_familySide a_parish_familyCell a_parish_past a_parish_sightings a_parish_notes a_parish_marks : Nat) (s_parish_flitchCount : Int32) (s_parish_familyCount : Int32) (s_parish_hung : Int32) (s_parish_day : Int32) (s_parish_familyKind : Nat → Int32) (s_parish_familyWill : Nat → Int32) (s_parish_flitchCell : Nat → Int32) (s_parish_flitchKind : Nat → Int32) (s_parish_flitchStrength : Nat → Int32) (s_taken : Nat → Int32) (x1 : Int32) (Q : Int32 → (Nat → Int32) → Prop) (h : wp_Fs_bestCell x1 s_parish_flitchCount s_parish_hung s_parish_day s_parish_familyKind s_parish_familyWill s_parish_flitchCell s_parish_flitchKind s_parish_flitchStrength s_taken Q) : CoI l yX1_bestCell wsX1_bestCell rm_Fs_bestCell D cy [.ref a_this, .int x1] (Wd_Fs_bestCell cy a_this a_parish a_parish_familyKind a_parish_familyWill a_parish_flitchCell a_parish_flitchKind a_parish_flitchStrength a_taken a_lapses a_wills a_cells a_smelling a_windy a_parish_familySide a_parish_familyCell a_parish_past a_parish_sightings a_parish_notes a_parish_marks s_parish_flitchCount s_parish_familyCount s_parish_hung s_parish_day s_parish_familyKind s_parish_familyWill s_parish_flitchCell s_parish_flitchKind s_parish_flitchStrength s_taken) (fun u : (Nat → Int32) => (Wd_Fs_bestCell cy a_this a_parish a_parish_familyKind a_parish_familyWill a_parish_flitchCell a_parish_flitchKind a_parish_flitchStrength a_taken a_lapses a_wills a_cells a_smelling a_windy a_parish_familySide a_parish_familyCell a_parish_past a_parish_sightings a_parish_notes a_parish_marks s_parish_flitchCount s_parish_familyCount s_parish_hung s_parish_day s_parish_familyKind s_parish_familyWill s_parish_flitchCell s_parish_flitchKind s_parish_flitchStrength u)) (fun (r : Int32) (u : (Nat → Int32)) => Q r u) := by
  refine st_metI (cc := cX1_bestCell) (maxL := 7) RX1 (by decide) rfl rfl (Nat.le_of_ble_eq_true rfl) ?_
  intro p e s m args below meth c A QQ ls F hA hKK hP hD hS hl hret
  have hK := hKK.1
  have hnest := hKK.2.1
  have hx := F.1
  have hb := F.2.1
  have hown := F.2.2.2.1
  have hts := F.2.2.2.2
  have hl : lv_has ls 7 [(0, .ref a_this), (1, .int x1)] := hl
  unfold wp_Fs_bestCell at h
  refine lv_iconst (v := 0) hx hb dX1_bestCell_0 (by decide) ?_
  refine lv_istore_n (lv' := [(2, .int 0), (0, .ref a_this), (1, .int x1)]) hx hb dX1_bestCell_1 rfl hl (by decide) rfl (fun ls hl => ?_)
  refine lv_iconst (v := (-1)) hx hb dX1_bestCell_2 (by decide) ?_
  refine lv_istore_n (lv' := [(3, .int (-1)), (2, .int 0), (0, .ref a_this), (1, .int x1)]) hx hb dX1_bestCell_3 rfl hl (by decide) rfl (fun ls hl => ?_)
  refine lv_iconst (v := 0) hx hb dX1_bestCell_4 (by decide) ?_
  refine lv_istore (lv' := [(4, .int 0), (3, .int (-1)), (2, .int 0), (0, .ref a_this), (1, .int x1)]) hx hb dX1_bestCell_5 hl (by decide) rfl (fun ls hl => ?_)
  obtain ⟨T7_4, hz7_4, hs7_4, n7_4, h⟩ := lpw4_use h
  have kT7_4 : ∀ (n : Nat) (x2_1 : Int32) (x3_2 : Int32) (x4_3 : Int32) (s_taken_4 : Nat → Int32) (H : Heap) (locs : List Loc) (ls : Array Slot), T7_4 n x2_1 x3_2 x4_3 s_taken_4 → va_P D vwCl (Wd_Fs_bestCell cy a_this a_parish a_parish_familyKind a_parish_familyWill a_parish_flitchCell a_parish_flitchKind a_parish_flitchStrength a_taken a_lapses a_wills a_cells a_smelling a_windy a_parish_familySide a_parish_familyCell a_parish_past a_parish_sightings a_parish_notes a_parish_marks s_parish_flitchCount s_parish_familyCount s_parish_hung s_parish_day s_parish_familyKind s_parish_familyWill s_parish_flitchCell s_parish_flitchKind s_parish_flitchStrength s_taken_4) H → va_D A (Wd_Fs_bestCell cy a_this a_parish a_parish_familyKind a_parish_familyWill a_parish_flitchCell a_parish_flitchKind a_parish_flitchStrength a_taken a_lapses a_wills a_cells a_smelling a_windy a_parish_familySide a_parish_familyCell a_parish_past a_parish_sightings a_parish_notes a_parish_marks s_parish_flitchCount s_parish_familyCount s_parish_hung s_parish_day s_parish_familyKind s_parish_familyWill s_parish_flitchCell s_parish_flitchKind s_parish_flitchStrength s_taken_4) → va_S A s.heap H locs → lv_has ls 7 [(0, .ref a_this), (1, .int x1), (2, .int x2_1), (3, .int x3_2), (4, .int x4_3)] → W p l e rm_Fs_bestCell s m args below meth c H locs 0 0 QQ (F0 m 7 ls []) := by
    intro n
    induction n with
    | zero => intro x2_1 x3_2 x4_3 s_taken_4 H locs ls h; exact absurd h (hz7_4 _ _ _ _)
    | succ n ih7_4 =>
      intro x2_1 x3_2 x4_3 s_taken_4 H locs ls h hP hD hS hl
      have h := hs7_4 _ _ _ _ _ h
      refine lv_iload hx hb dX1_bestCell_7 (lv_at hl 4 rfl) ?_
      refine lv_bipush (v := 25) hx hb dX1_bestCell_9 (by decide) ?_
      refine lv_icmp_ge (tgt := 58) hx hb dX1_bestCell_11 (by decide) (fun c_6 => ?_) (fun c_6 => ?_)
      · have h := h.1 c_6
        refine lv_iload_n hx hb dX1_bestCell_58 rfl (lv_at hl 2 rfl) ?_
        exact hret _ (s_taken_4) _ _ _ _ h hP hD hS dX1_bestCell_59
      · have h := h.2 c_6
        refine lv_aload_n hx hb dX1_bestCell_14 rfl (lv_at hl 0 rfl) ?_
        refine lv_iload_n hx hb dX1_bestCell_15 rfl (lv_at hl 1 rfl) ?_
        refine lv_iload hx hb dX1_bestCell_16 (lv_at hl 4 rfl) ?_
        refine lv_bipush (v := 60) hx hb dX1_bestCell_18 (by decide) ?_
        refine st_callI (WR := []) (WSn := fun u => (Wd_Fs_bestCell cy a_this a_parish a_parish_familyKind a_parish_familyWill a_parish_flitchCell a_parish_flitchKind a_parish_flitchStrength a_taken a_lapses a_wills a_cells a_smelling a_windy a_parish_familySide a_parish_familyCell a_parish_past a_parish_sightings a_parish_notes a_parish_marks s_parish_flitchCount s_parish_familyCount s_parish_hung s_parish_day s_parish_familyKind s_parish_familyWill s_parish_flitchCell s_parish_flitchKind s_parish_flitchStrength u)) (st_runV (n := 3) (As := [.int x1, .int x4_3, .int 60]) (rest := []) (q0 := 0) F ((co_Fs_lapseWithin l D cy a_this a_parish a_parish_familyKind a_parish_familyWill a_parish_flitchCell a_parish_flitchKind a_parish_flitchStrength a_taken a_lapses a_wills a_cells a_smelling a_windy a_parish_familySide a_parish_familyCell a_parish_past a_parish_sightings a_parish_notes a_parish_marks s_parish_flitchCount s_parish_familyCount s_parish_hung s_parish_day s_parish_familyKind s_parish_familyWill s_parish_flitchCell s_parish_flitchKind s_parish_flitchStrength s_taken_4 x1 x4_3 60 _ h) _) rfl gX1_bestCell_X1_lapseWithin rfl (by decide +kernel) rfl hKK hP hD [0, 1, 2, 3, 4, 5, 6, 7] rfl rfl rfl rfl rfl hl.1 rfl (Nat.le_of_ble_eq_true rfl) dX1_bestCell_20) hP hD hS hA [0, 1, 2, 3, 4, 5, 6, 7] [] [0, 1, 2, 3, 4, 5, 6, 7] rfl rfl rfl (fun _ => rfl) (fun r_7 u H locs h hP hD hS => ?_)
        obtain ⟨s_taken_8, rfl⟩ : ∃ z, z = u := ⟨_, rfl⟩
        have hP : va_P D vwCl (Wd_Fs_bestCell cy a_this a_parish a_parish_familyKind a_parish_familyWill a_parish_flitchCell a_parish_flitchKind a_parish_flitchStrength a_taken a_lapses a_wills a_cells a_smelling a_windy a_parish_familySide a_parish_familyCell a_parish_past a_parish_sightings a_parish_notes a_parish_marks s_parish_flitchCount s_parish_familyCount s_parish_hung s_parish_day s_parish_familyKind s_parish_familyWill s_parish_flitchCell s_parish_flitchKind s_parish_flitchStrength s_taken_8) H := hP
        have hD : va_D A (Wd_Fs_bestCell cy a_this a_parish a_parish_familyKind a_parish_familyWill a_parish_flitchCell a_parish_flitchKind a_parish_flitchStrength a_taken a_lapses a_wills a_cells a_smelling a_windy a_parish_familySide a_parish_familyCell a_parish_past a_parish_sightings a_parish_notes a_parish_marks s_parish_flitchCount s_parish_familyCount s_parish_hung s_parish_day s_parish_familyKind s_parish_familyWill s_parish_flitchCell s_parish_flitchKind s_parish_flitchStrength s_taken_8) := hD
        refine lv_istore (lv' := [(5, .int r_7), (0, .ref a_this), (1, .int x1), (2, .int x2_1), (3, .int x3_2), (4, .int x4_3)]) hx hb dX1_bestCell_23 hl (by decide) rfl (fun ls hl => ?_)
        refine lv_iload hx hb dX1_bestCell_25 (lv_at hl 0 rfl) ?_
        refine lv_iconst (v := (-1)) hx hb dX1_bestCell_27 (by decide) ?_
        obtain ⟨J38, hJ38, h⟩ := jn1_ex h
        have kJ38_9 : ∀ (v_9 : Int32) (H : Heap) (locs : List Loc) (ls : Array Slot), J38 v_9 → va_P D vwCl (Wd_Fs_bestCell cy a_this a_parish a_parish_familyKind a_parish_familyWill a_parish_flitchCell a_parish_flitchKind a_parish_flitchStrength a_taken a_lapses a_wills a_cells a_smelling a_windy a_parish_familySide a_parish_familyCell a_parish_past a_parish_sightings a_parish_notes a_parish_marks s_parish_flitchCount s_parish_familyCount s_parish_hung s_parish_day s_parish_familyKind s_parish_familyWill s_parish_flitchCell s_parish_flitchKind s_parish_flitchStrength s_taken_8) H → va_D A (Wd_Fs_bestCell cy a_this a_parish a_parish_familyKind a_parish_familyWill a_parish_flitchCell a_parish_flitchKind a_parish_flitchStrength a_taken a_lapses a_wills a_cells a_smelling a_windy a_parish_familySide a_parish_familyCell a_parish_past a_parish_sightings a_parish_notes a_parish_marks s_parish_flitchCount s_parish_familyCount s_parish_hung s_parish_day s_parish_familyKind s_parish_familyWill s_parish_flitchCell s_parish_flitchKind s_parish_flitchStrength s_taken_8) → va_S A s.heap H locs → lv_has ls 7 [(0, .ref a_this), (1, .int x1), (2, .int x2_1), (3, .int x3_2), (4, .int x4_3)] → W p l e rm_Fs_bestCell s m args below meth c H locs 0 0 QQ (F0 m 38 ls [.int v_9]) := by
          intro v_9 H locs ls h hP hD hS hl
          have h := hJ38 _ h
          refine lv_istore (lv' := [(6, .int v_9), (0, .ref a_this), (1, .int x1), (2, .int x2_1), (3, .int x3_2), (4, .int x4_3)]) hx hb dX1_bestCell_38 hl (by decide) rfl (fun ls hl => ?_)
          refine lv_iload hx hb dX1_bestCell_40 (lv_at hl 0 rfl) ?_
          refine lv_iload_n hx hb dX1_bestCell_42 rfl (lv_at hl 4 rfl) ?_
          obtain ⟨J52, hJ52, h⟩ := jn2_ex h
          have kJ52_12 : ∀ (x2_11 : Int32) (x3_12 : Int32) (H : Heap) (locs : List Loc) (ls : Array Slot), J52 x2_11 x3_12 → va_P D vwCl (Wd_Fs_bestCell cy a_this a_parish a_parish_familyKind a_parish_familyWill a_parish_flitchCell a_parish_flitchKind a_parish_flitchStrength a_taken a_lapses a_wills a_cells a_smelling a_windy a_parish_familySide a_parish_familyCell a_parish_past a_parish_sightings a_parish_notes a_parish_marks s_parish_flitchCount s_parish_familyCount s_parish_hung s_parish_day s_parish_familyKind s_parish_familyWill s_parish_flitchCell s_parish_flitchKind s_parish_flitchStrength s_taken_8) H → va_D A (Wd_Fs_bestCell cy a_this a_parish a_parish_familyKind a_parish_familyWill a_parish_flitchCell a_parish_flitchKind a_parish_flitchStrength a_taken a_lapses a_wills a_cells a_smelling a_windy a_parish_familySide a_parish_familyCell a_parish_past a_parish_sightings a_parish_notes a_parish_marks s_parish_flitchCount s_parish_familyCount s_parish_hung s_parish_day s_parish_familyKind s_parish_familyWill s_parish_flitchCell s_parish_flitchKind s_parish_flitchStrength s_taken_8) → va_S A s.heap H locs → lv_has ls 7 [(0, .ref a_this), (1, .int x1), (2, .int x2_11), (3, .int x3_12), (4, .int x4_3)] → W p l e rm_Fs_bestCell s m args below meth c H locs 0 0 QQ (F0 m 52 ls []) := by
            intro x2_11 x3_12 H locs ls h hP hD hS hl
            have h := hJ52 _ _ h
            obtain ⟨x4_14, ex4_14⟩ : ∃ y : Int32, y = x4_3 + 1 := ⟨_, rfl⟩
            have h := h x4_14 ex4_14
            refine lv_iinc (v := x4_14) (lv' := [(4, .int x4_14), (0, .ref a_this), (1, .int x1), (2, .int x2_11), (3, .int x3_12)]) hx hb dX1_bestCell_52 hl (k := 4) rfl (by rw [ex4_14]; rfl) (by decide) rfl (fun ls hl => ?_)
            refine lv_goto (tgt := 7) hx hb dX1_bestCell_55 (by decide) ?_
            exact ih7_4 _ _ _ _ _ _ _ h hP hD hS (lv_sub hl [1, 2, 3, 4, 0] rfl)
          refine lv_icmp_le (tgt := 52) hx hb dX1_bestCell_43 (by decide) (fun c_15 => ?_) (fun c_15 => ?_)
          · have h := h.1 c_15
            exact kJ52_12 _ _ _ _ _ h hP hD hS (lv_sub hl [1, 2, 3, 4, 5] rfl)
          · have h := h.2 c_15
            refine lv_iload hx hb dX1_bestCell_46 (lv_at hl 0 rfl) ?_
            refine lv_istore_n (lv' := [(3, .int v_9), (6, .int v_9), (0, .ref a_this), (1, .int x1), (2, .int x2_1), (4, .int x4_3)]) hx hb dX1_bestCell_48 rfl hl (by decide) rfl (fun ls hl => ?_)
            refine lv_iload hx hb dX1_bestCell_49 (lv_at hl 5 rfl) ?_
            refine lv_istore_n (lv' := [(2, .int x4_3), (3, .int v_9), (6, .int v_9), (0, .ref a_this), (1, .int x1), (4, .int x4_3)]) hx hb dX1_bestCell_51 rfl hl (by decide) rfl (fun ls hl => ?_)
            exact kJ52_12 _ _ _ _ _ h hP hD hS (lv_sub hl [3, 4, 0, 1, 5] rfl)
        refine lv_icmp_ne (tgt := 36) hx hb dX1_bestCell_28 (by decide) (fun c_16 => ?_) (fun c_16 => ?_)
        · have h := h.1 c_16
          refine lv_iload hx hb dX1_bestCell_36 (lv_at hl 0 rfl) ?_
          exact kJ38_9 _ _ _ _ h hP hD hS (lv_sub hl [1, 2, 3, 4, 5] rfl)
        · have h := h.2 c_16
          refine lv_bipush (v := 61) hx hb dX1_bestCell_31 (by decide) ?_
          refine lv_goto (tgt := 38) hx hb dX1_bestCell_33 (by decide) ?_
          exact kJ38_9 _ _ _ _ h hP hD hS (lv_sub hl [1, 2, 3, 4, 5] rfl)
  exact kT7_4 n7_4 _ _ _ _ _ _ _ h hP hD hS (lv_sub hl [3, 4, 2, 1, 0] rfl)
abbrev Wd_Ji_bitCount (cy : ClassId × ClassId × ClassId × ClassId) : va_W := []
abbrev rm_Ji_bitCount : Room := { frames := 0, cells := 0, slots := 0, locals := 0 }
def wp_Ji_bitCount (x0 : Int32) (Q : Int32 → Prop) : Prop := ∀ x0_1 : Int32, x0_1 = (x0 - ((iushr x0 1) &&& 1431655765)) → ∀ x0_2 : Int32, x0_2 = ((x0_1 &&& 858993459) + ((iushr x0_1 2) &&& 858993459)) → ∀ x0_3 : Int32, x0_3 = ((x0_2 + (iushr x0_2 4)) &&& 252645135) → ∀ x0_4 : Int32, x0_4 = (x0_3 + (iushr x0_3 8)) → ∀ x0_5 : Int32, x0_5 = (x0_4 + (iushr x0_4 16)) → Q (x0_5 &&& 63)
set_option maxHeartbeats 4000000 in
set_option maxRecDepth 100000 in
theorem co_Ji_bitCount (l : Launch) (D : va_G) (cy : ClassId × ClassId × ClassId × ClassId) (x0 : Int32) (Q : Int32 → Prop) (h : wp_Ji_bitCount x0 Q) : RoI l yJ6_bitCount_0f7a4 wsJ6_bitCount_0f7a4 rm_Ji_bitCount D cy [.int x0] (Wd_Ji_bitCount cy) Q := by
  refine st_metRI (cc := cJ6_bitCount_0f7a4) (maxL := 1) RJ6 (by decide) rfl rfl (Nat.le_of_ble_eq_true rfl) ?_
  intro p e s m args below meth c QQ ls F hKK hP hl hret
  have hK := hKK.1
  have hnest := hKK.2.1
  have hx := F.1
  have hb := F.2.1
  have hown := F.2.2.2.1
  have hts := F.2.2.2.2
  have hl : lv_has ls 1 [(0, .int x0)] := hl
  unfold wp_Ji_bitCount at h
  refine lv_iload_n hx hb dJ6_bitCount_0f7a4_0 rfl (lv_at hl 0 rfl) ?_
  refine lv_iload_n hx hb dJ6_bitCount_0f7a4_1 rfl (lv_at hl 0 rfl) ?_
  refine lv_iconst (v := 1) hx hb dJ6_bitCount_0f7a4_2 (by decide) ?_
  refine lv_iushr (v := iushr x0 1) hx hb dJ6_bitCount_0f7a4_3 rfl ?_
  refine lv_ldcw (v := 1431655765) hx hb hown (hts (.constant RJ6 265 (1431655765)) (List.mem_of_getElem? (i := 1) rfl)) dJ6_bitCount_0f7a4_4 ?_
  refine lv_iand hx hb dJ6_bitCount_0f7a4_7 ?_
  refine lv_isub hx hb dJ6_bitCount_0f7a4_8 ?_
  refine lv_topi (fun x0_1 ex0_1 => ?_)
  have h := h x0_1 ex0_1
  refine lv_istore_n (lv' := [(0, .int x0_1)]) hx hb dJ6_bitCount_0f7a4_9 rfl hl (by decide) rfl (fun ls hl => ?_)
  refine lv_iload_n hx hb dJ6_bitCount_0f7a4_10 rfl (lv_at hl 0 rfl) ?_
  refine lv_ldcw (v := 858993459) hx hb hown (hts (.constant RJ6 266 (858993459)) (List.mem_of_getElem? (i := 2) rfl)) dJ6_bitCount_0f7a4_11 ?_
  refine lv_iand hx hb dJ6_bitCount_0f7a4_14 ?_
  refine lv_iload_n hx hb dJ6_bitCount_0f7a4_15 rfl (lv_at hl 0 rfl) ?_
  refine lv_iconst (v := 2) hx hb dJ6_bitCount_0f7a4_16 (by decide) ?_
  refine lv_iushr (v := iushr x0_1 2) hx hb dJ6_bitCount_0f7a4_17 rfl ?_
  refine lv_ldcw (v := 858993459) hx hb hown (hts (.constant RJ6 266 (858993459)) (List.mem_of_getElem? (i := 2) rfl)) dJ6_bitCount_0f7a4_18 ?_
  refine lv_iand hx hb dJ6_bitCount_0f7a4_21 ?_
  refine lv_iadd hx hb dJ6_bitCount_0f7a4_22 ?_
  refine lv_topi (fun x0_2 ex0_2 => ?_)
  have h := h x0_2 ex0_2
  refine lv_istore_n (lv' := [(0, .int x0_2)]) hx hb dJ6_bitCount_0f7a4_23 rfl hl (by decide) rfl (fun ls hl => ?_)
  refine lv_iload_n hx hb dJ6_bitCount_0f7a4_24 rfl (lv_at hl 0 rfl) ?_
  refine lv_iload_n hx hb dJ6_bitCount_0f7a4_25 rfl (lv_at hl 0 rfl) ?_
  refine lv_iconst (v := 4) hx hb dJ6_bitCount_0f7a4_26 (by decide) ?_
  refine lv_iushr (v := iushr x0_2 4) hx hb dJ6_bitCount_0f7a4_27 rfl ?_
  refine lv_iadd hx hb dJ6_bitCount_0f7a4_28 ?_
  refine lv_ldcw (v := 252645135) hx hb hown (hts (.constant RJ6 267 (252645135)) (List.mem_of_getElem? (i := 3) rfl)) dJ6_bitCount_0f7a4_29 ?_
  refine lv_iand hx hb dJ6_bitCount_0f7a4_32 ?_
  refine lv_topi (fun x0_3 ex0_3 => ?_)
  have h := h x0_3 ex0_3
  refine lv_istore_n (lv' := [(0, .int x0_3)]) hx hb dJ6_bitCount_0f7a4_33 rfl hl (by decide) rfl (fun ls hl => ?_)
  refine lv_iload_n hx hb dJ6_bitCount_0f7a4_34 rfl (lv_at hl 0 rfl) ?_
  refine lv_iload_n hx hb dJ6_bitCount_0f7a4_35 rfl (lv_at hl 0 rfl) ?_
  refine lv_bipush (v := 8) hx hb dJ6_bitCount_0f7a4_36 (by decide) ?_
  refine lv_iushr (v := iushr x0_3 8) hx hb dJ6_bitCount_0f7a4_38 rfl ?_
  refine lv_iadd hx hb dJ6_bitCount_0f7a4_39 ?_
  refine lv_topi (fun x0_4 ex0_4 => ?_)
  have h := h x0_4 ex0_4
  refine lv_istore_n (lv' := [(0, .int x0_4)]) hx hb dJ6_bitCount_0f7a4_40 rfl hl (by decide) rfl (fun ls hl => ?_)
  refine lv_iload_n hx hb dJ6_bitCount_0f7a4_41 rfl (lv_at hl 0 rfl) ?_
  refine lv_iload_n hx hb dJ6_bitCount_0f7a4_42 rfl (lv_at hl 0 rfl) ?_
  refine lv_bipush (v := 16) hx hb dJ6_bitCount_0f7a4_43 (by decide) ?_
  refine lv_iushr (v := iushr x0_4 16) hx hb dJ6_bitCount_0f7a4_45 rfl ?_
  refine lv_iadd hx hb dJ6_bitCount_0f7a4_46 ?_
  refine lv_topi (fun x0_5 ex0_5 => ?_)
  have h := h x0_5 ex0_5
  refine lv_istore_n (lv' := [(0, .int x0_5)]) hx hb dJ6_bitCount_0f7a4_47 rfl hl (by decide) rfl (fun ls hl => ?_)
  refine lv_iload_n hx hb dJ6_bitCount_0f7a4_48 rfl (lv_at hl 0 rfl) ?_
  refine lv_bipush (v := 63) hx hb dJ6_bitCount_0f7a4_49 (by decide) ?_
  refine lv_iand hx hb dJ6_bitCount_0f7a4_51 ?_
  exact hret _ _ _ h dJ6_bitCount_0f7a4_52
abbrev Wd_Pa_hasLapsed (cy : ClassId × ClassId × ClassId × ClassId) (a_this a_familyWill a_flitchKind a_flitchCell a_flitchStrength a_familyKind a_familySide a_familyCell a_past a_sightings a_notes a_marks : Nat) (s_flitchCount : Int32) (s_familyCount : Int32) (s_hung : Int32) (s_day : Int32) (s_familyWill : Nat → Int32) : va_W := [(a_this, .inr (3, [.ref a_flitchKind, .ref a_flitchCell, .ref a_flitchStrength, .ref a_familyKind, .ref a_familySide, .ref a_familyCell, .ref a_familyWill, .ref a_past, .ref a_sightings, .ref a_notes, .ref a_marks, .int s_flitchCount, .int s_familyCount, .int s_hung, .int s_day])), (a_familyWill, .inl (cy.2.1, 7, .inl s_familyWill))]
abbrev rm_Pa_hasLapsed : Room := { frames := 0, cells := 0, slots := 0, locals := 0 }
def wp_Pa_hasLapsed (x1 : Int32) (s_familyWill : Nat → Int32) (Q : Int32 → Prop) : Prop := vp_in x1 7 ∧ ((1 ≤ (s_familyWill (Int32.toNatClampNeg x1)) → Q 0) ∧ (¬ 1 ≤ (s_familyWill (Int32.toNatClampNeg x1)) → Q 1))
set_option maxHeartbeats 4000000 in
set_option maxRecDepth 100000 in
theorem co_Pa_hasLapsed (l : Launch) (D : va_G) (cy : ClassId × ClassId × ClassId × ClassId) (a_this a_familyWill a_flitchKind a_flitchCell a_flitchStrength a_familyKind a_familySide a_familyCell a_past a_sightings a_notes a_marks : Nat) (s_flitchCount : Int32) (s_familyCount : Int32) (s_hung : Int32) (s_day : Int32) (s_familyWill : Nat → Int32) (x1 : Int32) (Q : Int32 → Prop) (h : wp_Pa_hasLapsed x1 s_familyWill Q) : RoI l yX4_hasLapsed wsX4_hasLapsed rm_Pa_hasLapsed D cy [.ref a_this, .int x1] (Wd_Pa_hasLapsed cy a_this a_familyWill a_flitchKind a_flitchCell a_flitchStrength a_familyKind a_familySide a_familyCell a_past a_sightings a_notes a_marks s_flitchCount s_familyCount s_hung s_day s_familyWill) Q := by
  refine st_metRZ (cc := cX4_hasLapsed) (maxL := 2) RX4 (by decide) rfl rfl (Nat.le_of_ble_eq_true rfl) ?_
  intro p e s m args below meth c QQ ls F hKK hP hl hret
  have hK := hKK.1
  have hnest := hKK.2.1
  have hx := F.1
  have hb := F.2.1
  have hown := F.2.2.2.1
  have hts := F.2.2.2.2
  have in_X4 : ∀ w ∈ u_ws RX4 TX4 15, w ∈ wsX4_hasLapsed := (fun _ h => List.mem_cons_of_mem _ (List.mem_append_right _ h))
  have fl_30 := (hts (.fieldLink RX4 30 "RasherCase$Parish" "familyWill" "[I") (List.mem_of_getElem? (i := 1) rfl))
  have hl : lv_has ls 2 [(0, .ref a_this), (1, .int x1)] := hl
  unfold wp_Pa_hasLapsed at h
  refine lv_aload_n hx hb dX4_hasLapsed_0 rfl (lv_at hl 0 rfl) ?_
  refine va_get (D := D) (ci := 3) (v := .ref a_familyWill) (C := RX4) (T := TX4) (N := 15) hx hb hts in_X4 hown hK hP 0 rfl rfl 6 (by decide) fl_30 (fun _ h9 => h9) rfl dX4_hasLapsed_1 ?_
  refine lv_iload_n hx hb dX4_hasLapsed_4 rfl (lv_at hl 1 rfl) ?_
  obtain ⟨hi_1, h⟩ := h
  refine va_iald hx hb hK hP 1 1 rfl rfl hi_1 dX4_hasLapsed_5 ?_
  refine lv_iconst (v := 1) hx hb dX4_hasLapsed_6 (by decide) ?_
  refine lv_icmp_ge (tgt := 14) hx hb dX4_hasLapsed_7 (by decide) (fun c_2 => ?_) (fun c_2 => ?_)
  · have h := h.1 c_2
    refine lv_iconst (v := 0) hx hb dX4_hasLapsed_14 (by decide) ?_
    exact hret _ _ _ bz0 h dX4_hasLapsed_15
  · have h := h.2 c_2
    refine lv_iconst (v := 1) hx hb dX4_hasLapsed_10 (by decide) ?_
    refine lv_goto (tgt := 15) hx hb dX4_hasLapsed_11 (by decide) ?_
    exact hret _ _ _ bz1 h dX4_hasLapsed_15
abbrev Wd_Fs_allHold (cy : ClassId × ClassId × ClassId × ClassId) (a_this a_parish a_parish_familyCell a_parish_familyKind a_parish_familyWill a_parish_flitchCell a_parish_flitchKind a_parish_flitchStrength a_taken a_lapses a_wills a_cells a_smelling a_windy a_parish_familySide a_parish_past a_parish_sightings a_parish_notes a_parish_marks : Nat) (s_parish_flitchCount : Int32) (s_parish_familyCount : Int32) (s_parish_hung : Int32) (s_parish_day : Int32) (s_parish_familyCell : Nat → Int32) (s_parish_familyKind : Nat → Int32) (s_parish_familyWill : Nat → Int32) (s_parish_flitchCell : Nat → Int32) (s_parish_flitchKind : Nat → Int32) (s_parish_flitchStrength : Nat → Int32) (s_taken : Nat → Int32) : va_W := [(a_this, .inr (1, [.ref a_parish, .ref a_taken, .ref a_lapses, .ref a_wills, .ref a_cells, .ref a_smelling, .ref a_windy])), (a_parish, .inr (3, [.ref a_parish_flitchKind, .ref a_parish_flitchCell, .ref a_parish_flitchStrength, .ref a_parish_familyKind, .ref a_parish_familySide, .ref a_parish_familyCell, .ref a_parish_familyWill, .ref a_parish_past, .ref a_parish_sightings, .ref a_parish_notes, .ref a_parish_marks, .int s_parish_flitchCount, .int s_parish_familyCount, .int s_parish_hung, .int s_parish_day])), (a_parish_familyCell, .inl (cy.2.1, 7, .inl s_parish_familyCell)), (a_parish_familyKind, .inl (cy.2.1, 7, .inl s_parish_familyKind)), (a_parish_familyWill, .inl (cy.2.1, 7, .inl s_parish_familyWill)), (a_parish_flitchCell, .inl (cy.2.1, 3, .inl s_parish_flitchCell)), (a_parish_flitchKind, .inl (cy.2.1, 3, .inl s_parish_flitchKind)), (a_parish_flitchStrength, .inl (cy.2.1, 3, .inl s_parish_flitchStrength)), (a_taken, .inl (cy.2.1, 61, .inl s_taken))]
abbrev rm_Fs_allHold : Room := { frames := 3, cells := 0, slots := 0, locals := 103 }
def wp_Fs_allHold (x1 : Int32) (x2 : Int32) (s_parish_flitchCount : Int32) (s_parish_familyCount : Int32) (s_parish_day : Int32) (s_parish_familyCell : Nat → Int32) (s_parish_familyKind : Nat → Int32) (s_parish_familyWill : Nat → Int32) (s_parish_flitchCell : Nat → Int32) (s_parish_flitchKind : Nat → Int32) (s_parish_flitchStrength : Nat → Int32) (s_taken : Nat → Int32) (Q : Int32 → (Nat → Int32) → Prop) : Prop := ∃ n : Nat, lpw2 (fun (B2 : Int32 → (Nat → Int32) → Prop) (x3_1 : Int32) (s_taken_2 : Nat → Int32) => ((s_parish_familyCount ≤ x3_1 → Q 1 s_taken_2) ∧ (¬ s_parish_familyCount ≤ x3_1 → wp_Pa_hasLapsed x3_1 s_parish_familyWill (fun (r_5 : Int32) => jn1 (fun (J68 : (Nat → Int32) → Prop) => ((¬ r_5 = 0 → J68 s_taken_2) ∧ (r_5 = 0 → vp_in x3_1 7 ∧ vp_in x3_1 7 ∧ wp_Fs_reckon (s_parish_familyKind (Int32.toNatClampNeg x3_1)) (s_parish_familyCell (Int32.toNatClampNeg x3_1)) x1 x2 s_parish_flitchCount s_parish_day s_parish_flitchCell s_parish_flitchKind s_parish_flitchStrength s_taken_2 (fun (s_taken_13 : Nat → Int32) => vp_in x2 61 ∧ vp_in x3_1 7 ∧ (((s_taken_13 (Int32.toNatClampNeg x2)) < (s_parish_familyWill (Int32.toNatClampNeg x3_1)) → J68 s_taken_13) ∧ (¬ (s_taken_13 (Int32.toNatClampNeg x2)) < (s_parish_familyWill (Int32.toNatClampNeg x3_1)) → Q 0 s_taken_13)))))) (fun (s_taken_6 : Nat → Int32) => ∀ x3_8 : Int32, x3_8 = x3_1 + 1 → B2 x3_8 s_taken_6))))) n 0 s_taken
set_option maxHeartbeats 4000000 in
set_option maxRecDepth 100000 in
theorem co_Fs_allHold (l : Launch) (D : va_G) (cy : ClassId × ClassId × ClassId × ClassId) (a_this a_parish a_parish_familyCell a_parish_familyKind a_parish_familyWill a_parish_flitchCell a_parish_flitchKind a_parish_flitchStrength a_taken a_lapses a_wills a_cells a_smelling a_windy a_parish_familySide a_parish_past a_parish_sightings a_parish_notes a_parish_marks : Nat) (s_parish_flitchCount : Int32) (s_parish_familyCount : Int32) (s_parish_hung : Int32) (s_parish_day : Int32) (s_parish_familyCell : Nat → Int32) (s_parish_familyKind : Nat → Int32) (s_parish_familyWill : Nat → Int32) (s_parish_flitchCell : Nat → Int32) (s_parish_flitchKind : Nat → Int32) (s_parish_flitchStrength : Nat → Int32) (s_taken : Nat → Int32) (x1 : Int32) (x2 : Int32) (Q : Int32 → (Nat → Int32) → Prop) (h : wp_Fs_allHold x1 x2 s_parish_flitchCount s_parish_familyCount s_parish_day s_parish_familyCell s_parish_familyKind s_parish_familyWill s_parish_flitchCell s_parish_flitchKind s_parish_flitchStrength s_taken Q) : CoI l yX1_allHold wsX1_allHold rm_Fs_allHold D cy [.ref a_this, .int x1, .int x2] (Wd_Fs_allHold cy a_this a_parish a_parish_familyCell a_parish_familyKind a_parish_familyWill a_parish_flitchCell a_parish_flitchKind a_parish_flitchStrength a_taken a_lapses a_wills a_cells a_smelling a_windy a_parish_familySide a_parish_past a_parish_sightings a_parish_notes a_parish_marks s_parish_flitchCount s_parish_familyCount s_parish_hung s_parish_day s_parish_familyCell s_parish_familyKind s_parish_familyWill s_parish_flitchCell s_parish_flitchKind s_parish_flitchStrength s_taken) (fun u : (Nat → Int32) => (Wd_Fs_allHold cy a_this a_parish a_parish_familyCell a_parish_familyKind a_parish_familyWill a_parish_flitchCell a_parish_flitchKind a_parish_flitchStrength a_taken a_lapses a_wills a_cells a_smelling a_windy a_parish_familySide a_parish_past a_parish_sightings a_parish_notes a_parish_marks s_parish_flitchCount s_parish_familyCount s_parish_hung s_parish_day s_parish_familyCell s_parish_familyKind s_parish_familyWill s_parish_flitchCell s_parish_flitchKind s_parish_flitchStrength u)) (fun (r : Int32) (u : (Nat → Int32)) => Q r u) := by
  refine st_metZ (cc := cX1_allHold) (maxL := 4) RX1 (by decide) rfl rfl (Nat.le_of_ble_eq_true rfl) ?_
  intro p e s m args below meth c A QQ ls F hA hKK hP hD hS hl hret
  have hK := hKK.1
  have hnest := hKK.2.1
  have hx := F.1
  have hb := F.2.1
  have hown := F.2.2.2.1
  have hts := F.2.2.2.2
  have in_X1 : ∀ w ∈ u_ws RX1 TX1 7, w ∈ wsX1_allHold := (fun _ h => List.mem_cons_of_mem _ (List.mem_append_left _ (List.mem_append_right _ h)))
  have in_X4 : ∀ w ∈ u_ws RX4 TX4 15, w ∈ wsX1_allHold := (fun _ h => List.mem_cons_of_mem _ (List.mem_append_right _ h))
  have fl_9 := (hts (.fieldLink RX1 9 "RasherCase$Foresight" "taken" "[I") (List.mem_of_getElem? (i := 5) rfl))
  have fl_30 := (hts (.fieldLink RX1 30 "RasherCase$Foresight" "parish" "LRasherCase$Parish;") (List.mem_of_getElem? (i := 1) rfl))
  have fl_49 := (hts (.fieldLink RX1 49 "RasherCase$Parish" "familyKind" "[I") (List.mem_of_getElem? (i := 3) rfl))
  have fl_52 := (hts (.fieldLink RX1 52 "RasherCase$Parish" "familyCell" "[I") (List.mem_of_getElem? (i := 4) rfl))
  have fl_62 := (hts (.fieldLink RX1 62 "RasherCase$Parish" "familyWill" "[I") (List.mem_of_getElem? (i := 6) rfl))
  have fl_74 := (hts (.fieldLink RX1 74 "RasherCase$Parish" "familyCount" "I") (List.mem_of_getElem? (i := 2) rfl))
  have hl : lv_has ls 4 [(0, .ref a_this), (1, .int x1), (2, .int x2)] := hl
  unfold wp_Fs_allHold at h
  refine lv_iconst (v := 0) hx hb dX1_allHold_0 (by decide) ?_
  refine lv_istore_n (lv' := [(3, .int 0), (0, .ref a_this), (1, .int x1), (2, .int x2)]) hx hb dX1_allHold_1 rfl hl (by decide) rfl (fun ls hl => ?_)
  obtain ⟨T2_2, hz2_2, hs2_2, n2_2, h⟩ := lpw2_use h
  have kT2_2 : ∀ (n : Nat) (x3_1 : Int32) (s_taken_2 : Nat → Int32) (H : Heap) (locs : List Loc) (ls : Array Slot), T2_2 n x3_1 s_taken_2 → va_P D vwCl (Wd_Fs_allHold cy a_this a_parish a_parish_familyCell a_parish_familyKind a_parish_familyWill a_parish_flitchCell a_parish_flitchKind a_parish_flitchStrength a_taken a_lapses a_wills a_cells a_smelling a_windy a_parish_familySide a_parish_past a_parish_sightings a_parish_notes a_parish_marks s_parish_flitchCount s_parish_familyCount s_parish_hung s_parish_day s_parish_familyCell s_parish_familyKind s_parish_familyWill s_parish_flitchCell s_parish_flitchKind s_parish_flitchStrength s_taken_2) H → va_D A (Wd_Fs_allHold cy a_this a_parish a_parish_familyCell a_parish_familyKind a_parish_familyWill a_parish_flitchCell a_parish_flitchKind a_parish_flitchStrength a_taken a_lapses a_wills a_cells a_smelling a_windy a_parish_familySide a_parish_past a_parish_sightings a_parish_notes a_parish_marks s_parish_flitchCount s_parish_familyCount s_parish_hung s_parish_day s_parish_familyCell s_parish_familyKind s_parish_familyWill s_parish_flitchCell s_parish_flitchKind s_parish_flitchStrength s_taken_2) → va_S A s.heap H locs → lv_has ls 4 [(0, .ref a_this), (1, .int x1), (2, .int x2), (3, .int x3_1)] → W p l e rm_Fs_allHold s m args below meth c H locs 0 0 QQ (F0 m 2 ls []) := by
    intro n
    induction n with
    | zero => intro x3_1 s_taken_2 H locs ls h; exact absurd h (hz2_2 _ _)
    | succ n ih2_2 =>
      intro x3_1 s_taken_2 H locs ls h hP hD hS hl
      have h := hs2_2 _ _ _ h
      refine lv_iload_n hx hb dX1_allHold_2 rfl (lv_at hl 3 rfl) ?_
      refine lv_aload_n hx hb dX1_allHold_3 rfl (lv_at hl 0 rfl) ?_
      refine va_get (D := D) (ci := 1) (v := .ref a_parish) (C := RX1) (T := TX1) (N := 7) hx hb hts in_X1 hown hK hP 0 rfl rfl 0 (by decide) fl_30 (fun _ h9 => h9) rfl dX1_allHold_4 ?_
      refine va_get (D := D) (ci := 3) (v := .int s_parish_familyCount) (C := RX4) (T := TX4) (N := 15) hx hb hts in_X4 hown hK hP 1 rfl rfl 12 (by decide) fl_74 (fun _ h9 => h9) rfl dX1_allHold_7 ?_
      refine lv_icmp_ge (tgt := 74) hx hb dX1_allHold_10 (by decide) (fun c_4 => ?_) (fun c_4 => ?_)
      · have h := h.1 c_4
        refine lv_iconst (v := 1) hx hb dX1_allHold_74 (by decide) ?_
        exact hret _ (s_taken_2) _ _ _ _ bz1 h hP hD hS dX1_allHold_75
      · have h := h.2 c_4
        refine lv_aload_n hx hb dX1_allHold_13 rfl (lv_at hl 0 rfl) ?_
        refine va_get (D := D) (ci := 1) (v := .ref a_parish) (C := RX1) (T := TX1) (N := 7) hx hb hts in_X1 hown hK hP 0 rfl rfl 0 (by decide) fl_30 (fun _ h9 => h9) rfl dX1_allHold_14 ?_
        refine lv_iload_n hx hb dX1_allHold_17 rfl (lv_at hl 3 rfl) ?_
        refine st_callRI (st_runVR (n := 1) (As := [.int x3_1]) (rest := []) (q0 := 0) F (co_Pa_hasLapsed l D cy a_parish a_parish_familyWill a_parish_flitchKind a_parish_flitchCell a_parish_flitchStrength a_parish_familyKind a_parish_familySide a_parish_familyCell a_parish_past a_parish_sightings a_parish_notes a_parish_marks s_parish_flitchCount s_parish_familyCount s_parish_hung s_parish_day s_parish_familyWill x3_1 _ h) gX1_allHold_X4_hasLapsed rfl (by decide +kernel) rfl hKK hP [1, 4] rfl rfl rfl rfl hl.1 rfl (Nat.le_of_ble_eq_true rfl) dX1_allHold_18) (fun r_5 h => ?_)
        obtain ⟨J68, hJ68, h⟩ := jn1_ex h
        have kJ68_6 : ∀ (s_taken_6 : Nat → Int32) (H : Heap) (locs : List Loc) (ls : Array Slot), J68 s_taken_6 → va_P D vwCl (Wd_Fs_allHold cy a_this a_parish a_parish_familyCell a_parish_familyKind a_parish_familyWill a_parish_flitchCell a_parish_flitchKind a_parish_flitchStrength a_taken a_lapses a_wills a_cells a_smelling a_windy a_parish_familySide a_parish_past a_parish_sightings a_parish_notes a_parish_marks s_parish_flitchCount s_parish_familyCount s_parish_hung s_parish_day s_parish_familyCell s_parish_familyKind s_parish_familyWill s_parish_flitchCell s_parish_flitchKind s_parish_flitchStrength s_taken_6) H → va_D A (Wd_Fs_allHold cy a_this a_parish a_parish_familyCell a_parish_familyKind a_parish_familyWill a_parish_flitchCell a_parish_flitchKind a_parish_flitchStrength a_taken a_lapses a_wills a_cells a_smelling a_windy a_parish_familySide a_parish_past a_parish_sightings a_parish_notes a_parish_marks s_parish_flitchCount s_parish_familyCount s_parish_hung s_parish_day s_parish_familyCell s_parish_familyKind s_parish_familyWill s_parish_flitchCell s_parish_flitchKind s_parish_flitchStrength s_taken_6) → va_S A s.heap H locs → lv_has ls 4 [(0, .ref a_this), (1, .int x1), (2, .int x2), (3, .int x3_1)] → W p l e rm_Fs_allHold s m args below meth c H locs 0 0 QQ (F0 m 68 ls []) := by
          intro s_taken_6 H locs ls h hP hD hS hl
          have h := hJ68 _ h
          obtain ⟨x3_8, ex3_8⟩ : ∃ y : Int32, y = x3_1 + 1 := ⟨_, rfl⟩
          have h := h x3_8 ex3_8
          refine lv_iinc (v := x3_8) (lv' := [(3, .int x3_8), (0, .ref a_this), (1, .int x1), (2, .int x2)]) hx hb dX1_allHold_68 hl (k := 3) rfl (by rw [ex3_8]; rfl) (by decide) rfl (fun ls hl => ?_)
          refine lv_goto (tgt := 2) hx hb dX1_allHold_71 (by decide) ?_
          exact ih2_2 _ _ _ _ _ h hP hD hS (lv_sub hl [1, 2, 3, 0] rfl)
        refine lv_if_ne (tgt := 68) hx hb dX1_allHold_21 (by decide) (fun c_9 => ?_) (fun c_9 => ?_)
        · have h := h.1 c_9
          exact kJ68_6 _ _ _ _ h hP hD hS (lv_sub hl [0, 1, 2, 3] rfl)
        · have h := h.2 c_9
          refine lv_aload_n hx hb dX1_allHold_24 rfl (lv_at hl 0 rfl) ?_
          refine lv_aload_n hx hb dX1_allHold_25 rfl (lv_at hl 0 rfl) ?_
          refine va_get (D := D) (ci := 1) (v := .ref a_parish) (C := RX1) (T := TX1) (N := 7) hx hb hts in_X1 hown hK hP 0 rfl rfl 0 (by decide) fl_30 (fun _ h9 => h9) rfl dX1_allHold_26 ?_
          refine va_get (D := D) (ci := 3) (v := .ref a_parish_familyKind) (C := RX4) (T := TX4) (N := 15) hx hb hts in_X4 hown hK hP 1 rfl rfl 3 (by decide) fl_49 (fun _ h9 => h9) rfl dX1_allHold_29 ?_
          refine lv_iload_n hx hb dX1_allHold_32 rfl (lv_at hl 3 rfl) ?_
          obtain ⟨hi_10, h⟩ := h
          refine va_iald hx hb hK hP 3 1 rfl rfl hi_10 dX1_allHold_33 ?_
          refine lv_aload_n hx hb dX1_allHold_34 rfl (lv_at hl 0 rfl) ?_
          refine va_get (D := D) (ci := 1) (v := .ref a_parish) (C := RX1) (T := TX1) (N := 7) hx hb hts in_X1 hown hK hP 0 rfl rfl 0 (by decide) fl_30 (fun _ h9 => h9) rfl dX1_allHold_35 ?_
          refine va_get (D := D) (ci := 3) (v := .ref a_parish_familyCell) (C := RX4) (T := TX4) (N := 15) hx hb hts in_X4 hown hK hP 1 rfl rfl 5 (by decide) fl_52 (fun _ h9 => h9) rfl dX1_allHold_38 ?_
          refine lv_iload_n hx hb dX1_allHold_41 rfl (lv_at hl 3 rfl) ?_
          obtain ⟨hi_11, h⟩ := h
          refine va_iald hx hb hK hP 2 1 rfl rfl hi_11 dX1_allHold_42 ?_
          refine lv_iload_n hx hb dX1_allHold_43 rfl (lv_at hl 1 rfl) ?_
          refine lv_iload_n hx hb dX1_allHold_44 rfl (lv_at hl 2 rfl) ?_
          refine st_callV (WR := [2, 3, 4].filterMap (fun i => (Wd_Fs_allHold cy a_this a_parish a_parish_familyCell a_parish_familyKind a_parish_familyWill a_parish_flitchCell a_parish_flitchKind a_parish_flitchStrength a_taken a_lapses a_wills a_cells a_smelling a_windy a_parish_familySide a_parish_past a_parish_sightings a_parish_notes a_parish_marks s_parish_flitchCount s_parish_familyCount s_parish_hung s_parish_day s_parish_familyCell s_parish_familyKind s_parish_familyWill s_parish_flitchCell s_parish_flitchKind s_parish_flitchStrength s_taken_2)[i]?)) (WSn := fun u => (Wd_Fs_allHold cy a_this a_parish a_parish_familyCell a_parish_familyKind a_parish_familyWill a_parish_flitchCell a_parish_flitchKind a_parish_flitchStrength a_taken a_lapses a_wills a_cells a_smelling a_windy a_parish_familySide a_parish_past a_parish_sightings a_parish_notes a_parish_marks s_parish_flitchCount s_parish_familyCount s_parish_hung s_parish_day s_parish_familyCell s_parish_familyKind s_parish_familyWill s_parish_flitchCell s_parish_flitchKind s_parish_flitchStrength u)) (st_runV (n := 4) (As := [.int (s_parish_familyKind (Int32.toNatClampNeg x3_1)), .int (s_parish_familyCell (Int32.toNatClampNeg x3_1)), .int x1, .int x2]) (rest := []) (q0 := 0) F ((co_Fs_reckon l D cy a_this a_parish a_parish_flitchCell a_parish_flitchKind a_parish_flitchStrength a_taken a_lapses a_wills a_cells a_smelling a_windy a_parish_familyKind a_parish_familySide a_parish_familyCell a_parish_familyWill a_parish_past a_parish_sightings a_parish_notes a_parish_marks s_parish_flitchCount s_parish_familyCount s_parish_hung s_parish_day s_parish_flitchCell s_parish_flitchKind s_parish_flitchStrength s_taken_2 (s_parish_familyKind (Int32.toNatClampNeg x3_1)) (s_parish_familyCell (Int32.toNatClampNeg x3_1)) x1 x2 _ h) _) rfl gX1_allHold_X1_reckon rfl (by decide +kernel) rfl hKK hP hD [0, 1, 5, 6, 7, 8] rfl rfl rfl rfl rfl hl.1 rfl (Nat.le_of_ble_eq_true rfl) dX1_allHold_45) hP hD hS hA [0, 1, 5, 6, 7, 8] [2, 3, 4] [3, 4, 0, 1, 2, 5, 6, 7, 8] rfl rfl rfl (fun _ => rfl) (fun u H locs h hP hD hS => ?_)
          obtain ⟨s_taken_13, rfl⟩ : ∃ z, z = u := ⟨_, rfl⟩
          have hP : va_P D vwCl (Wd_Fs_allHold cy a_this a_parish a_parish_familyCell a_parish_familyKind a_parish_familyWill a_parish_flitchCell a_parish_flitchKind a_parish_flitchStrength a_taken a_lapses a_wills a_cells a_smelling a_windy a_parish_familySide a_parish_past a_parish_sightings a_parish_notes a_parish_marks s_parish_flitchCount s_parish_familyCount s_parish_hung s_parish_day s_parish_familyCell s_parish_familyKind s_parish_familyWill s_parish_flitchCell s_parish_flitchKind s_parish_flitchStrength s_taken_13) H := hP
          have hD : va_D A (Wd_Fs_allHold cy a_this a_parish a_parish_familyCell a_parish_familyKind a_parish_familyWill a_parish_flitchCell a_parish_flitchKind a_parish_flitchStrength a_taken a_lapses a_wills a_cells a_smelling a_windy a_parish_familySide a_parish_past a_parish_sightings a_parish_notes a_parish_marks s_parish_flitchCount s_parish_familyCount s_parish_hung s_parish_day s_parish_familyCell s_parish_familyKind s_parish_familyWill s_parish_flitchCell s_parish_flitchKind s_parish_flitchStrength s_taken_13) := hD
          refine lv_aload_n hx hb dX1_allHold_48 rfl (lv_at hl 0 rfl) ?_
          refine va_get (D := D) (ci := 1) (v := .ref a_taken) (C := RX1) (T := TX1) (N := 7) hx hb hts in_X1 hown hK hP 0 rfl rfl 1 (by decide) fl_9 (fun _ h9 => h9) rfl dX1_allHold_49 ?_
          refine lv_iload_n hx hb dX1_allHold_52 rfl (lv_at hl 2 rfl) ?_
          obtain ⟨hi_14, h⟩ := h
          refine va_iald hx hb hK hP 8 1 rfl rfl hi_14 dX1_allHold_53 ?_
          refine lv_aload_n hx hb dX1_allHold_54 rfl (lv_at hl 0 rfl) ?_
          refine va_get (D := D) (ci := 1) (v := .ref a_parish) (C := RX1) (T := TX1) (N := 7) hx hb hts in_X1 hown hK hP 0 rfl rfl 0 (by decide) fl_30 (fun _ h9 => h9) rfl dX1_allHold_55 ?_
          refine va_get (D := D) (ci := 3) (v := .ref a_parish_familyWill) (C := RX4) (T := TX4) (N := 15) hx hb hts in_X4 hown hK hP 1 rfl rfl 6 (by decide) fl_62 (fun _ h9 => h9) rfl dX1_allHold_58 ?_
          refine lv_iload_n hx hb dX1_allHold_61 rfl (lv_at hl 3 rfl) ?_
          obtain ⟨hi_15, h⟩ := h
          refine va_iald hx hb hK hP 4 1 rfl rfl hi_15 dX1_allHold_62 ?_
          refine lv_icmp_lt (tgt := 68) hx hb dX1_allHold_63 (by decide) (fun c_16 => ?_) (fun c_16 => ?_)
          · have h := h.1 c_16
            exact kJ68_6 _ _ _ _ h hP hD hS (lv_sub hl [0, 1, 2, 3] rfl)
          · have h := h.2 c_16
            refine lv_iconst (v := 0) hx hb dX1_allHold_66 (by decide) ?_
            exact hret _ (s_taken_13) _ _ _ _ bz0 h hP hD hS dX1_allHold_67
  exact kT2_2 n2_2 _ _ _ _ _ h hP hD hS (lv_sub hl [1, 2, 3, 0] rfl)
abbrev Wd_Fs_fewestOut (cy : ClassId × ClassId × ClassId × ClassId) (a_this a_parish a_parish_familyCell a_parish_familyKind a_parish_familyWill a_parish_flitchCell a_parish_flitchKind a_parish_flitchStrength a_taken a_lapses a_wills a_cells a_smelling a_windy a_parish_familySide a_parish_past a_parish_sightings a_parish_notes a_parish_marks : Nat) (s_parish_flitchCount : Int32) (s_parish_familyCount : Int32) (s_parish_hung : Int32) (s_parish_day : Int32) (s_parish_familyCell : Nat → Int32) (s_parish_familyKind : Nat → Int32) (s_parish_familyWill : Nat → Int32) (s_parish_flitchCell : Nat → Int32) (s_parish_flitchKind : Nat → Int32) (s_parish_flitchStrength : Nat → Int32) (s_taken : Nat → Int32) : va_W := [(a_this, .inr (1, [.ref a_parish, .ref a_taken, .ref a_lapses, .ref a_wills, .ref a_cells, .ref a_smelling, .ref a_windy])), (a_parish, .inr (3, [.ref a_parish_flitchKind, .ref a_parish_flitchCell, .ref a_parish_flitchStrength, .ref a_parish_familyKind, .ref a_parish_familySide, .ref a_parish_familyCell, .ref a_parish_familyWill, .ref a_parish_past, .ref a_parish_sightings, .ref a_parish_notes, .ref a_parish_marks, .int s_parish_flitchCount, .int s_parish_familyCount, .int s_parish_hung, .int s_parish_day])), (a_parish_familyCell, .inl (cy.2.1, 7, .inl s_parish_familyCell)), (a_parish_familyKind, .inl (cy.2.1, 7, .inl s_parish_familyKind)), (a_parish_familyWill, .inl (cy.2.1, 7, .inl s_parish_familyWill)), (a_parish_flitchCell, .inl (cy.2.1, 3, .inl s_parish_flitchCell)), (a_parish_flitchKind, .inl (cy.2.1, 3, .inl s_parish_flitchKind)), (a_parish_flitchStrength, .inl (cy.2.1, 3, .inl s_parish_flitchStrength)), (a_taken, .inl (cy.2.1, 61, .inl s_taken))]
abbrev rm_Fs_fewestOut : Room := { frames := 4, cells := 0, slots := 0, locals := 126 }
def wp_Fs_fewestOut (x1 : Int32) (s_parish_flitchCount : Int32) (s_parish_familyCount : Int32) (s_parish_day : Int32) (s_parish_familyCell : Nat → Int32) (s_parish_familyKind : Nat → Int32) (s_parish_familyWill : Nat → Int32) (s_parish_flitchCell : Nat → Int32) (s_parish_flitchKind : Nat → Int32) (s_parish_flitchStrength : Nat → Int32) (s_taken : Nat → Int32) (Q : Int32 → (Nat → Int32) → Prop) : Prop := ∀ x3_1 : Int32, x3_1 = ((ishl 1 s_parish_flitchCount) - 1) → ∃ n : Nat, lpw3 (fun (B17 : Int32 → Int32 → (Nat → Int32) → Prop) (x2_2 : Int32) (x4_3 : Int32) (s_taken_4 : Nat → Int32) => ((x3_1 < x4_3 → Q x2_2 s_taken_4) ∧ (¬ x3_1 < x4_3 → jn1 (fun (J45 : Int32 → Prop) => jn0 (fun (J40 : Prop) => ((x2_2 = (-1) → J40) ∧ (¬ x2_2 = (-1) → wp_Ji_bitCount x4_3 (fun (r_19 : Int32) => wp_Ji_bitCount x2_2 (fun (r_20 : Int32) => ((r_20 ≤ r_19 → J45 0) ∧ (¬ r_20 ≤ r_19 → J40))))))) (J45 1)) (fun (v_7 : Int32) => jn2 (fun (J69 : Int32 → (Nat → Int32) → Prop) => ((v_7 = 0 → J69 x2_2 s_taken_4) ∧ (¬ v_7 = 0 → wp_Fs_allHold (x3_1 &&& (x4_3 ^^^ (-1))) x1 s_parish_flitchCount s_parish_familyCount s_parish_day s_parish_familyCell s_parish_familyKind s_parish_familyWill s_parish_flitchCell s_parish_flitchKind s_parish_flitchStrength s_taken_4 (fun (r_14 : Int32) (s_taken_15 : Nat → Int32) => ((r_14 = 0 → J69 x2_2 s_taken_15) ∧ (¬ r_14 = 0 → J69 x4_3 s_taken_15)))))) (fun (x2_9 : Int32) (s_taken_10 : Nat → Int32) => ∀ x4_12 : Int32, x4_12 = x4_3 + 1 → B17 x2_9 x4_12 s_taken_10))))) n (-1) 0 s_taken
set_option maxHeartbeats 4000000 in
set_option maxRecDepth 100000 in
theorem co_Fs_fewestOut (l : Launch) (D : va_G) (cy : ClassId × ClassId × ClassId × ClassId) (a_this a_parish a_parish_familyCell a_parish_familyKind a_parish_familyWill a_parish_flitchCell a_parish_flitchKind a_parish_flitchStrength a_taken a_lapses a_wills a_cells a_smelling a_windy a_parish_familySide a_parish_past a_parish_sightings a_parish_notes a_parish_marks : Nat) (s_parish_flitchCount : Int32) (s_parish_familyCount : Int32) (s_parish_hung : Int32) (s_parish_day : Int32) (s_parish_familyCell : Nat → Int32) (s_parish_familyKind : Nat → Int32) (s_parish_familyWill : Nat → Int32) (s_parish_flitchCell : Nat → Int32) (s_parish_flitchKind : Nat → Int32) (s_parish_flitchStrength : Nat → Int32) (s_taken : Nat → Int32) (x1 : Int32) (Q : Int32 → (Nat → Int32) → Prop) (h : wp_Fs_fewestOut x1 s_parish_flitchCount s_parish_familyCount s_parish_day s_parish_familyCell s_parish_familyKind s_parish_familyWill s_parish_flitchCell s_parish_flitchKind s_parish_flitchStrength s_taken Q) : CoI l yX1_fewestOut wsX1_fewestOut rm_Fs_fewestOut D cy [.ref a_this, .int x1] (Wd_Fs_fewestOut cy a_this a_parish a_parish_familyCell a_parish_familyKind a_parish_familyWill a_parish_flitchCell a_parish_flitchKind a_parish_flitchStrength a_taken a_lapses a_wills a_cells a_smelling a_windy a_parish_familySide a_parish_past a_parish_sightings a_parish_notes a_parish_marks s_parish_flitchCount s_parish_familyCount s_parish_hung s_parish_day s_parish_familyCell s_parish_familyKind s_parish_familyWill s_parish_flitchCell s_parish_flitchKind s_parish_flitchStrength s_taken) (fun u : (Nat → Int32) => (Wd_Fs_fewestOut cy a_this a_parish a_parish_familyCell a_parish_familyKind a_parish_familyWill a_parish_flitchCell a_parish_flitchKind a_parish_flitchStrength a_taken a_lapses a_wills a_cells a_smelling a_windy a_parish_familySide a_parish_past a_parish_sightings a_parish_notes a_parish_marks s_parish_flitchCount s_parish_familyCount s_parish_hung s_parish_day s_parish_familyCell s_parish_familyKind s_parish_familyWill s_parish_flitchCell s_parish_flitchKind s_parish_flitchStrength u)) (fun (r : Int32) (u : (Nat → Int32)) => Q r u) := by
  refine st_metI (cc := cX1_fewestOut) (maxL := 6) RX1 (by decide) rfl rfl (Nat.le_of_ble_eq_true rfl) ?_
  intro p e s m args below meth c A QQ ls F hA hKK hP hD hS hl hret
  have hK := hKK.1
  have hnest := hKK.2.1
  have hx := F.1
  have hb := F.2.1
  have hown := F.2.2.2.1
  have hts := F.2.2.2.2
  have in_X1 : ∀ w ∈ u_ws RX1 TX1 7, w ∈ wsX1_fewestOut := (fun _ h => List.mem_cons_of_mem _ (List.mem_append_left _ (List.mem_append_right _ h)))
  have in_X4 : ∀ w ∈ u_ws RX4 TX4 15, w ∈ wsX1_fewestOut := (fun _ h => List.mem_cons_of_mem _ (List.mem_append_right _ h))
  have fl_30 := (hts (.fieldLink RX1 30 "RasherCase$Foresight" "parish" "LRasherCase$Parish;") (List.mem_of_getElem? (i := 1) rfl))
  have fl_91 := (hts (.fieldLink RX1 91 "RasherCase$Parish" "flitchCount" "I") (List.mem_of_getElem? (i := 2) rfl))
  have hl : lv_has ls 6 [(0, .ref a_this), (1, .int x1)] := hl
  unfold wp_Fs_fewestOut at h
  refine lv_iconst (v := (-1)) hx hb dX1_fewestOut_0 (by decide) ?_
  refine lv_istore_n (lv' := [(2, .int (-1)), (0, .ref a_this), (1, .int x1)]) hx hb dX1_fewestOut_1 rfl hl (by decide) rfl (fun ls hl => ?_)
  refine lv_iconst (v := 1) hx hb dX1_fewestOut_2 (by decide) ?_
  refine lv_aload_n hx hb dX1_fewestOut_3 rfl (lv_at hl 1 rfl) ?_
  refine va_get (D := D) (ci := 1) (v := .ref a_parish) (C := RX1) (T := TX1) (N := 7) hx hb hts in_X1 hown hK hP 0 rfl rfl 0 (by decide) fl_30 (fun _ h9 => h9) rfl dX1_fewestOut_4 ?_
  refine va_get (D := D) (ci := 3) (v := .int s_parish_flitchCount) (C := RX4) (T := TX4) (N := 15) hx hb hts in_X4 hown hK hP 1 rfl rfl 11 (by decide) fl_91 (fun _ h9 => h9) rfl dX1_fewestOut_7 ?_
  refine lv_ishl hx hb dX1_fewestOut_10 ?_
  refine lv_iconst (v := 1) hx hb dX1_fewestOut_11 (by decide) ?_
  refine lv_isub hx hb dX1_fewestOut_12 ?_
  refine lv_topi (fun x3_1 ex3_1 => ?_)
  have h := h x3_1 ex3_1
  refine lv_istore_n (lv' := [(3, .int x3_1), (2, .int (-1)), (0, .ref a_this), (1, .int x1)]) hx hb dX1_fewestOut_13 rfl hl (by decide) rfl (fun ls hl => ?_)
  refine lv_iconst (v := 0) hx hb dX1_fewestOut_14 (by decide) ?_
  refine lv_istore (lv' := [(4, .int 0), (3, .int x3_1), (2, .int (-1)), (0, .ref a_this), (1, .int x1)]) hx hb dX1_fewestOut_15 hl (by decide) rfl (fun ls hl => ?_)
  obtain ⟨T17_4, hz17_4, hs17_4, n17_4, h⟩ := lpw3_use h
  have kT17_4 : ∀ (n : Nat) (x2_2 : Int32) (x4_3 : Int32) (s_taken_4 : Nat → Int32) (H : Heap) (locs : List Loc) (ls : Array Slot), T17_4 n x2_2 x4_3 s_taken_4 → va_P D vwCl (Wd_Fs_fewestOut cy a_this a_parish a_parish_familyCell a_parish_familyKind a_parish_familyWill a_parish_flitchCell a_parish_flitchKind a_parish_flitchStrength a_taken a_lapses a_wills a_cells a_smelling a_windy a_parish_familySide a_parish_past a_parish_sightings a_parish_notes a_parish_marks s_parish_flitchCount s_parish_familyCount s_parish_hung s_parish_day s_parish_familyCell s_parish_familyKind s_parish_familyWill s_parish_flitchCell s_parish_flitchKind s_parish_flitchStrength s_taken_4) H → va_D A (Wd_Fs_fewestOut cy a_this a_parish a_parish_familyCell a_parish_familyKind a_parish_familyWill a_parish_flitchCell a_parish_flitchKind a_parish_flitchStrength a_taken a_lapses a_wills a_cells a_smelling a_windy a_parish_familySide a_parish_past a_parish_sightings a_parish_notes a_parish_marks s_parish_flitchCount s_parish_familyCount s_parish_hung s_parish_day s_parish_familyCell s_parish_familyKind s_parish_familyWill s_parish_flitchCell s_parish_flitchKind s_parish_flitchStrength s_taken_4) → va_S A s.heap H locs → lv_has ls 6 [(0, .ref a_this), (1, .int x1), (2, .int x2_2), (3, .int x3_1), (4, .int x4_3)] → W p l e rm_Fs_fewestOut s m args below meth c H locs 0 0 QQ (F0 m 17 ls []) := by
    intro n
    induction n with
    | zero => intro x2_2 x4_3 s_taken_4 H locs ls h; exact absurd h (hz17_4 _ _ _)
    | succ n ih17_4 =>
      intro x2_2 x4_3 s_taken_4 H locs ls h hP hD hS hl
      have h := hs17_4 _ _ _ _ h
      refine lv_iload hx hb dX1_fewestOut_17 (lv_at hl 4 rfl) ?_
      refine lv_iload_n hx hb dX1_fewestOut_19 rfl (lv_at hl 3 rfl) ?_
      refine lv_icmp_gt (tgt := 75) hx hb dX1_fewestOut_20 (by decide) (fun c_6 => ?_) (fun c_6 => ?_)
      · have h := h.1 c_6
        refine lv_iload_n hx hb dX1_fewestOut_75 rfl (lv_at hl 2 rfl) ?_
        exact hret _ (s_taken_4) _ _ _ _ h hP hD hS dX1_fewestOut_76
      · have h := h.2 c_6
        refine lv_iload_n hx hb dX1_fewestOut_23 rfl (lv_at hl 2 rfl) ?_
        refine lv_iconst (v := (-1)) hx hb dX1_fewestOut_24 (by decide) ?_
        obtain ⟨J45, hJ45, h⟩ := jn1_ex h
        have kJ45_7 : ∀ (v_7 : Int32) (H : Heap) (locs : List Loc) (ls : Array Slot), J45 v_7 → va_P D vwCl (Wd_Fs_fewestOut cy a_this a_parish a_parish_familyCell a_parish_familyKind a_parish_familyWill a_parish_flitchCell a_parish_flitchKind a_parish_flitchStrength a_taken a_lapses a_wills a_cells a_smelling a_windy a_parish_familySide a_parish_past a_parish_sightings a_parish_notes a_parish_marks s_parish_flitchCount s_parish_familyCount s_parish_hung s_parish_day s_parish_familyCell s_parish_familyKind s_parish_familyWill s_parish_flitchCell s_parish_flitchKind s_parish_flitchStrength s_taken_4) H → va_D A (Wd_Fs_fewestOut cy a_this a_parish a_parish_familyCell a_parish_familyKind a_parish_familyWill a_parish_flitchCell a_parish_flitchKind a_parish_flitchStrength a_taken a_lapses a_wills a_cells a_smelling a_windy a_parish_familySide a_parish_past a_parish_sightings a_parish_notes a_parish_marks s_parish_flitchCount s_parish_familyCount s_parish_hung s_parish_day s_parish_familyCell s_parish_familyKind s_parish_familyWill s_parish_flitchCell s_parish_flitchKind s_parish_flitchStrength s_taken_4) → va_S A s.heap H locs → lv_has ls 6 [(0, .ref a_this), (1, .int x1), (2, .int x2_2), (3, .int x3_1), (4, .int x4_3)] → W p l e rm_Fs_fewestOut s m args below meth c H locs 0 0 QQ (F0 m 45 ls [.int v_7]) := by
          intro v_7 H locs ls h hP hD hS hl
          have h := hJ45 _ h
          refine lv_istore (lv' := [(5, .int v_7), (0, .ref a_this), (1, .int x1), (2, .int x2_2), (3, .int x3_1), (4, .int x4_3)]) hx hb dX1_fewestOut_45 hl (by decide) rfl (fun ls hl => ?_)
          refine lv_iload hx hb dX1_fewestOut_47 (lv_at hl 0 rfl) ?_
          obtain ⟨J69, hJ69, h⟩ := jn2_ex h
          have kJ69_10 : ∀ (x2_9 : Int32) (s_taken_10 : Nat → Int32) (H : Heap) (locs : List Loc) (ls : Array Slot), J69 x2_9 s_taken_10 → va_P D vwCl (Wd_Fs_fewestOut cy a_this a_parish a_parish_familyCell a_parish_familyKind a_parish_familyWill a_parish_flitchCell a_parish_flitchKind a_parish_flitchStrength a_taken a_lapses a_wills a_cells a_smelling a_windy a_parish_familySide a_parish_past a_parish_sightings a_parish_notes a_parish_marks s_parish_flitchCount s_parish_familyCount s_parish_hung s_parish_day s_parish_familyCell s_parish_familyKind s_parish_familyWill s_parish_flitchCell s_parish_flitchKind s_parish_flitchStrength s_taken_10) H → va_D A (Wd_Fs_fewestOut cy a_this a_parish a_parish_familyCell a_parish_familyKind a_parish_familyWill a_parish_flitchCell a_parish_flitchKind a_parish_flitchStrength a_taken a_lapses a_wills a_cells a_smelling a_windy a_parish_familySide a_parish_past a_parish_sightings a_parish_notes a_parish_marks s_parish_flitchCount s_parish_familyCount s_parish_hung s_parish_day s_parish_familyCell s_parish_familyKind s_parish_familyWill s_parish_flitchCell s_parish_flitchKind s_parish_flitchStrength s_taken_10) → va_S A s.heap H locs → lv_has ls 6 [(0, .ref a_this), (1, .int x1), (2, .int x2_9), (3, .int x3_1), (4, .int x4_3)] → W p l e rm_Fs_fewestOut s m args below meth c H locs 0 0 QQ (F0 m 69 ls []) := by
            intro x2_9 s_taken_10 H locs ls h hP hD hS hl
            have h := hJ69 _ _ h
            obtain ⟨x4_12, ex4_12⟩ : ∃ y : Int32, y = x4_3 + 1 := ⟨_, rfl⟩
            have h := h x4_12 ex4_12
            refine lv_iinc (v := x4_12) (lv' := [(4, .int x4_12), (0, .ref a_this), (1, .int x1), (2, .int x2_9), (3, .int x3_1)]) hx hb dX1_fewestOut_69 hl (k := 4) rfl (by rw [ex4_12]; rfl) (by decide) rfl (fun ls hl => ?_)
            refine lv_goto (tgt := 17) hx hb dX1_fewestOut_72 (by decide) ?_
            exact ih17_4 _ _ _ _ _ _ h hP hD hS (lv_sub hl [1, 2, 3, 4, 0] rfl)
          refine lv_if_eq (tgt := 69) hx hb dX1_fewestOut_49 (by decide) (fun c_13 => ?_) (fun c_13 => ?_)
          · have h := h.1 c_13
            exact kJ69_10 _ _ _ _ _ h hP hD hS (lv_sub hl [1, 2, 3, 4, 5] rfl)
          · have h := h.2 c_13
            refine lv_aload_n hx hb dX1_fewestOut_52 rfl (lv_at hl 1 rfl) ?_
            refine lv_iload_n hx hb dX1_fewestOut_53 rfl (lv_at hl 4 rfl) ?_
            refine lv_iload hx hb dX1_fewestOut_54 (lv_at hl 5 rfl) ?_
            refine lv_iconst (v := (-1)) hx hb dX1_fewestOut_56 (by decide) ?_
            refine lv_ixor hx hb dX1_fewestOut_57 ?_
            refine lv_iand hx hb dX1_fewestOut_58 ?_
            refine lv_iload_n hx hb dX1_fewestOut_59 rfl (lv_at hl 2 rfl) ?_
            refine st_callI (WR := []) (WSn := fun u => (Wd_Fs_fewestOut cy a_this a_parish a_parish_familyCell a_parish_familyKind a_parish_familyWill a_parish_flitchCell a_parish_flitchKind a_parish_flitchStrength a_taken a_lapses a_wills a_cells a_smelling a_windy a_parish_familySide a_parish_past a_parish_sightings a_parish_notes a_parish_marks s_parish_flitchCount s_parish_familyCount s_parish_hung s_parish_day s_parish_familyCell s_parish_familyKind s_parish_familyWill s_parish_flitchCell s_parish_flitchKind s_parish_flitchStrength u)) (st_runV (n := 2) (As := [.int (x3_1 &&& (x4_3 ^^^ (-1))), .int x1]) (rest := []) (q0 := 0) F ((co_Fs_allHold l D cy a_this a_parish a_parish_familyCell a_parish_familyKind a_parish_familyWill a_parish_flitchCell a_parish_flitchKind a_parish_flitchStrength a_taken a_lapses a_wills a_cells a_smelling a_windy a_parish_familySide a_parish_past a_parish_sightings a_parish_notes a_parish_marks s_parish_flitchCount s_parish_familyCount s_parish_hung s_parish_day s_parish_familyCell s_parish_familyKind s_parish_familyWill s_parish_flitchCell s_parish_flitchKind s_parish_flitchStrength s_taken_4 (x3_1 &&& (x4_3 ^^^ (-1))) x1 _ h) _) rfl gX1_fewestOut_X1_allHold rfl (by decide +kernel) rfl hKK hP hD [0, 1, 2, 3, 4, 5, 6, 7, 8] rfl rfl rfl rfl rfl hl.1 rfl (Nat.le_of_ble_eq_true rfl) dX1_fewestOut_60) hP hD hS hA [0, 1, 2, 3, 4, 5, 6, 7, 8] [] [0, 1, 2, 3, 4, 5, 6, 7, 8] rfl rfl rfl (fun _ => rfl) (fun r_14 u H locs h hP hD hS => ?_)
            obtain ⟨s_taken_15, rfl⟩ : ∃ z, z = u := ⟨_, rfl⟩
            have hP : va_P D vwCl (Wd_Fs_fewestOut cy a_this a_parish a_parish_familyCell a_parish_familyKind a_parish_familyWill a_parish_flitchCell a_parish_flitchKind a_parish_flitchStrength a_taken a_lapses a_wills a_cells a_smelling a_windy a_parish_familySide a_parish_past a_parish_sightings a_parish_notes a_parish_marks s_parish_flitchCount s_parish_familyCount s_parish_hung s_parish_day s_parish_familyCell s_parish_familyKind s_parish_familyWill s_parish_flitchCell s_parish_flitchKind s_parish_flitchStrength s_taken_15) H := hP
            have hD : va_D A (Wd_Fs_fewestOut cy a_this a_parish a_parish_familyCell a_parish_familyKind a_parish_familyWill a_parish_flitchCell a_parish_flitchKind a_parish_flitchStrength a_taken a_lapses a_wills a_cells a_smelling a_windy a_parish_familySide a_parish_past a_parish_sightings a_parish_notes a_parish_marks s_parish_flitchCount s_parish_familyCount s_parish_hung s_parish_day s_parish_familyCell s_parish_familyKind s_parish_familyWill s_parish_flitchCell s_parish_flitchKind s_parish_flitchStrength s_taken_15) := hD
            refine lv_if_eq (tgt := 69) hx hb dX1_fewestOut_63 (by decide) (fun c_16 => ?_) (fun c_16 => ?_)
            · have h := h.1 c_16
              exact kJ69_10 _ _ _ _ _ h hP hD hS (lv_sub hl [1, 2, 3, 4, 5] rfl)
            · have h := h.2 c_16
              refine lv_iload hx hb dX1_fewestOut_66 (lv_at hl 5 rfl) ?_
              refine lv_istore_n (lv' := [(2, .int x4_3), (5, .int v_7), (0, .ref a_this), (1, .int x1), (3, .int x3_1), (4, .int x4_3)]) hx hb dX1_fewestOut_68 rfl hl (by decide) rfl (fun ls hl => ?_)
              exact kJ69_10 _ _ _ _ _ h hP hD hS (lv_sub hl [2, 3, 0, 4, 5] rfl)
        obtain ⟨J40, hJ40, h⟩ := jn0_ex h
        have kJ40_16 : ∀  (H : Heap) (locs : List Loc) (ls : Array Slot), J40 → va_P D vwCl (Wd_Fs_fewestOut cy a_this a_parish a_parish_familyCell a_parish_familyKind a_parish_familyWill a_parish_flitchCell a_parish_flitchKind a_parish_flitchStrength a_taken a_lapses a_wills a_cells a_smelling a_windy a_parish_familySide a_parish_past a_parish_sightings a_parish_notes a_parish_marks s_parish_flitchCount s_parish_familyCount s_parish_hung s_parish_day s_parish_familyCell s_parish_familyKind s_parish_familyWill s_parish_flitchCell s_parish_flitchKind s_parish_flitchStrength s_taken_4) H → va_D A (Wd_Fs_fewestOut cy a_this a_parish a_parish_familyCell a_parish_familyKind a_parish_familyWill a_parish_flitchCell a_parish_flitchKind a_parish_flitchStrength a_taken a_lapses a_wills a_cells a_smelling a_windy a_parish_familySide a_parish_past a_parish_sightings a_parish_notes a_parish_marks s_parish_flitchCount s_parish_familyCount s_parish_hung s_parish_day s_parish_familyCell s_parish_familyKind s_parish_familyWill s_parish_flitchCell s_parish_flitchKind s_parish_flitchStrength s_taken_4) → va_S A s.heap H locs → lv_has ls 6 [(0, .ref a_this), (1, .int x1), (2, .int x2_2), (3, .int x3_1), (4, .int x4_3)] → W p l e rm_Fs_fewestOut s m args below meth c H locs 0 0 QQ (F0 m 40 ls []) := by
          intro  H locs ls h hP hD hS hl
          have h := hJ40  h
          refine lv_iconst (v := 1) hx hb dX1_fewestOut_40 (by decide) ?_
          refine lv_goto (tgt := 45) hx hb dX1_fewestOut_41 (by decide) ?_
          exact kJ45_7 _ _ _ _ h hP hD hS (lv_sub hl [0, 1, 2, 3, 4] rfl)
        refine lv_icmp_eq (tgt := 40) hx hb dX1_fewestOut_25 (by decide) (fun c_18 => ?_) (fun c_18 => ?_)
        · have h := h.1 c_18
          exact kJ40_16  _ _ _ h hP hD hS (lv_sub hl [0, 1, 2, 3, 4] rfl)
        · have h := h.2 c_18
          refine lv_iload hx hb dX1_fewestOut_28 (lv_at hl 4 rfl) ?_
          refine st_callRI (st_runSR (n := 1) (As := [.int x4_3]) (rest := []) F (co_Ji_bitCount l D cy x4_3 _ h) gX1_fewestOut_J6_bitCount_0f7a4 rfl (by decide +kernel) rfl hKK hP [] rfl rfl hl.1 rfl (Nat.le_of_ble_eq_true rfl) dX1_fewestOut_30) (fun r_19 h => ?_)
          refine lv_iload_n hx hb dX1_fewestOut_33 rfl (lv_at hl 2 rfl) ?_
          refine st_callRI (st_runSR (n := 1) (As := [.int x2_2]) (rest := [.int r_19]) F (co_Ji_bitCount l D cy x2_2 _ h) gX1_fewestOut_J6_bitCount_0f7a4 rfl (by decide +kernel) rfl hKK hP [] rfl rfl hl.1 rfl (Nat.le_of_ble_eq_true rfl) dX1_fewestOut_34) (fun r_20 h => ?_)
          refine lv_icmp_ge (tgt := 44) hx hb dX1_fewestOut_37 (by decide) (fun c_21 => ?_) (fun c_21 => ?_)
          · have h := h.1 c_21
            refine lv_iconst (v := 0) hx hb dX1_fewestOut_44 (by decide) ?_
            exact kJ45_7 _ _ _ _ h hP hD hS (lv_sub hl [0, 1, 2, 3, 4] rfl)
          · have h := h.2 c_21
            exact kJ40_16  _ _ _ h hP hD hS (lv_sub hl [0, 1, 2, 3, 4] rfl)
  exact kT17_4 n17_4 _ _ _ _ _ _ h hP hD hS (lv_sub hl [3, 4, 2, 1, 0] rfl)
abbrev Wd_Rw_at (cy : ClassId × ClassId × ClassId × ClassId) (a_this a_numbers : Nat) (n_numbers : Nat) (s_width : Int32) (s_limit : Int32) (s_size : Int32) (s_numbers : Nat → Int32) : va_W := [(a_this, .inr (5, [.int s_width, .int s_limit, .ref a_numbers, .int s_size])), (a_numbers, .inl (cy.2.1, n_numbers, .inl s_numbers))]
abbrev rm_Rw_at : Room := { frames := 0, cells := 0, slots := 0, locals := 0 }
def wp_Rw_at (x1 : Int32) (x2 : Int32) (n_numbers : Nat) (s_width : Int32) (s_numbers : Nat → Int32) (Q : Int32 → Prop) : Prop := vp_in ((x1 * s_width) + x2) n_numbers ∧ Q (s_numbers (Int32.toNatClampNeg ((x1 * s_width) + x2)))
set_option maxHeartbeats 4000000 in
set_option maxRecDepth 100000 in
theorem co_Rw_at (l : Launch) (D : va_G) (cy : ClassId × ClassId × ClassId × ClassId) (a_this a_numbers : Nat) (n_numbers : Nat) (s_width : Int32) (s_limit : Int32) (s_size : Int32) (s_numbers : Nat → Int32) (x1 : Int32) (x2 : Int32) (Q : Int32 → Prop) (h : wp_Rw_at x1 x2 n_numbers s_width s_numbers Q) : RoI l yX6_at wsX6_at rm_Rw_at D cy [.ref a_this, .int x1, .int x2] (Wd_Rw_at cy a_this a_numbers n_numbers s_width s_limit s_size s_numbers) Q := by
  refine st_metRI (cc := cX6_at) (maxL := 3) RX6 (by decide) rfl rfl (Nat.le_of_ble_eq_true rfl) ?_
  intro p e s m args below meth c QQ ls F hKK hP hl hret
  have hK := hKK.1
  have hnest := hKK.2.1
  have hx := F.1
  have hb := F.2.1
  have hown := F.2.2.2.1
  have hts := F.2.2.2.2
  have in_X6 : ∀ w ∈ u_ws RX6 TX6 4, w ∈ wsX6_at := (fun _ h => List.mem_cons_of_mem _ (List.mem_append_right _ h))
  have fl_7 := (hts (.fieldLink RX6 7 "RasherCase$Rows" "width" "I") (List.mem_of_getElem? (i := 2) rfl))
  have fl_16 := (hts (.fieldLink RX6 16 "RasherCase$Rows" "numbers" "[I") (List.mem_of_getElem? (i := 1) rfl))
  have hl : lv_has ls 3 [(0, .ref a_this), (1, .int x1), (2, .int x2)] := hl
  unfold wp_Rw_at at h
  refine lv_aload_n hx hb dX6_at_0 rfl (lv_at hl 0 rfl) ?_
  refine va_get (D := D) (ci := 5) (v := .ref a_numbers) (C := RX6) (T := TX6) (N := 4) hx hb hts in_X6 hown hK hP 0 rfl rfl 2 (by decide) fl_16 (fun _ h9 => h9) rfl dX6_at_1 ?_
  refine lv_iload_n hx hb dX6_at_4 rfl (lv_at hl 1 rfl) ?_
  refine lv_aload_n hx hb dX6_at_5 rfl (lv_at hl 0 rfl) ?_
  refine va_get (D := D) (ci := 5) (v := .int s_width) (C := RX6) (T := TX6) (N := 4) hx hb hts in_X6 hown hK hP 0 rfl rfl 0 (by decide) fl_7 (fun _ h9 => h9) rfl dX6_at_6 ?_
  refine lv_imul hx hb dX6_at_9 ?_
  refine lv_iload_n hx hb dX6_at_10 rfl (lv_at hl 2 rfl) ?_
  refine lv_iadd hx hb dX6_at_11 ?_
  obtain ⟨hi_1, h⟩ := h
  refine va_iald hx hb hK hP 1 1 rfl rfl hi_1 dX6_at_12 ?_
  exact hret _ _ _ h dX6_at_13
abbrev Wd_Fs_fits (cy : ClassId × ClassId × ClassId × ClassId) (a_this a_parish a_parish_sightings a_parish_sightings_numbers a_taken a_lapses a_wills a_cells a_smelling a_windy a_parish_flitchKind a_parish_flitchCell a_parish_flitchStrength a_parish_familyKind a_parish_familySide a_parish_familyCell a_parish_familyWill a_parish_past a_parish_notes a_parish_marks : Nat) (s_parish_flitchCount : Int32) (s_parish_familyCount : Int32) (s_parish_hung : Int32) (s_parish_day : Int32) (s_parish_sightings_width : Int32) (s_parish_sightings_limit : Int32) (s_parish_sightings_size : Int32) (s_parish_sightings_numbers : Nat → Int32) (s_taken : Nat → Int32) : va_W := [(a_this, .inr (1, [.ref a_parish, .ref a_taken, .ref a_lapses, .ref a_wills, .ref a_cells, .ref a_smelling, .ref a_windy])), (a_parish, .inr (3, [.ref a_parish_flitchKind, .ref a_parish_flitchCell, .ref a_parish_flitchStrength, .ref a_parish_familyKind, .ref a_parish_familySide, .ref a_parish_familyCell, .ref a_parish_familyWill, .ref a_parish_past, .ref a_parish_sightings, .ref a_parish_notes, .ref a_parish_marks, .int s_parish_flitchCount, .int s_parish_familyCount, .int s_parish_hung, .int s_parish_day])), (a_parish_sightings, .inr (5, [.int s_parish_sightings_width, .int s_parish_sightings_limit, .ref a_parish_sightings_numbers, .int s_parish_sightings_size])), (a_parish_sightings_numbers, .inl (cy.2.1, 15, .inl s_parish_sightings_numbers)), (a_taken, .inl (cy.2.1, 61, .inl s_taken))]
abbrev rm_Fs_fits : Room := { frames := 1, cells := 0, slots := 0, locals := 22 }
def wp_Fs_fits (x1 : Int32) (x2 : Int32) (s_parish_sightings_width : Int32) (s_parish_sightings_size : Int32) (s_parish_sightings_numbers : Nat → Int32) (s_taken : Nat → Int32) (Q : Int32 → Prop) : Prop := ∃ n : Nat, lpw1 (fun (B11 : Int32 → Prop) (x4_1 : Int32) => ((s_parish_sightings_size ≤ x4_1 → Q 1) ∧ (¬ s_parish_sightings_size ≤ x4_1 → wp_Rw_at x4_1 0 15 s_parish_sightings_width s_parish_sightings_numbers (fun (r_4 : Int32) => jn0 (fun (J77 : Prop) => ((¬ r_4 = x1 → J77) ∧ (r_4 = x1 → wp_Rw_at x4_1 1 15 s_parish_sightings_width s_parish_sightings_numbers (fun (r_8 : Int32) => vp_in r_8 61 ∧ jn1 (fun (J52 : Int32 → Prop) => (((s_taken (Int32.toNatClampNeg r_8)) < x2 → J52 0) ∧ (¬ (s_taken (Int32.toNatClampNeg r_8)) < x2 → J52 1))) (fun (v_10 : Int32) => wp_Rw_at x4_1 2 15 s_parish_sightings_width s_parish_sightings_numbers (fun (r_12 : Int32) => jn1 (fun (J72 : Int32 → Prop) => ((¬ r_12 = 1 → J72 0) ∧ (r_12 = 1 → J72 1))) (fun (v_13 : Int32) => ((v_10 = v_13 → J77) ∧ (¬ v_10 = v_13 → Q 0))))))))) (∀ x4_6 : Int32, x4_6 = x4_1 + 1 → B11 x4_6))))) n 0
set_option maxHeartbeats 4000000 in
set_option maxRecDepth 100000 in
theorem co_Fs_fits (l : Launch) (D : va_G) (cy : ClassId × ClassId × ClassId × ClassId) (a_this a_parish a_parish_sightings a_parish_sightings_numbers a_taken a_lapses a_wills a_cells a_smelling a_windy a_parish_flitchKind a_parish_flitchCell a_parish_flitchStrength a_parish_familyKind a_parish_familySide a_parish_familyCell a_parish_familyWill a_parish_past a_parish_notes a_parish_marks : Nat) (s_parish_flitchCount : Int32) (s_parish_familyCount : Int32) (s_parish_hung : Int32) (s_parish_day : Int32) (s_parish_sightings_width : Int32) (s_parish_sightings_limit : Int32) (s_parish_sightings_size : Int32) (s_parish_sightings_numbers : Nat → Int32) (s_taken : Nat → Int32) (x1 : Int32) (x2 : Int32) (Q : Int32 → Prop) (h : wp_Fs_fits x1 x2 s_parish_sightings_width s_parish_sightings_size s_parish_sightings_numbers s_taken Q) : RoI l yX1_fits wsX1_fits rm_Fs_fits D cy [.ref a_this, .int x1, .int x2] (Wd_Fs_fits cy a_this a_parish a_parish_sightings a_parish_sightings_numbers a_taken a_lapses a_wills a_cells a_smelling a_windy a_parish_flitchKind a_parish_flitchCell a_parish_flitchStrength a_parish_familyKind a_parish_familySide a_parish_familyCell a_parish_familyWill a_parish_past a_parish_notes a_parish_marks s_parish_flitchCount s_parish_familyCount s_parish_hung s_parish_day s_parish_sightings_width s_parish_sightings_limit s_parish_sightings_size s_parish_sightings_numbers s_taken) Q := by
  refine st_metRZ (cc := cX1_fits) (maxL := 6) RX1 (by decide) rfl rfl (Nat.le_of_ble_eq_true rfl) ?_
  intro p e s m args below meth c QQ ls F hKK hP hl hret
  have hK := hKK.1
  have hnest := hKK.2.1
  have hx := F.1
  have hb := F.2.1
  have hown := F.2.2.2.1
  have hts := F.2.2.2.2
  have in_X1 : ∀ w ∈ u_ws RX1 TX1 7, w ∈ wsX1_fits := (fun _ h => List.mem_cons_of_mem _ (List.mem_append_left _ (List.mem_append_left _ (List.mem_append_right _ h))))
  have in_X4 : ∀ w ∈ u_ws RX4 TX4 15, w ∈ wsX1_fits := (fun _ h => List.mem_cons_of_mem _ (List.mem_append_left _ (List.mem_append_right _ h)))
  have in_X6 : ∀ w ∈ u_ws RX6 TX6 4, w ∈ wsX1_fits := (fun _ h => List.mem_cons_of_mem _ (List.mem_append_right _ h))
  have fl_9 := (hts (.fieldLink RX1 9 "RasherCase$Foresight" "taken" "[I") (List.mem_of_getElem? (i := 4) rfl))
  have fl_30 := (hts (.fieldLink RX1 30 "RasherCase$Foresight" "parish" "LRasherCase$Parish;") (List.mem_of_getElem? (i := 1) rfl))
  have fl_110 := (hts (.fieldLink RX1 110 "RasherCase$Parish" "sightings" "LRasherCase$Rows;") (List.mem_of_getElem? (i := 2) rfl))
  have fl_114 := (hts (.fieldLink RX1 114 "RasherCase$Rows" "size" "I") (List.mem_of_getElem? (i := 3) rfl))
  have hl : lv_has ls 6 [(0, .ref a_this), (1, .int x1), (2, .int x2)] := hl
  unfold wp_Fs_fits at h
  refine lv_aload_n hx hb dX1_fits_0 rfl (lv_at hl 0 rfl) ?_
  refine va_get (D := D) (ci := 1) (v := .ref a_parish) (C := RX1) (T := TX1) (N := 7) hx hb hts in_X1 hown hK hP 0 rfl rfl 0 (by decide) fl_30 (fun _ h9 => h9) rfl dX1_fits_1 ?_
  refine va_get (D := D) (ci := 3) (v := .ref a_parish_sightings) (C := RX4) (T := TX4) (N := 15) hx hb hts in_X4 hown hK hP 1 rfl rfl 8 (by decide) fl_110 (fun _ h9 => h9) rfl dX1_fits_4 ?_
  refine lv_astore_n (lv' := [(3, .ref a_parish_sightings), (0, .ref a_this), (1, .int x1), (2, .int x2)]) hx hb dX1_fits_7 rfl hl (by decide) rfl (fun ls hl => ?_)
  refine lv_iconst (v := 0) hx hb dX1_fits_8 (by decide) ?_
  refine lv_istore (lv' := [(4, .int 0), (3, .ref a_parish_sightings), (0, .ref a_this), (1, .int x1), (2, .int x2)]) hx hb dX1_fits_9 hl (by decide) rfl (fun ls hl => ?_)
  obtain ⟨T11_1, hz11_1, hs11_1, n11_1, h⟩ := lpw1_use h
  have kT11_1 : ∀ (n : Nat) (x4_1 : Int32) (ls : Array Slot), T11_1 n x4_1 → lv_has ls 6 [(0, .ref a_this), (1, .int x1), (2, .int x2), (3, .ref a_parish_sightings), (4, .int x4_1)] → W p l e rm_Fs_fits s m args below meth c s.heap [] 0 0 QQ (F0 m 11 ls []) := by
    intro n
    induction n with
    | zero => intro x4_1 ls h; exact absurd h (hz11_1 _)
    | succ n ih11_1 =>
      intro x4_1 ls h hl
      have h := hs11_1 _ _ h
      refine lv_iload hx hb dX1_fits_11 (lv_at hl 4 rfl) ?_
      refine lv_aload_n hx hb dX1_fits_13 rfl (lv_at hl 3 rfl) ?_
      refine va_get (D := D) (ci := 5) (v := .int s_parish_sightings_size) (C := RX6) (T := TX6) (N := 4) hx hb hts in_X6 hown hK hP 2 rfl rfl 3 (by decide) fl_114 (fun _ h9 => h9) rfl dX1_fits_14 ?_
      refine lv_icmp_ge (tgt := 83) hx hb dX1_fits_17 (by decide) (fun c_3 => ?_) (fun c_3 => ?_)
      · have h := h.1 c_3
        refine lv_iconst (v := 1) hx hb dX1_fits_83 (by decide) ?_
        exact hret _ _ _ bz1 h dX1_fits_84
      · have h := h.2 c_3
        refine lv_aload_n hx hb dX1_fits_20 rfl (lv_at hl 3 rfl) ?_
        refine lv_iload hx hb dX1_fits_21 (lv_at hl 4 rfl) ?_
        refine lv_iconst (v := 0) hx hb dX1_fits_23 (by decide) ?_
        refine st_callRI (st_runVR (n := 2) (As := [.int x4_1, .int 0]) (rest := []) (q0 := 0) F (co_Rw_at l D cy a_parish_sightings a_parish_sightings_numbers 15 s_parish_sightings_width s_parish_sightings_limit s_parish_sightings_size s_parish_sightings_numbers x4_1 0 _ h) gX1_fits_X6_at rfl (by decide +kernel) rfl hKK hP [2, 3] rfl rfl rfl rfl hl.1 rfl (Nat.le_of_ble_eq_true rfl) dX1_fits_24) (fun r_4 h => ?_)
        refine lv_iload_n hx hb dX1_fits_27 rfl (lv_at hl 1 rfl) ?_
        obtain ⟨J77, hJ77, h⟩ := jn0_ex h
        have kJ77_4 : ∀  (ls : Array Slot), J77 → lv_has ls 6 [(0, .ref a_this), (1, .int x1), (2, .int x2), (3, .ref a_parish_sightings), (4, .int x4_1)] → W p l e rm_Fs_fits s m args below meth c s.heap [] 0 0 QQ (F0 m 77 ls []) := by
          intro  ls h hl
          have h := hJ77  h
          obtain ⟨x4_6, ex4_6⟩ : ∃ y : Int32, y = x4_1 + 1 := ⟨_, rfl⟩
          have h := h x4_6 ex4_6
          refine lv_iinc (v := x4_6) (lv' := [(4, .int x4_6), (0, .ref a_this), (1, .int x1), (2, .int x2), (3, .ref a_parish_sightings)]) hx hb dX1_fits_77 hl (k := 4) rfl (by rw [ex4_6]; rfl) (by decide) rfl (fun ls hl => ?_)
          refine lv_goto (tgt := 11) hx hb dX1_fits_80 (by decide) ?_
          exact ih11_1 _ _ h (lv_sub hl [1, 2, 3, 4, 0] rfl)
        refine lv_icmp_ne (tgt := 77) hx hb dX1_fits_28 (by decide) (fun c_7 => ?_) (fun c_7 => ?_)
        · have h := h.1 c_7
          exact kJ77_4  _ h (lv_sub hl [0, 1, 2, 3, 4] rfl)
        · have h := h.2 c_7
          refine lv_aload_n hx hb dX1_fits_31 rfl (lv_at hl 0 rfl) ?_
          refine va_get (D := D) (ci := 1) (v := .ref a_taken) (C := RX1) (T := TX1) (N := 7) hx hb hts in_X1 hown hK hP 0 rfl rfl 1 (by decide) fl_9 (fun _ h9 => h9) rfl dX1_fits_32 ?_
          refine lv_aload_n hx hb dX1_fits_35 rfl (lv_at hl 3 rfl) ?_
          refine lv_iload hx hb dX1_fits_36 (lv_at hl 4 rfl) ?_
          refine lv_iconst (v := 1) hx hb dX1_fits_38 (by decide) ?_
          refine st_callRI (st_runVR (n := 2) (As := [.int x4_1, .int 1]) (rest := [.ref a_taken]) (q0 := 0) F (co_Rw_at l D cy a_parish_sightings a_parish_sightings_numbers 15 s_parish_sightings_width s_parish_sightings_limit s_parish_sightings_size s_parish_sightings_numbers x4_1 1 _ h) gX1_fits_X6_at rfl (by decide +kernel) rfl hKK hP [2, 3] rfl rfl rfl rfl hl.1 rfl (Nat.le_of_ble_eq_true rfl) dX1_fits_39) (fun r_8 h => ?_)
          obtain ⟨hi_9, h⟩ := h
          refine va_iald hx hb hK hP 4 1 rfl rfl hi_9 dX1_fits_42 ?_
          refine lv_iload_n hx hb dX1_fits_43 rfl (lv_at hl 2 rfl) ?_
          obtain ⟨J52, hJ52, h⟩ := jn1_ex h
          have kJ52_10 : ∀ (v_10 : Int32) (ls : Array Slot), J52 v_10 → lv_has ls 6 [(0, .ref a_this), (1, .int x1), (2, .int x2), (3, .ref a_parish_sightings), (4, .int x4_1)] → W p l e rm_Fs_fits s m args below meth c s.heap [] 0 0 QQ (F0 m 52 ls [.int v_10]) := by
            intro v_10 ls h hl
            have h := hJ52 _ h
            refine lv_istore (lv' := [(5, .int v_10), (0, .ref a_this), (1, .int x1), (2, .int x2), (3, .ref a_parish_sightings), (4, .int x4_1)]) hx hb dX1_fits_52 hl (by decide) rfl (fun ls hl => ?_)
            refine lv_iload hx hb dX1_fits_54 (lv_at hl 0 rfl) ?_
            refine lv_aload_n hx hb dX1_fits_56 rfl (lv_at hl 4 rfl) ?_
            refine lv_iload hx hb dX1_fits_57 (lv_at hl 5 rfl) ?_
            refine lv_iconst (v := 2) hx hb dX1_fits_59 (by decide) ?_
            refine st_callRI (st_runVR (n := 2) (As := [.int x4_1, .int 2]) (rest := [.int v_10]) (q0 := 0) F (co_Rw_at l D cy a_parish_sightings a_parish_sightings_numbers 15 s_parish_sightings_width s_parish_sightings_limit s_parish_sightings_size s_parish_sightings_numbers x4_1 2 _ h) gX1_fits_X6_at rfl (by decide +kernel) rfl hKK hP [2, 3] rfl rfl rfl rfl hl.1 rfl (Nat.le_of_ble_eq_true rfl) dX1_fits_60) (fun r_12 h => ?_)
            refine lv_iconst (v := 1) hx hb dX1_fits_63 (by decide) ?_
            obtain ⟨J72, hJ72, h⟩ := jn1_ex h
            have kJ72_13 : ∀ (v_13 : Int32) (ls : Array Slot), J72 v_13 → lv_has ls 6 [(0, .ref a_this), (1, .int x1), (2, .int x2), (3, .ref a_parish_sightings), (4, .int x4_1)] → W p l e rm_Fs_fits s m args below meth c s.heap [] 0 0 QQ (F0 m 72 ls [.int v_13, .int v_10]) := by
              intro v_13 ls h hl
              have h := hJ72 _ h
              refine lv_icmp_eq (tgt := 77) hx hb dX1_fits_72 (by decide) (fun c_15 => ?_) (fun c_15 => ?_)
              · have h := h.1 c_15
                exact kJ77_4  _ h (lv_sub hl [0, 1, 2, 3, 4] rfl)
              · have h := h.2 c_15
                refine lv_iconst (v := 0) hx hb dX1_fits_75 (by decide) ?_
                exact hret _ _ _ bz0 h dX1_fits_76
            refine lv_icmp_ne (tgt := 71) hx hb dX1_fits_64 (by decide) (fun c_16 => ?_) (fun c_16 => ?_)
            · have h := h.1 c_16
              refine lv_iconst (v := 0) hx hb dX1_fits_71 (by decide) ?_
              exact kJ72_13 _ _ h (lv_sub hl [1, 2, 3, 4, 5] rfl)
            · have h := h.2 c_16
              refine lv_iconst (v := 1) hx hb dX1_fits_67 (by decide) ?_
              refine lv_goto (tgt := 72) hx hb dX1_fits_68 (by decide) ?_
              exact kJ72_13 _ _ h (lv_sub hl [1, 2, 3, 4, 5] rfl)
          refine lv_icmp_lt (tgt := 51) hx hb dX1_fits_44 (by decide) (fun c_17 => ?_) (fun c_17 => ?_)
          · have h := h.1 c_17
            refine lv_iconst (v := 0) hx hb dX1_fits_51 (by decide) ?_
            exact kJ52_10 _ _ h (lv_sub hl [0, 1, 2, 3, 4] rfl)
          · have h := h.2 c_17
            refine lv_iconst (v := 1) hx hb dX1_fits_47 (by decide) ?_
            refine lv_goto (tgt := 52) hx hb dX1_fits_48 (by decide) ?_
            exact kJ52_10 _ _ h (lv_sub hl [0, 1, 2, 3, 4] rfl)
  exact kT11_1 n11_1 _ _ h (lv_sub hl [2, 3, 4, 1, 0] rfl)
