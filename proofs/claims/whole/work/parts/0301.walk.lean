abbrev Wd_Cp_keepIfMore (cy : ClassId × ClassId × ClassId × ClassId) (a_this a_chosen a_partner a_parish : Nat) (s_mostPairs : Int32) (s_chosen : Nat → Int32) (s_partner : Nat → Int32) : va_W := [(a_this, .inr (0, [.ref a_parish, .ref a_partner, .ref a_chosen, .int s_mostPairs])), (a_chosen, .inl (cy.2.1, 7, .inl s_chosen)), (a_partner, .inl (cy.2.1, 7, .inl s_partner))]
abbrev rm_Cp_keepIfMore : Room := { frames := 1, cells := 0, slots := 0, locals := 48 }
def wp_Cp_keepIfMore (x1 : Int32) (s_mostPairs : Int32) (s_chosen : Nat → Int32) (s_partner : Nat → Int32) (Q : Int32 → (Nat → Int32) → Prop) : Prop := ((x1 ≤ s_mostPairs → Q s_mostPairs s_chosen) ∧ (¬ x1 ≤ s_mostPairs → ∀ s_chosen_3 : Nat → Int32, s_chosen_3 = va_cpy s_partner s_chosen (Int32.toNatClampNeg 0) (Int32.toNatClampNeg 0) (Int32.toNatClampNeg 7) → Q x1 s_chosen_3))
set_option maxHeartbeats 4000000 in
set_option maxRecDepth 100000 in
theorem co_Cp_keepIfMore (l : Launch) (D : va_G) (cy : ClassId × ClassId × ClassId × ClassId) (a_this a_chosen a_partner a_parish : Nat) (s_mostPairs : Int32) (s_chosen : Nat → Int32) (s_partner : Nat → Int32) (x1 : Int32) (Q : Int32 → (Nat → Int32) → Prop) (h : wp_Cp_keepIfMore x1 s_mostPairs s_chosen s_partner Q) : CoV l yX0_keepIfMore wsX0_keepIfMore rm_Cp_keepIfMore D cy [.ref a_this, .int x1] (Wd_Cp_keepIfMore cy a_this a_chosen a_partner a_parish s_mostPairs s_chosen s_partner) (fun u : Int32 × (Nat → Int32) => (Wd_Cp_keepIfMore cy a_this a_chosen a_partner a_parish u.1 u.2 s_partner)) (fun (u : Int32 × (Nat → Int32)) => Q u.1 u.2) := by
  refine st_metV (cc := cX0_keepIfMore) (maxL := 2) RX0 (by decide) rfl rfl (Nat.le_of_ble_eq_true rfl) ?_
  intro p e s m args below meth c A QQ ls F hA hKK hP hD hS hl hret
  have hK := hKK.1
  have hnest := hKK.2.1
  have hx := F.1
  have hb := F.2.1
  have hown := F.2.2.2.1
  have hts := F.2.2.2.2
  have in_X0 : ∀ w ∈ u_ws RX0 TX0 4, w ∈ wsX0_keepIfMore := (fun _ h => List.mem_cons_of_mem _ (List.mem_append_right _ h))
  have fl_9 := (hts (.fieldLink RX0 9 "RasherCase$Couples" "partner" "[I") (List.mem_of_getElem? (i := 2) rfl))
  have fl_15 := (hts (.fieldLink RX0 15 "RasherCase$Couples" "chosen" "[I") (List.mem_of_getElem? (i := 3) rfl))
  have fl_22 := (hts (.fieldLink RX0 22 "RasherCase$Couples" "mostPairs" "I") (List.mem_of_getElem? (i := 1) rfl))
  have hl : lv_has ls 2 [(0, .ref a_this), (1, .int x1)] := hl
  unfold wp_Cp_keepIfMore at h
  refine lv_iload_n hx hb dX0_keepIfMore_0 rfl (lv_at hl 1 rfl) ?_
  refine lv_aload_n hx hb dX0_keepIfMore_1 rfl (lv_at hl 0 rfl) ?_
  refine va_get (D := D) (ci := 0) (v := .int s_mostPairs) (C := RX0) (T := TX0) (N := 4) hx hb hts in_X0 hown hK hP 0 rfl rfl 3 (by decide) fl_22 (fun _ h9 => h9) rfl dX0_keepIfMore_2 ?_
  refine lv_icmp_le (tgt := 28) hx hb dX0_keepIfMore_5 (by decide) (fun c_1 => ?_) (fun c_1 => ?_)
  · have h := h.1 c_1
    exact hret (s_mostPairs, s_chosen) _ _ _ _ h hP hD hS dX0_keepIfMore_28
  · have h := h.2 c_1
    refine lv_aload_n hx hb dX0_keepIfMore_8 rfl (lv_at hl 0 rfl) ?_
    refine lv_iload_n hx hb dX0_keepIfMore_9 rfl (lv_at hl 1 rfl) ?_
    refine va_put (D := D) (ci := 0) (v := .int x1) (ty := .int) (C := RX0) (T := TX0) (N := 4) hx hb hts in_X0 tyX0 tyX0_ok nmX0 hown hK hP hD hS 0 rfl rfl 3 (by decide) fl_22 (fun _ h9 => h9) rfl (tyX0_ok 3 (by decide)) rfl rfl (Nat.le_of_ble_eq_true rfl) dX0_keepIfMore_10 (fun H locs hP hD hS => ?_)
    have hP : va_P D vwCl (Wd_Cp_keepIfMore cy a_this a_chosen a_partner a_parish x1 s_chosen s_partner) H := hP
    have hD : va_D A (Wd_Cp_keepIfMore cy a_this a_chosen a_partner a_parish x1 s_chosen s_partner) := hD
    refine lv_aload_n hx hb dX0_keepIfMore_13 rfl (lv_at hl 0 rfl) ?_
    refine va_get (D := D) (ci := 0) (v := .ref a_partner) (C := RX0) (T := TX0) (N := 4) hx hb hts in_X0 hown hK hP 0 rfl rfl 1 (by decide) fl_9 (fun _ h9 => h9) rfl dX0_keepIfMore_14 ?_
    refine lv_iconst (v := 0) hx hb dX0_keepIfMore_17 (by decide) ?_
    refine lv_aload_n hx hb dX0_keepIfMore_18 rfl (lv_at hl 0 rfl) ?_
    refine va_get (D := D) (ci := 0) (v := .ref a_chosen) (C := RX0) (T := TX0) (N := 4) hx hb hts in_X0 hown hK hP 0 rfl rfl 2 (by decide) fl_15 (fun _ h9 => h9) rfl dX0_keepIfMore_19 ?_
    refine lv_iconst (v := 0) hx hb dX0_keepIfMore_22 (by decide) ?_
    refine lv_bipush (v := 7) hx hb dX0_keepIfMore_23 (by decide) ?_
    have hc_2 : cpok 0 0 7 7 7 := by decide
    refine va_copyi hx hb (F.2.2.1.trans hl.1.symm) hown (hts (.methodLink RX0 43 arraycopyName) (List.mem_of_getElem? (i := 4) rfl)) (hts (.native arraycopyName) (List.mem_of_getElem? (i := 5) rfl)) (hts (.static arraycopyName) (List.mem_of_getElem? (i := 6) rfl)) (hts (.initialized "java/lang/System") (List.mem_of_getElem? (i := 7) rfl)) hK hP hD hS 2 1 1 1 rfl rfl rfl rfl rfl hc_2.1 hc_2.2.1 hc_2.2.2.1 hc_2.2.2.2.1 hc_2.2.2.2.2 (fun _ _ => rfl) (Nat.le_of_ble_eq_true rfl) (Nat.le_of_ble_eq_true rfl) dX0_keepIfMore_25 (fun H locs hP hD hS => ?_)
    obtain ⟨s_chosen_3, es_chosen_3⟩ : ∃ f : Nat → Int32, f = va_cpy s_partner s_chosen (Int32.toNatClampNeg 0) (Int32.toNatClampNeg 0) (Int32.toNatClampNeg 7) := ⟨_, rfl⟩
    have hP : va_P D vwCl (Wd_Cp_keepIfMore cy a_this a_chosen a_partner a_parish x1 s_chosen_3 s_partner) H := by rw [es_chosen_3]; exact hP
    have hD : va_D A (Wd_Cp_keepIfMore cy a_this a_chosen a_partner a_parish x1 s_chosen_3 s_partner) := by rw [es_chosen_3]; exact hD
    have h := h s_chosen_3 es_chosen_3
    exact hret (x1, s_chosen_3) _ _ _ _ h hP hD hS dX0_keepIfMore_28
abbrev Wd_Cp_mayMarry (cy : ClassId × ClassId × ClassId × ClassId) (a_this a_parish a_parish_familySide a_parish_familyWill a_partner a_chosen a_parish_flitchKind a_parish_flitchCell a_parish_flitchStrength a_parish_familyKind a_parish_familyCell a_parish_past a_parish_sightings a_parish_notes a_parish_marks : Nat) (s_mostPairs : Int32) (s_parish_flitchCount : Int32) (s_parish_familyCount : Int32) (s_parish_hung : Int32) (s_parish_day : Int32) (s_parish_familySide : Nat → Int32) (s_parish_familyWill : Nat → Int32) : va_W := [(a_this, .inr (0, [.ref a_parish, .ref a_partner, .ref a_chosen, .int s_mostPairs])), (a_parish, .inr (3, [.ref a_parish_flitchKind, .ref a_parish_flitchCell, .ref a_parish_flitchStrength, .ref a_parish_familyKind, .ref a_parish_familySide, .ref a_parish_familyCell, .ref a_parish_familyWill, .ref a_parish_past, .ref a_parish_sightings, .ref a_parish_notes, .ref a_parish_marks, .int s_parish_flitchCount, .int s_parish_familyCount, .int s_parish_hung, .int s_parish_day])), (a_parish_familySide, .inl (cy.2.1, 7, .inl s_parish_familySide)), (a_parish_familyWill, .inl (cy.2.1, 7, .inl s_parish_familyWill))]
abbrev rm_Cp_mayMarry : Room := { frames := 1, cells := 0, slots := 0, locals := 48 }
def wp_Cp_mayMarry (x1 : Int32) (x2 : Int32) (s_parish_familySide : Nat → Int32) (s_parish_familyWill : Nat → Int32) (Q : Int32 → Prop) : Prop := vp_in x1 7 ∧ vp_in x2 7 ∧ (((s_parish_familySide (Int32.toNatClampNeg x1)) = (s_parish_familySide (Int32.toNatClampNeg x2)) → Q 0) ∧ (¬ (s_parish_familySide (Int32.toNatClampNeg x1)) = (s_parish_familySide (Int32.toNatClampNeg x2)) → vp_in x1 7 ∧ vp_in x2 7 ∧ ((5 < (iabs ((s_parish_familyWill (Int32.toNatClampNeg x1)) - (s_parish_familyWill (Int32.toNatClampNeg x2)))) → Q 0) ∧ (¬ 5 < (iabs ((s_parish_familyWill (Int32.toNatClampNeg x1)) - (s_parish_familyWill (Int32.toNatClampNeg x2)))) → Q 1))))
set_option maxHeartbeats 4000000 in
set_option maxRecDepth 100000 in
theorem co_Cp_mayMarry (l : Launch) (D : va_G) (cy : ClassId × ClassId × ClassId × ClassId) (a_this a_parish a_parish_familySide a_parish_familyWill a_partner a_chosen a_parish_flitchKind a_parish_flitchCell a_parish_flitchStrength a_parish_familyKind a_parish_familyCell a_parish_past a_parish_sightings a_parish_notes a_parish_marks : Nat) (s_mostPairs : Int32) (s_parish_flitchCount : Int32) (s_parish_familyCount : Int32) (s_parish_hung : Int32) (s_parish_day : Int32) (s_parish_familySide : Nat → Int32) (s_parish_familyWill : Nat → Int32) (x1 : Int32) (x2 : Int32) (Q : Int32 → Prop) (h : wp_Cp_mayMarry x1 x2 s_parish_familySide s_parish_familyWill Q) : RoI l yX0_mayMarry wsX0_mayMarry rm_Cp_mayMarry D cy [.ref a_this, .int x1, .int x2] (Wd_Cp_mayMarry cy a_this a_parish a_parish_familySide a_parish_familyWill a_partner a_chosen a_parish_flitchKind a_parish_flitchCell a_parish_flitchStrength a_parish_familyKind a_parish_familyCell a_parish_past a_parish_sightings a_parish_notes a_parish_marks s_mostPairs s_parish_flitchCount s_parish_familyCount s_parish_hung s_parish_day s_parish_familySide s_parish_familyWill) Q := by
  refine st_metRZ (cc := cX0_mayMarry) (maxL := 3) RX0 (by decide) rfl rfl (Nat.le_of_ble_eq_true rfl) ?_
  intro p e s m args below meth c QQ ls F hKK hP hl hret
  have hK := hKK.1
  have hnest := hKK.2.1
  have hx := F.1
  have hb := F.2.1
  have hown := F.2.2.2.1
  have hts := F.2.2.2.2
  have in_X0 : ∀ w ∈ u_ws RX0 TX0 4, w ∈ wsX0_mayMarry := (fun _ h => List.mem_cons_of_mem _ (List.mem_append_left _ (List.mem_append_right _ h)))
  have in_X4 : ∀ w ∈ u_ws RX4 TX4 15, w ∈ wsX0_mayMarry := (fun _ h => List.mem_cons_of_mem _ (List.mem_append_right _ h))
  have fl_18 := (hts (.fieldLink RX0 18 "RasherCase$Couples" "parish" "LRasherCase$Parish;") (List.mem_of_getElem? (i := 1) rfl))
  have fl_49 := (hts (.fieldLink RX0 49 "RasherCase$Parish" "familySide" "[I") (List.mem_of_getElem? (i := 2) rfl))
  have fl_52 := (hts (.fieldLink RX0 52 "RasherCase$Parish" "familyWill" "[I") (List.mem_of_getElem? (i := 3) rfl))
  have hl : lv_has ls 3 [(0, .ref a_this), (1, .int x1), (2, .int x2)] := hl
  unfold wp_Cp_mayMarry at h
  refine lv_aload_n hx hb dX0_mayMarry_0 rfl (lv_at hl 0 rfl) ?_
  refine va_get (D := D) (ci := 0) (v := .ref a_parish) (C := RX0) (T := TX0) (N := 4) hx hb hts in_X0 hown hK hP 0 rfl rfl 0 (by decide) fl_18 (fun _ h9 => h9) rfl dX0_mayMarry_1 ?_
  refine va_get (D := D) (ci := 3) (v := .ref a_parish_familySide) (C := RX4) (T := TX4) (N := 15) hx hb hts in_X4 hown hK hP 1 rfl rfl 4 (by decide) fl_49 (fun _ h9 => h9) rfl dX0_mayMarry_4 ?_
  refine lv_iload_n hx hb dX0_mayMarry_7 rfl (lv_at hl 1 rfl) ?_
  obtain ⟨hi_1, h⟩ := h
  refine va_iald hx hb hK hP 2 1 rfl rfl hi_1 dX0_mayMarry_8 ?_
  refine lv_aload_n hx hb dX0_mayMarry_9 rfl (lv_at hl 0 rfl) ?_
  refine va_get (D := D) (ci := 0) (v := .ref a_parish) (C := RX0) (T := TX0) (N := 4) hx hb hts in_X0 hown hK hP 0 rfl rfl 0 (by decide) fl_18 (fun _ h9 => h9) rfl dX0_mayMarry_10 ?_
  refine va_get (D := D) (ci := 3) (v := .ref a_parish_familySide) (C := RX4) (T := TX4) (N := 15) hx hb hts in_X4 hown hK hP 1 rfl rfl 4 (by decide) fl_49 (fun _ h9 => h9) rfl dX0_mayMarry_13 ?_
  refine lv_iload_n hx hb dX0_mayMarry_16 rfl (lv_at hl 2 rfl) ?_
  obtain ⟨hi_2, h⟩ := h
  refine va_iald hx hb hK hP 2 1 rfl rfl hi_2 dX0_mayMarry_17 ?_
  refine lv_icmp_eq (tgt := 51) hx hb dX0_mayMarry_18 (by decide) (fun c_3 => ?_) (fun c_3 => ?_)
  · have h := h.1 c_3
    refine lv_iconst (v := 0) hx hb dX0_mayMarry_51 (by decide) ?_
    exact hret _ _ _ bz0 h dX0_mayMarry_52
  · have h := h.2 c_3
    refine lv_aload_n hx hb dX0_mayMarry_21 rfl (lv_at hl 0 rfl) ?_
    refine va_get (D := D) (ci := 0) (v := .ref a_parish) (C := RX0) (T := TX0) (N := 4) hx hb hts in_X0 hown hK hP 0 rfl rfl 0 (by decide) fl_18 (fun _ h9 => h9) rfl dX0_mayMarry_22 ?_
    refine va_get (D := D) (ci := 3) (v := .ref a_parish_familyWill) (C := RX4) (T := TX4) (N := 15) hx hb hts in_X4 hown hK hP 1 rfl rfl 6 (by decide) fl_52 (fun _ h9 => h9) rfl dX0_mayMarry_25 ?_
    refine lv_iload_n hx hb dX0_mayMarry_28 rfl (lv_at hl 1 rfl) ?_
    obtain ⟨hi_4, h⟩ := h
    refine va_iald hx hb hK hP 3 1 rfl rfl hi_4 dX0_mayMarry_29 ?_
    refine lv_aload_n hx hb dX0_mayMarry_30 rfl (lv_at hl 0 rfl) ?_
    refine va_get (D := D) (ci := 0) (v := .ref a_parish) (C := RX0) (T := TX0) (N := 4) hx hb hts in_X0 hown hK hP 0 rfl rfl 0 (by decide) fl_18 (fun _ h9 => h9) rfl dX0_mayMarry_31 ?_
    refine va_get (D := D) (ci := 3) (v := .ref a_parish_familyWill) (C := RX4) (T := TX4) (N := 15) hx hb hts in_X4 hown hK hP 1 rfl rfl 6 (by decide) fl_52 (fun _ h9 => h9) rfl dX0_mayMarry_34 ?_
    refine lv_iload_n hx hb dX0_mayMarry_37 rfl (lv_at hl 2 rfl) ?_
    obtain ⟨hi_5, h⟩ := h
    refine va_iald hx hb hK hP 3 1 rfl rfl hi_5 dX0_mayMarry_38 ?_
    refine lv_isub hx hb dX0_mayMarry_39 ?_
    refine va_mabs hx hb (F.2.2.1.trans hl.1.symm) hown (hts (.methodLink RX0 55 Lib.Math.abs.name) (List.mem_of_getElem? (i := 4) rfl)) (hts (.static Lib.Math.abs.name) (List.mem_of_getElem? (i := 5) rfl)) (hts (.initialized "java/lang/Math") (List.mem_of_getElem? (i := 6) rfl)) (hts (.code Lib.Math.abs.name Lib.Math.abs.code 1 (some .int)) (List.mem_of_getElem? (i := 7) rfl)) (Nat.le_of_ble_eq_true rfl) (Nat.le_of_ble_eq_true rfl) (Nat.zero_le _) (Nat.zero_le _) dX0_mayMarry_40 ?_
    refine lv_iconst (v := 5) hx hb dX0_mayMarry_43 (by decide) ?_
    refine lv_icmp_gt (tgt := 51) hx hb dX0_mayMarry_44 (by decide) (fun c_6 => ?_) (fun c_6 => ?_)
    · have h := h.1 c_6
      refine lv_iconst (v := 0) hx hb dX0_mayMarry_51 (by decide) ?_
      exact hret _ _ _ bz0 h dX0_mayMarry_52
    · have h := h.2 c_6
      refine lv_iconst (v := 1) hx hb dX0_mayMarry_47 (by decide) ?_
      refine lv_goto (tgt := 52) hx hb dX0_mayMarry_48 (by decide) ?_
      exact hret _ _ _ bz1 h dX0_mayMarry_52
abbrev Wd_Cp_pairFrom (cy : ClassId × ClassId × ClassId × ClassId) (a_r0 a_r0_chosen a_r0_parish a_r0_parish_familySide a_r0_parish_familyWill a_r0_partner a_r0_parish_flitchKind a_r0_parish_flitchCell a_r0_parish_flitchStrength a_r0_parish_familyKind a_r0_parish_familyCell a_r0_parish_past a_r0_parish_sightings a_r0_parish_notes a_r0_parish_marks : Nat) (s_r0_mostPairs : Int32) (s_r0_chosen : Nat → Int32) (s_r0_parish_flitchCount : Int32) (s_r0_parish_familyCount : Int32) (s_r0_parish_hung : Int32) (s_r0_parish_day : Int32) (s_r0_parish_familySide : Nat → Int32) (s_r0_parish_familyWill : Nat → Int32) (s_r0_partner : Nat → Int32) : va_W := [(a_r0, .inr (0, [.ref a_r0_parish, .ref a_r0_partner, .ref a_r0_chosen, .int s_r0_mostPairs])), (a_r0_chosen, .inl (cy.2.1, 7, .inl s_r0_chosen)), (a_r0_parish, .inr (3, [.ref a_r0_parish_flitchKind, .ref a_r0_parish_flitchCell, .ref a_r0_parish_flitchStrength, .ref a_r0_parish_familyKind, .ref a_r0_parish_familySide, .ref a_r0_parish_familyCell, .ref a_r0_parish_familyWill, .ref a_r0_parish_past, .ref a_r0_parish_sightings, .ref a_r0_parish_notes, .ref a_r0_parish_marks, .int s_r0_parish_flitchCount, .int s_r0_parish_familyCount, .int s_r0_parish_hung, .int s_r0_parish_day])), (a_r0_parish_familySide, .inl (cy.2.1, 7, .inl s_r0_parish_familySide)), (a_r0_parish_familyWill, .inl (cy.2.1, 7, .inl s_r0_parish_familyWill)), (a_r0_partner, .inl (cy.2.1, 7, .inl s_r0_partner))]
abbrev rm_Cp_pairFrom (d : Nat) : Room := { frames := 2 + d, cells := 0, slots := 0, locals := 70 + d * 23 }
theorem rv_Cp_pairFrom_X0_keepIfMore (d : Nat) : rV (rm_Cp_pairFrom (d + 1)) rm_Cp_keepIfMore 2 = true := by
  simp only [rV, Bool.and_eq_true, beq_iff_eq, Nat.ble_eq]
  exact ⟨⟨⟨trivial, trivial⟩, by omega⟩, by omega⟩
theorem rv_Cp_pairFrom_X0_mayMarry (d : Nat) : rV (rm_Cp_pairFrom (d + 1)) rm_Cp_mayMarry 3 = true := by
  simp only [rV, Bool.and_eq_true, beq_iff_eq, Nat.ble_eq]
  exact ⟨⟨⟨trivial, trivial⟩, by omega⟩, by omega⟩
theorem rv_Cp_pairFrom_X0_pairFrom (d : Nat) : rV (rm_Cp_pairFrom (d + 1)) (rm_Cp_pairFrom d) 4 = true := by
  simp only [rV, Bool.and_eq_true, beq_iff_eq, Nat.ble_eq]
  exact ⟨⟨⟨trivial, trivial⟩, by omega⟩, by omega⟩
def wp_Cp_pairFrom : Nat → Int32 → Int32 → Int32 → (Nat → Int32) → Int32 → (Nat → Int32) → (Nat → Int32) → (Nat → Int32) → (Int32 → (Nat → Int32) → (Nat → Int32) → Prop) → Prop
  | 0 => fun _ _ _ _ _ _ _ _ _ => False
  | d + 1 => fun x1 x2 s_r0_mostPairs s_r0_chosen s_r0_parish_familyCount s_r0_parish_familySide s_r0_parish_familyWill s_r0_partner Q => jn0 (fun (J17 : Prop) => ((s_r0_parish_familyCount ≤ x1 → J17) ∧ (¬ s_r0_parish_familyCount ≤ x1 → ((x1 < 7 → wp_Cp_pairFrom d (x1 + 1) x2 s_r0_mostPairs s_r0_chosen s_r0_parish_familyCount s_r0_parish_familySide s_r0_parish_familyWill s_r0_partner (fun (s_r0_mostPairs_8 : Int32) (s_r0_chosen_9 : Nat → Int32) (s_r0_partner_10 : Nat → Int32) => vp_in x1 7 ∧ (((s_r0_partner_10 (Int32.toNatClampNeg x1)) = (-1) → ∀ x3_13 : Int32, x3_13 = (x1 + 1) → ∃ n : Nat, lpw4 (fun (B46 : Int32 → Int32 → (Nat → Int32) → (Nat → Int32) → Prop) (x3_14 : Int32) (s_r0_mostPairs_15 : Int32) (s_r0_chosen_16 : Nat → Int32) (s_r0_partner_17 : Nat → Int32) => ((s_r0_parish_familyCount ≤ x3_14 → Q s_r0_mostPairs_15 s_r0_chosen_16 s_r0_partner_17) ∧ (¬ s_r0_parish_familyCount ≤ x3_14 → ((7 ≤ x3_14 → Q s_r0_mostPairs_15 s_r0_chosen_16 s_r0_partner_17) ∧ (¬ 7 ≤ x3_14 → vp_in x3_14 7 ∧ jn3 (fun (J120 : Int32 → (Nat → Int32) → (Nat → Int32) → Prop) => ((¬ (s_r0_partner_17 (Int32.toNatClampNeg x3_14)) = (-1) → J120 s_r0_mostPairs_15 s_r0_chosen_16 s_r0_partner_17) ∧ ((s_r0_partner_17 (Int32.toNatClampNeg x3_14)) = (-1) → wp_Cp_mayMarry x1 x3_14 s_r0_parish_familySide s_r0_parish_familyWill (fun (r_28 : Int32) => ((r_28 = 0 → J120 s_r0_mostPairs_15 s_r0_chosen_16 s_r0_partner_17) ∧ (¬ r_28 = 0 → vp_in x1 7 ∧ ∀ s_r0_partner_31 : Nat → Int32, s_r0_partner_31 = upd s_r0_partner_17 (Int32.toNatClampNeg x1) x3_14 → vp_in x3_14 7 ∧ ∀ s_r0_partner_33 : Nat → Int32, s_r0_partner_33 = upd s_r0_partner_31 (Int32.toNatClampNeg x3_14) x1 → wp_Cp_pairFrom d (x1 + 1) (x2 + 1) s_r0_mostPairs_15 s_r0_chosen_16 s_r0_parish_familyCount s_r0_parish_familySide s_r0_parish_familyWill s_r0_partner_33 (fun (s_r0_mostPairs_35 : Int32) (s_r0_chosen_36 : Nat → Int32) (s_r0_partner_37 : Nat → Int32) => vp_in x1 7 ∧ ∀ s_r0_partner_39 : Nat → Int32, s_r0_partner_39 = upd s_r0_partner_37 (Int32.toNatClampNeg x1) (-1) → vp_in x3_14 7 ∧ ∀ s_r0_partner_41 : Nat → Int32, s_r0_partner_41 = upd s_r0_partner_39 (Int32.toNatClampNeg x3_14) (-1) → J120 s_r0_mostPairs_35 s_r0_chosen_36 s_r0_partner_41))))))) (fun (s_r0_mostPairs_22 : Int32) (s_r0_chosen_23 : Nat → Int32) (s_r0_partner_24 : Nat → Int32) => ∀ x3_26 : Int32, x3_26 = x3_14 + 1 → B46 x3_26 s_r0_mostPairs_22 s_r0_chosen_23 s_r0_partner_24)))))) n x3_13 s_r0_mostPairs_8 s_r0_chosen_9 s_r0_partner_10) ∧ (¬ (s_r0_partner_10 (Int32.toNatClampNeg x1)) = (-1) → Q s_r0_mostPairs_8 s_r0_chosen_9 s_r0_partner_10)))) ∧ (¬ x1 < 7 → J17))))) (wp_Cp_keepIfMore x2 s_r0_mostPairs s_r0_chosen s_r0_partner (fun (s_r0_mostPairs_3 : Int32) (s_r0_chosen_4 : Nat → Int32) => Q s_r0_mostPairs_3 s_r0_chosen_4 s_r0_partner))
set_option maxHeartbeats 4000000 in
set_option maxRecDepth 100000 in
theorem co_Cp_pairFrom (l : Launch) (D : va_G) (cy : ClassId × ClassId × ClassId × ClassId) : ∀ (d : Nat)  (a_r0 a_r0_chosen a_r0_parish a_r0_parish_familySide a_r0_parish_familyWill a_r0_partner a_r0_parish_flitchKind a_r0_parish_flitchCell a_r0_parish_flitchStrength a_r0_parish_familyKind a_r0_parish_familyCell a_r0_parish_past a_r0_parish_sightings a_r0_parish_notes a_r0_parish_marks : Nat) (s_r0_mostPairs : Int32) (s_r0_chosen : Nat → Int32) (s_r0_parish_flitchCount : Int32) (s_r0_parish_familyCount : Int32) (s_r0_parish_hung : Int32) (s_r0_parish_day : Int32) (s_r0_parish_familySide : Nat → Int32) (s_r0_parish_familyWill : Nat → Int32) (s_r0_partner : Nat → Int32) (x1 : Int32) (x2 : Int32) (Q : Int32 → (Nat → Int32) → (Nat → Int32) → Prop) (h : wp_Cp_pairFrom d x1 x2 s_r0_mostPairs s_r0_chosen s_r0_parish_familyCount s_r0_parish_familySide s_r0_parish_familyWill s_r0_partner Q), CoV l yX0_pairFrom wsX0_pairFrom (rm_Cp_pairFrom d) D cy [.ref a_r0, .int x1, .int x2] (Wd_Cp_pairFrom cy a_r0 a_r0_chosen a_r0_parish a_r0_parish_familySide a_r0_parish_familyWill a_r0_partner a_r0_parish_flitchKind a_r0_parish_flitchCell a_r0_parish_flitchStrength a_r0_parish_familyKind a_r0_parish_familyCell a_r0_parish_past a_r0_parish_sightings a_r0_parish_notes a_r0_parish_marks s_r0_mostPairs s_r0_chosen s_r0_parish_flitchCount s_r0_parish_familyCount s_r0_parish_hung s_r0_parish_day s_r0_parish_familySide s_r0_parish_familyWill s_r0_partner) (fun u : Int32 × (Nat → Int32) × (Nat → Int32) => (Wd_Cp_pairFrom cy a_r0 a_r0_chosen a_r0_parish a_r0_parish_familySide a_r0_parish_familyWill a_r0_partner a_r0_parish_flitchKind a_r0_parish_flitchCell a_r0_parish_flitchStrength a_r0_parish_familyKind a_r0_parish_familyCell a_r0_parish_past a_r0_parish_sightings a_r0_parish_notes a_r0_parish_marks u.1 u.2.1 s_r0_parish_flitchCount s_r0_parish_familyCount s_r0_parish_hung s_r0_parish_day s_r0_parish_familySide s_r0_parish_familyWill u.2.2)) (fun (u : Int32 × (Nat → Int32) × (Nat → Int32)) => Q u.1 u.2.1 u.2.2) := by
  intro d
  induction d with
  | zero => intro _ _ _ _ _ _ _ _ _ _ _ _ _ _ _ _ _ _ _ _ _ _ _ _ _ _ Q h; exact absurd h (fun h => h)
  | succ d ih =>
  intro a_r0 a_r0_chosen a_r0_parish a_r0_parish_familySide a_r0_parish_familyWill a_r0_partner a_r0_parish_flitchKind a_r0_parish_flitchCell a_r0_parish_flitchStrength a_r0_parish_familyKind a_r0_parish_familyCell a_r0_parish_past a_r0_parish_sightings a_r0_parish_notes a_r0_parish_marks s_r0_mostPairs s_r0_chosen s_r0_parish_flitchCount s_r0_parish_familyCount s_r0_parish_hung s_r0_parish_day s_r0_parish_familySide s_r0_parish_familyWill s_r0_partner x1 x2 Q h
  refine st_metV (cc := cX0_pairFrom) (maxL := 4) RX0 (by decide) rfl rfl (Nat.le_of_ble_eq_true rfl) ?_
  intro p e s m args below meth c A QQ ls F hA hKK hP hD hS hl hret
  have hK := hKK.1
  have hnest := hKK.2.1
  have hx := F.1
  have hb := F.2.1
  have hown := F.2.2.2.1
  have hts := F.2.2.2.2
  have in_X0 : ∀ w ∈ u_ws RX0 TX0 4, w ∈ wsX0_pairFrom := (fun _ h => List.mem_cons_of_mem _ (List.mem_append_left _ (List.mem_append_right _ h)))
  have in_X4 : ∀ w ∈ u_ws RX4 TX4 15, w ∈ wsX0_pairFrom := (fun _ h => List.mem_cons_of_mem _ (List.mem_append_right _ h))
  have fl_9 := (hts (.fieldLink RX0 9 "RasherCase$Couples" "partner" "[I") (List.mem_of_getElem? (i := 3) rfl))
  have fl_18 := (hts (.fieldLink RX0 18 "RasherCase$Couples" "parish" "LRasherCase$Parish;") (List.mem_of_getElem? (i := 1) rfl))
  have fl_30 := (hts (.fieldLink RX0 30 "RasherCase$Parish" "familyCount" "I") (List.mem_of_getElem? (i := 2) rfl))
  have hl : lv_has ls 4 [(0, .ref a_r0), (1, .int x1), (2, .int x2)] := hl
  unfold wp_Cp_pairFrom at h
  refine lv_iload_n hx hb dX0_pairFrom_0 rfl (lv_at hl 1 rfl) ?_
  refine lv_aload_n hx hb dX0_pairFrom_1 rfl (lv_at hl 0 rfl) ?_
  refine va_get (D := D) (ci := 0) (v := .ref a_r0_parish) (C := RX0) (T := TX0) (N := 4) hx hb hts in_X0 hown hK hP 0 rfl rfl 0 (by decide) fl_18 (fun _ h9 => h9) rfl dX0_pairFrom_2 ?_
  refine va_get (D := D) (ci := 3) (v := .int s_r0_parish_familyCount) (C := RX4) (T := TX4) (N := 15) hx hb hts in_X4 hown hK hP 2 rfl rfl 12 (by decide) fl_30 (fun _ h9 => h9) rfl dX0_pairFrom_5 ?_
  obtain ⟨J17, hJ17, h⟩ := jn0_ex h
  have kJ17_0 : ∀  (H : Heap) (locs : List Loc) (ls : Array Slot), J17 → va_P D vwCl (Wd_Cp_pairFrom cy a_r0 a_r0_chosen a_r0_parish a_r0_parish_familySide a_r0_parish_familyWill a_r0_partner a_r0_parish_flitchKind a_r0_parish_flitchCell a_r0_parish_flitchStrength a_r0_parish_familyKind a_r0_parish_familyCell a_r0_parish_past a_r0_parish_sightings a_r0_parish_notes a_r0_parish_marks s_r0_mostPairs s_r0_chosen s_r0_parish_flitchCount s_r0_parish_familyCount s_r0_parish_hung s_r0_parish_day s_r0_parish_familySide s_r0_parish_familyWill s_r0_partner) H → va_D A (Wd_Cp_pairFrom cy a_r0 a_r0_chosen a_r0_parish a_r0_parish_familySide a_r0_parish_familyWill a_r0_partner a_r0_parish_flitchKind a_r0_parish_flitchCell a_r0_parish_flitchStrength a_r0_parish_familyKind a_r0_parish_familyCell a_r0_parish_past a_r0_parish_sightings a_r0_parish_notes a_r0_parish_marks s_r0_mostPairs s_r0_chosen s_r0_parish_flitchCount s_r0_parish_familyCount s_r0_parish_hung s_r0_parish_day s_r0_parish_familySide s_r0_parish_familyWill s_r0_partner) → va_S A s.heap H locs → lv_has ls 4 [(0, .ref a_r0), (2, .int x2)] → W p l e (rm_Cp_pairFrom (d + 1)) s m args below meth c H locs 0 0 QQ (F0 m 17 ls []) := by
    intro  H locs ls h hP hD hS hl
    have h := hJ17  h
    refine lv_aload_n hx hb dX0_pairFrom_17 rfl (lv_at hl 0 rfl) ?_
    refine lv_iload_n hx hb dX0_pairFrom_18 rfl (lv_at hl 1 rfl) ?_
    refine st_callV (WR := [2, 3, 4].filterMap (fun i => (Wd_Cp_pairFrom cy a_r0 a_r0_chosen a_r0_parish a_r0_parish_familySide a_r0_parish_familyWill a_r0_partner a_r0_parish_flitchKind a_r0_parish_flitchCell a_r0_parish_flitchStrength a_r0_parish_familyKind a_r0_parish_familyCell a_r0_parish_past a_r0_parish_sightings a_r0_parish_notes a_r0_parish_marks s_r0_mostPairs s_r0_chosen s_r0_parish_flitchCount s_r0_parish_familyCount s_r0_parish_hung s_r0_parish_day s_r0_parish_familySide s_r0_parish_familyWill s_r0_partner)[i]?)) (WSn := fun u => (Wd_Cp_pairFrom cy a_r0 a_r0_chosen a_r0_parish a_r0_parish_familySide a_r0_parish_familyWill a_r0_partner a_r0_parish_flitchKind a_r0_parish_flitchCell a_r0_parish_flitchStrength a_r0_parish_familyKind a_r0_parish_familyCell a_r0_parish_past a_r0_parish_sightings a_r0_parish_notes a_r0_parish_marks u.1 u.2 s_r0_parish_flitchCount s_r0_parish_familyCount s_r0_parish_hung s_r0_parish_day s_r0_parish_familySide s_r0_parish_familyWill s_r0_partner)) (st_runV (n := 1) (As := [.int x2]) (rest := []) (q0 := 0) F ((co_Cp_keepIfMore l D cy a_r0 a_r0_chosen a_r0_partner a_r0_parish s_r0_mostPairs s_r0_chosen s_r0_partner x2 _ h) _) rfl gX0_pairFrom_X0_keepIfMore rfl (by decide +kernel) (rv_Cp_pairFrom_X0_keepIfMore d) hKK hP hD [0, 1, 5] rfl rfl rfl rfl rfl hl.1 rfl (Nat.le_of_ble_eq_true rfl) dX0_pairFrom_19) hP hD hS hA [0, 1, 5] [2, 3, 4] [3, 4, 0, 1, 2, 5] rfl rfl rfl (fun _ => rfl) (fun u H locs h hP hD hS => ?_)
    obtain ⟨s_r0_mostPairs_3, s_r0_chosen_4⟩ := u
    dsimp only at h hP hD
    have hP : va_P D vwCl (Wd_Cp_pairFrom cy a_r0 a_r0_chosen a_r0_parish a_r0_parish_familySide a_r0_parish_familyWill a_r0_partner a_r0_parish_flitchKind a_r0_parish_flitchCell a_r0_parish_flitchStrength a_r0_parish_familyKind a_r0_parish_familyCell a_r0_parish_past a_r0_parish_sightings a_r0_parish_notes a_r0_parish_marks s_r0_mostPairs_3 s_r0_chosen_4 s_r0_parish_flitchCount s_r0_parish_familyCount s_r0_parish_hung s_r0_parish_day s_r0_parish_familySide s_r0_parish_familyWill s_r0_partner) H := hP
    have hD : va_D A (Wd_Cp_pairFrom cy a_r0 a_r0_chosen a_r0_parish a_r0_parish_familySide a_r0_parish_familyWill a_r0_partner a_r0_parish_flitchKind a_r0_parish_flitchCell a_r0_parish_flitchStrength a_r0_parish_familyKind a_r0_parish_familyCell a_r0_parish_past a_r0_parish_sightings a_r0_parish_notes a_r0_parish_marks s_r0_mostPairs_3 s_r0_chosen_4 s_r0_parish_flitchCount s_r0_parish_familyCount s_r0_parish_hung s_r0_parish_day s_r0_parish_familySide s_r0_parish_familyWill s_r0_partner) := hD
    exact hret (s_r0_mostPairs_3, s_r0_chosen_4, s_r0_partner) _ _ _ _ h hP hD hS dX0_pairFrom_22
  refine lv_icmp_ge (tgt := 17) hx hb dX0_pairFrom_8 (by decide) (fun c_5 => ?_) (fun c_5 => ?_)
  · have h := h.1 c_5
    exact kJ17_0  _ _ _ h hP hD hS (lv_sub hl [0, 2] rfl)
  · have h := h.2 c_5
    refine lv_iload_n hx hb dX0_pairFrom_11 rfl (lv_at hl 1 rfl) ?_
    refine lv_bipush (v := 7) hx hb dX0_pairFrom_12 (by decide) ?_
    refine lv_icmp_lt (tgt := 23) hx hb dX0_pairFrom_14 (by decide) (fun c_6 => ?_) (fun c_6 => ?_)
    · have h := h.1 c_6
      refine lv_aload_n hx hb dX0_pairFrom_23 rfl (lv_at hl 0 rfl) ?_
      refine lv_iload_n hx hb dX0_pairFrom_24 rfl (lv_at hl 1 rfl) ?_
      refine lv_iconst (v := 1) hx hb dX0_pairFrom_25 (by decide) ?_
      refine lv_iadd hx hb dX0_pairFrom_26 ?_
      refine lv_iload_n hx hb dX0_pairFrom_27 rfl (lv_at hl 2 rfl) ?_
      refine st_callV (WR := []) (WSn := fun u => (Wd_Cp_pairFrom cy a_r0 a_r0_chosen a_r0_parish a_r0_parish_familySide a_r0_parish_familyWill a_r0_partner a_r0_parish_flitchKind a_r0_parish_flitchCell a_r0_parish_flitchStrength a_r0_parish_familyKind a_r0_parish_familyCell a_r0_parish_past a_r0_parish_sightings a_r0_parish_notes a_r0_parish_marks u.1 u.2.1 s_r0_parish_flitchCount s_r0_parish_familyCount s_r0_parish_hung s_r0_parish_day s_r0_parish_familySide s_r0_parish_familyWill u.2.2)) (st_runS (n := 3) (As := [.ref a_r0, .int (x1 + 1), .int x2]) (rest := []) F ((ih a_r0 a_r0_chosen a_r0_parish a_r0_parish_familySide a_r0_parish_familyWill a_r0_partner a_r0_parish_flitchKind a_r0_parish_flitchCell a_r0_parish_flitchStrength a_r0_parish_familyKind a_r0_parish_familyCell a_r0_parish_past a_r0_parish_sightings a_r0_parish_notes a_r0_parish_marks s_r0_mostPairs s_r0_chosen s_r0_parish_flitchCount s_r0_parish_familyCount s_r0_parish_hung s_r0_parish_day s_r0_parish_familySide s_r0_parish_familyWill s_r0_partner (x1 + 1) x2 _ h) _) rfl gX0_pairFrom_X0_pairFrom rfl (by decide +kernel) (rv_Cp_pairFrom_X0_pairFrom d) hKK hP hD [0, 1, 2, 3, 4, 5] rfl rfl rfl hl.1 rfl (Nat.le_of_ble_eq_true rfl) dX0_pairFrom_28) hP hD hS hA [0, 1, 2, 3, 4, 5] [] [0, 1, 2, 3, 4, 5] rfl rfl rfl (fun _ => rfl) (fun u H locs h hP hD hS => ?_)
      obtain ⟨s_r0_mostPairs_8, s_r0_chosen_9, s_r0_partner_10⟩ := u
      dsimp only at h hP hD
      have hP : va_P D vwCl (Wd_Cp_pairFrom cy a_r0 a_r0_chosen a_r0_parish a_r0_parish_familySide a_r0_parish_familyWill a_r0_partner a_r0_parish_flitchKind a_r0_parish_flitchCell a_r0_parish_flitchStrength a_r0_parish_familyKind a_r0_parish_familyCell a_r0_parish_past a_r0_parish_sightings a_r0_parish_notes a_r0_parish_marks s_r0_mostPairs_8 s_r0_chosen_9 s_r0_parish_flitchCount s_r0_parish_familyCount s_r0_parish_hung s_r0_parish_day s_r0_parish_familySide s_r0_parish_familyWill s_r0_partner_10) H := hP
      have hD : va_D A (Wd_Cp_pairFrom cy a_r0 a_r0_chosen a_r0_parish a_r0_parish_familySide a_r0_parish_familyWill a_r0_partner a_r0_parish_flitchKind a_r0_parish_flitchCell a_r0_parish_flitchStrength a_r0_parish_familyKind a_r0_parish_familyCell a_r0_parish_past a_r0_parish_sightings a_r0_parish_notes a_r0_parish_marks s_r0_mostPairs_8 s_r0_chosen_9 s_r0_parish_flitchCount s_r0_parish_familyCount s_r0_parish_hung s_r0_parish_day s_r0_parish_familySide s_r0_parish_familyWill s_r0_partner_10) := hD
      refine lv_aload_n hx hb dX0_pairFrom_31 rfl (lv_at hl 0 rfl) ?_
      refine va_get (D := D) (ci := 0) (v := .ref a_r0_partner) (C := RX0) (T := TX0) (N := 4) hx hb hts in_X0 hown hK hP 0 rfl rfl 1 (by decide) fl_9 (fun _ h9 => h9) rfl dX0_pairFrom_32 ?_
      refine lv_iload_n hx hb dX0_pairFrom_35 rfl (lv_at hl 1 rfl) ?_
      obtain ⟨hi_11, h⟩ := h
      refine va_iald hx hb hK hP 5 1 rfl rfl hi_11 dX0_pairFrom_36 ?_
      refine lv_iconst (v := (-1)) hx hb dX0_pairFrom_37 (by decide) ?_
      refine lv_icmp_eq (tgt := 42) hx hb dX0_pairFrom_38 (by decide) (fun c_12 => ?_) (fun c_12 => ?_)
      · have h := h.1 c_12
        refine lv_iload_n hx hb dX0_pairFrom_42 rfl (lv_at hl 1 rfl) ?_
        refine lv_iconst (v := 1) hx hb dX0_pairFrom_43 (by decide) ?_
        refine lv_iadd hx hb dX0_pairFrom_44 ?_
        refine lv_topi (fun x3_13 ex3_13 => ?_)
        have h := h x3_13 ex3_13
        refine lv_istore_n (lv' := [(3, .int x3_13), (0, .ref a_r0), (1, .int x1), (2, .int x2)]) hx hb dX0_pairFrom_45 rfl hl (by decide) rfl (fun ls hl => ?_)
        obtain ⟨T46_17, hz46_17, hs46_17, n46_17, h⟩ := lpw4_use h
        have kT46_17 : ∀ (n : Nat) (x3_14 : Int32) (s_r0_mostPairs_15 : Int32) (s_r0_chosen_16 : Nat → Int32) (s_r0_partner_17 : Nat → Int32) (H : Heap) (locs : List Loc) (ls : Array Slot), T46_17 n x3_14 s_r0_mostPairs_15 s_r0_chosen_16 s_r0_partner_17 → va_P D vwCl (Wd_Cp_pairFrom cy a_r0 a_r0_chosen a_r0_parish a_r0_parish_familySide a_r0_parish_familyWill a_r0_partner a_r0_parish_flitchKind a_r0_parish_flitchCell a_r0_parish_flitchStrength a_r0_parish_familyKind a_r0_parish_familyCell a_r0_parish_past a_r0_parish_sightings a_r0_parish_notes a_r0_parish_marks s_r0_mostPairs_15 s_r0_chosen_16 s_r0_parish_flitchCount s_r0_parish_familyCount s_r0_parish_hung s_r0_parish_day s_r0_parish_familySide s_r0_parish_familyWill s_r0_partner_17) H → va_D A (Wd_Cp_pairFrom cy a_r0 a_r0_chosen a_r0_parish a_r0_parish_familySide a_r0_parish_familyWill a_r0_partner a_r0_parish_flitchKind a_r0_parish_flitchCell a_r0_parish_flitchStrength a_r0_parish_familyKind a_r0_parish_familyCell a_r0_parish_past a_r0_parish_sightings a_r0_parish_notes a_r0_parish_marks s_r0_mostPairs_15 s_r0_chosen_16 s_r0_parish_flitchCount s_r0_parish_familyCount s_r0_parish_hung s_r0_parish_day s_r0_parish_familySide s_r0_parish_familyWill s_r0_partner_17) → va_S A s.heap H locs → lv_has ls 4 [(0, .ref a_r0), (1, .int x1), (2, .int x2), (3, .int x3_14)] → W p l e (rm_Cp_pairFrom (d + 1)) s m args below meth c H locs 0 0 QQ (F0 m 46 ls []) := by
          intro n
          induction n with
          | zero => intro x3_14 s_r0_mostPairs_15 s_r0_chosen_16 s_r0_partner_17 H locs ls h; exact absurd h (hz46_17 _ _ _ _)
          | succ n ih46_17 =>
            intro x3_14 s_r0_mostPairs_15 s_r0_chosen_16 s_r0_partner_17 H locs ls h hP hD hS hl
            have h := hs46_17 _ _ _ _ _ h
            refine lv_iload_n hx hb dX0_pairFrom_46 rfl (lv_at hl 3 rfl) ?_
            refine lv_aload_n hx hb dX0_pairFrom_47 rfl (lv_at hl 0 rfl) ?_
            refine va_get (D := D) (ci := 0) (v := .ref a_r0_parish) (C := RX0) (T := TX0) (N := 4) hx hb hts in_X0 hown hK hP 0 rfl rfl 0 (by decide) fl_18 (fun _ h9 => h9) rfl dX0_pairFrom_48 ?_
            refine va_get (D := D) (ci := 3) (v := .int s_r0_parish_familyCount) (C := RX4) (T := TX4) (N := 15) hx hb hts in_X4 hown hK hP 2 rfl rfl 12 (by decide) fl_30 (fun _ h9 => h9) rfl dX0_pairFrom_51 ?_
            refine lv_icmp_ge (tgt := 126) hx hb dX0_pairFrom_54 (by decide) (fun c_19 => ?_) (fun c_19 => ?_)
            · have h := h.1 c_19
              exact hret (s_r0_mostPairs_15, s_r0_chosen_16, s_r0_partner_17) _ _ _ _ h hP hD hS dX0_pairFrom_126
            · have h := h.2 c_19
              refine lv_iload_n hx hb dX0_pairFrom_57 rfl (lv_at hl 3 rfl) ?_
              refine lv_bipush (v := 7) hx hb dX0_pairFrom_58 (by decide) ?_
              refine lv_icmp_ge (tgt := 126) hx hb dX0_pairFrom_60 (by decide) (fun c_20 => ?_) (fun c_20 => ?_)
              · have h := h.1 c_20
                exact hret (s_r0_mostPairs_15, s_r0_chosen_16, s_r0_partner_17) _ _ _ _ h hP hD hS dX0_pairFrom_126
              · have h := h.2 c_20
                refine lv_aload_n hx hb dX0_pairFrom_63 rfl (lv_at hl 0 rfl) ?_
                refine va_get (D := D) (ci := 0) (v := .ref a_r0_partner) (C := RX0) (T := TX0) (N := 4) hx hb hts in_X0 hown hK hP 0 rfl rfl 1 (by decide) fl_9 (fun _ h9 => h9) rfl dX0_pairFrom_64 ?_
                refine lv_iload_n hx hb dX0_pairFrom_67 rfl (lv_at hl 3 rfl) ?_
                obtain ⟨hi_21, h⟩ := h
                refine va_iald hx hb hK hP 5 1 rfl rfl hi_21 dX0_pairFrom_68 ?_
                refine lv_iconst (v := (-1)) hx hb dX0_pairFrom_69 (by decide) ?_
                obtain ⟨J120, hJ120, h⟩ := jn3_ex h
                have kJ120_24 : ∀ (s_r0_mostPairs_22 : Int32) (s_r0_chosen_23 : Nat → Int32) (s_r0_partner_24 : Nat → Int32) (H : Heap) (locs : List Loc) (ls : Array Slot), J120 s_r0_mostPairs_22 s_r0_chosen_23 s_r0_partner_24 → va_P D vwCl (Wd_Cp_pairFrom cy a_r0 a_r0_chosen a_r0_parish a_r0_parish_familySide a_r0_parish_familyWill a_r0_partner a_r0_parish_flitchKind a_r0_parish_flitchCell a_r0_parish_flitchStrength a_r0_parish_familyKind a_r0_parish_familyCell a_r0_parish_past a_r0_parish_sightings a_r0_parish_notes a_r0_parish_marks s_r0_mostPairs_22 s_r0_chosen_23 s_r0_parish_flitchCount s_r0_parish_familyCount s_r0_parish_hung s_r0_parish_day s_r0_parish_familySide s_r0_parish_familyWill s_r0_partner_24) H → va_D A (Wd_Cp_pairFrom cy a_r0 a_r0_chosen a_r0_parish a_r0_parish_familySide a_r0_parish_familyWill a_r0_partner a_r0_parish_flitchKind a_r0_parish_flitchCell a_r0_parish_flitchStrength a_r0_parish_familyKind a_r0_parish_familyCell a_r0_parish_past a_r0_parish_sightings a_r0_parish_notes a_r0_parish_marks s_r0_mostPairs_22 s_r0_chosen_23 s_r0_parish_flitchCount s_r0_parish_familyCount s_r0_parish_hung s_r0_parish_day s_r0_parish_familySide s_r0_parish_familyWill s_r0_partner_24) → va_S A s.heap H locs → lv_has ls 4 [(0, .ref a_r0), (1, .int x1), (2, .int x2), (3, .int x3_14)] → W p l e (rm_Cp_pairFrom (d + 1)) s m args below meth c H locs 0 0 QQ (F0 m 120 ls []) := by
                  intro s_r0_mostPairs_22 s_r0_chosen_23 s_r0_partner_24 H locs ls h hP hD hS hl
                  have h := hJ120 _ _ _ h
                  obtain ⟨x3_26, ex3_26⟩ : ∃ y : Int32, y = x3_14 + 1 := ⟨_, rfl⟩
                  have h := h x3_26 ex3_26
                  refine lv_iinc (v := x3_26) (lv' := [(3, .int x3_26), (0, .ref a_r0), (1, .int x1), (2, .int x2)]) hx hb dX0_pairFrom_120 hl (k := 3) rfl (by rw [ex3_26]; rfl) (by decide) rfl (fun ls hl => ?_)
                  refine lv_goto (tgt := 46) hx hb dX0_pairFrom_123 (by decide) ?_
                  exact ih46_17 _ _ _ _ _ _ _ h hP hD hS (lv_sub hl [1, 2, 3, 0] rfl)
                refine lv_icmp_ne (tgt := 120) hx hb dX0_pairFrom_70 (by decide) (fun c_27 => ?_) (fun c_27 => ?_)
                · have h := h.1 c_27
                  exact kJ120_24 _ _ _ _ _ _ h hP hD hS (lv_sub hl [0, 1, 2, 3] rfl)
                · have h := h.2 c_27
                  refine lv_aload_n hx hb dX0_pairFrom_73 rfl (lv_at hl 0 rfl) ?_
                  refine lv_iload_n hx hb dX0_pairFrom_74 rfl (lv_at hl 1 rfl) ?_
                  refine lv_iload_n hx hb dX0_pairFrom_75 rfl (lv_at hl 3 rfl) ?_
                  refine st_callRI (st_runVR (n := 2) (As := [.int x1, .int x3_14]) (rest := []) (q0 := 0) F (co_Cp_mayMarry l D cy a_r0 a_r0_parish a_r0_parish_familySide a_r0_parish_familyWill a_r0_partner a_r0_chosen a_r0_parish_flitchKind a_r0_parish_flitchCell a_r0_parish_flitchStrength a_r0_parish_familyKind a_r0_parish_familyCell a_r0_parish_past a_r0_parish_sightings a_r0_parish_notes a_r0_parish_marks s_r0_mostPairs_15 s_r0_parish_flitchCount s_r0_parish_familyCount s_r0_parish_hung s_r0_parish_day s_r0_parish_familySide s_r0_parish_familyWill x1 x3_14 _ h) gX0_pairFrom_X0_mayMarry rfl (by decide +kernel) (rv_Cp_pairFrom_X0_mayMarry d) hKK hP [0, 2, 3, 4] rfl rfl rfl rfl hl.1 rfl (Nat.le_of_ble_eq_true rfl) dX0_pairFrom_76) (fun r_28 h => ?_)
                  refine lv_if_eq (tgt := 120) hx hb dX0_pairFrom_79 (by decide) (fun c_29 => ?_) (fun c_29 => ?_)
                  · have h := h.1 c_29
                    exact kJ120_24 _ _ _ _ _ _ h hP hD hS (lv_sub hl [0, 1, 2, 3] rfl)
                  · have h := h.2 c_29
                    refine lv_aload_n hx hb dX0_pairFrom_82 rfl (lv_at hl 0 rfl) ?_
                    refine va_get (D := D) (ci := 0) (v := .ref a_r0_partner) (C := RX0) (T := TX0) (N := 4) hx hb hts in_X0 hown hK hP 0 rfl rfl 1 (by decide) fl_9 (fun _ h9 => h9) rfl dX0_pairFrom_83 ?_
                    refine lv_iload_n hx hb dX0_pairFrom_86 rfl (lv_at hl 1 rfl) ?_
                    refine lv_iload_n hx hb dX0_pairFrom_87 rfl (lv_at hl 3 rfl) ?_
                    obtain ⟨hi_30, h⟩ := h
                    refine va_iast hx hb hK hP hD hS 5 1 rfl rfl hi_30 dX0_pairFrom_88 (fun H locs hP hD hS => ?_)
                    obtain ⟨s_r0_partner_31, es_r0_partner_31⟩ : ∃ f : Nat → Int32, f = upd s_r0_partner_17 (Int32.toNatClampNeg x1) x3_14 := ⟨_, rfl⟩
                    have hP : va_P D vwCl (Wd_Cp_pairFrom cy a_r0 a_r0_chosen a_r0_parish a_r0_parish_familySide a_r0_parish_familyWill a_r0_partner a_r0_parish_flitchKind a_r0_parish_flitchCell a_r0_parish_flitchStrength a_r0_parish_familyKind a_r0_parish_familyCell a_r0_parish_past a_r0_parish_sightings a_r0_parish_notes a_r0_parish_marks s_r0_mostPairs_15 s_r0_chosen_16 s_r0_parish_flitchCount s_r0_parish_familyCount s_r0_parish_hung s_r0_parish_day s_r0_parish_familySide s_r0_parish_familyWill s_r0_partner_31) H := by rw [es_r0_partner_31]; exact hP
                    have hD : va_D A (Wd_Cp_pairFrom cy a_r0 a_r0_chosen a_r0_parish a_r0_parish_familySide a_r0_parish_familyWill a_r0_partner a_r0_parish_flitchKind a_r0_parish_flitchCell a_r0_parish_flitchStrength a_r0_parish_familyKind a_r0_parish_familyCell a_r0_parish_past a_r0_parish_sightings a_r0_parish_notes a_r0_parish_marks s_r0_mostPairs_15 s_r0_chosen_16 s_r0_parish_flitchCount s_r0_parish_familyCount s_r0_parish_hung s_r0_parish_day s_r0_parish_familySide s_r0_parish_familyWill s_r0_partner_31) := by rw [es_r0_partner_31]; exact hD
                    have h := h s_r0_partner_31 es_r0_partner_31
                    refine lv_aload_n hx hb dX0_pairFrom_89 rfl (lv_at hl 0 rfl) ?_
                    refine va_get (D := D) (ci := 0) (v := .ref a_r0_partner) (C := RX0) (T := TX0) (N := 4) hx hb hts in_X0 hown hK hP 0 rfl rfl 1 (by decide) fl_9 (fun _ h9 => h9) rfl dX0_pairFrom_90 ?_
                    refine lv_iload_n hx hb dX0_pairFrom_93 rfl (lv_at hl 3 rfl) ?_
                    refine lv_iload_n hx hb dX0_pairFrom_94 rfl (lv_at hl 1 rfl) ?_
                    obtain ⟨hi_32, h⟩ := h
                    refine va_iast hx hb hK hP hD hS 5 1 rfl rfl hi_32 dX0_pairFrom_95 (fun H locs hP hD hS => ?_)
                    obtain ⟨s_r0_partner_33, es_r0_partner_33⟩ : ∃ f : Nat → Int32, f = upd s_r0_partner_31 (Int32.toNatClampNeg x3_14) x1 := ⟨_, rfl⟩
                    have hP : va_P D vwCl (Wd_Cp_pairFrom cy a_r0 a_r0_chosen a_r0_parish a_r0_parish_familySide a_r0_parish_familyWill a_r0_partner a_r0_parish_flitchKind a_r0_parish_flitchCell a_r0_parish_flitchStrength a_r0_parish_familyKind a_r0_parish_familyCell a_r0_parish_past a_r0_parish_sightings a_r0_parish_notes a_r0_parish_marks s_r0_mostPairs_15 s_r0_chosen_16 s_r0_parish_flitchCount s_r0_parish_familyCount s_r0_parish_hung s_r0_parish_day s_r0_parish_familySide s_r0_parish_familyWill s_r0_partner_33) H := by rw [es_r0_partner_33]; exact hP
                    have hD : va_D A (Wd_Cp_pairFrom cy a_r0 a_r0_chosen a_r0_parish a_r0_parish_familySide a_r0_parish_familyWill a_r0_partner a_r0_parish_flitchKind a_r0_parish_flitchCell a_r0_parish_flitchStrength a_r0_parish_familyKind a_r0_parish_familyCell a_r0_parish_past a_r0_parish_sightings a_r0_parish_notes a_r0_parish_marks s_r0_mostPairs_15 s_r0_chosen_16 s_r0_parish_flitchCount s_r0_parish_familyCount s_r0_parish_hung s_r0_parish_day s_r0_parish_familySide s_r0_parish_familyWill s_r0_partner_33) := by rw [es_r0_partner_33]; exact hD
                    have h := h s_r0_partner_33 es_r0_partner_33
                    refine lv_aload_n hx hb dX0_pairFrom_96 rfl (lv_at hl 0 rfl) ?_
                    refine lv_iload_n hx hb dX0_pairFrom_97 rfl (lv_at hl 1 rfl) ?_
                    refine lv_iconst (v := 1) hx hb dX0_pairFrom_98 (by decide) ?_
                    refine lv_iadd hx hb dX0_pairFrom_99 ?_
                    refine lv_iload_n hx hb dX0_pairFrom_100 rfl (lv_at hl 2 rfl) ?_
                    refine lv_iconst (v := 1) hx hb dX0_pairFrom_101 (by decide) ?_
                    refine lv_iadd hx hb dX0_pairFrom_102 ?_
                    refine st_callV (WR := []) (WSn := fun u => (Wd_Cp_pairFrom cy a_r0 a_r0_chosen a_r0_parish a_r0_parish_familySide a_r0_parish_familyWill a_r0_partner a_r0_parish_flitchKind a_r0_parish_flitchCell a_r0_parish_flitchStrength a_r0_parish_familyKind a_r0_parish_familyCell a_r0_parish_past a_r0_parish_sightings a_r0_parish_notes a_r0_parish_marks u.1 u.2.1 s_r0_parish_flitchCount s_r0_parish_familyCount s_r0_parish_hung s_r0_parish_day s_r0_parish_familySide s_r0_parish_familyWill u.2.2)) (st_runS (n := 3) (As := [.ref a_r0, .int (x1 + 1), .int (x2 + 1)]) (rest := []) F ((ih a_r0 a_r0_chosen a_r0_parish a_r0_parish_familySide a_r0_parish_familyWill a_r0_partner a_r0_parish_flitchKind a_r0_parish_flitchCell a_r0_parish_flitchStrength a_r0_parish_familyKind a_r0_parish_familyCell a_r0_parish_past a_r0_parish_sightings a_r0_parish_notes a_r0_parish_marks s_r0_mostPairs_15 s_r0_chosen_16 s_r0_parish_flitchCount s_r0_parish_familyCount s_r0_parish_hung s_r0_parish_day s_r0_parish_familySide s_r0_parish_familyWill s_r0_partner_33 (x1 + 1) (x2 + 1) _ h) _) rfl gX0_pairFrom_X0_pairFrom rfl (by decide +kernel) (rv_Cp_pairFrom_X0_pairFrom d) hKK hP hD [0, 1, 2, 3, 4, 5] rfl rfl rfl hl.1 rfl (Nat.le_of_ble_eq_true rfl) dX0_pairFrom_103) hP hD hS hA [0, 1, 2, 3, 4, 5] [] [0, 1, 2, 3, 4, 5] rfl rfl rfl (fun _ => rfl) (fun u H locs h hP hD hS => ?_)
                    obtain ⟨s_r0_mostPairs_35, s_r0_chosen_36, s_r0_partner_37⟩ := u
                    dsimp only at h hP hD
                    have hP : va_P D vwCl (Wd_Cp_pairFrom cy a_r0 a_r0_chosen a_r0_parish a_r0_parish_familySide a_r0_parish_familyWill a_r0_partner a_r0_parish_flitchKind a_r0_parish_flitchCell a_r0_parish_flitchStrength a_r0_parish_familyKind a_r0_parish_familyCell a_r0_parish_past a_r0_parish_sightings a_r0_parish_notes a_r0_parish_marks s_r0_mostPairs_35 s_r0_chosen_36 s_r0_parish_flitchCount s_r0_parish_familyCount s_r0_parish_hung s_r0_parish_day s_r0_parish_familySide s_r0_parish_familyWill s_r0_partner_37) H := hP
                    have hD : va_D A (Wd_Cp_pairFrom cy a_r0 a_r0_chosen a_r0_parish a_r0_parish_familySide a_r0_parish_familyWill a_r0_partner a_r0_parish_flitchKind a_r0_parish_flitchCell a_r0_parish_flitchStrength a_r0_parish_familyKind a_r0_parish_familyCell a_r0_parish_past a_r0_parish_sightings a_r0_parish_notes a_r0_parish_marks s_r0_mostPairs_35 s_r0_chosen_36 s_r0_parish_flitchCount s_r0_parish_familyCount s_r0_parish_hung s_r0_parish_day s_r0_parish_familySide s_r0_parish_familyWill s_r0_partner_37) := hD
                    refine lv_aload_n hx hb dX0_pairFrom_106 rfl (lv_at hl 0 rfl) ?_
                    refine va_get (D := D) (ci := 0) (v := .ref a_r0_partner) (C := RX0) (T := TX0) (N := 4) hx hb hts in_X0 hown hK hP 0 rfl rfl 1 (by decide) fl_9 (fun _ h9 => h9) rfl dX0_pairFrom_107 ?_
                    refine lv_iload_n hx hb dX0_pairFrom_110 rfl (lv_at hl 1 rfl) ?_
                    refine lv_iconst (v := (-1)) hx hb dX0_pairFrom_111 (by decide) ?_
                    obtain ⟨hi_38, h⟩ := h
                    refine va_iast hx hb hK hP hD hS 5 1 rfl rfl hi_38 dX0_pairFrom_112 (fun H locs hP hD hS => ?_)
                    obtain ⟨s_r0_partner_39, es_r0_partner_39⟩ : ∃ f : Nat → Int32, f = upd s_r0_partner_37 (Int32.toNatClampNeg x1) (-1) := ⟨_, rfl⟩
                    have hP : va_P D vwCl (Wd_Cp_pairFrom cy a_r0 a_r0_chosen a_r0_parish a_r0_parish_familySide a_r0_parish_familyWill a_r0_partner a_r0_parish_flitchKind a_r0_parish_flitchCell a_r0_parish_flitchStrength a_r0_parish_familyKind a_r0_parish_familyCell a_r0_parish_past a_r0_parish_sightings a_r0_parish_notes a_r0_parish_marks s_r0_mostPairs_35 s_r0_chosen_36 s_r0_parish_flitchCount s_r0_parish_familyCount s_r0_parish_hung s_r0_parish_day s_r0_parish_familySide s_r0_parish_familyWill s_r0_partner_39) H := by rw [es_r0_partner_39]; exact hP
                    have hD : va_D A (Wd_Cp_pairFrom cy a_r0 a_r0_chosen a_r0_parish a_r0_parish_familySide a_r0_parish_familyWill a_r0_partner a_r0_parish_flitchKind a_r0_parish_flitchCell a_r0_parish_flitchStrength a_r0_parish_familyKind a_r0_parish_familyCell a_r0_parish_past a_r0_parish_sightings a_r0_parish_notes a_r0_parish_marks s_r0_mostPairs_35 s_r0_chosen_36 s_r0_parish_flitchCount s_r0_parish_familyCount s_r0_parish_hung s_r0_parish_day s_r0_parish_familySide s_r0_parish_familyWill s_r0_partner_39) := by rw [es_r0_partner_39]; exact hD
                    have h := h s_r0_partner_39 es_r0_partner_39
                    refine lv_aload_n hx hb dX0_pairFrom_113 rfl (lv_at hl 0 rfl) ?_
                    refine va_get (D := D) (ci := 0) (v := .ref a_r0_partner) (C := RX0) (T := TX0) (N := 4) hx hb hts in_X0 hown hK hP 0 rfl rfl 1 (by decide) fl_9 (fun _ h9 => h9) rfl dX0_pairFrom_114 ?_
                    refine lv_iload_n hx hb dX0_pairFrom_117 rfl (lv_at hl 3 rfl) ?_
                    refine lv_iconst (v := (-1)) hx hb dX0_pairFrom_118 (by decide) ?_
                    obtain ⟨hi_40, h⟩ := h
                    refine va_iast hx hb hK hP hD hS 5 1 rfl rfl hi_40 dX0_pairFrom_119 (fun H locs hP hD hS => ?_)
                    obtain ⟨s_r0_partner_41, es_r0_partner_41⟩ : ∃ f : Nat → Int32, f = upd s_r0_partner_39 (Int32.toNatClampNeg x3_14) (-1) := ⟨_, rfl⟩
                    have hP : va_P D vwCl (Wd_Cp_pairFrom cy a_r0 a_r0_chosen a_r0_parish a_r0_parish_familySide a_r0_parish_familyWill a_r0_partner a_r0_parish_flitchKind a_r0_parish_flitchCell a_r0_parish_flitchStrength a_r0_parish_familyKind a_r0_parish_familyCell a_r0_parish_past a_r0_parish_sightings a_r0_parish_notes a_r0_parish_marks s_r0_mostPairs_35 s_r0_chosen_36 s_r0_parish_flitchCount s_r0_parish_familyCount s_r0_parish_hung s_r0_parish_day s_r0_parish_familySide s_r0_parish_familyWill s_r0_partner_41) H := by rw [es_r0_partner_41]; exact hP
                    have hD : va_D A (Wd_Cp_pairFrom cy a_r0 a_r0_chosen a_r0_parish a_r0_parish_familySide a_r0_parish_familyWill a_r0_partner a_r0_parish_flitchKind a_r0_parish_flitchCell a_r0_parish_flitchStrength a_r0_parish_familyKind a_r0_parish_familyCell a_r0_parish_past a_r0_parish_sightings a_r0_parish_notes a_r0_parish_marks s_r0_mostPairs_35 s_r0_chosen_36 s_r0_parish_flitchCount s_r0_parish_familyCount s_r0_parish_hung s_r0_parish_day s_r0_parish_familySide s_r0_parish_familyWill s_r0_partner_41) := by rw [es_r0_partner_41]; exact hD
                    have h := h s_r0_partner_41 es_r0_partner_41
                    exact kJ120_24 _ _ _ _ _ _ h hP hD hS (lv_sub hl [0, 1, 2, 3] rfl)
        exact kT46_17 n46_17 _ _ _ _ _ _ _ h hP hD hS (lv_sub hl [1, 2, 3, 0] rfl)
      · have h := h.2 c_12
        exact hret (s_r0_mostPairs_8, s_r0_chosen_9, s_r0_partner_10) _ _ _ _ h hP hD hS dX0_pairFrom_41
    · have h := h.2 c_6
      exact kJ17_0  _ _ _ h hP hD hS (lv_sub hl [0, 2] rfl)
abbrev Wd_Cp_pairAll (cy : ClassId × ClassId × ClassId × ClassId) (a_this a_chosen a_parish a_parish_familySide a_parish_familyWill a_partner a_parish_flitchKind a_parish_flitchCell a_parish_flitchStrength a_parish_familyKind a_parish_familyCell a_parish_past a_parish_sightings a_parish_notes a_parish_marks : Nat) (s_mostPairs : Int32) (s_chosen : Nat → Int32) (s_parish_flitchCount : Int32) (s_parish_familyCount : Int32) (s_parish_hung : Int32) (s_parish_day : Int32) (s_parish_familySide : Nat → Int32) (s_parish_familyWill : Nat → Int32) (s_partner : Nat → Int32) : va_W := [(a_this, .inr (0, [.ref a_parish, .ref a_partner, .ref a_chosen, .int s_mostPairs])), (a_chosen, .inl (cy.2.1, 7, .inl s_chosen)), (a_parish, .inr (3, [.ref a_parish_flitchKind, .ref a_parish_flitchCell, .ref a_parish_flitchStrength, .ref a_parish_familyKind, .ref a_parish_familySide, .ref a_parish_familyCell, .ref a_parish_familyWill, .ref a_parish_past, .ref a_parish_sightings, .ref a_parish_notes, .ref a_parish_marks, .int s_parish_flitchCount, .int s_parish_familyCount, .int s_parish_hung, .int s_parish_day])), (a_parish_familySide, .inl (cy.2.1, 7, .inl s_parish_familySide)), (a_parish_familyWill, .inl (cy.2.1, 7, .inl s_parish_familyWill)), (a_partner, .inl (cy.2.1, 7, .inl s_partner))]
abbrev rm_Cp_pairAll : Room := { frames := 12, cells := 0, slots := 0, locals := 300 }
def wp_Cp_pairAll (s_mostPairs : Int32) (s_chosen : Nat → Int32) (s_parish_familyCount : Int32) (s_parish_familySide : Nat → Int32) (s_parish_familyWill : Nat → Int32) (s_partner : Nat → Int32) (Q : Int32 → (Nat → Int32) → (Nat → Int32) → Prop) : Prop := ∃ n : Nat, lpw2 (fun (B2 : Int32 → (Nat → Int32) → Prop) (x1_1 : Int32) (s_partner_2 : Nat → Int32) => ((7 ≤ x1_1 → wp_Cp_pairFrom 9 0 0 (-1) s_chosen s_parish_familyCount s_parish_familySide s_parish_familyWill s_partner_2 (fun (s_mostPairs_6 : Int32) (s_chosen_7 : Nat → Int32) (s_partner_8 : Nat → Int32) => Q s_mostPairs_6 s_chosen_7 s_partner_8)) ∧ (¬ 7 ≤ x1_1 → vp_in x1_1 7 ∧ ∀ s_partner_10 : Nat → Int32, s_partner_10 = upd s_partner_2 (Int32.toNatClampNeg x1_1) (-1) → ∀ x1_11 : Int32, x1_11 = x1_1 + 1 → B2 x1_11 s_partner_10))) n 0 s_partner
set_option maxHeartbeats 4000000 in
set_option maxRecDepth 100000 in
theorem co_Cp_pairAll (l : Launch) (D : va_G) (cy : ClassId × ClassId × ClassId × ClassId) (a_this a_chosen a_parish a_parish_familySide a_parish_familyWill a_partner a_parish_flitchKind a_parish_flitchCell a_parish_flitchStrength a_parish_familyKind a_parish_familyCell a_parish_past a_parish_sightings a_parish_notes a_parish_marks : Nat) (s_mostPairs : Int32) (s_chosen : Nat → Int32) (s_parish_flitchCount : Int32) (s_parish_familyCount : Int32) (s_parish_hung : Int32) (s_parish_day : Int32) (s_parish_familySide : Nat → Int32) (s_parish_familyWill : Nat → Int32) (s_partner : Nat → Int32) (Q : Int32 → (Nat → Int32) → (Nat → Int32) → Prop) (h : wp_Cp_pairAll s_mostPairs s_chosen s_parish_familyCount s_parish_familySide s_parish_familyWill s_partner Q) : CoV l yX0_pairAll wsX0_pairAll rm_Cp_pairAll D cy [.ref a_this] (Wd_Cp_pairAll cy a_this a_chosen a_parish a_parish_familySide a_parish_familyWill a_partner a_parish_flitchKind a_parish_flitchCell a_parish_flitchStrength a_parish_familyKind a_parish_familyCell a_parish_past a_parish_sightings a_parish_notes a_parish_marks s_mostPairs s_chosen s_parish_flitchCount s_parish_familyCount s_parish_hung s_parish_day s_parish_familySide s_parish_familyWill s_partner) (fun u : Int32 × (Nat → Int32) × (Nat → Int32) => (Wd_Cp_pairAll cy a_this a_chosen a_parish a_parish_familySide a_parish_familyWill a_partner a_parish_flitchKind a_parish_flitchCell a_parish_flitchStrength a_parish_familyKind a_parish_familyCell a_parish_past a_parish_sightings a_parish_notes a_parish_marks u.1 u.2.1 s_parish_flitchCount s_parish_familyCount s_parish_hung s_parish_day s_parish_familySide s_parish_familyWill u.2.2)) (fun (u : Int32 × (Nat → Int32) × (Nat → Int32)) => Q u.1 u.2.1 u.2.2) := by
  refine st_metV (cc := cX0_pairAll) (maxL := 2) RX0 (by decide) rfl rfl (Nat.le_of_ble_eq_true rfl) ?_
  intro p e s m args below meth c A QQ ls F hA hKK hP hD hS hl hret
  have hK := hKK.1
  have hnest := hKK.2.1
  have hx := F.1
  have hb := F.2.1
  have hown := F.2.2.2.1
  have hts := F.2.2.2.2
  have in_X0 : ∀ w ∈ u_ws RX0 TX0 4, w ∈ wsX0_pairAll := (fun _ h => List.mem_cons_of_mem _ (List.mem_append_left _ (List.mem_append_right _ h)))
  have fl_9 := (hts (.fieldLink RX0 9 "RasherCase$Couples" "partner" "[I") (List.mem_of_getElem? (i := 1) rfl))
  have fl_22 := (hts (.fieldLink RX0 22 "RasherCase$Couples" "mostPairs" "I") (List.mem_of_getElem? (i := 2) rfl))
  have hl : lv_has ls 2 [(0, .ref a_this)] := hl
  unfold wp_Cp_pairAll at h
  refine lv_iconst (v := 0) hx hb dX0_pairAll_0 (by decide) ?_
  refine lv_istore_n (lv' := [(1, .int 0), (0, .ref a_this)]) hx hb dX0_pairAll_1 rfl hl (by decide) rfl (fun ls hl => ?_)
  obtain ⟨T2_2, hz2_2, hs2_2, n2_2, h⟩ := lpw2_use h
  have kT2_2 : ∀ (n : Nat) (x1_1 : Int32) (s_partner_2 : Nat → Int32) (H : Heap) (locs : List Loc) (ls : Array Slot), T2_2 n x1_1 s_partner_2 → va_P D vwCl (Wd_Cp_pairAll cy a_this a_chosen a_parish a_parish_familySide a_parish_familyWill a_partner a_parish_flitchKind a_parish_flitchCell a_parish_flitchStrength a_parish_familyKind a_parish_familyCell a_parish_past a_parish_sightings a_parish_notes a_parish_marks s_mostPairs s_chosen s_parish_flitchCount s_parish_familyCount s_parish_hung s_parish_day s_parish_familySide s_parish_familyWill s_partner_2) H → va_D A (Wd_Cp_pairAll cy a_this a_chosen a_parish a_parish_familySide a_parish_familyWill a_partner a_parish_flitchKind a_parish_flitchCell a_parish_flitchStrength a_parish_familyKind a_parish_familyCell a_parish_past a_parish_sightings a_parish_notes a_parish_marks s_mostPairs s_chosen s_parish_flitchCount s_parish_familyCount s_parish_hung s_parish_day s_parish_familySide s_parish_familyWill s_partner_2) → va_S A s.heap H locs → lv_has ls 2 [(0, .ref a_this), (1, .int x1_1)] → W p l e rm_Cp_pairAll s m args below meth c H locs 0 0 QQ (F0 m 2 ls []) := by
    intro n
    induction n with
    | zero => intro x1_1 s_partner_2 H locs ls h; exact absurd h (hz2_2 _ _)
    | succ n ih2_2 =>
      intro x1_1 s_partner_2 H locs ls h hP hD hS hl
      have h := hs2_2 _ _ _ h
      refine lv_iload_n hx hb dX0_pairAll_2 rfl (lv_at hl 1 rfl) ?_
      refine lv_bipush (v := 7) hx hb dX0_pairAll_3 (by decide) ?_
      refine lv_icmp_ge (tgt := 21) hx hb dX0_pairAll_5 (by decide) (fun c_4 => ?_) (fun c_4 => ?_)
      · have h := h.1 c_4
        refine lv_aload_n hx hb dX0_pairAll_21 rfl (lv_at hl 0 rfl) ?_
        refine lv_iconst (v := (-1)) hx hb dX0_pairAll_22 (by decide) ?_
        refine va_put (D := D) (ci := 0) (v := .int (-1)) (ty := .int) (C := RX0) (T := TX0) (N := 4) hx hb hts in_X0 tyX0 tyX0_ok nmX0 hown hK hP hD hS 0 rfl rfl 3 (by decide) fl_22 (fun _ h9 => h9) rfl (tyX0_ok 3 (by decide)) rfl rfl (Nat.le_of_ble_eq_true rfl) dX0_pairAll_23 (fun H locs hP hD hS => ?_)
        have hP : va_P D vwCl (Wd_Cp_pairAll cy a_this a_chosen a_parish a_parish_familySide a_parish_familyWill a_partner a_parish_flitchKind a_parish_flitchCell a_parish_flitchStrength a_parish_familyKind a_parish_familyCell a_parish_past a_parish_sightings a_parish_notes a_parish_marks (-1) s_chosen s_parish_flitchCount s_parish_familyCount s_parish_hung s_parish_day s_parish_familySide s_parish_familyWill s_partner_2) H := hP
        have hD : va_D A (Wd_Cp_pairAll cy a_this a_chosen a_parish a_parish_familySide a_parish_familyWill a_partner a_parish_flitchKind a_parish_flitchCell a_parish_flitchStrength a_parish_familyKind a_parish_familyCell a_parish_past a_parish_sightings a_parish_notes a_parish_marks (-1) s_chosen s_parish_flitchCount s_parish_familyCount s_parish_hung s_parish_day s_parish_familySide s_parish_familyWill s_partner_2) := hD
        refine lv_aload_n hx hb dX0_pairAll_26 rfl (lv_at hl 0 rfl) ?_
        refine lv_iconst (v := 0) hx hb dX0_pairAll_27 (by decide) ?_
        refine lv_iconst (v := 0) hx hb dX0_pairAll_28 (by decide) ?_
        refine st_callV (WR := []) (WSn := fun u => (Wd_Cp_pairAll cy a_this a_chosen a_parish a_parish_familySide a_parish_familyWill a_partner a_parish_flitchKind a_parish_flitchCell a_parish_flitchStrength a_parish_familyKind a_parish_familyCell a_parish_past a_parish_sightings a_parish_notes a_parish_marks u.1 u.2.1 s_parish_flitchCount s_parish_familyCount s_parish_hung s_parish_day s_parish_familySide s_parish_familyWill u.2.2)) (st_runS (n := 3) (As := [.ref a_this, .int 0, .int 0]) (rest := []) F ((co_Cp_pairFrom l D cy 9 a_this a_chosen a_parish a_parish_familySide a_parish_familyWill a_partner a_parish_flitchKind a_parish_flitchCell a_parish_flitchStrength a_parish_familyKind a_parish_familyCell a_parish_past a_parish_sightings a_parish_notes a_parish_marks (-1) s_chosen s_parish_flitchCount s_parish_familyCount s_parish_hung s_parish_day s_parish_familySide s_parish_familyWill s_partner_2 0 0 _ h) _) rfl gX0_pairAll_X0_pairFrom rfl (by decide +kernel) rfl hKK hP hD [0, 1, 2, 3, 4, 5] rfl rfl rfl hl.1 rfl (Nat.le_of_ble_eq_true rfl) dX0_pairAll_29) hP hD hS hA [0, 1, 2, 3, 4, 5] [] [0, 1, 2, 3, 4, 5] rfl rfl rfl (fun _ => rfl) (fun u H locs h hP hD hS => ?_)
        obtain ⟨s_mostPairs_6, s_chosen_7, s_partner_8⟩ := u
        dsimp only at h hP hD
        have hP : va_P D vwCl (Wd_Cp_pairAll cy a_this a_chosen a_parish a_parish_familySide a_parish_familyWill a_partner a_parish_flitchKind a_parish_flitchCell a_parish_flitchStrength a_parish_familyKind a_parish_familyCell a_parish_past a_parish_sightings a_parish_notes a_parish_marks s_mostPairs_6 s_chosen_7 s_parish_flitchCount s_parish_familyCount s_parish_hung s_parish_day s_parish_familySide s_parish_familyWill s_partner_8) H := hP
        have hD : va_D A (Wd_Cp_pairAll cy a_this a_chosen a_parish a_parish_familySide a_parish_familyWill a_partner a_parish_flitchKind a_parish_flitchCell a_parish_flitchStrength a_parish_familyKind a_parish_familyCell a_parish_past a_parish_sightings a_parish_notes a_parish_marks s_mostPairs_6 s_chosen_7 s_parish_flitchCount s_parish_familyCount s_parish_hung s_parish_day s_parish_familySide s_parish_familyWill s_partner_8) := hD
        exact hret (s_mostPairs_6, s_chosen_7, s_partner_8) _ _ _ _ h hP hD hS dX0_pairAll_32
      · have h := h.2 c_4
        refine lv_aload_n hx hb dX0_pairAll_8 rfl (lv_at hl 0 rfl) ?_
        refine va_get (D := D) (ci := 0) (v := .ref a_partner) (C := RX0) (T := TX0) (N := 4) hx hb hts in_X0 hown hK hP 0 rfl rfl 1 (by decide) fl_9 (fun _ h9 => h9) rfl dX0_pairAll_9 ?_
        refine lv_iload_n hx hb dX0_pairAll_12 rfl (lv_at hl 1 rfl) ?_
        refine lv_iconst (v := (-1)) hx hb dX0_pairAll_13 (by decide) ?_
        obtain ⟨hi_9, h⟩ := h
        refine va_iast hx hb hK hP hD hS 5 1 rfl rfl hi_9 dX0_pairAll_14 (fun H locs hP hD hS => ?_)
        obtain ⟨s_partner_10, es_partner_10⟩ : ∃ f : Nat → Int32, f = upd s_partner_2 (Int32.toNatClampNeg x1_1) (-1) := ⟨_, rfl⟩
        have hP : va_P D vwCl (Wd_Cp_pairAll cy a_this a_chosen a_parish a_parish_familySide a_parish_familyWill a_partner a_parish_flitchKind a_parish_flitchCell a_parish_flitchStrength a_parish_familyKind a_parish_familyCell a_parish_past a_parish_sightings a_parish_notes a_parish_marks s_mostPairs s_chosen s_parish_flitchCount s_parish_familyCount s_parish_hung s_parish_day s_parish_familySide s_parish_familyWill s_partner_10) H := by rw [es_partner_10]; exact hP
        have hD : va_D A (Wd_Cp_pairAll cy a_this a_chosen a_parish a_parish_familySide a_parish_familyWill a_partner a_parish_flitchKind a_parish_flitchCell a_parish_flitchStrength a_parish_familyKind a_parish_familyCell a_parish_past a_parish_sightings a_parish_notes a_parish_marks s_mostPairs s_chosen s_parish_flitchCount s_parish_familyCount s_parish_hung s_parish_day s_parish_familySide s_parish_familyWill s_partner_10) := by rw [es_partner_10]; exact hD
        have h := h s_partner_10 es_partner_10
        obtain ⟨x1_11, ex1_11⟩ : ∃ y : Int32, y = x1_1 + 1 := ⟨_, rfl⟩
        have h := h x1_11 ex1_11
        refine lv_iinc (v := x1_11) (lv' := [(1, .int x1_11), (0, .ref a_this)]) hx hb dX0_pairAll_15 hl (k := 1) rfl (by rw [ex1_11]; rfl) (by decide) rfl (fun ls hl => ?_)
        refine lv_goto (tgt := 2) hx hb dX0_pairAll_18 (by decide) ?_
        exact ih2_2 _ _ _ _ _ h hP hD hS (lv_sub hl [1, 0] rfl)
  exact kT2_2 n2_2 _ _ _ _ _ h hP hD hS (lv_sub hl [1, 0] rfl)
abbrev Wd_Nt_scent (cy : ClassId × ClassId × ClassId × ClassId) : va_W := []
abbrev rm_Nt_scent : Room := { frames := 0, cells := 0, slots := 0, locals := 0 }
def wp_Nt_scent (x0 : Int32) (x1 : Int32) (x2 : Int32) (x3 : Int32) (Q : Int32 → Prop) : Prop := jn1 (fun (J16 : Int32 → Prop) => ((x1 ≤ (2 * x2) → J16 0) ∧ (¬ x1 ≤ (2 * x2) → J16 (x1 - (2 * x2))))) (fun (v_1 : Int32) => jn1 (fun (J32 : Int32 → Prop) => ((v_1 < 1 → J32 0) ∧ (¬ v_1 < 1 → J32 (v_1 + 2)))) (fun (v_3 : Int32) => jn1 (fun (J50 : Int32 → Prop) => ((¬ (irem x3 7) = 0 → J50 v_1) ∧ ((irem x3 7) = 0 → J50 (v_1 + 5)))) (fun (v_5 : Int32) => ((x0 = 1 → Q v_3) ∧ (¬ x0 = 1 → ((x0 = 2 → Q v_5) ∧ (¬ x0 = 2 → ((x0 = 3 → Q (2 * v_3)) ∧ (¬ x0 = 3 → ((x0 = 4 → Q ((v_1 + 1) / 2)) ∧ (¬ x0 = 4 → ((x0 = 5 → (((v_5 - x2) ≤ 1 → Q 1) ∧ (¬ (v_5 - x2) ≤ 1 → Q (v_5 - x2)))) ∧ (¬ x0 = 5 → Q v_1)))))))))))))
set_option maxHeartbeats 4000000 in
set_option maxRecDepth 100000 in
theorem co_Nt_scent (l : Launch) (D : va_G) (cy : ClassId × ClassId × ClassId × ClassId) (x0 : Int32) (x1 : Int32) (x2 : Int32) (x3 : Int32) (Q : Int32 → Prop) (h : wp_Nt_scent x0 x1 x2 x3 Q) : RoI l yX3_scent wsX3_scent rm_Nt_scent D cy [.int x0, .int x1, .int x2, .int x3] (Wd_Nt_scent cy) Q := by
  refine st_metRI (cc := cX3_scent) (maxL := 7) RX3 (by decide) rfl rfl (Nat.le_of_ble_eq_true rfl) ?_
  intro p e s m args below meth c QQ ls F hKK hP hl hret
  have hK := hKK.1
  have hnest := hKK.2.1
  have hx := F.1
  have hb := F.2.1
  have hown := F.2.2.2.1
  have hts := F.2.2.2.2
  have hl : lv_has ls 7 [(0, .int x0), (1, .int x1), (2, .int x2), (3, .int x3)] := hl
  unfold wp_Nt_scent at h
  refine lv_iload_n hx hb dX3_scent_0 rfl (lv_at hl 1 rfl) ?_
  refine lv_iconst (v := 2) hx hb dX3_scent_1 (by decide) ?_
  refine lv_iload_n hx hb dX3_scent_2 rfl (lv_at hl 2 rfl) ?_
  refine lv_imul hx hb dX3_scent_3 ?_
  obtain ⟨J16, hJ16, h⟩ := jn1_ex h
  have kJ16_1 : ∀ (v_1 : Int32) (ls : Array Slot), J16 v_1 → lv_has ls 7 [(0, .int x0), (2, .int x2), (3, .int x3)] → W p l e rm_Nt_scent s m args below meth c s.heap [] 0 0 QQ (F0 m 16 ls [.int v_1]) := by
    intro v_1 ls h hl
    have h := hJ16 _ h
    refine lv_istore (lv' := [(4, .int v_1), (0, .int x0), (2, .int x2), (3, .int x3)]) hx hb dX3_scent_16 hl (by decide) rfl (fun ls hl => ?_)
    refine lv_iload hx hb dX3_scent_18 (lv_at hl 0 rfl) ?_
    refine lv_iconst (v := 1) hx hb dX3_scent_20 (by decide) ?_
    obtain ⟨J32, hJ32, h⟩ := jn1_ex h
    have kJ32_3 : ∀ (v_3 : Int32) (ls : Array Slot), J32 v_3 → lv_has ls 7 [(0, .int x0), (2, .int x2), (3, .int x3), (4, .int v_1)] → W p l e rm_Nt_scent s m args below meth c s.heap [] 0 0 QQ (F0 m 32 ls [.int v_3]) := by
      intro v_3 ls h hl
      have h := hJ32 _ h
      refine lv_istore (lv' := [(5, .int v_3), (0, .int x0), (2, .int x2), (3, .int x3), (4, .int v_1)]) hx hb dX3_scent_32 hl (by decide) rfl (fun ls hl => ?_)
      refine lv_iload_n hx hb dX3_scent_34 rfl (lv_at hl 3 rfl) ?_
      refine lv_bipush (v := 7) hx hb dX3_scent_35 (by decide) ?_
      refine lv_irem hx hb dX3_scent_37 (by decide) ?_
      obtain ⟨J50, hJ50, h⟩ := jn1_ex h
      have kJ50_5 : ∀ (v_5 : Int32) (ls : Array Slot), J50 v_5 → lv_has ls 7 [(0, .int x0), (2, .int x2), (4, .int v_1), (5, .int v_3)] → W p l e rm_Nt_scent s m args below meth c s.heap [] 0 0 QQ (F0 m 50 ls [.int v_5]) := by
        intro v_5 ls h hl
        have h := hJ50 _ h
        refine lv_istore (lv' := [(6, .int v_5), (0, .int x0), (2, .int x2), (4, .int v_1), (5, .int v_3)]) hx hb dX3_scent_50 hl (by decide) rfl (fun ls hl => ?_)
        refine lv_iload_n hx hb dX3_scent_52 rfl (lv_at hl 1 rfl) ?_
        by_cases c_7 : x0 = 1
        · have h := h.1 c_7
          refine lv_tableIn (tgt := 88) hx hb dX3_scent_53 (by rw [c_7]; decide) (by rw [c_7]; decide) (by rw [c_7]; rfl) (by decide) ?_
          refine lv_iload hx hb dX3_scent_88 (lv_at hl 4 rfl) ?_
          exact hret _ _ _ h dX3_scent_90
        · have h := h.2 c_7
          by_cases c_8 : x0 = 2
          · have h := h.1 c_8
            refine lv_tableIn (tgt := 91) hx hb dX3_scent_53 (by rw [c_8]; decide) (by rw [c_8]; decide) (by rw [c_8]; rfl) (by decide) ?_
            refine lv_iload hx hb dX3_scent_91 (lv_at hl 0 rfl) ?_
            exact hret _ _ _ h dX3_scent_93
          · have h := h.2 c_8
            by_cases c_9 : x0 = 3
            · have h := h.1 c_9
              refine lv_tableIn (tgt := 94) hx hb dX3_scent_53 (by rw [c_9]; decide) (by rw [c_9]; decide) (by rw [c_9]; rfl) (by decide) ?_
              refine lv_iconst (v := 2) hx hb dX3_scent_94 (by decide) ?_
              refine lv_iload hx hb dX3_scent_95 (lv_at hl 4 rfl) ?_
              refine lv_imul hx hb dX3_scent_97 ?_
              exact hret _ _ _ h dX3_scent_98
            · have h := h.2 c_9
              by_cases c_10 : x0 = 4
              · have h := h.1 c_10
                refine lv_tableIn (tgt := 99) hx hb dX3_scent_53 (by rw [c_10]; decide) (by rw [c_10]; decide) (by rw [c_10]; rfl) (by decide) ?_
                refine lv_iload hx hb dX3_scent_99 (lv_at hl 3 rfl) ?_
                refine lv_iconst (v := 1) hx hb dX3_scent_101 (by decide) ?_
                refine lv_iadd hx hb dX3_scent_102 ?_
                refine lv_iconst (v := 2) hx hb dX3_scent_103 (by decide) ?_
                refine lv_idiv hx hb dX3_scent_104 (by decide) ?_
                exact hret _ _ _ h dX3_scent_105
              · have h := h.2 c_10
                by_cases c_11 : x0 = 5
                · have h := h.1 c_11
                  refine lv_tableIn (tgt := 106) hx hb dX3_scent_53 (by rw [c_11]; decide) (by rw [c_11]; decide) (by rw [c_11]; rfl) (by decide) ?_
                  refine lv_iload hx hb dX3_scent_106 (lv_at hl 0 rfl) ?_
                  refine lv_iload_n hx hb dX3_scent_108 rfl (lv_at hl 2 rfl) ?_
                  refine lv_isub hx hb dX3_scent_109 ?_
                  refine lv_iconst (v := 1) hx hb dX3_scent_110 (by decide) ?_
                  refine lv_icmp_le (tgt := 121) hx hb dX3_scent_111 (by decide) (fun c_12 => ?_) (fun c_12 => ?_)
                  · have h := h.1 c_12
                    refine lv_iconst (v := 1) hx hb dX3_scent_121 (by decide) ?_
                    exact hret _ _ _ h dX3_scent_122
                  · have h := h.2 c_12
                    refine lv_iload hx hb dX3_scent_114 (lv_at hl 0 rfl) ?_
                    refine lv_iload_n hx hb dX3_scent_116 rfl (lv_at hl 2 rfl) ?_
                    refine lv_isub hx hb dX3_scent_117 ?_
                    refine lv_goto (tgt := 122) hx hb dX3_scent_118 (by decide) ?_
                    exact hret _ _ _ h dX3_scent_122
                · have h := h.2 c_11
                  have nc_7 := lv_neT c_7 (a := 1) (by decide)
                  have nc_8 := lv_neT c_8 (a := 2) (by decide)
                  have nc_9 := lv_neT c_9 (a := 3) (by decide)
                  have nc_10 := lv_neT c_10 (a := 4) (by decide)
                  have nc_11 := lv_neT c_11 (a := 5) (by decide)
                  refine lv_tableOut (tgt := 123) hx hb dX3_scent_53 (by omega) (by decide) ?_
                  refine lv_iload hx hb dX3_scent_123 (lv_at hl 3 rfl) ?_
                  exact hret _ _ _ h dX3_scent_125
      refine lv_if_ne (tgt := 48) hx hb dX3_scent_38 (by decide) (fun c_13 => ?_) (fun c_13 => ?_)
      · have h := h.1 c_13
        refine lv_iload hx hb dX3_scent_48 (lv_at hl 4 rfl) ?_
        exact kJ50_5 _ _ h (lv_sub hl [1, 2, 4, 0] rfl)
      · have h := h.2 c_13
        refine lv_iload hx hb dX3_scent_41 (lv_at hl 4 rfl) ?_
        refine lv_iconst (v := 5) hx hb dX3_scent_43 (by decide) ?_
        refine lv_iadd hx hb dX3_scent_44 ?_
        refine lv_goto (tgt := 50) hx hb dX3_scent_45 (by decide) ?_
        exact kJ50_5 _ _ h (lv_sub hl [1, 2, 4, 0] rfl)
    refine lv_icmp_lt (tgt := 31) hx hb dX3_scent_21 (by decide) (fun c_14 => ?_) (fun c_14 => ?_)
    · have h := h.1 c_14
      refine lv_iconst (v := 0) hx hb dX3_scent_31 (by decide) ?_
      exact kJ32_3 _ _ h (lv_sub hl [1, 2, 3, 0] rfl)
    · have h := h.2 c_14
      refine lv_iload hx hb dX3_scent_24 (lv_at hl 0 rfl) ?_
      refine lv_iconst (v := 2) hx hb dX3_scent_26 (by decide) ?_
      refine lv_iadd hx hb dX3_scent_27 ?_
      refine lv_goto (tgt := 32) hx hb dX3_scent_28 (by decide) ?_
      exact kJ32_3 _ _ h (lv_sub hl [1, 2, 3, 0] rfl)
  refine lv_icmp_le (tgt := 15) hx hb dX3_scent_4 (by decide) (fun c_15 => ?_) (fun c_15 => ?_)
  · have h := h.1 c_15
    refine lv_iconst (v := 0) hx hb dX3_scent_15 (by decide) ?_
    exact kJ16_1 _ _ h (lv_sub hl [0, 2, 3] rfl)
  · have h := h.2 c_15
    refine lv_iload_n hx hb dX3_scent_7 rfl (lv_at hl 1 rfl) ?_
    refine lv_iconst (v := 2) hx hb dX3_scent_8 (by decide) ?_
    refine lv_iload_n hx hb dX3_scent_9 rfl (lv_at hl 2 rfl) ?_
    refine lv_imul hx hb dX3_scent_10 ?_
    refine lv_isub hx hb dX3_scent_11 ?_
    refine lv_goto (tgt := 16) hx hb dX3_scent_12 (by decide) ?_
    exact kJ16_1 _ _ h (lv_sub hl [0, 2, 3] rfl)
abbrev Wd_Pa_scentAt (cy : ClassId × ClassId × ClassId × ClassId) (a_this a_flitchCell a_flitchKind a_flitchStrength a_familyKind a_familySide a_familyCell a_familyWill a_past a_sightings a_notes a_marks : Nat) (s_flitchCount : Int32) (s_familyCount : Int32) (s_hung : Int32) (s_day : Int32) (s_flitchCell : Nat → Int32) (s_flitchKind : Nat → Int32) (s_flitchStrength : Nat → Int32) : va_W := [(a_this, .inr (3, [.ref a_flitchKind, .ref a_flitchCell, .ref a_flitchStrength, .ref a_familyKind, .ref a_familySide, .ref a_familyCell, .ref a_familyWill, .ref a_past, .ref a_sightings, .ref a_notes, .ref a_marks, .int s_flitchCount, .int s_familyCount, .int s_hung, .int s_day])), (a_flitchCell, .inl (cy.2.1, 3, .inl s_flitchCell)), (a_flitchKind, .inl (cy.2.1, 3, .inl s_flitchKind)), (a_flitchStrength, .inl (cy.2.1, 3, .inl s_flitchStrength))]
abbrev rm_Pa_scentAt : Room := { frames := 1, cells := 0, slots := 0, locals := 48 }
def wp_Pa_scentAt (x1 : Int32) (x2 : Int32) (x3 : Int32) (s_flitchCount : Int32) (s_flitchCell : Nat → Int32) (s_flitchKind : Nat → Int32) (s_flitchStrength : Nat → Int32) (Q : Int32 → Prop) : Prop := ∃ n : Nat, lpw2 (fun (B6 : Int32 → Int32 → Prop) (x4_1 : Int32) (x5_2 : Int32) => ((s_flitchCount ≤ x5_2 → Q x4_1) ∧ (¬ s_flitchCount ≤ x5_2 → jn1 (fun (J89 : Int32 → Prop) => ((¬ ((ishr x3 x5_2) &&& 1) = 1 → J89 x4_1) ∧ (((ishr x3 x5_2) &&& 1) = 1 → vp_in x5_2 3 ∧ ∀ x6_10 : Int32, x6_10 = (iabs ((x1 / 5) - ((s_flitchCell (Int32.toNatClampNeg x5_2)) / 5))) → vp_in x5_2 3 ∧ ∀ x7_12 : Int32, x7_12 = (iabs ((irem x1 5) - (irem (s_flitchCell (Int32.toNatClampNeg x5_2)) 5))) → vp_in x5_2 3 ∧ vp_in x5_2 3 ∧ wp_Nt_scent (s_flitchKind (Int32.toNatClampNeg x5_2)) (s_flitchStrength (Int32.toNatClampNeg x5_2)) (x6_10 + x7_12) x2 (fun (r_15 : Int32) => ∀ x4_16 : Int32, x4_16 = (x4_1 + r_15) → J89 x4_16)))) (fun (x4_5 : Int32) => ∀ x5_7 : Int32, x5_7 = x5_2 + 1 → B6 x4_5 x5_7)))) n 0 0
set_option maxHeartbeats 4000000 in
set_option maxRecDepth 100000 in
theorem co_Pa_scentAt (l : Launch) (D : va_G) (cy : ClassId × ClassId × ClassId × ClassId) (a_this a_flitchCell a_flitchKind a_flitchStrength a_familyKind a_familySide a_familyCell a_familyWill a_past a_sightings a_notes a_marks : Nat) (s_flitchCount : Int32) (s_familyCount : Int32) (s_hung : Int32) (s_day : Int32) (s_flitchCell : Nat → Int32) (s_flitchKind : Nat → Int32) (s_flitchStrength : Nat → Int32) (x1 : Int32) (x2 : Int32) (x3 : Int32) (Q : Int32 → Prop) (h : wp_Pa_scentAt x1 x2 x3 s_flitchCount s_flitchCell s_flitchKind s_flitchStrength Q) : RoI l yX4_scentAt wsX4_scentAt rm_Pa_scentAt D cy [.ref a_this, .int x1, .int x2, .int x3] (Wd_Pa_scentAt cy a_this a_flitchCell a_flitchKind a_flitchStrength a_familyKind a_familySide a_familyCell a_familyWill a_past a_sightings a_notes a_marks s_flitchCount s_familyCount s_hung s_day s_flitchCell s_flitchKind s_flitchStrength) Q := by
  refine st_metRI (cc := cX4_scentAt) (maxL := 8) RX4 (by decide) rfl rfl (Nat.le_of_ble_eq_true rfl) ?_
  intro p e s m args below meth c QQ ls F hKK hP hl hret
  have hK := hKK.1
  have hnest := hKK.2.1
  have hx := F.1
  have hb := F.2.1
  have hown := F.2.2.2.1
  have hts := F.2.2.2.2
  have in_X4 : ∀ w ∈ u_ws RX4 TX4 15, w ∈ wsX4_scentAt := (fun _ h => List.mem_cons_of_mem _ (List.mem_append_right _ h))
  have fl_9 := (hts (.fieldLink RX4 9 "RasherCase$Parish" "flitchKind" "[I") (List.mem_of_getElem? (i := 7) rfl))
  have fl_15 := (hts (.fieldLink RX4 15 "RasherCase$Parish" "flitchCell" "[I") (List.mem_of_getElem? (i := 2) rfl))
  have fl_18 := (hts (.fieldLink RX4 18 "RasherCase$Parish" "flitchStrength" "[I") (List.mem_of_getElem? (i := 8) rfl))
  have fl_51 := (hts (.fieldLink RX4 51 "RasherCase$Parish" "flitchCount" "I") (List.mem_of_getElem? (i := 1) rfl))
  have hl : lv_has ls 8 [(0, .ref a_this), (1, .int x1), (2, .int x2), (3, .int x3)] := hl
  unfold wp_Pa_scentAt at h
  refine lv_iconst (v := 0) hx hb dX4_scentAt_0 (by decide) ?_
  refine lv_istore (lv' := [(4, .int 0), (0, .ref a_this), (1, .int x1), (2, .int x2), (3, .int x3)]) hx hb dX4_scentAt_1 hl (by decide) rfl (fun ls hl => ?_)
  refine lv_iconst (v := 0) hx hb dX4_scentAt_3 (by decide) ?_
  refine lv_istore (lv' := [(5, .int 0), (4, .int 0), (0, .ref a_this), (1, .int x1), (2, .int x2), (3, .int x3)]) hx hb dX4_scentAt_4 hl (by decide) rfl (fun ls hl => ?_)
  obtain ⟨T6_2, hz6_2, hs6_2, n6_2, h⟩ := lpw2_use h
  have kT6_2 : ∀ (n : Nat) (x4_1 : Int32) (x5_2 : Int32) (ls : Array Slot), T6_2 n x4_1 x5_2 → lv_has ls 8 [(0, .ref a_this), (1, .int x1), (2, .int x2), (3, .int x3), (4, .int x4_1), (5, .int x5_2)] → W p l e rm_Pa_scentAt s m args below meth c s.heap [] 0 0 QQ (F0 m 6 ls []) := by
    intro n
    induction n with
    | zero => intro x4_1 x5_2 ls h; exact absurd h (hz6_2 _ _)
    | succ n ih6_2 =>
      intro x4_1 x5_2 ls h hl
      have h := hs6_2 _ _ _ h
      refine lv_iload hx hb dX4_scentAt_6 (lv_at hl 5 rfl) ?_
      refine lv_aload_n hx hb dX4_scentAt_8 rfl (lv_at hl 0 rfl) ?_
      refine va_get (D := D) (ci := 3) (v := .int s_flitchCount) (C := RX4) (T := TX4) (N := 15) hx hb hts in_X4 hown hK hP 0 rfl rfl 11 (by decide) fl_51 (fun _ h9 => h9) rfl dX4_scentAt_9 ?_
      refine lv_icmp_ge (tgt := 95) hx hb dX4_scentAt_12 (by decide) (fun c_4 => ?_) (fun c_4 => ?_)
      · have h := h.1 c_4
        refine lv_iload hx hb dX4_scentAt_95 (lv_at hl 4 rfl) ?_
        exact hret _ _ _ h dX4_scentAt_97
      · have h := h.2 c_4
        refine lv_iload_n hx hb dX4_scentAt_15 rfl (lv_at hl 3 rfl) ?_
        refine lv_iload hx hb dX4_scentAt_16 (lv_at hl 5 rfl) ?_
        refine lv_ishr hx hb dX4_scentAt_18 ?_
        refine lv_iconst (v := 1) hx hb dX4_scentAt_19 (by decide) ?_
        refine lv_iand hx hb dX4_scentAt_20 ?_
        refine lv_iconst (v := 1) hx hb dX4_scentAt_21 (by decide) ?_
        obtain ⟨J89, hJ89, h⟩ := jn1_ex h
        have kJ89_5 : ∀ (x4_5 : Int32) (ls : Array Slot), J89 x4_5 → lv_has ls 8 [(0, .ref a_this), (1, .int x1), (2, .int x2), (3, .int x3), (4, .int x4_5), (5, .int x5_2)] → W p l e rm_Pa_scentAt s m args below meth c s.heap [] 0 0 QQ (F0 m 89 ls []) := by
          intro x4_5 ls h hl
          have h := hJ89 _ h
          obtain ⟨x5_7, ex5_7⟩ : ∃ y : Int32, y = x5_2 + 1 := ⟨_, rfl⟩
          have h := h x5_7 ex5_7
          refine lv_iinc (v := x5_7) (lv' := [(5, .int x5_7), (0, .ref a_this), (1, .int x1), (2, .int x2), (3, .int x3), (4, .int x4_5)]) hx hb dX4_scentAt_89 hl (k := 5) rfl (by rw [ex5_7]; rfl) (by decide) rfl (fun ls hl => ?_)
          refine lv_goto (tgt := 6) hx hb dX4_scentAt_92 (by decide) ?_
          exact ih6_2 _ _ _ h (lv_sub hl [1, 2, 3, 4, 5, 0] rfl)
        refine lv_icmp_ne (tgt := 89) hx hb dX4_scentAt_22 (by decide) (fun c_8 => ?_) (fun c_8 => ?_)
        · have h := h.1 c_8
          exact kJ89_5 _ _ h (lv_sub hl [0, 1, 2, 3, 4, 5] rfl)
        · have h := h.2 c_8
          refine lv_iload_n hx hb dX4_scentAt_25 rfl (lv_at hl 1 rfl) ?_
          refine lv_iconst (v := 5) hx hb dX4_scentAt_26 (by decide) ?_
          refine lv_idiv hx hb dX4_scentAt_27 (by decide) ?_
          refine lv_aload_n hx hb dX4_scentAt_28 rfl (lv_at hl 0 rfl) ?_
          refine va_get (D := D) (ci := 3) (v := .ref a_flitchCell) (C := RX4) (T := TX4) (N := 15) hx hb hts in_X4 hown hK hP 0 rfl rfl 1 (by decide) fl_15 (fun _ h9 => h9) rfl dX4_scentAt_29 ?_
          refine lv_iload hx hb dX4_scentAt_32 (lv_at hl 5 rfl) ?_
          obtain ⟨hi_9, h⟩ := h
          refine va_iald hx hb hK hP 1 1 rfl rfl hi_9 dX4_scentAt_34 ?_
          refine lv_iconst (v := 5) hx hb dX4_scentAt_35 (by decide) ?_
          refine lv_idiv hx hb dX4_scentAt_36 (by decide) ?_
          refine lv_isub hx hb dX4_scentAt_37 ?_
          refine va_mabs hx hb (F.2.2.1.trans hl.1.symm) hown (hts (.methodLink RX4 81 Lib.Math.abs.name) (List.mem_of_getElem? (i := 3) rfl)) (hts (.static Lib.Math.abs.name) (List.mem_of_getElem? (i := 4) rfl)) (hts (.initialized "java/lang/Math") (List.mem_of_getElem? (i := 5) rfl)) (hts (.code Lib.Math.abs.name Lib.Math.abs.code 1 (some .int)) (List.mem_of_getElem? (i := 6) rfl)) (Nat.le_of_ble_eq_true rfl) (Nat.le_of_ble_eq_true rfl) (Nat.zero_le _) (Nat.zero_le _) dX4_scentAt_38 ?_
          refine lv_topi (fun x6_10 ex6_10 => ?_)
          have h := h x6_10 ex6_10
          refine lv_istore (lv' := [(6, .int x6_10), (0, .ref a_this), (1, .int x1), (2, .int x2), (3, .int x3), (4, .int x4_1), (5, .int x5_2)]) hx hb dX4_scentAt_41 hl (by decide) rfl (fun ls hl => ?_)
          refine lv_iload_n hx hb dX4_scentAt_43 rfl (lv_at hl 2 rfl) ?_
          refine lv_iconst (v := 5) hx hb dX4_scentAt_44 (by decide) ?_
          refine lv_irem hx hb dX4_scentAt_45 (by decide) ?_
          refine lv_aload_n hx hb dX4_scentAt_46 rfl (lv_at hl 1 rfl) ?_
          refine va_get (D := D) (ci := 3) (v := .ref a_flitchCell) (C := RX4) (T := TX4) (N := 15) hx hb hts in_X4 hown hK hP 0 rfl rfl 1 (by decide) fl_15 (fun _ h9 => h9) rfl dX4_scentAt_47 ?_
          refine lv_iload hx hb dX4_scentAt_50 (lv_at hl 6 rfl) ?_
          obtain ⟨hi_11, h⟩ := h
          refine va_iald hx hb hK hP 1 1 rfl rfl hi_11 dX4_scentAt_52 ?_
          refine lv_iconst (v := 5) hx hb dX4_scentAt_53 (by decide) ?_
          refine lv_irem hx hb dX4_scentAt_54 (by decide) ?_
          refine lv_isub hx hb dX4_scentAt_55 ?_
          refine va_mabs hx hb (F.2.2.1.trans hl.1.symm) hown (hts (.methodLink RX4 81 Lib.Math.abs.name) (List.mem_of_getElem? (i := 3) rfl)) (hts (.static Lib.Math.abs.name) (List.mem_of_getElem? (i := 4) rfl)) (hts (.initialized "java/lang/Math") (List.mem_of_getElem? (i := 5) rfl)) (hts (.code Lib.Math.abs.name Lib.Math.abs.code 1 (some .int)) (List.mem_of_getElem? (i := 6) rfl)) (Nat.le_of_ble_eq_true rfl) (Nat.le_of_ble_eq_true rfl) (Nat.zero_le _) (Nat.zero_le _) dX4_scentAt_56 ?_
          refine lv_topi (fun x7_12 ex7_12 => ?_)
          have h := h x7_12 ex7_12
          refine lv_istore (lv' := [(7, .int x7_12), (6, .int x6_10), (0, .ref a_this), (1, .int x1), (2, .int x2), (3, .int x3), (4, .int x4_1), (5, .int x5_2)]) hx hb dX4_scentAt_59 hl (by decide) rfl (fun ls hl => ?_)
          refine lv_iload hx hb dX4_scentAt_61 (lv_at hl 6 rfl) ?_
          refine lv_aload_n hx hb dX4_scentAt_63 rfl (lv_at hl 2 rfl) ?_
          refine va_get (D := D) (ci := 3) (v := .ref a_flitchKind) (C := RX4) (T := TX4) (N := 15) hx hb hts in_X4 hown hK hP 0 rfl rfl 0 (by decide) fl_9 (fun _ h9 => h9) rfl dX4_scentAt_64 ?_
          refine lv_iload hx hb dX4_scentAt_67 (lv_at hl 7 rfl) ?_
          obtain ⟨hi_13, h⟩ := h
          refine va_iald hx hb hK hP 2 1 rfl rfl hi_13 dX4_scentAt_69 ?_
          refine lv_aload_n hx hb dX4_scentAt_70 rfl (lv_at hl 2 rfl) ?_
          refine va_get (D := D) (ci := 3) (v := .ref a_flitchStrength) (C := RX4) (T := TX4) (N := 15) hx hb hts in_X4 hown hK hP 0 rfl rfl 2 (by decide) fl_18 (fun _ h9 => h9) rfl dX4_scentAt_71 ?_
          refine lv_iload hx hb dX4_scentAt_74 (lv_at hl 7 rfl) ?_
          obtain ⟨hi_14, h⟩ := h
          refine va_iald hx hb hK hP 3 1 rfl rfl hi_14 dX4_scentAt_76 ?_
          refine lv_iload hx hb dX4_scentAt_77 (lv_at hl 1 rfl) ?_
          refine lv_iload hx hb dX4_scentAt_79 (lv_at hl 0 rfl) ?_
          refine lv_iadd hx hb dX4_scentAt_81 ?_
          refine lv_iload_n hx hb dX4_scentAt_82 rfl (lv_at hl 4 rfl) ?_
          refine st_callRI (st_runSR (n := 4) (As := [.int (s_flitchKind (Int32.toNatClampNeg x5_2)), .int (s_flitchStrength (Int32.toNatClampNeg x5_2)), .int (x6_10 + x7_12), .int x2]) (rest := [.int x4_1]) F (co_Nt_scent l D cy (s_flitchKind (Int32.toNatClampNeg x5_2)) (s_flitchStrength (Int32.toNatClampNeg x5_2)) (x6_10 + x7_12) x2 _ h) gX4_scentAt_X3_scent rfl (by decide +kernel) rfl hKK hP [] rfl rfl hl.1 rfl (Nat.le_of_ble_eq_true rfl) dX4_scentAt_83) (fun r_15 h => ?_)
          refine lv_iadd hx hb dX4_scentAt_86 ?_
          refine lv_topi (fun x4_16 ex4_16 => ?_)
          have h := h x4_16 ex4_16
          refine lv_istore (lv' := [(4, .int x4_16), (7, .int x7_12), (6, .int x6_10), (0, .ref a_this), (1, .int x1), (2, .int x2), (3, .int x3), (5, .int x5_2)]) hx hb dX4_scentAt_87 hl (by decide) rfl (fun ls hl => ?_)
          exact kJ89_5 _ _ h (lv_sub hl [3, 4, 5, 6, 0, 7] rfl)
  exact kT6_2 n6_2 _ _ _ h (lv_sub hl [2, 3, 4, 5, 1, 0] rfl)
abbrev Wd_Nt_loss (cy : ClassId × ClassId × ClassId × ClassId) : va_W := []
abbrev rm_Nt_loss : Room := { frames := 1, cells := 0, slots := 0, locals := 48 }
def wp_Nt_loss (x0 : Int32) (x1 : Int32) (x2 : Int32) (Q : Int32 → Prop) : Prop := ∀ x3_1 : Int32, x3_1 = (x1 / 2) → ∀ x4_2 : Int32, x4_2 = (imax 0 (x3_1 - 1)) → jn1 (fun (J25 : Int32 → Prop) => ((x1 < 1 → J25 x3_1) ∧ (¬ x1 < 1 → J25 (x3_1 + 2)))) (fun (v_3 : Int32) => ((x0 = 1 → Q x4_2) ∧ (¬ x0 = 1 → ((x0 = 2 → Q v_3) ∧ (¬ x0 = 2 → ((x0 = 3 → ((¬ (irem x2 13) = 0 → Q x4_2) ∧ ((irem x2 13) = 0 → Q 6))) ∧ (¬ x0 = 3 → ((x0 = 4 → ((x2 < 20 → Q x3_1) ∧ (¬ x2 < 20 → Q (x3_1 + 1)))) ∧ (¬ x0 = 4 → ((x0 = 5 → Q (imin 9 (2 * v_3))) ∧ (¬ x0 = 5 → Q x3_1)))))))))))
set_option maxHeartbeats 4000000 in
set_option maxRecDepth 100000 in
theorem co_Nt_loss (l : Launch) (D : va_G) (cy : ClassId × ClassId × ClassId × ClassId) (x0 : Int32) (x1 : Int32) (x2 : Int32) (Q : Int32 → Prop) (h : wp_Nt_loss x0 x1 x2 Q) : RoI l yX3_loss wsX3_loss rm_Nt_loss D cy [.int x0, .int x1, .int x2] (Wd_Nt_loss cy) Q := by
  refine st_metRI (cc := cX3_loss) (maxL := 6) RX3 (by decide) rfl rfl (Nat.le_of_ble_eq_true rfl) ?_
  intro p e s m args below meth c QQ ls F hKK hP hl hret
  have hK := hKK.1
  have hnest := hKK.2.1
  have hx := F.1
  have hb := F.2.1
  have hown := F.2.2.2.1
  have hts := F.2.2.2.2
  have hl : lv_has ls 6 [(0, .int x0), (1, .int x1), (2, .int x2)] := hl
  unfold wp_Nt_loss at h
  refine lv_iload_n hx hb dX3_loss_0 rfl (lv_at hl 1 rfl) ?_
  refine lv_iconst (v := 2) hx hb dX3_loss_1 (by decide) ?_
  refine lv_idiv hx hb dX3_loss_2 (by decide) ?_
  refine lv_topi (fun x3_1 ex3_1 => ?_)
  have h := h x3_1 ex3_1
  refine lv_istore_n (lv' := [(3, .int x3_1), (0, .int x0), (1, .int x1), (2, .int x2)]) hx hb dX3_loss_3 rfl hl (by decide) rfl (fun ls hl => ?_)
  refine lv_iconst (v := 0) hx hb dX3_loss_4 (by decide) ?_
  refine lv_iload_n hx hb dX3_loss_5 rfl (lv_at hl 0 rfl) ?_
  refine lv_iconst (v := 1) hx hb dX3_loss_6 (by decide) ?_
  refine lv_isub hx hb dX3_loss_7 ?_
  refine va_mmax hx hb (F.2.2.1.trans hl.1.symm) hown (hts (.methodLink RX3 7 Lib.Math.max.name) (List.mem_of_getElem? (i := 1) rfl)) (hts (.static Lib.Math.max.name) (List.mem_of_getElem? (i := 2) rfl)) (hts (.initialized "java/lang/Math") (List.mem_of_getElem? (i := 3) rfl)) (hts (.code Lib.Math.max.name Lib.Math.max.code 2 (some .int)) (List.mem_of_getElem? (i := 4) rfl)) (Nat.le_of_ble_eq_true rfl) (Nat.le_of_ble_eq_true rfl) (Nat.zero_le _) (Nat.zero_le _) dX3_loss_8 ?_
  refine lv_topi (fun x4_2 ex4_2 => ?_)
  have h := h x4_2 ex4_2
  refine lv_istore (lv' := [(4, .int x4_2), (3, .int x3_1), (0, .int x0), (1, .int x1), (2, .int x2)]) hx hb dX3_loss_11 hl (by decide) rfl (fun ls hl => ?_)
  refine lv_iload_n hx hb dX3_loss_13 rfl (lv_at hl 3 rfl) ?_
  refine lv_iconst (v := 1) hx hb dX3_loss_14 (by decide) ?_
  obtain ⟨J25, hJ25, h⟩ := jn1_ex h
  have kJ25_3 : ∀ (v_3 : Int32) (ls : Array Slot), J25 v_3 → lv_has ls 6 [(0, .int x0), (2, .int x2), (3, .int x3_1), (4, .int x4_2)] → W p l e rm_Nt_loss s m args below meth c s.heap [] 0 0 QQ (F0 m 25 ls [.int v_3]) := by
    intro v_3 ls h hl
    have h := hJ25 _ h
    refine lv_istore (lv' := [(5, .int v_3), (0, .int x0), (2, .int x2), (3, .int x3_1), (4, .int x4_2)]) hx hb dX3_loss_25 hl (by decide) rfl (fun ls hl => ?_)
    refine lv_iload_n hx hb dX3_loss_27 rfl (lv_at hl 1 rfl) ?_
    by_cases c_5 : x0 = 1
    · have h := h.1 c_5
      refine lv_tableIn (tgt := 64) hx hb dX3_loss_28 (by rw [c_5]; decide) (by rw [c_5]; decide) (by rw [c_5]; rfl) (by decide) ?_
      refine lv_iload hx hb dX3_loss_64 (lv_at hl 4 rfl) ?_
      exact hret _ _ _ h dX3_loss_66
    · have h := h.2 c_5
      by_cases c_6 : x0 = 2
      · have h := h.1 c_6
        refine lv_tableIn (tgt := 67) hx hb dX3_loss_28 (by rw [c_6]; decide) (by rw [c_6]; decide) (by rw [c_6]; rfl) (by decide) ?_
        refine lv_iload hx hb dX3_loss_67 (lv_at hl 0 rfl) ?_
        exact hret _ _ _ h dX3_loss_69
      · have h := h.2 c_6
        by_cases c_7 : x0 = 3
        · have h := h.1 c_7
          refine lv_tableIn (tgt := 70) hx hb dX3_loss_28 (by rw [c_7]; decide) (by rw [c_7]; decide) (by rw [c_7]; rfl) (by decide) ?_
          refine lv_iload_n hx hb dX3_loss_70 rfl (lv_at hl 2 rfl) ?_
          refine lv_bipush (v := 13) hx hb dX3_loss_71 (by decide) ?_
          refine lv_irem hx hb dX3_loss_73 (by decide) ?_
          refine lv_if_ne (tgt := 82) hx hb dX3_loss_74 (by decide) (fun c_8 => ?_) (fun c_8 => ?_)
          · have h := h.1 c_8
            refine lv_iload hx hb dX3_loss_82 (lv_at hl 4 rfl) ?_
            exact hret _ _ _ h dX3_loss_84
          · have h := h.2 c_8
            refine lv_bipush (v := 6) hx hb dX3_loss_77 (by decide) ?_
            refine lv_goto (tgt := 84) hx hb dX3_loss_79 (by decide) ?_
            exact hret _ _ _ h dX3_loss_84
        · have h := h.2 c_7
          by_cases c_9 : x0 = 4
          · have h := h.1 c_9
            refine lv_tableIn (tgt := 85) hx hb dX3_loss_28 (by rw [c_9]; decide) (by rw [c_9]; decide) (by rw [c_9]; rfl) (by decide) ?_
            refine lv_iload_n hx hb dX3_loss_85 rfl (lv_at hl 2 rfl) ?_
            refine lv_bipush (v := 20) hx hb dX3_loss_86 (by decide) ?_
            refine lv_icmp_lt (tgt := 97) hx hb dX3_loss_88 (by decide) (fun c_10 => ?_) (fun c_10 => ?_)
            · have h := h.1 c_10
              refine lv_iload_n hx hb dX3_loss_97 rfl (lv_at hl 3 rfl) ?_
              exact hret _ _ _ h dX3_loss_98
            · have h := h.2 c_10
              refine lv_iload_n hx hb dX3_loss_91 rfl (lv_at hl 3 rfl) ?_
              refine lv_iconst (v := 1) hx hb dX3_loss_92 (by decide) ?_
              refine lv_iadd hx hb dX3_loss_93 ?_
              refine lv_goto (tgt := 98) hx hb dX3_loss_94 (by decide) ?_
              exact hret _ _ _ h dX3_loss_98
          · have h := h.2 c_9
            by_cases c_11 : x0 = 5
            · have h := h.1 c_11
              refine lv_tableIn (tgt := 99) hx hb dX3_loss_28 (by rw [c_11]; decide) (by rw [c_11]; decide) (by rw [c_11]; rfl) (by decide) ?_
              refine lv_bipush (v := 9) hx hb dX3_loss_99 (by decide) ?_
              refine lv_iconst (v := 2) hx hb dX3_loss_101 (by decide) ?_
              refine lv_iload hx hb dX3_loss_102 (lv_at hl 0 rfl) ?_
              refine lv_imul hx hb dX3_loss_104 ?_
              refine va_mmin hx hb (F.2.2.1.trans hl.1.symm) hown (hts (.methodLink RX3 13 Lib.Math.min.name) (List.mem_of_getElem? (i := 5) rfl)) (hts (.static Lib.Math.min.name) (List.mem_of_getElem? (i := 6) rfl)) (hts (.initialized "java/lang/Math") (List.mem_of_getElem? (i := 3) rfl)) (hts (.code Lib.Math.min.name Lib.Math.min.code 2 (some .int)) (List.mem_of_getElem? (i := 7) rfl)) (Nat.le_of_ble_eq_true rfl) (Nat.le_of_ble_eq_true rfl) (Nat.zero_le _) (Nat.zero_le _) dX3_loss_105 ?_
              exact hret _ _ _ h dX3_loss_108
            · have h := h.2 c_11
              have nc_5 := lv_neT c_5 (a := 1) (by decide)
              have nc_6 := lv_neT c_6 (a := 2) (by decide)
              have nc_7 := lv_neT c_7 (a := 3) (by decide)
              have nc_9 := lv_neT c_9 (a := 4) (by decide)
              have nc_11 := lv_neT c_11 (a := 5) (by decide)
              refine lv_tableOut (tgt := 109) hx hb dX3_loss_28 (by omega) (by decide) ?_
              refine lv_iload_n hx hb dX3_loss_109 rfl (lv_at hl 3 rfl) ?_
              exact hret _ _ _ h dX3_loss_110
  refine lv_icmp_lt (tgt := 24) hx hb dX3_loss_15 (by decide) (fun c_12 => ?_) (fun c_12 => ?_)
  · have h := h.1 c_12
    refine lv_iload_n hx hb dX3_loss_24 rfl (lv_at hl 1 rfl) ?_
    exact kJ25_3 _ _ h (lv_sub hl [2, 4, 1, 0] rfl)
  · have h := h.2 c_12
    refine lv_iload_n hx hb dX3_loss_18 rfl (lv_at hl 1 rfl) ?_
    refine lv_iconst (v := 2) hx hb dX3_loss_19 (by decide) ?_
    refine lv_iadd hx hb dX3_loss_20 ?_
    refine lv_goto (tgt := 25) hx hb dX3_loss_21 (by decide) ?_
    exact kJ25_3 _ _ h (lv_sub hl [2, 4, 1, 0] rfl)
abbrev Wd_Fs_reckon (cy : ClassId × ClassId × ClassId × ClassId) (a_this a_parish a_parish_flitchCell a_parish_flitchKind a_parish_flitchStrength a_taken a_lapses a_wills a_cells a_smelling a_windy a_parish_familyKind a_parish_familySide a_parish_familyCell a_parish_familyWill a_parish_past a_parish_sightings a_parish_notes a_parish_marks : Nat) (s_parish_flitchCount : Int32) (s_parish_familyCount : Int32) (s_parish_hung : Int32) (s_parish_day : Int32) (s_parish_flitchCell : Nat → Int32) (s_parish_flitchKind : Nat → Int32) (s_parish_flitchStrength : Nat → Int32) (s_taken : Nat → Int32) : va_W := [(a_this, .inr (1, [.ref a_parish, .ref a_taken, .ref a_lapses, .ref a_wills, .ref a_cells, .ref a_smelling, .ref a_windy])), (a_parish, .inr (3, [.ref a_parish_flitchKind, .ref a_parish_flitchCell, .ref a_parish_flitchStrength, .ref a_parish_familyKind, .ref a_parish_familySide, .ref a_parish_familyCell, .ref a_parish_familyWill, .ref a_parish_past, .ref a_parish_sightings, .ref a_parish_notes, .ref a_parish_marks, .int s_parish_flitchCount, .int s_parish_familyCount, .int s_parish_hung, .int s_parish_day])), (a_parish_flitchCell, .inl (cy.2.1, 3, .inl s_parish_flitchCell)), (a_parish_flitchKind, .inl (cy.2.1, 3, .inl s_parish_flitchKind)), (a_parish_flitchStrength, .inl (cy.2.1, 3, .inl s_parish_flitchStrength)), (a_taken, .inl (cy.2.1, 61, .inl s_taken))]
abbrev rm_Fs_reckon : Room := { frames := 2, cells := 0, slots := 0, locals := 75 }
def wp_Fs_reckon (x1 : Int32) (x2 : Int32) (x3 : Int32) (x4 : Int32) (s_parish_flitchCount : Int32) (s_parish_day : Int32) (s_parish_flitchCell : Nat → Int32) (s_parish_flitchKind : Nat → Int32) (s_parish_flitchStrength : Nat → Int32) (s_taken : Nat → Int32) (Q : (Nat → Int32) → Prop) : Prop := wp_Pa_scentAt x2 7 x3 s_parish_flitchCount s_parish_flitchCell s_parish_flitchKind s_parish_flitchStrength (fun (r_1 : Int32) => wp_Pa_scentAt x2 1 x3 s_parish_flitchCount s_parish_flitchCell s_parish_flitchKind s_parish_flitchStrength (fun (r_2 : Int32) => ∀ s_taken_3 : Nat → Int32, s_taken_3 = upd s_taken (Int32.toNatClampNeg 0) 0 → ∃ n : Nat, lpw2 (fun (B35 : Int32 → (Nat → Int32) → Prop) (x7_4 : Int32) (s_taken_5 : Nat → Int32) => ((x4 ≤ x7_4 → Q s_taken_5) ∧ (¬ x4 ≤ x7_4 → ((60 ≤ x7_4 → Q s_taken_5) ∧ (¬ 60 ≤ x7_4 → ∀ x8_9 : Int32, x8_9 = (s_parish_day + x7_4) → vp_in x7_4 61 ∧ jn1 (fun (J92 : Int32 → Prop) => ((¬ (irem x8_9 7) = 0 → J92 r_2) ∧ ((irem x8_9 7) = 0 → J92 r_1))) (fun (v_11 : Int32) => wp_Nt_loss x1 v_11 x8_9 (fun (r_13 : Int32) => vp_in (x7_4 + 1) 61 ∧ ∀ s_taken_15 : Nat → Int32, s_taken_15 = upd s_taken_5 (Int32.toNatClampNeg (x7_4 + 1)) ((s_taken_5 (Int32.toNatClampNeg x7_4)) + r_13) → ∀ x7_16 : Int32, x7_16 = x7_4 + 1 → B35 x7_16 s_taken_15))))))) n 0 s_taken_3))
set_option maxHeartbeats 4000000 in
set_option maxRecDepth 100000 in
theorem co_Fs_reckon (l : Launch) (D : va_G) (cy : ClassId × ClassId × ClassId × ClassId) (a_this a_parish a_parish_flitchCell a_parish_flitchKind a_parish_flitchStrength a_taken a_lapses a_wills a_cells a_smelling a_windy a_parish_familyKind a_parish_familySide a_parish_familyCell a_parish_familyWill a_parish_past a_parish_sightings a_parish_notes a_parish_marks : Nat) (s_parish_flitchCount : Int32) (s_parish_familyCount : Int32) (s_parish_hung : Int32) (s_parish_day : Int32) (s_parish_flitchCell : Nat → Int32) (s_parish_flitchKind : Nat → Int32) (s_parish_flitchStrength : Nat → Int32) (s_taken : Nat → Int32) (x1 : Int32) (x2 : Int32) (x3 : Int32) (x4 : Int32) (Q : (Nat → Int32) → Prop) (h : wp_Fs_reckon x1 x2 x3 x4 s_parish_flitchCount s_parish_day s_parish_flitchCell s_parish_flitchKind s_parish_flitchStrength s_taken Q) : CoV l yX1_reckon wsX1_reckon rm_Fs_reckon D cy [.ref a_this, .int x1, .int x2, .int x3, .int x4] (Wd_Fs_reckon cy a_this a_parish a_parish_flitchCell a_parish_flitchKind a_parish_flitchStrength a_taken a_lapses a_wills a_cells a_smelling a_windy a_parish_familyKind a_parish_familySide a_parish_familyCell a_parish_familyWill a_parish_past a_parish_sightings a_parish_notes a_parish_marks s_parish_flitchCount s_parish_familyCount s_parish_hung s_parish_day s_parish_flitchCell s_parish_flitchKind s_parish_flitchStrength s_taken) (fun u : (Nat → Int32) => (Wd_Fs_reckon cy a_this a_parish a_parish_flitchCell a_parish_flitchKind a_parish_flitchStrength a_taken a_lapses a_wills a_cells a_smelling a_windy a_parish_familyKind a_parish_familySide a_parish_familyCell a_parish_familyWill a_parish_past a_parish_sightings a_parish_notes a_parish_marks s_parish_flitchCount s_parish_familyCount s_parish_hung s_parish_day s_parish_flitchCell s_parish_flitchKind s_parish_flitchStrength u)) (fun (u : (Nat → Int32)) => Q u) := by
  refine st_metV (cc := cX1_reckon) (maxL := 9) RX1 (by decide) rfl rfl (Nat.le_of_ble_eq_true rfl) ?_
  intro p e s m args below meth c A QQ ls F hA hKK hP hD hS hl hret
  have hK := hKK.1
  have hnest := hKK.2.1
  have hx := F.1
  have hb := F.2.1
  have hown := F.2.2.2.1
  have hts := F.2.2.2.2
  have in_X1 : ∀ w ∈ u_ws RX1 TX1 7, w ∈ wsX1_reckon := (fun _ h => List.mem_cons_of_mem _ (List.mem_append_left _ (List.mem_append_right _ h)))
  have in_X4 : ∀ w ∈ u_ws RX4 TX4 15, w ∈ wsX1_reckon := (fun _ h => List.mem_cons_of_mem _ (List.mem_append_right _ h))
  have fl_9 := (hts (.fieldLink RX1 9 "RasherCase$Foresight" "taken" "[I") (List.mem_of_getElem? (i := 2) rfl))
  have fl_30 := (hts (.fieldLink RX1 30 "RasherCase$Foresight" "parish" "LRasherCase$Parish;") (List.mem_of_getElem? (i := 1) rfl))
  have fl_40 := (hts (.fieldLink RX1 40 "RasherCase$Parish" "day" "I") (List.mem_of_getElem? (i := 3) rfl))
  have hl : lv_has ls 9 [(0, .ref a_this), (1, .int x1), (2, .int x2), (3, .int x3), (4, .int x4)] := hl
  unfold wp_Fs_reckon at h
  refine lv_aload_n hx hb dX1_reckon_0 rfl (lv_at hl 0 rfl) ?_
  refine va_get (D := D) (ci := 1) (v := .ref a_parish) (C := RX1) (T := TX1) (N := 7) hx hb hts in_X1 hown hK hP 0 rfl rfl 0 (by decide) fl_30 (fun _ h9 => h9) rfl dX1_reckon_1 ?_
  refine lv_iload_n hx hb dX1_reckon_4 rfl (lv_at hl 2 rfl) ?_
  refine lv_bipush (v := 7) hx hb dX1_reckon_5 (by decide) ?_
  refine lv_iload_n hx hb dX1_reckon_7 rfl (lv_at hl 3 rfl) ?_
  refine st_callRI (st_runVR (n := 3) (As := [.int x2, .int 7, .int x3]) (rest := []) (q0 := 0) F (co_Pa_scentAt l D cy a_parish a_parish_flitchCell a_parish_flitchKind a_parish_flitchStrength a_parish_familyKind a_parish_familySide a_parish_familyCell a_parish_familyWill a_parish_past a_parish_sightings a_parish_notes a_parish_marks s_parish_flitchCount s_parish_familyCount s_parish_hung s_parish_day s_parish_flitchCell s_parish_flitchKind s_parish_flitchStrength x2 7 x3 _ h) gX1_reckon_X4_scentAt rfl (by decide +kernel) rfl hKK hP [1, 2, 3, 4] rfl rfl rfl rfl hl.1 rfl (Nat.le_of_ble_eq_true rfl) dX1_reckon_8) (fun r_1 h => ?_)
  refine lv_istore (lv' := [(5, .int r_1), (0, .ref a_this), (1, .int x1), (2, .int x2), (3, .int x3), (4, .int x4)]) hx hb dX1_reckon_11 hl (by decide) rfl (fun ls hl => ?_)
  refine lv_aload_n hx hb dX1_reckon_13 rfl (lv_at hl 1 rfl) ?_
  refine va_get (D := D) (ci := 1) (v := .ref a_parish) (C := RX1) (T := TX1) (N := 7) hx hb hts in_X1 hown hK hP 0 rfl rfl 0 (by decide) fl_30 (fun _ h9 => h9) rfl dX1_reckon_14 ?_
  refine lv_iload_n hx hb dX1_reckon_17 rfl (lv_at hl 3 rfl) ?_
  refine lv_iconst (v := 1) hx hb dX1_reckon_18 (by decide) ?_
  refine lv_iload_n hx hb dX1_reckon_19 rfl (lv_at hl 4 rfl) ?_
  refine st_callRI (st_runVR (n := 3) (As := [.int x2, .int 1, .int x3]) (rest := []) (q0 := 0) F (co_Pa_scentAt l D cy a_parish a_parish_flitchCell a_parish_flitchKind a_parish_flitchStrength a_parish_familyKind a_parish_familySide a_parish_familyCell a_parish_familyWill a_parish_past a_parish_sightings a_parish_notes a_parish_marks s_parish_flitchCount s_parish_familyCount s_parish_hung s_parish_day s_parish_flitchCell s_parish_flitchKind s_parish_flitchStrength x2 1 x3 _ h) gX1_reckon_X4_scentAt rfl (by decide +kernel) rfl hKK hP [1, 2, 3, 4] rfl rfl rfl rfl hl.1 rfl (Nat.le_of_ble_eq_true rfl) dX1_reckon_20) (fun r_2 h => ?_)
  refine lv_istore (lv' := [(6, .int r_2), (5, .int r_1), (0, .ref a_this), (1, .int x1), (2, .int x2), (3, .int x3), (4, .int x4)]) hx hb dX1_reckon_23 hl (by decide) rfl (fun ls hl => ?_)
  refine lv_aload_n hx hb dX1_reckon_25 rfl (lv_at hl 2 rfl) ?_
  refine va_get (D := D) (ci := 1) (v := .ref a_taken) (C := RX1) (T := TX1) (N := 7) hx hb hts in_X1 hown hK hP 0 rfl rfl 1 (by decide) fl_9 (fun _ h9 => h9) rfl dX1_reckon_26 ?_
  refine lv_iconst (v := 0) hx hb dX1_reckon_29 (by decide) ?_
  refine lv_iconst (v := 0) hx hb dX1_reckon_30 (by decide) ?_
  refine va_iast hx hb hK hP hD hS 5 1 rfl rfl (by unfold vp_in; decide) dX1_reckon_31 (fun H locs hP hD hS => ?_)
  obtain ⟨s_taken_3, es_taken_3⟩ : ∃ f : Nat → Int32, f = upd s_taken (Int32.toNatClampNeg 0) 0 := ⟨_, rfl⟩
  have hP : va_P D vwCl (Wd_Fs_reckon cy a_this a_parish a_parish_flitchCell a_parish_flitchKind a_parish_flitchStrength a_taken a_lapses a_wills a_cells a_smelling a_windy a_parish_familyKind a_parish_familySide a_parish_familyCell a_parish_familyWill a_parish_past a_parish_sightings a_parish_notes a_parish_marks s_parish_flitchCount s_parish_familyCount s_parish_hung s_parish_day s_parish_flitchCell s_parish_flitchKind s_parish_flitchStrength s_taken_3) H := by rw [es_taken_3]; exact hP
  have hD : va_D A (Wd_Fs_reckon cy a_this a_parish a_parish_flitchCell a_parish_flitchKind a_parish_flitchStrength a_taken a_lapses a_wills a_cells a_smelling a_windy a_parish_familyKind a_parish_familySide a_parish_familyCell a_parish_familyWill a_parish_past a_parish_sightings a_parish_notes a_parish_marks s_parish_flitchCount s_parish_familyCount s_parish_hung s_parish_day s_parish_flitchCell s_parish_flitchKind s_parish_flitchStrength s_taken_3) := by rw [es_taken_3]; exact hD
  have h := h s_taken_3 es_taken_3
  refine lv_iconst (v := 0) hx hb dX1_reckon_32 (by decide) ?_
  refine lv_istore (lv' := [(7, .int 0), (6, .int r_2), (5, .int r_1), (0, .ref a_this), (1, .int x1), (2, .int x2), (3, .int x3), (4, .int x4)]) hx hb dX1_reckon_33 hl (by decide) rfl (fun ls hl => ?_)
  obtain ⟨T35_5, hz35_5, hs35_5, n35_5, h⟩ := lpw2_use h
  have kT35_5 : ∀ (n : Nat) (x7_4 : Int32) (s_taken_5 : Nat → Int32) (H : Heap) (locs : List Loc) (ls : Array Slot), T35_5 n x7_4 s_taken_5 → va_P D vwCl (Wd_Fs_reckon cy a_this a_parish a_parish_flitchCell a_parish_flitchKind a_parish_flitchStrength a_taken a_lapses a_wills a_cells a_smelling a_windy a_parish_familyKind a_parish_familySide a_parish_familyCell a_parish_familyWill a_parish_past a_parish_sightings a_parish_notes a_parish_marks s_parish_flitchCount s_parish_familyCount s_parish_hung s_parish_day s_parish_flitchCell s_parish_flitchKind s_parish_flitchStrength s_taken_5) H → va_D A (Wd_Fs_reckon cy a_this a_parish a_parish_flitchCell a_parish_flitchKind a_parish_flitchStrength a_taken a_lapses a_wills a_cells a_smelling a_windy a_parish_familyKind a_parish_familySide a_parish_familyCell a_parish_familyWill a_parish_past a_parish_sightings a_parish_notes a_parish_marks s_parish_flitchCount s_parish_familyCount s_parish_hung s_parish_day s_parish_flitchCell s_parish_flitchKind s_parish_flitchStrength s_taken_5) → va_S A s.heap H locs → lv_has ls 9 [(0, .ref a_this), (1, .int x1), (4, .int x4), (5, .int r_1), (6, .int r_2), (7, .int x7_4)] → W p l e rm_Fs_reckon s m args below meth c H locs 0 0 QQ (F0 m 35 ls []) := by
    intro n
    induction n with
    | zero => intro x7_4 s_taken_5 H locs ls h; exact absurd h (hz35_5 _ _)
    | succ n ih35_5 =>
      intro x7_4 s_taken_5 H locs ls h hP hD hS hl
      have h := hs35_5 _ _ _ h
      refine lv_iload hx hb dX1_reckon_35 (lv_at hl 5 rfl) ?_
      refine lv_iload hx hb dX1_reckon_37 (lv_at hl 2 rfl) ?_
      refine lv_icmp_ge (tgt := 105) hx hb dX1_reckon_39 (by decide) (fun c_7 => ?_) (fun c_7 => ?_)
      · have h := h.1 c_7
        exact hret (s_taken_5) _ _ _ _ h hP hD hS dX1_reckon_105
      · have h := h.2 c_7
        refine lv_iload hx hb dX1_reckon_42 (lv_at hl 5 rfl) ?_
        refine lv_bipush (v := 60) hx hb dX1_reckon_44 (by decide) ?_
        refine lv_icmp_ge (tgt := 105) hx hb dX1_reckon_46 (by decide) (fun c_8 => ?_) (fun c_8 => ?_)
        · have h := h.1 c_8
          exact hret (s_taken_5) _ _ _ _ h hP hD hS dX1_reckon_105
        · have h := h.2 c_8
          refine lv_aload_n hx hb dX1_reckon_49 rfl (lv_at hl 0 rfl) ?_
          refine va_get (D := D) (ci := 1) (v := .ref a_parish) (C := RX1) (T := TX1) (N := 7) hx hb hts in_X1 hown hK hP 0 rfl rfl 0 (by decide) fl_30 (fun _ h9 => h9) rfl dX1_reckon_50 ?_
          refine va_get (D := D) (ci := 3) (v := .int s_parish_day) (C := RX4) (T := TX4) (N := 15) hx hb hts in_X4 hown hK hP 1 rfl rfl 14 (by decide) fl_40 (fun _ h9 => h9) rfl dX1_reckon_53 ?_
          refine lv_iload hx hb dX1_reckon_56 (lv_at hl 5 rfl) ?_
          refine lv_iadd hx hb dX1_reckon_58 ?_
          refine lv_topi (fun x8_9 ex8_9 => ?_)
          have h := h x8_9 ex8_9
          refine lv_istore (lv' := [(8, .int x8_9), (0, .ref a_this), (1, .int x1), (4, .int x4), (5, .int r_1), (6, .int r_2), (7, .int x7_4)]) hx hb dX1_reckon_59 hl (by decide) rfl (fun ls hl => ?_)
          refine lv_aload_n hx hb dX1_reckon_61 rfl (lv_at hl 1 rfl) ?_
          refine va_get (D := D) (ci := 1) (v := .ref a_taken) (C := RX1) (T := TX1) (N := 7) hx hb hts in_X1 hown hK hP 0 rfl rfl 1 (by decide) fl_9 (fun _ h9 => h9) rfl dX1_reckon_62 ?_
          refine lv_iload hx hb dX1_reckon_65 (lv_at hl 6 rfl) ?_
          refine lv_iconst (v := 1) hx hb dX1_reckon_67 (by decide) ?_
          refine lv_iadd hx hb dX1_reckon_68 ?_
          refine lv_aload_n hx hb dX1_reckon_69 rfl (lv_at hl 1 rfl) ?_
          refine va_get (D := D) (ci := 1) (v := .ref a_taken) (C := RX1) (T := TX1) (N := 7) hx hb hts in_X1 hown hK hP 0 rfl rfl 1 (by decide) fl_9 (fun _ h9 => h9) rfl dX1_reckon_70 ?_
          refine lv_iload hx hb dX1_reckon_73 (lv_at hl 6 rfl) ?_
          obtain ⟨hi_10, h⟩ := h
          refine va_iald hx hb hK hP 5 1 rfl rfl hi_10 dX1_reckon_75 ?_
          refine lv_iload_n hx hb dX1_reckon_76 rfl (lv_at hl 2 rfl) ?_
          refine lv_iload hx hb dX1_reckon_77 (lv_at hl 0 rfl) ?_
          refine lv_bipush (v := 7) hx hb dX1_reckon_79 (by decide) ?_
          refine lv_irem hx hb dX1_reckon_81 (by decide) ?_
          obtain ⟨J92, hJ92, h⟩ := jn1_ex h
          have kJ92_11 : ∀ (v_11 : Int32) (H : Heap) (locs : List Loc) (ls : Array Slot), J92 v_11 → va_P D vwCl (Wd_Fs_reckon cy a_this a_parish a_parish_flitchCell a_parish_flitchKind a_parish_flitchStrength a_taken a_lapses a_wills a_cells a_smelling a_windy a_parish_familyKind a_parish_familySide a_parish_familyCell a_parish_familyWill a_parish_past a_parish_sightings a_parish_notes a_parish_marks s_parish_flitchCount s_parish_familyCount s_parish_hung s_parish_day s_parish_flitchCell s_parish_flitchKind s_parish_flitchStrength s_taken_5) H → va_D A (Wd_Fs_reckon cy a_this a_parish a_parish_flitchCell a_parish_flitchKind a_parish_flitchStrength a_taken a_lapses a_wills a_cells a_smelling a_windy a_parish_familyKind a_parish_familySide a_parish_familyCell a_parish_familyWill a_parish_past a_parish_sightings a_parish_notes a_parish_marks s_parish_flitchCount s_parish_familyCount s_parish_hung s_parish_day s_parish_flitchCell s_parish_flitchKind s_parish_flitchStrength s_taken_5) → va_S A s.heap H locs → lv_has ls 9 [(0, .ref a_this), (1, .int x1), (4, .int x4), (5, .int r_1), (6, .int r_2), (7, .int x7_4), (8, .int x8_9)] → W p l e rm_Fs_reckon s m args below meth c H locs 0 0 QQ (F0 m 92 ls [.int v_11, .int x1, .int (s_taken_5 (Int32.toNatClampNeg x7_4)), .int (x7_4 + 1), .ref a_taken]) := by
            intro v_11 H locs ls h hP hD hS hl
            have h := hJ92 _ h
            refine lv_iload hx hb dX1_reckon_92 (lv_at hl 6 rfl) ?_
            refine st_callRI (st_runSR (n := 3) (As := [.int x1, .int v_11, .int x8_9]) (rest := [.int (s_taken_5 (Int32.toNatClampNeg x7_4)), .int (x7_4 + 1), .ref a_taken]) F (co_Nt_loss l D cy x1 v_11 x8_9 _ h) gX1_reckon_X3_loss rfl (by decide +kernel) rfl hKK hP [] rfl rfl hl.1 rfl (Nat.le_of_ble_eq_true rfl) dX1_reckon_94) (fun r_13 h => ?_)
            refine lv_iadd hx hb dX1_reckon_97 ?_
            obtain ⟨hi_14, h⟩ := h
            refine va_iast hx hb hK hP hD hS 5 1 rfl rfl hi_14 dX1_reckon_98 (fun H locs hP hD hS => ?_)
            obtain ⟨s_taken_15, es_taken_15⟩ : ∃ f : Nat → Int32, f = upd s_taken_5 (Int32.toNatClampNeg (x7_4 + 1)) ((s_taken_5 (Int32.toNatClampNeg x7_4)) + r_13) := ⟨_, rfl⟩
            have hP : va_P D vwCl (Wd_Fs_reckon cy a_this a_parish a_parish_flitchCell a_parish_flitchKind a_parish_flitchStrength a_taken a_lapses a_wills a_cells a_smelling a_windy a_parish_familyKind a_parish_familySide a_parish_familyCell a_parish_familyWill a_parish_past a_parish_sightings a_parish_notes a_parish_marks s_parish_flitchCount s_parish_familyCount s_parish_hung s_parish_day s_parish_flitchCell s_parish_flitchKind s_parish_flitchStrength s_taken_15) H := by rw [es_taken_15]; exact hP
            have hD : va_D A (Wd_Fs_reckon cy a_this a_parish a_parish_flitchCell a_parish_flitchKind a_parish_flitchStrength a_taken a_lapses a_wills a_cells a_smelling a_windy a_parish_familyKind a_parish_familySide a_parish_familyCell a_parish_familyWill a_parish_past a_parish_sightings a_parish_notes a_parish_marks s_parish_flitchCount s_parish_familyCount s_parish_hung s_parish_day s_parish_flitchCell s_parish_flitchKind s_parish_flitchStrength s_taken_15) := by rw [es_taken_15]; exact hD
            have h := h s_taken_15 es_taken_15
            obtain ⟨x7_16, ex7_16⟩ : ∃ y : Int32, y = x7_4 + 1 := ⟨_, rfl⟩
            have h := h x7_16 ex7_16
            refine lv_iinc (v := x7_16) (lv' := [(7, .int x7_16), (0, .ref a_this), (1, .int x1), (4, .int x4), (5, .int r_1), (6, .int r_2), (8, .int x8_9)]) hx hb dX1_reckon_99 hl (k := 5) rfl (by rw [ex7_16]; rfl) (by decide) rfl (fun ls hl => ?_)
            refine lv_goto (tgt := 35) hx hb dX1_reckon_102 (by decide) ?_
            exact ih35_5 _ _ _ _ _ h hP hD hS (lv_sub hl [1, 2, 3, 4, 5, 0] rfl)
          refine lv_if_ne (tgt := 90) hx hb dX1_reckon_82 (by decide) (fun c_17 => ?_) (fun c_17 => ?_)
          · have h := h.1 c_17
            refine lv_iload hx hb dX1_reckon_90 (lv_at hl 5 rfl) ?_
            exact kJ92_11 _ _ _ _ h hP hD hS (lv_sub hl [1, 2, 3, 4, 5, 6, 0] rfl)
          · have h := h.2 c_17
            refine lv_iload hx hb dX1_reckon_85 (lv_at hl 4 rfl) ?_
            refine lv_goto (tgt := 92) hx hb dX1_reckon_87 (by decide) ?_
            exact kJ92_11 _ _ _ _ h hP hD hS (lv_sub hl [1, 2, 3, 4, 5, 6, 0] rfl)
  exact kT35_5 n35_5 _ _ _ _ _ h hP hD hS (lv_sub hl [3, 4, 7, 2, 1, 0] rfl)
abbrev Wd_Fs_willAfter (cy : ClassId × ClassId × ClassId × ClassId) (a_this a_parish a_parish_familyCell a_parish_familyKind a_parish_familyWill a_parish_flitchCell a_parish_flitchKind a_parish_flitchStrength a_taken a_lapses a_wills a_cells a_smelling a_windy a_parish_familySide a_parish_past a_parish_sightings a_parish_notes a_parish_marks : Nat) (s_parish_flitchCount : Int32) (s_parish_familyCount : Int32) (s_parish_hung : Int32) (s_parish_day : Int32) (s_parish_familyCell : Nat → Int32) (s_parish_familyKind : Nat → Int32) (s_parish_familyWill : Nat → Int32) (s_parish_flitchCell : Nat → Int32) (s_parish_flitchKind : Nat → Int32) (s_parish_flitchStrength : Nat → Int32) (s_taken : Nat → Int32) : va_W := [(a_this, .inr (1, [.ref a_parish, .ref a_taken, .ref a_lapses, .ref a_wills, .ref a_cells, .ref a_smelling, .ref a_windy])), (a_parish, .inr (3, [.ref a_parish_flitchKind, .ref a_parish_flitchCell, .ref a_parish_flitchStrength, .ref a_parish_familyKind, .ref a_parish_familySide, .ref a_parish_familyCell, .ref a_parish_familyWill, .ref a_parish_past, .ref a_parish_sightings, .ref a_parish_notes, .ref a_parish_marks, .int s_parish_flitchCount, .int s_parish_familyCount, .int s_parish_hung, .int s_parish_day])), (a_parish_familyCell, .inl (cy.2.1, 7, .inl s_parish_familyCell)), (a_parish_familyKind, .inl (cy.2.1, 7, .inl s_parish_familyKind)), (a_parish_familyWill, .inl (cy.2.1, 7, .inl s_parish_familyWill)), (a_parish_flitchCell, .inl (cy.2.1, 3, .inl s_parish_flitchCell)), (a_parish_flitchKind, .inl (cy.2.1, 3, .inl s_parish_flitchKind)), (a_parish_flitchStrength, .inl (cy.2.1, 3, .inl s_parish_flitchStrength)), (a_taken, .inl (cy.2.1, 61, .inl s_taken))]
abbrev rm_Fs_willAfter : Room := { frames := 3, cells := 0, slots := 0, locals := 103 }
def wp_Fs_willAfter (x1 : Int32) (x2 : Int32) (s_parish_flitchCount : Int32) (s_parish_hung : Int32) (s_parish_day : Int32) (s_parish_familyCell : Nat → Int32) (s_parish_familyKind : Nat → Int32) (s_parish_familyWill : Nat → Int32) (s_parish_flitchCell : Nat → Int32) (s_parish_flitchKind : Nat → Int32) (s_parish_flitchStrength : Nat → Int32) (s_taken : Nat → Int32) (Q : Int32 → (Nat → Int32) → Prop) : Prop := vp_in x1 7 ∧ vp_in x1 7 ∧ wp_Fs_reckon (s_parish_familyKind (Int32.toNatClampNeg x1)) (s_parish_familyCell (Int32.toNatClampNeg x1)) s_parish_hung x2 s_parish_flitchCount s_parish_day s_parish_flitchCell s_parish_flitchKind s_parish_flitchStrength s_taken (fun (s_taken_4 : Nat → Int32) => vp_in x1 7 ∧ vp_in x2 61 ∧ Q (imax 0 ((s_parish_familyWill (Int32.toNatClampNeg x1)) - (s_taken_4 (Int32.toNatClampNeg x2)))) s_taken_4)
set_option maxHeartbeats 4000000 in
set_option maxRecDepth 100000 in
theorem co_Fs_willAfter (l : Launch) (D : va_G) (cy : ClassId × ClassId × ClassId × ClassId) (a_this a_parish a_parish_familyCell a_parish_familyKind a_parish_familyWill a_parish_flitchCell a_parish_flitchKind a_parish_flitchStrength a_taken a_lapses a_wills a_cells a_smelling a_windy a_parish_familySide a_parish_past a_parish_sightings a_parish_notes a_parish_marks : Nat) (s_parish_flitchCount : Int32) (s_parish_familyCount : Int32) (s_parish_hung : Int32) (s_parish_day : Int32) (s_parish_familyCell : Nat → Int32) (s_parish_familyKind : Nat → Int32) (s_parish_familyWill : Nat → Int32) (s_parish_flitchCell : Nat → Int32) (s_parish_flitchKind : Nat → Int32) (s_parish_flitchStrength : Nat → Int32) (s_taken : Nat → Int32) (x1 : Int32) (x2 : Int32) (Q : Int32 → (Nat → Int32) → Prop) (h : wp_Fs_willAfter x1 x2 s_parish_flitchCount s_parish_hung s_parish_day s_parish_familyCell s_parish_familyKind s_parish_familyWill s_parish_flitchCell s_parish_flitchKind s_parish_flitchStrength s_taken Q) : CoI l yX1_willAfter wsX1_willAfter rm_Fs_willAfter D cy [.ref a_this, .int x1, .int x2] (Wd_Fs_willAfter cy a_this a_parish a_parish_familyCell a_parish_familyKind a_parish_familyWill a_parish_flitchCell a_parish_flitchKind a_parish_flitchStrength a_taken a_lapses a_wills a_cells a_smelling a_windy a_parish_familySide a_parish_past a_parish_sightings a_parish_notes a_parish_marks s_parish_flitchCount s_parish_familyCount s_parish_hung s_parish_day s_parish_familyCell s_parish_familyKind s_parish_familyWill s_parish_flitchCell s_parish_flitchKind s_parish_flitchStrength s_taken) (fun u : (Nat → Int32) => (Wd_Fs_willAfter cy a_this a_parish a_parish_familyCell a_parish_familyKind a_parish_familyWill a_parish_flitchCell a_parish_flitchKind a_parish_flitchStrength a_taken a_lapses a_wills a_cells a_smelling a_windy a_parish_familySide a_parish_past a_parish_sightings a_parish_notes a_parish_marks s_parish_flitchCount s_parish_familyCount s_parish_hung s_parish_day s_parish_familyCell s_parish_familyKind s_parish_familyWill s_parish_flitchCell s_parish_flitchKind s_parish_flitchStrength u)) (fun (r : Int32) (u : (Nat → Int32)) => Q r u) := by
  refine st_metI (cc := cX1_willAfter) (maxL := 3) RX1 (by decide) rfl rfl (Nat.le_of_ble_eq_true rfl) ?_
  intro p e s m args below meth c A QQ ls F hA hKK hP hD hS hl hret
  have hK := hKK.1
  have hnest := hKK.2.1
  have hx := F.1
  have hb := F.2.1
  have hown := F.2.2.2.1
  have hts := F.2.2.2.2
  have in_X1 : ∀ w ∈ u_ws RX1 TX1 7, w ∈ wsX1_willAfter := (fun _ h => List.mem_cons_of_mem _ (List.mem_append_left _ (List.mem_append_right _ h)))
  have in_X4 : ∀ w ∈ u_ws RX4 TX4 15, w ∈ wsX1_willAfter := (fun _ h => List.mem_cons_of_mem _ (List.mem_append_right _ h))
  have fl_9 := (hts (.fieldLink RX1 9 "RasherCase$Foresight" "taken" "[I") (List.mem_of_getElem? (i := 6) rfl))
  have fl_30 := (hts (.fieldLink RX1 30 "RasherCase$Foresight" "parish" "LRasherCase$Parish;") (List.mem_of_getElem? (i := 1) rfl))
  have fl_49 := (hts (.fieldLink RX1 49 "RasherCase$Parish" "familyKind" "[I") (List.mem_of_getElem? (i := 2) rfl))
  have fl_52 := (hts (.fieldLink RX1 52 "RasherCase$Parish" "familyCell" "[I") (List.mem_of_getElem? (i := 3) rfl))
  have fl_55 := (hts (.fieldLink RX1 55 "RasherCase$Parish" "hung" "I") (List.mem_of_getElem? (i := 4) rfl))
  have fl_62 := (hts (.fieldLink RX1 62 "RasherCase$Parish" "familyWill" "[I") (List.mem_of_getElem? (i := 5) rfl))
  have hl : lv_has ls 3 [(0, .ref a_this), (1, .int x1), (2, .int x2)] := hl
  unfold wp_Fs_willAfter at h
  refine lv_aload_n hx hb dX1_willAfter_0 rfl (lv_at hl 0 rfl) ?_
  refine lv_aload_n hx hb dX1_willAfter_1 rfl (lv_at hl 0 rfl) ?_
  refine va_get (D := D) (ci := 1) (v := .ref a_parish) (C := RX1) (T := TX1) (N := 7) hx hb hts in_X1 hown hK hP 0 rfl rfl 0 (by decide) fl_30 (fun _ h9 => h9) rfl dX1_willAfter_2 ?_
  refine va_get (D := D) (ci := 3) (v := .ref a_parish_familyKind) (C := RX4) (T := TX4) (N := 15) hx hb hts in_X4 hown hK hP 1 rfl rfl 3 (by decide) fl_49 (fun _ h9 => h9) rfl dX1_willAfter_5 ?_
  refine lv_iload_n hx hb dX1_willAfter_8 rfl (lv_at hl 1 rfl) ?_
  obtain ⟨hi_1, h⟩ := h
  refine va_iald hx hb hK hP 3 1 rfl rfl hi_1 dX1_willAfter_9 ?_
  refine lv_aload_n hx hb dX1_willAfter_10 rfl (lv_at hl 0 rfl) ?_
  refine va_get (D := D) (ci := 1) (v := .ref a_parish) (C := RX1) (T := TX1) (N := 7) hx hb hts in_X1 hown hK hP 0 rfl rfl 0 (by decide) fl_30 (fun _ h9 => h9) rfl dX1_willAfter_11 ?_
  refine va_get (D := D) (ci := 3) (v := .ref a_parish_familyCell) (C := RX4) (T := TX4) (N := 15) hx hb hts in_X4 hown hK hP 1 rfl rfl 5 (by decide) fl_52 (fun _ h9 => h9) rfl dX1_willAfter_14 ?_
  refine lv_iload_n hx hb dX1_willAfter_17 rfl (lv_at hl 1 rfl) ?_
  obtain ⟨hi_2, h⟩ := h
  refine va_iald hx hb hK hP 2 1 rfl rfl hi_2 dX1_willAfter_18 ?_
  refine lv_aload_n hx hb dX1_willAfter_19 rfl (lv_at hl 0 rfl) ?_
  refine va_get (D := D) (ci := 1) (v := .ref a_parish) (C := RX1) (T := TX1) (N := 7) hx hb hts in_X1 hown hK hP 0 rfl rfl 0 (by decide) fl_30 (fun _ h9 => h9) rfl dX1_willAfter_20 ?_
  refine va_get (D := D) (ci := 3) (v := .int s_parish_hung) (C := RX4) (T := TX4) (N := 15) hx hb hts in_X4 hown hK hP 1 rfl rfl 13 (by decide) fl_55 (fun _ h9 => h9) rfl dX1_willAfter_23 ?_
  refine lv_iload_n hx hb dX1_willAfter_26 rfl (lv_at hl 2 rfl) ?_
  refine st_callV (WR := [2, 3, 4].filterMap (fun i => (Wd_Fs_willAfter cy a_this a_parish a_parish_familyCell a_parish_familyKind a_parish_familyWill a_parish_flitchCell a_parish_flitchKind a_parish_flitchStrength a_taken a_lapses a_wills a_cells a_smelling a_windy a_parish_familySide a_parish_past a_parish_sightings a_parish_notes a_parish_marks s_parish_flitchCount s_parish_familyCount s_parish_hung s_parish_day s_parish_familyCell s_parish_familyKind s_parish_familyWill s_parish_flitchCell s_parish_flitchKind s_parish_flitchStrength s_taken)[i]?)) (WSn := fun u => (Wd_Fs_willAfter cy a_this a_parish a_parish_familyCell a_parish_familyKind a_parish_familyWill a_parish_flitchCell a_parish_flitchKind a_parish_flitchStrength a_taken a_lapses a_wills a_cells a_smelling a_windy a_parish_familySide a_parish_past a_parish_sightings a_parish_notes a_parish_marks s_parish_flitchCount s_parish_familyCount s_parish_hung s_parish_day s_parish_familyCell s_parish_familyKind s_parish_familyWill s_parish_flitchCell s_parish_flitchKind s_parish_flitchStrength u)) (st_runV (n := 4) (As := [.int (s_parish_familyKind (Int32.toNatClampNeg x1)), .int (s_parish_familyCell (Int32.toNatClampNeg x1)), .int s_parish_hung, .int x2]) (rest := []) (q0 := 0) F ((co_Fs_reckon l D cy a_this a_parish a_parish_flitchCell a_parish_flitchKind a_parish_flitchStrength a_taken a_lapses a_wills a_cells a_smelling a_windy a_parish_familyKind a_parish_familySide a_parish_familyCell a_parish_familyWill a_parish_past a_parish_sightings a_parish_notes a_parish_marks s_parish_flitchCount s_parish_familyCount s_parish_hung s_parish_day s_parish_flitchCell s_parish_flitchKind s_parish_flitchStrength s_taken (s_parish_familyKind (Int32.toNatClampNeg x1)) (s_parish_familyCell (Int32.toNatClampNeg x1)) s_parish_hung x2 _ h) _) rfl gX1_willAfter_X1_reckon rfl (by decide +kernel) rfl hKK hP hD [0, 1, 5, 6, 7, 8] rfl rfl rfl rfl rfl hl.1 rfl (Nat.le_of_ble_eq_true rfl) dX1_willAfter_27) hP hD hS hA [0, 1, 5, 6, 7, 8] [2, 3, 4] [3, 4, 0, 1, 2, 5, 6, 7, 8] rfl rfl rfl (fun _ => rfl) (fun u H locs h hP hD hS => ?_)
  obtain ⟨s_taken_4, rfl⟩ : ∃ z, z = u := ⟨_, rfl⟩
  have hP : va_P D vwCl (Wd_Fs_willAfter cy a_this a_parish a_parish_familyCell a_parish_familyKind a_parish_familyWill a_parish_flitchCell a_parish_flitchKind a_parish_flitchStrength a_taken a_lapses a_wills a_cells a_smelling a_windy a_parish_familySide a_parish_past a_parish_sightings a_parish_notes a_parish_marks s_parish_flitchCount s_parish_familyCount s_parish_hung s_parish_day s_parish_familyCell s_parish_familyKind s_parish_familyWill s_parish_flitchCell s_parish_flitchKind s_parish_flitchStrength s_taken_4) H := hP
  have hD : va_D A (Wd_Fs_willAfter cy a_this a_parish a_parish_familyCell a_parish_familyKind a_parish_familyWill a_parish_flitchCell a_parish_flitchKind a_parish_flitchStrength a_taken a_lapses a_wills a_cells a_smelling a_windy a_parish_familySide a_parish_past a_parish_sightings a_parish_notes a_parish_marks s_parish_flitchCount s_parish_familyCount s_parish_hung s_parish_day s_parish_familyCell s_parish_familyKind s_parish_familyWill s_parish_flitchCell s_parish_flitchKind s_parish_flitchStrength s_taken_4) := hD
  refine lv_iconst (v := 0) hx hb dX1_willAfter_30 (by decide) ?_
  refine lv_aload_n hx hb dX1_willAfter_31 rfl (lv_at hl 0 rfl) ?_
  refine va_get (D := D) (ci := 1) (v := .ref a_parish) (C := RX1) (T := TX1) (N := 7) hx hb hts in_X1 hown hK hP 0 rfl rfl 0 (by decide) fl_30 (fun _ h9 => h9) rfl dX1_willAfter_32 ?_
  refine va_get (D := D) (ci := 3) (v := .ref a_parish_familyWill) (C := RX4) (T := TX4) (N := 15) hx hb hts in_X4 hown hK hP 1 rfl rfl 6 (by decide) fl_62 (fun _ h9 => h9) rfl dX1_willAfter_35 ?_
  refine lv_iload_n hx hb dX1_willAfter_38 rfl (lv_at hl 1 rfl) ?_
  obtain ⟨hi_5, h⟩ := h
  refine va_iald hx hb hK hP 4 1 rfl rfl hi_5 dX1_willAfter_39 ?_
  refine lv_aload_n hx hb dX1_willAfter_40 rfl (lv_at hl 0 rfl) ?_
  refine va_get (D := D) (ci := 1) (v := .ref a_taken) (C := RX1) (T := TX1) (N := 7) hx hb hts in_X1 hown hK hP 0 rfl rfl 1 (by decide) fl_9 (fun _ h9 => h9) rfl dX1_willAfter_41 ?_
  refine lv_iload_n hx hb dX1_willAfter_44 rfl (lv_at hl 2 rfl) ?_
  obtain ⟨hi_6, h⟩ := h
  refine va_iald hx hb hK hP 8 1 rfl rfl hi_6 dX1_willAfter_45 ?_
  refine lv_isub hx hb dX1_willAfter_46 ?_
  refine va_mmax hx hb (F.2.2.1.trans hl.1.symm) hown (hts (.methodLink RX1 65 Lib.Math.max.name) (List.mem_of_getElem? (i := 7) rfl)) (hts (.static Lib.Math.max.name) (List.mem_of_getElem? (i := 8) rfl)) (hts (.initialized "java/lang/Math") (List.mem_of_getElem? (i := 9) rfl)) (hts (.code Lib.Math.max.name Lib.Math.max.code 2 (some .int)) (List.mem_of_getElem? (i := 10) rfl)) (Nat.le_of_ble_eq_true rfl) (Nat.le_of_ble_eq_true rfl) (Nat.zero_le _) (Nat.zero_le _) dX1_willAfter_47 ?_
  exact hret _ (s_taken_4) _ _ _ _ h hP hD hS dX1_willAfter_50
abbrev Wd_Fs_firstLapse (cy : ClassId × ClassId × ClassId × ClassId) (a_this a_taken a_parish a_lapses a_wills a_cells a_smelling a_windy : Nat) (s_taken : Nat → Int32) : va_W := [(a_this, .inr (1, [.ref a_parish, .ref a_taken, .ref a_lapses, .ref a_wills, .ref a_cells, .ref a_smelling, .ref a_windy])), (a_taken, .inl (cy.2.1, 61, .inl s_taken))]
abbrev rm_Fs_firstLapse : Room := { frames := 0, cells := 0, slots := 0, locals := 0 }
def wp_Fs_firstLapse (x1 : Int32) (x2 : Int32) (s_taken : Nat → Int32) (Q : Int32 → Prop) : Prop := ∃ n : Nat, lpw1 (fun (B2 : Int32 → Prop) (x3_1 : Int32) => ((x2 < x3_1 → Q (-1)) ∧ (¬ x2 < x3_1 → ((60 < x3_1 → Q (-1)) ∧ (¬ 60 < x3_1 → vp_in x3_1 61 ∧ (((s_taken (Int32.toNatClampNeg x3_1)) < x1 → ∀ x3_7 : Int32, x3_7 = x3_1 + 1 → B2 x3_7) ∧ (¬ (s_taken (Int32.toNatClampNeg x3_1)) < x1 → Q x3_1))))))) n 0
set_option maxHeartbeats 4000000 in
set_option maxRecDepth 100000 in
theorem co_Fs_firstLapse (l : Launch) (D : va_G) (cy : ClassId × ClassId × ClassId × ClassId) (a_this a_taken a_parish a_lapses a_wills a_cells a_smelling a_windy : Nat) (s_taken : Nat → Int32) (x1 : Int32) (x2 : Int32) (Q : Int32 → Prop) (h : wp_Fs_firstLapse x1 x2 s_taken Q) : RoI l yX1_firstLapse wsX1_firstLapse rm_Fs_firstLapse D cy [.ref a_this, .int x1, .int x2] (Wd_Fs_firstLapse cy a_this a_taken a_parish a_lapses a_wills a_cells a_smelling a_windy s_taken) Q := by
  refine st_metRI (cc := cX1_firstLapse) (maxL := 4) RX1 (by decide) rfl rfl (Nat.le_of_ble_eq_true rfl) ?_
  intro p e s m args below meth c QQ ls F hKK hP hl hret
  have hK := hKK.1
  have hnest := hKK.2.1
  have hx := F.1
  have hb := F.2.1
  have hown := F.2.2.2.1
  have hts := F.2.2.2.2
  have in_X1 : ∀ w ∈ u_ws RX1 TX1 7, w ∈ wsX1_firstLapse := (fun _ h => List.mem_cons_of_mem _ (List.mem_append_right _ h))
  have fl_9 := (hts (.fieldLink RX1 9 "RasherCase$Foresight" "taken" "[I") (List.mem_of_getElem? (i := 1) rfl))
  have hl : lv_has ls 4 [(0, .ref a_this), (1, .int x1), (2, .int x2)] := hl
  unfold wp_Fs_firstLapse at h
  refine lv_iconst (v := 0) hx hb dX1_firstLapse_0 (by decide) ?_
  refine lv_istore_n (lv' := [(3, .int 0), (0, .ref a_this), (1, .int x1), (2, .int x2)]) hx hb dX1_firstLapse_1 rfl hl (by decide) rfl (fun ls hl => ?_)
  obtain ⟨T2_1, hz2_1, hs2_1, n2_1, h⟩ := lpw1_use h
  have kT2_1 : ∀ (n : Nat) (x3_1 : Int32) (ls : Array Slot), T2_1 n x3_1 → lv_has ls 4 [(0, .ref a_this), (1, .int x1), (2, .int x2), (3, .int x3_1)] → W p l e rm_Fs_firstLapse s m args below meth c s.heap [] 0 0 QQ (F0 m 2 ls []) := by
    intro n
    induction n with
    | zero => intro x3_1 ls h; exact absurd h (hz2_1 _)
    | succ n ih2_1 =>
      intro x3_1 ls h hl
      have h := hs2_1 _ _ h
      refine lv_iload_n hx hb dX1_firstLapse_2 rfl (lv_at hl 3 rfl) ?_
      refine lv_iload_n hx hb dX1_firstLapse_3 rfl (lv_at hl 2 rfl) ?_
      refine lv_icmp_gt (tgt := 31) hx hb dX1_firstLapse_4 (by decide) (fun c_3 => ?_) (fun c_3 => ?_)
      · have h := h.1 c_3
        refine lv_iconst (v := (-1)) hx hb dX1_firstLapse_31 (by decide) ?_
        exact hret _ _ _ h dX1_firstLapse_32
      · have h := h.2 c_3
        refine lv_iload_n hx hb dX1_firstLapse_7 rfl (lv_at hl 3 rfl) ?_
        refine lv_bipush (v := 60) hx hb dX1_firstLapse_8 (by decide) ?_
        refine lv_icmp_gt (tgt := 31) hx hb dX1_firstLapse_10 (by decide) (fun c_4 => ?_) (fun c_4 => ?_)
        · have h := h.1 c_4
          refine lv_iconst (v := (-1)) hx hb dX1_firstLapse_31 (by decide) ?_
          exact hret _ _ _ h dX1_firstLapse_32
        · have h := h.2 c_4
          refine lv_aload_n hx hb dX1_firstLapse_13 rfl (lv_at hl 0 rfl) ?_
          refine va_get (D := D) (ci := 1) (v := .ref a_taken) (C := RX1) (T := TX1) (N := 7) hx hb hts in_X1 hown hK hP 0 rfl rfl 1 (by decide) fl_9 (fun _ h9 => h9) rfl dX1_firstLapse_14 ?_
          refine lv_iload_n hx hb dX1_firstLapse_17 rfl (lv_at hl 3 rfl) ?_
          obtain ⟨hi_5, h⟩ := h
          refine va_iald hx hb hK hP 1 1 rfl rfl hi_5 dX1_firstLapse_18 ?_
          refine lv_iload_n hx hb dX1_firstLapse_19 rfl (lv_at hl 1 rfl) ?_
          refine lv_icmp_lt (tgt := 25) hx hb dX1_firstLapse_20 (by decide) (fun c_6 => ?_) (fun c_6 => ?_)
          · have h := h.1 c_6
            obtain ⟨x3_7, ex3_7⟩ : ∃ y : Int32, y = x3_1 + 1 := ⟨_, rfl⟩
            have h := h x3_7 ex3_7
            refine lv_iinc (v := x3_7) (lv' := [(3, .int x3_7), (0, .ref a_this), (1, .int x1), (2, .int x2)]) hx hb dX1_firstLapse_25 hl (k := 3) rfl (by rw [ex3_7]; rfl) (by decide) rfl (fun ls hl => ?_)
            refine lv_goto (tgt := 2) hx hb dX1_firstLapse_28 (by decide) ?_
            exact ih2_1 _ _ h (lv_sub hl [1, 2, 3, 0] rfl)
          · have h := h.2 c_6
            refine lv_iload_n hx hb dX1_firstLapse_23 rfl (lv_at hl 3 rfl) ?_
            exact hret _ _ _ h dX1_firstLapse_24
  exact kT2_1 n2_1 _ _ h (lv_sub hl [1, 2, 3, 0] rfl)
abbrev Wd_Fs_lapseWithin (cy : ClassId × ClassId × ClassId × ClassId) (a_this a_parish a_parish_familyKind a_parish_familyWill a_parish_flitchCell a_parish_flitchKind a_parish_flitchStrength a_taken a_lapses a_wills a_cells a_smelling a_windy a_parish_familySide a_parish_familyCell a_parish_past a_parish_sightings a_parish_notes a_parish_marks : Nat) (s_parish_flitchCount : Int32) (s_parish_familyCount : Int32) (s_parish_hung : Int32) (s_parish_day : Int32) (s_parish_familyKind : Nat → Int32) (s_parish_familyWill : Nat → Int32) (s_parish_flitchCell : Nat → Int32) (s_parish_flitchKind : Nat → Int32) (s_parish_flitchStrength : Nat → Int32) (s_taken : Nat → Int32) : va_W := [(a_this, .inr (1, [.ref a_parish, .ref a_taken, .ref a_lapses, .ref a_wills, .ref a_cells, .ref a_smelling, .ref a_windy])), (a_parish, .inr (3, [.ref a_parish_flitchKind, .ref a_parish_flitchCell, .ref a_parish_flitchStrength, .ref a_parish_familyKind, .ref a_parish_familySide, .ref a_parish_familyCell, .ref a_parish_familyWill, .ref a_parish_past, .ref a_parish_sightings, .ref a_parish_notes, .ref a_parish_marks, .int s_parish_flitchCount, .int s_parish_familyCount, .int s_parish_hung, .int s_parish_day])), (a_parish_familyKind, .inl (cy.2.1, 7, .inl s_parish_familyKind)), (a_parish_familyWill, .inl (cy.2.1, 7, .inl s_parish_familyWill)), (a_parish_flitchCell, .inl (cy.2.1, 3, .inl s_parish_flitchCell)), (a_parish_flitchKind, .inl (cy.2.1, 3, .inl s_parish_flitchKind)), (a_parish_flitchStrength, .inl (cy.2.1, 3, .inl s_parish_flitchStrength)), (a_taken, .inl (cy.2.1, 61, .inl s_taken))]
abbrev rm_Fs_lapseWithin : Room := { frames := 3, cells := 0, slots := 0, locals := 103 }
def wp_Fs_lapseWithin (x1 : Int32) (x2 : Int32) (x3 : Int32) (s_parish_flitchCount : Int32) (s_parish_hung : Int32) (s_parish_day : Int32) (s_parish_familyKind : Nat → Int32) (s_parish_familyWill : Nat → Int32) (s_parish_flitchCell : Nat → Int32) (s_parish_flitchKind : Nat → Int32) (s_parish_flitchStrength : Nat → Int32) (s_taken : Nat → Int32) (Q : Int32 → (Nat → Int32) → Prop) : Prop := vp_in x1 7 ∧ wp_Fs_reckon (s_parish_familyKind (Int32.toNatClampNeg x1)) x2 s_parish_hung x3 s_parish_flitchCount s_parish_day s_parish_flitchCell s_parish_flitchKind s_parish_flitchStrength s_taken (fun (s_taken_3 : Nat → Int32) => vp_in x1 7 ∧ wp_Fs_firstLapse (s_parish_familyWill (Int32.toNatClampNeg x1)) x3 s_taken_3 (fun (r_5 : Int32) => Q r_5 s_taken_3))
set_option maxHeartbeats 4000000 in
set_option maxRecDepth 100000 in
theorem co_Fs_lapseWithin (l : Launch) (D : va_G) (cy : ClassId × ClassId × ClassId × ClassId) (a_this a_parish a_parish_familyKind a_parish_familyWill a_parish_flitchCell a_parish_flitchKind a_parish_flitchStrength a_taken a_lapses a_wills a_cells a_smelling a_windy a_parish_familySide a_parish_familyCell a_parish_past a_parish_sightings a_parish_notes a_parish_marks : Nat) (s_parish_flitchCount : Int32) (s_parish_familyCount : Int32) (s_parish_hung : Int32) (s_parish_day : Int32) (s_parish_familyKind : Nat → Int32) (s_parish_familyWill : Nat → Int32) (s_parish_flitchCell : Nat → Int32) (s_parish_flitchKind : Nat → Int32) (s_parish_flitchStrength : Nat → Int32) (s_taken : Nat → Int32) (x1 : Int32) (x2 : Int32) (x3 : Int32) (Q : Int32 → (Nat → Int32) → Prop) (h : wp_Fs_lapseWithin x1 x2 x3 s_parish_flitchCount s_parish_hung s_parish_day s_parish_familyKind s_parish_familyWill s_parish_flitchCell s_parish_flitchKind s_parish_flitchStrength s_taken Q) : CoI l yX1_lapseWithin wsX1_lapseWithin rm_Fs_lapseWithin D cy [.ref a_this, .int x1, .int x2, .int x3] (Wd_Fs_lapseWithin cy a_this a_parish a_parish_familyKind a_parish_familyWill a_parish_flitchCell a_parish_flitchKind a_parish_flitchStrength a_taken a_lapses a_wills a_cells a_smelling a_windy a_parish_familySide a_parish_familyCell a_parish_past a_parish_sightings a_parish_notes a_parish_marks s_parish_flitchCount s_parish_familyCount s_parish_hung s_parish_day s_parish_familyKind s_parish_familyWill s_parish_flitchCell s_parish_flitchKind s_parish_flitchStrength s_taken) (fun u : (Nat → Int32) => (Wd_Fs_lapseWithin cy a_this a_parish a_parish_familyKind a_parish_familyWill a_parish_flitchCell a_parish_flitchKind a_parish_flitchStrength a_taken a_lapses a_wills a_cells a_smelling a_windy a_parish_familySide a_parish_familyCell a_parish_past a_parish_sightings a_parish_notes a_parish_marks s_parish_flitchCount s_parish_familyCount s_parish_hung s_parish_day s_parish_familyKind s_parish_familyWill s_parish_flitchCell s_parish_flitchKind s_parish_flitchStrength u)) (fun (r : Int32) (u : (Nat → Int32)) => Q r u) := by
  refine st_metI (cc := cX1_lapseWithin) (maxL := 4) RX1 (by decide) rfl rfl (Nat.le_of_ble_eq_true rfl) ?_
  intro p e s m args below meth c A QQ ls F hA hKK hP hD hS hl hret
  have hK := hKK.1
  have hnest := hKK.2.1
  have hx := F.1
  have hb := F.2.1
  have hown := F.2.2.2.1
  have hts := F.2.2.2.2
  have in_X1 : ∀ w ∈ u_ws RX1 TX1 7, w ∈ wsX1_lapseWithin := (fun _ h => List.mem_cons_of_mem _ (List.mem_append_left _ (List.mem_append_right _ h)))
  have in_X4 : ∀ w ∈ u_ws RX4 TX4 15, w ∈ wsX1_lapseWithin := (fun _ h => List.mem_cons_of_mem _ (List.mem_append_right _ h))
  have fl_30 := (hts (.fieldLink RX1 30 "RasherCase$Foresight" "parish" "LRasherCase$Parish;") (List.mem_of_getElem? (i := 1) rfl))
  have fl_49 := (hts (.fieldLink RX1 49 "RasherCase$Parish" "familyKind" "[I") (List.mem_of_getElem? (i := 2) rfl))
  have fl_55 := (hts (.fieldLink RX1 55 "RasherCase$Parish" "hung" "I") (List.mem_of_getElem? (i := 3) rfl))
  have fl_62 := (hts (.fieldLink RX1 62 "RasherCase$Parish" "familyWill" "[I") (List.mem_of_getElem? (i := 4) rfl))
  have hl : lv_has ls 4 [(0, .ref a_this), (1, .int x1), (2, .int x2), (3, .int x3)] := hl
  unfold wp_Fs_lapseWithin at h
  refine lv_aload_n hx hb dX1_lapseWithin_0 rfl (lv_at hl 0 rfl) ?_
  refine lv_aload_n hx hb dX1_lapseWithin_1 rfl (lv_at hl 0 rfl) ?_
  refine va_get (D := D) (ci := 1) (v := .ref a_parish) (C := RX1) (T := TX1) (N := 7) hx hb hts in_X1 hown hK hP 0 rfl rfl 0 (by decide) fl_30 (fun _ h9 => h9) rfl dX1_lapseWithin_2 ?_
  refine va_get (D := D) (ci := 3) (v := .ref a_parish_familyKind) (C := RX4) (T := TX4) (N := 15) hx hb hts in_X4 hown hK hP 1 rfl rfl 3 (by decide) fl_49 (fun _ h9 => h9) rfl dX1_lapseWithin_5 ?_
  refine lv_iload_n hx hb dX1_lapseWithin_8 rfl (lv_at hl 1 rfl) ?_
  obtain ⟨hi_1, h⟩ := h
  refine va_iald hx hb hK hP 2 1 rfl rfl hi_1 dX1_lapseWithin_9 ?_
  refine lv_iload_n hx hb dX1_lapseWithin_10 rfl (lv_at hl 2 rfl) ?_
  refine lv_aload_n hx hb dX1_lapseWithin_11 rfl (lv_at hl 0 rfl) ?_
  refine va_get (D := D) (ci := 1) (v := .ref a_parish) (C := RX1) (T := TX1) (N := 7) hx hb hts in_X1 hown hK hP 0 rfl rfl 0 (by decide) fl_30 (fun _ h9 => h9) rfl dX1_lapseWithin_12 ?_
  refine va_get (D := D) (ci := 3) (v := .int s_parish_hung) (C := RX4) (T := TX4) (N := 15) hx hb hts in_X4 hown hK hP 1 rfl rfl 13 (by decide) fl_55 (fun _ h9 => h9) rfl dX1_lapseWithin_15 ?_
  refine lv_iload_n hx hb dX1_lapseWithin_18 rfl (lv_at hl 3 rfl) ?_
  refine st_callV (WR := [2, 3].filterMap (fun i => (Wd_Fs_lapseWithin cy a_this a_parish a_parish_familyKind a_parish_familyWill a_parish_flitchCell a_parish_flitchKind a_parish_flitchStrength a_taken a_lapses a_wills a_cells a_smelling a_windy a_parish_familySide a_parish_familyCell a_parish_past a_parish_sightings a_parish_notes a_parish_marks s_parish_flitchCount s_parish_familyCount s_parish_hung s_parish_day s_parish_familyKind s_parish_familyWill s_parish_flitchCell s_parish_flitchKind s_parish_flitchStrength s_taken)[i]?)) (WSn := fun u => (Wd_Fs_lapseWithin cy a_this a_parish a_parish_familyKind a_parish_familyWill a_parish_flitchCell a_parish_flitchKind a_parish_flitchStrength a_taken a_lapses a_wills a_cells a_smelling a_windy a_parish_familySide a_parish_familyCell a_parish_past a_parish_sightings a_parish_notes a_parish_marks s_parish_flitchCount s_parish_familyCount s_parish_hung s_parish_day s_parish_familyKind s_parish_familyWill s_parish_flitchCell s_parish_flitchKind s_parish_flitchStrength u)) (st_runV (n := 4) (As := [.int (s_parish_familyKind (Int32.toNatClampNeg x1)), .int x2, .int s_parish_hung, .int x3]) (rest := []) (q0 := 0) F ((co_Fs_reckon l D cy a_this a_parish a_parish_flitchCell a_parish_flitchKind a_parish_flitchStrength a_taken a_lapses a_wills a_cells a_smelling a_windy a_parish_familyKind a_parish_familySide a_parish_familyCell a_parish_familyWill a_parish_past a_parish_sightings a_parish_notes a_parish_marks s_parish_flitchCount s_parish_familyCount s_parish_hung s_parish_day s_parish_flitchCell s_parish_flitchKind s_parish_flitchStrength s_taken (s_parish_familyKind (Int32.toNatClampNeg x1)) x2 s_parish_hung x3 _ h) _) rfl gX1_lapseWithin_X1_reckon rfl (by decide +kernel) rfl hKK hP hD [0, 1, 4, 5, 6, 7] rfl rfl rfl rfl rfl hl.1 rfl (Nat.le_of_ble_eq_true rfl) dX1_lapseWithin_19) hP hD hS hA [0, 1, 4, 5, 6, 7] [2, 3] [2, 3, 0, 1, 4, 5, 6, 7] rfl rfl rfl (fun _ => rfl) (fun u H locs h hP hD hS => ?_)
  obtain ⟨s_taken_3, rfl⟩ : ∃ z, z = u := ⟨_, rfl⟩
  have hP : va_P D vwCl (Wd_Fs_lapseWithin cy a_this a_parish a_parish_familyKind a_parish_familyWill a_parish_flitchCell a_parish_flitchKind a_parish_flitchStrength a_taken a_lapses a_wills a_cells a_smelling a_windy a_parish_familySide a_parish_familyCell a_parish_past a_parish_sightings a_parish_notes a_parish_marks s_parish_flitchCount s_parish_familyCount s_parish_hung s_parish_day s_parish_familyKind s_parish_familyWill s_parish_flitchCell s_parish_flitchKind s_parish_flitchStrength s_taken_3) H := hP
  have hD : va_D A (Wd_Fs_lapseWithin cy a_this a_parish a_parish_familyKind a_parish_familyWill a_parish_flitchCell a_parish_flitchKind a_parish_flitchStrength a_taken a_lapses a_wills a_cells a_smelling a_windy a_parish_familySide a_parish_familyCell a_parish_past a_parish_sightings a_parish_notes a_parish_marks s_parish_flitchCount s_parish_familyCount s_parish_hung s_parish_day s_parish_familyKind s_parish_familyWill s_parish_flitchCell s_parish_flitchKind s_parish_flitchStrength s_taken_3) := hD
  refine lv_aload_n hx hb dX1_lapseWithin_22 rfl (lv_at hl 0 rfl) ?_
  refine lv_aload_n hx hb dX1_lapseWithin_23 rfl (lv_at hl 0 rfl) ?_
  refine va_get (D := D) (ci := 1) (v := .ref a_parish) (C := RX1) (T := TX1) (N := 7) hx hb hts in_X1 hown hK hP 0 rfl rfl 0 (by decide) fl_30 (fun _ h9 => h9) rfl dX1_lapseWithin_24 ?_
  refine va_get (D := D) (ci := 3) (v := .ref a_parish_familyWill) (C := RX4) (T := TX4) (N := 15) hx hb hts in_X4 hown hK hP 1 rfl rfl 6 (by decide) fl_62 (fun _ h9 => h9) rfl dX1_lapseWithin_27 ?_
  refine lv_iload_n hx hb dX1_lapseWithin_30 rfl (lv_at hl 1 rfl) ?_
  obtain ⟨hi_4, h⟩ := h
  refine va_iald hx hb hK hP 3 1 rfl rfl hi_4 dX1_lapseWithin_31 ?_
  refine lv_iload_n hx hb dX1_lapseWithin_32 rfl (lv_at hl 3 rfl) ?_
  refine st_callRI (st_runVR (n := 2) (As := [.int (s_parish_familyWill (Int32.toNatClampNeg x1)), .int x3]) (rest := []) (q0 := 0) F (co_Fs_firstLapse l D cy a_this a_taken a_parish a_lapses a_wills a_cells a_smelling a_windy s_taken_3 (s_parish_familyWill (Int32.toNatClampNeg x1)) x3 _ h) gX1_lapseWithin_X1_firstLapse rfl (by decide +kernel) rfl hKK hP [0, 7] rfl rfl rfl rfl hl.1 rfl (Nat.le_of_ble_eq_true rfl) dX1_lapseWithin_33) (fun r_5 h => ?_)
  exact hret _ (s_taken_3) _ _ _ _ h hP hD hS dX1_lapseWithin_36
