abbrev Wd_Pa_passDays (cy : ClassId × ClassId × ClassId × ClassId) (a_this a_familyCell a_familyKind a_familyWill a_flitchCell a_flitchKind a_flitchStrength a_familySide a_past a_sightings a_notes a_marks : Nat) (s_flitchCount : Int32) (s_familyCount : Int32) (s_hung : Int32) (s_day : Int32) (s_familyCell : Nat → Int32) (s_familyKind : Nat → Int32) (s_familyWill : Nat → Int32) (s_flitchCell : Nat → Int32) (s_flitchKind : Nat → Int32) (s_flitchStrength : Nat → Int32) : va_W := [(a_this, .inr (3, [.ref a_flitchKind, .ref a_flitchCell, .ref a_flitchStrength, .ref a_familyKind, .ref a_familySide, .ref a_familyCell, .ref a_familyWill, .ref a_past, .ref a_sightings, .ref a_notes, .ref a_marks, .int s_flitchCount, .int s_familyCount, .int s_hung, .int s_day])), (a_familyCell, .inl (cy.2.1, 7, .inl s_familyCell)), (a_familyKind, .inl (cy.2.1, 7, .inl s_familyKind)), (a_familyWill, .inl (cy.2.1, 7, .inl s_familyWill)), (a_flitchCell, .inl (cy.2.1, 3, .inl s_flitchCell)), (a_flitchKind, .inl (cy.2.1, 3, .inl s_flitchKind)), (a_flitchStrength, .inl (cy.2.1, 3, .inl s_flitchStrength))]
abbrev rm_Pa_passDays : Room := { frames := 3, cells := 0, slots := 0, locals := 100 }
def wp_Pa_passDays (x1 : Int32) (s_flitchCount : Int32) (s_familyCount : Int32) (s_hung : Int32) (s_day : Int32) (s_familyCell : Nat → Int32) (s_familyKind : Nat → Int32) (s_familyWill : Nat → Int32) (s_flitchCell : Nat → Int32) (s_flitchKind : Nat → Int32) (s_flitchStrength : Nat → Int32) (Q : Int32 → (Nat → Int32) → Prop) : Prop := ∃ n : Nat, lpw3 (fun (B2 : Int32 → Int32 → (Nat → Int32) → Prop) (x2_1 : Int32) (s_day_2 : Int32) (s_familyWill_3 : Nat → Int32) => ((x1 ≤ x2_1 → Q s_day_2 s_familyWill_3) ∧ (¬ x1 ≤ x2_1 → ((9999 ≤ s_day_2 → Q s_day_2 s_familyWill_3) ∧ (¬ 9999 ≤ s_day_2 → wp_Pa_wearDown s_day_2 7 7 s_flitchCount s_familyCount s_hung s_familyKind s_flitchCell s_flitchKind s_flitchStrength s_familyCell s_familyWill_3 (fun (s_familyWill_8 : Nat → Int32) => ∀ s_day_9 : Int32, s_day_9 = (s_day_2 + 1) → ∀ x2_10 : Int32, x2_10 = x2_1 + 1 → B2 x2_10 s_day_9 s_familyWill_8)))))) n 0 s_day s_familyWill
set_option maxHeartbeats 4000000 in
set_option maxRecDepth 100000 in
theorem co_Pa_passDays (l : Launch) (D : va_G) (cy : ClassId × ClassId × ClassId × ClassId) (a_this a_familyCell a_familyKind a_familyWill a_flitchCell a_flitchKind a_flitchStrength a_familySide a_past a_sightings a_notes a_marks : Nat) (s_flitchCount : Int32) (s_familyCount : Int32) (s_hung : Int32) (s_day : Int32) (s_familyCell : Nat → Int32) (s_familyKind : Nat → Int32) (s_familyWill : Nat → Int32) (s_flitchCell : Nat → Int32) (s_flitchKind : Nat → Int32) (s_flitchStrength : Nat → Int32) (x1 : Int32) (Q : Int32 → (Nat → Int32) → Prop) (h : wp_Pa_passDays x1 s_flitchCount s_familyCount s_hung s_day s_familyCell s_familyKind s_familyWill s_flitchCell s_flitchKind s_flitchStrength Q) : CoV l yX4_passDays wsX4_passDays rm_Pa_passDays D cy [.ref a_this, .int x1] (Wd_Pa_passDays cy a_this a_familyCell a_familyKind a_familyWill a_flitchCell a_flitchKind a_flitchStrength a_familySide a_past a_sightings a_notes a_marks s_flitchCount s_familyCount s_hung s_day s_familyCell s_familyKind s_familyWill s_flitchCell s_flitchKind s_flitchStrength) (fun u : Int32 × (Nat → Int32) => (Wd_Pa_passDays cy a_this a_familyCell a_familyKind a_familyWill a_flitchCell a_flitchKind a_flitchStrength a_familySide a_past a_sightings a_notes a_marks s_flitchCount s_familyCount s_hung u.1 s_familyCell s_familyKind u.2 s_flitchCell s_flitchKind s_flitchStrength)) (fun (u : Int32 × (Nat → Int32)) => Q u.1 u.2) := by
  refine st_metV (cc := cX4_passDays) (maxL := 3) RX4 (by decide) rfl rfl (Nat.le_of_ble_eq_true rfl) ?_
  intro p e s m args below meth c A QQ ls F hA hKK hP hD hS hl hret
  have hK := hKK.1
  have hnest := hKK.2.1
  have hx := F.1
  have hb := F.2.1
  have hown := F.2.2.2.1
  have hts := F.2.2.2.2
  have in_X4 : ∀ w ∈ u_ws RX4 TX4 15, w ∈ wsX4_passDays := (fun _ h => List.mem_cons_of_mem _ (List.mem_append_right _ h))
  have fl_27 := (hts (.fieldLink RX4 27 "RasherCase$Parish" "familyCell" "[I") (List.mem_of_getElem? (i := 2) rfl))
  have fl_30 := (hts (.fieldLink RX4 30 "RasherCase$Parish" "familyWill" "[I") (List.mem_of_getElem? (i := 3) rfl))
  have fl_61 := (hts (.fieldLink RX4 61 "RasherCase$Parish" "day" "I") (List.mem_of_getElem? (i := 1) rfl))
  have hl : lv_has ls 3 [(0, .ref a_this), (1, .int x1)] := hl
  unfold wp_Pa_passDays at h
  refine lv_iconst (v := 0) hx hb dX4_passDays_0 (by decide) ?_
  refine lv_istore_n (lv' := [(2, .int 0), (0, .ref a_this), (1, .int x1)]) hx hb dX4_passDays_1 rfl hl (by decide) rfl (fun ls hl => ?_)
  obtain ⟨T2_3, hz2_3, hs2_3, n2_3, h⟩ := lpw3_use h
  have kT2_3 : ∀ (n : Nat) (x2_1 : Int32) (s_day_2 : Int32) (s_familyWill_3 : Nat → Int32) (H : Heap) (locs : List Loc) (ls : Array Slot), T2_3 n x2_1 s_day_2 s_familyWill_3 → va_P D vwCl (Wd_Pa_passDays cy a_this a_familyCell a_familyKind a_familyWill a_flitchCell a_flitchKind a_flitchStrength a_familySide a_past a_sightings a_notes a_marks s_flitchCount s_familyCount s_hung s_day_2 s_familyCell s_familyKind s_familyWill_3 s_flitchCell s_flitchKind s_flitchStrength) H → va_D A (Wd_Pa_passDays cy a_this a_familyCell a_familyKind a_familyWill a_flitchCell a_flitchKind a_flitchStrength a_familySide a_past a_sightings a_notes a_marks s_flitchCount s_familyCount s_hung s_day_2 s_familyCell s_familyKind s_familyWill_3 s_flitchCell s_flitchKind s_flitchStrength) → va_S A s.heap H locs → lv_has ls 3 [(0, .ref a_this), (1, .int x1), (2, .int x2_1)] → W p l e rm_Pa_passDays s m args below meth c H locs 0 0 QQ (F0 m 2 ls []) := by
    intro n
    induction n with
    | zero => intro x2_1 s_day_2 s_familyWill_3 H locs ls h; exact absurd h (hz2_3 _ _ _)
    | succ n ih2_3 =>
      intro x2_1 s_day_2 s_familyWill_3 H locs ls h hP hD hS hl
      have h := hs2_3 _ _ _ _ h
      refine lv_iload_n hx hb dX4_passDays_2 rfl (lv_at hl 2 rfl) ?_
      refine lv_iload_n hx hb dX4_passDays_3 rfl (lv_at hl 1 rfl) ?_
      refine lv_icmp_ge (tgt := 49) hx hb dX4_passDays_4 (by decide) (fun c_5 => ?_) (fun c_5 => ?_)
      · have h := h.1 c_5
        exact hret (s_day_2, s_familyWill_3) _ _ _ _ h hP hD hS dX4_passDays_49
      · have h := h.2 c_5
        refine lv_aload_n hx hb dX4_passDays_7 rfl (lv_at hl 0 rfl) ?_
        refine va_get (D := D) (ci := 3) (v := .int s_day_2) (C := RX4) (T := TX4) (N := 15) hx hb hts in_X4 hown hK hP 0 rfl rfl 14 (by decide) fl_61 (fun _ h9 => h9) rfl dX4_passDays_8 ?_
        refine lv_sipush (v := 9999) hx hb dX4_passDays_11 (by decide) ?_
        refine lv_icmp_ge (tgt := 49) hx hb dX4_passDays_14 (by decide) (fun c_6 => ?_) (fun c_6 => ?_)
        · have h := h.1 c_6
          exact hret (s_day_2, s_familyWill_3) _ _ _ _ h hP hD hS dX4_passDays_49
        · have h := h.2 c_6
          refine lv_aload_n hx hb dX4_passDays_17 rfl (lv_at hl 0 rfl) ?_
          refine lv_aload_n hx hb dX4_passDays_18 rfl (lv_at hl 0 rfl) ?_
          refine va_get (D := D) (ci := 3) (v := .ref a_familyCell) (C := RX4) (T := TX4) (N := 15) hx hb hts in_X4 hown hK hP 0 rfl rfl 5 (by decide) fl_27 (fun _ h9 => h9) rfl dX4_passDays_19 ?_
          refine lv_aload_n hx hb dX4_passDays_22 rfl (lv_at hl 0 rfl) ?_
          refine va_get (D := D) (ci := 3) (v := .ref a_familyWill) (C := RX4) (T := TX4) (N := 15) hx hb hts in_X4 hown hK hP 0 rfl rfl 6 (by decide) fl_30 (fun _ h9 => h9) rfl dX4_passDays_23 ?_
          refine lv_aload_n hx hb dX4_passDays_26 rfl (lv_at hl 0 rfl) ?_
          refine va_get (D := D) (ci := 3) (v := .int s_day_2) (C := RX4) (T := TX4) (N := 15) hx hb hts in_X4 hown hK hP 0 rfl rfl 14 (by decide) fl_61 (fun _ h9 => h9) rfl dX4_passDays_27 ?_
          refine st_callV (WR := []) (WSn := fun u => (Wd_Pa_passDays cy a_this a_familyCell a_familyKind a_familyWill a_flitchCell a_flitchKind a_flitchStrength a_familySide a_past a_sightings a_notes a_marks s_flitchCount s_familyCount s_hung s_day_2 s_familyCell s_familyKind u s_flitchCell s_flitchKind s_flitchStrength)) (st_runV (n := 3) (As := [.ref a_familyCell, .ref a_familyWill, .int s_day_2]) (rest := []) (q0 := 0) F ((co_Pa_wearDown l D cy a_this a_familyKind a_flitchCell a_flitchKind a_flitchStrength a_familyCell a_familyWill a_familySide a_familyCell a_familyWill a_past a_sightings a_notes a_marks 7 7 s_flitchCount s_familyCount s_hung s_day_2 s_familyKind s_flitchCell s_flitchKind s_flitchStrength s_familyCell s_familyWill_3 s_day_2 _ h) _) rfl gX4_passDays_X4_wearDown rfl (by decide +kernel) rfl hKK hP hD [0, 2, 4, 5, 6, 1, 3] rfl rfl rfl rfl rfl hl.1 rfl (Nat.le_of_ble_eq_true rfl) dX4_passDays_30) hP hD hS hA [0, 2, 4, 5, 6, 1, 3] [] [0, 5, 1, 6, 2, 3, 4] rfl rfl rfl (fun _ => rfl) (fun u H locs h hP hD hS => ?_)
          obtain ⟨s_familyWill_8, rfl⟩ : ∃ z, z = u := ⟨_, rfl⟩
          have hP : va_P D vwCl (Wd_Pa_passDays cy a_this a_familyCell a_familyKind a_familyWill a_flitchCell a_flitchKind a_flitchStrength a_familySide a_past a_sightings a_notes a_marks s_flitchCount s_familyCount s_hung s_day_2 s_familyCell s_familyKind s_familyWill_8 s_flitchCell s_flitchKind s_flitchStrength) H := hP
          have hD : va_D A (Wd_Pa_passDays cy a_this a_familyCell a_familyKind a_familyWill a_flitchCell a_flitchKind a_flitchStrength a_familySide a_past a_sightings a_notes a_marks s_flitchCount s_familyCount s_hung s_day_2 s_familyCell s_familyKind s_familyWill_8 s_flitchCell s_flitchKind s_flitchStrength) := hD
          refine lv_aload_n hx hb dX4_passDays_33 rfl (lv_at hl 0 rfl) ?_
          refine lv_dup hx hb dX4_passDays_34 rfl ?_
          refine va_get (D := D) (ci := 3) (v := .int s_day_2) (C := RX4) (T := TX4) (N := 15) hx hb hts in_X4 hown hK hP 0 rfl rfl 14 (by decide) fl_61 (fun _ h9 => h9) rfl dX4_passDays_35 ?_
          refine lv_iconst (v := 1) hx hb dX4_passDays_38 (by decide) ?_
          refine lv_iadd hx hb dX4_passDays_39 ?_
          refine lv_topi (fun s_day_9 es_day_9 => ?_)
          have h := h s_day_9 es_day_9
          refine va_put (D := D) (ci := 3) (v := .int s_day_9) (ty := .int) (C := RX4) (T := TX4) (N := 15) hx hb hts in_X4 tyX4 tyX4_ok nmX4 hown hK hP hD hS 0 rfl rfl 14 (by decide) fl_61 (fun _ h9 => h9) rfl (tyX4_ok 14 (by decide)) rfl rfl (Nat.le_of_ble_eq_true rfl) dX4_passDays_40 (fun H locs hP hD hS => ?_)
          have hP : va_P D vwCl (Wd_Pa_passDays cy a_this a_familyCell a_familyKind a_familyWill a_flitchCell a_flitchKind a_flitchStrength a_familySide a_past a_sightings a_notes a_marks s_flitchCount s_familyCount s_hung s_day_9 s_familyCell s_familyKind s_familyWill_8 s_flitchCell s_flitchKind s_flitchStrength) H := hP
          have hD : va_D A (Wd_Pa_passDays cy a_this a_familyCell a_familyKind a_familyWill a_flitchCell a_flitchKind a_flitchStrength a_familySide a_past a_sightings a_notes a_marks s_flitchCount s_familyCount s_hung s_day_9 s_familyCell s_familyKind s_familyWill_8 s_flitchCell s_flitchKind s_flitchStrength) := hD
          obtain ⟨x2_10, ex2_10⟩ : ∃ y : Int32, y = x2_1 + 1 := ⟨_, rfl⟩
          have h := h x2_10 ex2_10
          refine lv_iinc (v := x2_10) (lv' := [(2, .int x2_10), (0, .ref a_this), (1, .int x1)]) hx hb dX4_passDays_43 hl (k := 2) rfl (by rw [ex2_10]; rfl) (by decide) rfl (fun ls hl => ?_)
          refine lv_goto (tgt := 2) hx hb dX4_passDays_46 (by decide) ?_
          exact ih2_3 _ _ _ _ _ _ h hP hD hS (lv_sub hl [1, 2, 0] rfl)
  exact kT2_3 n2_3 _ _ _ _ _ _ h hP hD hS (lv_sub hl [1, 2, 0] rfl)
abbrev Wd_Rw_isFull (cy : ClassId × ClassId × ClassId × ClassId) (a_this a_numbers : Nat) (s_width : Int32) (s_limit : Int32) (s_size : Int32) : va_W := [(a_this, .inr (5, [.int s_width, .int s_limit, .ref a_numbers, .int s_size]))]
abbrev rm_Rw_isFull : Room := { frames := 0, cells := 0, slots := 0, locals := 0 }
def wp_Rw_isFull (s_limit : Int32) (s_size : Int32) (Q : Int32 → Prop) : Prop := ((s_size < s_limit → Q 0) ∧ (¬ s_size < s_limit → Q 1))
set_option maxHeartbeats 4000000 in
set_option maxRecDepth 100000 in
theorem co_Rw_isFull (l : Launch) (D : va_G) (cy : ClassId × ClassId × ClassId × ClassId) (a_this a_numbers : Nat) (s_width : Int32) (s_limit : Int32) (s_size : Int32) (Q : Int32 → Prop) (h : wp_Rw_isFull s_limit s_size Q) : RoI l yX6_isFull wsX6_isFull rm_Rw_isFull D cy [.ref a_this] (Wd_Rw_isFull cy a_this a_numbers s_width s_limit s_size) Q := by
  refine st_metRZ (cc := cX6_isFull) (maxL := 1) RX6 (by decide) rfl rfl (Nat.le_of_ble_eq_true rfl) ?_
  intro p e s m args below meth c QQ ls F hKK hP hl hret
  have hK := hKK.1
  have hnest := hKK.2.1
  have hx := F.1
  have hb := F.2.1
  have hown := F.2.2.2.1
  have hts := F.2.2.2.2
  have in_X6 : ∀ w ∈ u_ws RX6 TX6 4, w ∈ wsX6_isFull := (fun _ h => List.mem_cons_of_mem _ (List.mem_append_right _ h))
  have fl_13 := (hts (.fieldLink RX6 13 "RasherCase$Rows" "limit" "I") (List.mem_of_getElem? (i := 2) rfl))
  have fl_20 := (hts (.fieldLink RX6 20 "RasherCase$Rows" "size" "I") (List.mem_of_getElem? (i := 1) rfl))
  have hl : lv_has ls 1 [(0, .ref a_this)] := hl
  unfold wp_Rw_isFull at h
  refine lv_aload_n hx hb dX6_isFull_0 rfl (lv_at hl 0 rfl) ?_
  refine va_get (D := D) (ci := 5) (v := .int s_size) (C := RX6) (T := TX6) (N := 4) hx hb hts in_X6 hown hK hP 0 rfl rfl 3 (by decide) fl_20 (fun _ h9 => h9) rfl dX6_isFull_1 ?_
  refine lv_aload_n hx hb dX6_isFull_4 rfl (lv_at hl 0 rfl) ?_
  refine va_get (D := D) (ci := 5) (v := .int s_limit) (C := RX6) (T := TX6) (N := 4) hx hb hts in_X6 hown hK hP 0 rfl rfl 1 (by decide) fl_13 (fun _ h9 => h9) rfl dX6_isFull_5 ?_
  refine lv_icmp_lt (tgt := 15) hx hb dX6_isFull_8 (by decide) (fun c_1 => ?_) (fun c_1 => ?_)
  · have h := h.1 c_1
    refine lv_iconst (v := 0) hx hb dX6_isFull_15 (by decide) ?_
    exact hret _ _ _ bz0 h dX6_isFull_16
  · have h := h.2 c_1
    refine lv_iconst (v := 1) hx hb dX6_isFull_11 (by decide) ?_
    refine lv_goto (tgt := 16) hx hb dX6_isFull_12 (by decide) ?_
    exact hret _ _ _ bz1 h dX6_isFull_16
abbrev Wd_Rw_dropFirst (cy : ClassId × ClassId × ClassId × ClassId) (a_this a_numbers : Nat) (n_numbers : Nat) (s_width : Int32) (s_limit : Int32) (s_size : Int32) (s_numbers : Nat → Int32) : va_W := [(a_this, .inr (5, [.int s_width, .int s_limit, .ref a_numbers, .int s_size])), (a_numbers, .inl (cy.2.1, n_numbers, .inl s_numbers))]
abbrev rm_Rw_dropFirst : Room := { frames := 1, cells := 0, slots := 0, locals := 48 }
def wp_Rw_dropFirst (n_numbers : Nat) (s_width : Int32) (s_limit : Int32) (s_size : Int32) (s_numbers : Nat → Int32) (Q : Int32 → (Nat → Int32) → Prop) : Prop := cpok s_width 0 (s_width * (s_limit - 1)) n_numbers n_numbers ∧ ∀ s_numbers_2 : Nat → Int32, s_numbers_2 = va_cpy s_numbers s_numbers (Int32.toNatClampNeg s_width) (Int32.toNatClampNeg 0) (Int32.toNatClampNeg (s_width * (s_limit - 1))) → ∀ s_size_3 : Int32, s_size_3 = (s_size - 1) → Q s_size_3 s_numbers_2
set_option maxHeartbeats 4000000 in
set_option maxRecDepth 100000 in
theorem co_Rw_dropFirst (l : Launch) (D : va_G) (cy : ClassId × ClassId × ClassId × ClassId) (a_this a_numbers : Nat) (n_numbers : Nat) (s_width : Int32) (s_limit : Int32) (s_size : Int32) (s_numbers : Nat → Int32) (Q : Int32 → (Nat → Int32) → Prop) (h : wp_Rw_dropFirst n_numbers s_width s_limit s_size s_numbers Q) : CoV l yX6_dropFirst wsX6_dropFirst rm_Rw_dropFirst D cy [.ref a_this] (Wd_Rw_dropFirst cy a_this a_numbers n_numbers s_width s_limit s_size s_numbers) (fun u : Int32 × (Nat → Int32) => (Wd_Rw_dropFirst cy a_this a_numbers n_numbers s_width s_limit u.1 u.2)) (fun (u : Int32 × (Nat → Int32)) => Q u.1 u.2) := by
  refine st_metV (cc := cX6_dropFirst) (maxL := 1) RX6 (by decide) rfl rfl (Nat.le_of_ble_eq_true rfl) ?_
  intro p e s m args below meth c A QQ ls F hA hKK hP hD hS hl hret
  have hK := hKK.1
  have hnest := hKK.2.1
  have hx := F.1
  have hb := F.2.1
  have hown := F.2.2.2.1
  have hts := F.2.2.2.2
  have in_X6 : ∀ w ∈ u_ws RX6 TX6 4, w ∈ wsX6_dropFirst := (fun _ h => List.mem_cons_of_mem _ (List.mem_append_right _ h))
  have fl_7 := (hts (.fieldLink RX6 7 "RasherCase$Rows" "width" "I") (List.mem_of_getElem? (i := 2) rfl))
  have fl_13 := (hts (.fieldLink RX6 13 "RasherCase$Rows" "limit" "I") (List.mem_of_getElem? (i := 3) rfl))
  have fl_16 := (hts (.fieldLink RX6 16 "RasherCase$Rows" "numbers" "[I") (List.mem_of_getElem? (i := 1) rfl))
  have fl_20 := (hts (.fieldLink RX6 20 "RasherCase$Rows" "size" "I") (List.mem_of_getElem? (i := 8) rfl))
  have hl : lv_has ls 1 [(0, .ref a_this)] := hl
  unfold wp_Rw_dropFirst at h
  refine lv_aload_n hx hb dX6_dropFirst_0 rfl (lv_at hl 0 rfl) ?_
  refine va_get (D := D) (ci := 5) (v := .ref a_numbers) (C := RX6) (T := TX6) (N := 4) hx hb hts in_X6 hown hK hP 0 rfl rfl 2 (by decide) fl_16 (fun _ h9 => h9) rfl dX6_dropFirst_1 ?_
  refine lv_aload_n hx hb dX6_dropFirst_4 rfl (lv_at hl 0 rfl) ?_
  refine va_get (D := D) (ci := 5) (v := .int s_width) (C := RX6) (T := TX6) (N := 4) hx hb hts in_X6 hown hK hP 0 rfl rfl 0 (by decide) fl_7 (fun _ h9 => h9) rfl dX6_dropFirst_5 ?_
  refine lv_aload_n hx hb dX6_dropFirst_8 rfl (lv_at hl 0 rfl) ?_
  refine va_get (D := D) (ci := 5) (v := .ref a_numbers) (C := RX6) (T := TX6) (N := 4) hx hb hts in_X6 hown hK hP 0 rfl rfl 2 (by decide) fl_16 (fun _ h9 => h9) rfl dX6_dropFirst_9 ?_
  refine lv_iconst (v := 0) hx hb dX6_dropFirst_12 (by decide) ?_
  refine lv_aload_n hx hb dX6_dropFirst_13 rfl (lv_at hl 0 rfl) ?_
  refine va_get (D := D) (ci := 5) (v := .int s_width) (C := RX6) (T := TX6) (N := 4) hx hb hts in_X6 hown hK hP 0 rfl rfl 0 (by decide) fl_7 (fun _ h9 => h9) rfl dX6_dropFirst_14 ?_
  refine lv_aload_n hx hb dX6_dropFirst_17 rfl (lv_at hl 0 rfl) ?_
  refine va_get (D := D) (ci := 5) (v := .int s_limit) (C := RX6) (T := TX6) (N := 4) hx hb hts in_X6 hown hK hP 0 rfl rfl 1 (by decide) fl_13 (fun _ h9 => h9) rfl dX6_dropFirst_18 ?_
  refine lv_iconst (v := 1) hx hb dX6_dropFirst_21 (by decide) ?_
  refine lv_isub hx hb dX6_dropFirst_22 ?_
  refine lv_imul hx hb dX6_dropFirst_23 ?_
  obtain ⟨hc_1, h⟩ := h
  refine va_copyi hx hb (F.2.2.1.trans hl.1.symm) hown (hts (.methodLink RX6 27 arraycopyName) (List.mem_of_getElem? (i := 4) rfl)) (hts (.native arraycopyName) (List.mem_of_getElem? (i := 5) rfl)) (hts (.static arraycopyName) (List.mem_of_getElem? (i := 6) rfl)) (hts (.initialized "java/lang/System") (List.mem_of_getElem? (i := 7) rfl)) hK hP hD hS 1 1 1 1 rfl rfl rfl rfl rfl hc_1.1 hc_1.2.1 hc_1.2.2.1 hc_1.2.2.2.1 hc_1.2.2.2.2 (fun _ _ => rfl) (Nat.le_of_ble_eq_true rfl) (Nat.le_of_ble_eq_true rfl) dX6_dropFirst_24 (fun H locs hP hD hS => ?_)
  obtain ⟨s_numbers_2, es_numbers_2⟩ : ∃ f : Nat → Int32, f = va_cpy s_numbers s_numbers (Int32.toNatClampNeg s_width) (Int32.toNatClampNeg 0) (Int32.toNatClampNeg (s_width * (s_limit - 1))) := ⟨_, rfl⟩
  have hP : va_P D vwCl (Wd_Rw_dropFirst cy a_this a_numbers n_numbers s_width s_limit s_size s_numbers_2) H := by rw [es_numbers_2]; exact hP
  have hD : va_D A (Wd_Rw_dropFirst cy a_this a_numbers n_numbers s_width s_limit s_size s_numbers_2) := by rw [es_numbers_2]; exact hD
  have h := h s_numbers_2 es_numbers_2
  refine lv_aload_n hx hb dX6_dropFirst_27 rfl (lv_at hl 0 rfl) ?_
  refine lv_dup hx hb dX6_dropFirst_28 rfl ?_
  refine va_get (D := D) (ci := 5) (v := .int s_size) (C := RX6) (T := TX6) (N := 4) hx hb hts in_X6 hown hK hP 0 rfl rfl 3 (by decide) fl_20 (fun _ h9 => h9) rfl dX6_dropFirst_29 ?_
  refine lv_iconst (v := 1) hx hb dX6_dropFirst_32 (by decide) ?_
  refine lv_isub hx hb dX6_dropFirst_33 ?_
  refine lv_topi (fun s_size_3 es_size_3 => ?_)
  have h := h s_size_3 es_size_3
  refine va_put (D := D) (ci := 5) (v := .int s_size_3) (ty := .int) (C := RX6) (T := TX6) (N := 4) hx hb hts in_X6 tyX6 tyX6_ok nmX6 hown hK hP hD hS 0 rfl rfl 3 (by decide) fl_20 (fun _ h9 => h9) rfl (tyX6_ok 3 (by decide)) rfl rfl (Nat.le_of_ble_eq_true rfl) dX6_dropFirst_34 (fun H locs hP hD hS => ?_)
  have hP : va_P D vwCl (Wd_Rw_dropFirst cy a_this a_numbers n_numbers s_width s_limit s_size_3 s_numbers_2) H := hP
  have hD : va_D A (Wd_Rw_dropFirst cy a_this a_numbers n_numbers s_width s_limit s_size_3 s_numbers_2) := hD
  exact hret (s_size_3, s_numbers_2) _ _ _ _ h hP hD hS dX6_dropFirst_37
abbrev Wd_Rw_put (cy : ClassId × ClassId × ClassId × ClassId) (a_this a_numbers : Nat) (n_numbers : Nat) (s_width : Int32) (s_limit : Int32) (s_size : Int32) (s_numbers : Nat → Int32) : va_W := [(a_this, .inr (5, [.int s_width, .int s_limit, .ref a_numbers, .int s_size])), (a_numbers, .inl (cy.2.1, n_numbers, .inl s_numbers))]
abbrev rm_Rw_put : Room := { frames := 0, cells := 0, slots := 0, locals := 0 }
def wp_Rw_put (x1 : Int32) (x2 : Int32) (x3 : Int32) (n_numbers : Nat) (s_width : Int32) (s_numbers : Nat → Int32) (Q : (Nat → Int32) → Prop) : Prop := vp_in ((x1 * s_width) + x2) n_numbers ∧ ∀ s_numbers_2 : Nat → Int32, s_numbers_2 = upd s_numbers (Int32.toNatClampNeg ((x1 * s_width) + x2)) x3 → Q s_numbers_2
set_option maxHeartbeats 4000000 in
set_option maxRecDepth 100000 in
theorem co_Rw_put (l : Launch) (D : va_G) (cy : ClassId × ClassId × ClassId × ClassId) (a_this a_numbers : Nat) (n_numbers : Nat) (s_width : Int32) (s_limit : Int32) (s_size : Int32) (s_numbers : Nat → Int32) (x1 : Int32) (x2 : Int32) (x3 : Int32) (Q : (Nat → Int32) → Prop) (h : wp_Rw_put x1 x2 x3 n_numbers s_width s_numbers Q) : CoV l yX6_put wsX6_put rm_Rw_put D cy [.ref a_this, .int x1, .int x2, .int x3] (Wd_Rw_put cy a_this a_numbers n_numbers s_width s_limit s_size s_numbers) (fun u : (Nat → Int32) => (Wd_Rw_put cy a_this a_numbers n_numbers s_width s_limit s_size u)) (fun (u : (Nat → Int32)) => Q u) := by
  refine st_metV (cc := cX6_put) (maxL := 4) RX6 (by decide) rfl rfl (Nat.le_of_ble_eq_true rfl) ?_
  intro p e s m args below meth c A QQ ls F hA hKK hP hD hS hl hret
  have hK := hKK.1
  have hnest := hKK.2.1
  have hx := F.1
  have hb := F.2.1
  have hown := F.2.2.2.1
  have hts := F.2.2.2.2
  have in_X6 : ∀ w ∈ u_ws RX6 TX6 4, w ∈ wsX6_put := (fun _ h => List.mem_cons_of_mem _ (List.mem_append_right _ h))
  have fl_7 := (hts (.fieldLink RX6 7 "RasherCase$Rows" "width" "I") (List.mem_of_getElem? (i := 2) rfl))
  have fl_16 := (hts (.fieldLink RX6 16 "RasherCase$Rows" "numbers" "[I") (List.mem_of_getElem? (i := 1) rfl))
  have hl : lv_has ls 4 [(0, .ref a_this), (1, .int x1), (2, .int x2), (3, .int x3)] := hl
  unfold wp_Rw_put at h
  refine lv_aload_n hx hb dX6_put_0 rfl (lv_at hl 0 rfl) ?_
  refine va_get (D := D) (ci := 5) (v := .ref a_numbers) (C := RX6) (T := TX6) (N := 4) hx hb hts in_X6 hown hK hP 0 rfl rfl 2 (by decide) fl_16 (fun _ h9 => h9) rfl dX6_put_1 ?_
  refine lv_iload_n hx hb dX6_put_4 rfl (lv_at hl 1 rfl) ?_
  refine lv_aload_n hx hb dX6_put_5 rfl (lv_at hl 0 rfl) ?_
  refine va_get (D := D) (ci := 5) (v := .int s_width) (C := RX6) (T := TX6) (N := 4) hx hb hts in_X6 hown hK hP 0 rfl rfl 0 (by decide) fl_7 (fun _ h9 => h9) rfl dX6_put_6 ?_
  refine lv_imul hx hb dX6_put_9 ?_
  refine lv_iload_n hx hb dX6_put_10 rfl (lv_at hl 2 rfl) ?_
  refine lv_iadd hx hb dX6_put_11 ?_
  refine lv_iload_n hx hb dX6_put_12 rfl (lv_at hl 3 rfl) ?_
  obtain ⟨hi_1, h⟩ := h
  refine va_iast hx hb hK hP hD hS 1 1 rfl rfl hi_1 dX6_put_13 (fun H locs hP hD hS => ?_)
  obtain ⟨s_numbers_2, es_numbers_2⟩ : ∃ f : Nat → Int32, f = upd s_numbers (Int32.toNatClampNeg ((x1 * s_width) + x2)) x3 := ⟨_, rfl⟩
  have hP : va_P D vwCl (Wd_Rw_put cy a_this a_numbers n_numbers s_width s_limit s_size s_numbers_2) H := by rw [es_numbers_2]; exact hP
  have hD : va_D A (Wd_Rw_put cy a_this a_numbers n_numbers s_width s_limit s_size s_numbers_2) := by rw [es_numbers_2]; exact hD
  have h := h s_numbers_2 es_numbers_2
  exact hret (s_numbers_2) _ _ _ _ h hP hD hS dX6_put_14
abbrev Wd_Pa_remember (cy : ClassId × ClassId × ClassId × ClassId) (a_this a_familyCell a_familyWill a_past a_past_numbers a_flitchKind a_flitchCell a_flitchStrength a_familyKind a_familySide a_sightings a_notes a_marks : Nat) (s_flitchCount : Int32) (s_familyCount : Int32) (s_hung : Int32) (s_day : Int32) (s_familyCell : Nat → Int32) (s_familyWill : Nat → Int32) (s_past_width : Int32) (s_past_limit : Int32) (s_past_size : Int32) (s_past_numbers : Nat → Int32) : va_W := [(a_this, .inr (3, [.ref a_flitchKind, .ref a_flitchCell, .ref a_flitchStrength, .ref a_familyKind, .ref a_familySide, .ref a_familyCell, .ref a_familyWill, .ref a_past, .ref a_sightings, .ref a_notes, .ref a_marks, .int s_flitchCount, .int s_familyCount, .int s_hung, .int s_day])), (a_familyCell, .inl (cy.2.1, 7, .inl s_familyCell)), (a_familyWill, .inl (cy.2.1, 7, .inl s_familyWill)), (a_past, .inr (5, [.int s_past_width, .int s_past_limit, .ref a_past_numbers, .int s_past_size])), (a_past_numbers, .inl (cy.2.1, 128, .inl s_past_numbers))]
abbrev rm_Pa_remember : Room := { frames := 2, cells := 0, slots := 0, locals := 68 }
def wp_Pa_remember (s_hung : Int32) (s_day : Int32) (s_familyCell : Nat → Int32) (s_familyWill : Nat → Int32) (s_past_width : Int32) (s_past_limit : Int32) (s_past_size : Int32) (s_past_numbers : Nat → Int32) (Q : Int32 → (Nat → Int32) → Prop) : Prop := wp_Rw_isFull s_past_limit s_past_size (fun (r_1 : Int32) => jn2 (fun (J17 : Int32 → (Nat → Int32) → Prop) => ((r_1 = 0 → J17 s_past_size s_past_numbers) ∧ (¬ r_1 = 0 → wp_Rw_dropFirst 128 s_past_width s_past_limit s_past_size s_past_numbers (fun (s_past_size_23 : Int32) (s_past_numbers_24 : Nat → Int32) => J17 s_past_size_23 s_past_numbers_24)))) (fun (s_past_size_2 : Int32) (s_past_numbers_3 : Nat → Int32) => wp_Rw_put s_past_size_2 0 s_day 128 s_past_width s_past_numbers_3 (fun (s_past_numbers_6 : Nat → Int32) => wp_Rw_put s_past_size_2 1 s_hung 128 s_past_width s_past_numbers_6 (fun (s_past_numbers_8 : Nat → Int32) => ∃ n : Nat, lpw2 (fun (B53 : Int32 → (Nat → Int32) → Prop) (x2_9 : Int32) (s_past_numbers_10 : Nat → Int32) => ((7 ≤ x2_9 → ∀ s_past_size_13 : Int32, s_past_size_13 = (s_past_size_2 + 1) → Q s_past_size_13 s_past_numbers_10) ∧ (¬ 7 ≤ x2_9 → vp_in x2_9 7 ∧ wp_Rw_put s_past_size_2 (2 + x2_9) (s_familyWill (Int32.toNatClampNeg x2_9)) 128 s_past_width s_past_numbers_10 (fun (s_past_numbers_16 : Nat → Int32) => vp_in x2_9 7 ∧ wp_Rw_put s_past_size_2 (9 + x2_9) (s_familyCell (Int32.toNatClampNeg x2_9)) 128 s_past_width s_past_numbers_16 (fun (s_past_numbers_19 : Nat → Int32) => ∀ x2_20 : Int32, x2_20 = x2_9 + 1 → B53 x2_20 s_past_numbers_19))))) n 0 s_past_numbers_8))))
set_option maxHeartbeats 4000000 in
set_option maxRecDepth 100000 in
theorem co_Pa_remember (l : Launch) (D : va_G) (cy : ClassId × ClassId × ClassId × ClassId) (a_this a_familyCell a_familyWill a_past a_past_numbers a_flitchKind a_flitchCell a_flitchStrength a_familyKind a_familySide a_sightings a_notes a_marks : Nat) (s_flitchCount : Int32) (s_familyCount : Int32) (s_hung : Int32) (s_day : Int32) (s_familyCell : Nat → Int32) (s_familyWill : Nat → Int32) (s_past_width : Int32) (s_past_limit : Int32) (s_past_size : Int32) (s_past_numbers : Nat → Int32) (Q : Int32 → (Nat → Int32) → Prop) (h : wp_Pa_remember s_hung s_day s_familyCell s_familyWill s_past_width s_past_limit s_past_size s_past_numbers Q) : CoV l yX4_remember wsX4_remember rm_Pa_remember D cy [.ref a_this] (Wd_Pa_remember cy a_this a_familyCell a_familyWill a_past a_past_numbers a_flitchKind a_flitchCell a_flitchStrength a_familyKind a_familySide a_sightings a_notes a_marks s_flitchCount s_familyCount s_hung s_day s_familyCell s_familyWill s_past_width s_past_limit s_past_size s_past_numbers) (fun u : Int32 × (Nat → Int32) => (Wd_Pa_remember cy a_this a_familyCell a_familyWill a_past a_past_numbers a_flitchKind a_flitchCell a_flitchStrength a_familyKind a_familySide a_sightings a_notes a_marks s_flitchCount s_familyCount s_hung s_day s_familyCell s_familyWill s_past_width s_past_limit u.1 u.2)) (fun (u : Int32 × (Nat → Int32)) => Q u.1 u.2) := by
  refine st_metV (cc := cX4_remember) (maxL := 3) RX4 (by decide) rfl rfl (Nat.le_of_ble_eq_true rfl) ?_
  intro p e s m args below meth c A QQ ls F hA hKK hP hD hS hl hret
  have hK := hKK.1
  have hnest := hKK.2.1
  have hx := F.1
  have hb := F.2.1
  have hown := F.2.2.2.1
  have hts := F.2.2.2.2
  have in_X4 : ∀ w ∈ u_ws RX4 TX4 15, w ∈ wsX4_remember := (fun _ h => List.mem_cons_of_mem _ (List.mem_append_left _ (List.mem_append_right _ h)))
  have in_X6 : ∀ w ∈ u_ws RX6 TX6 4, w ∈ wsX4_remember := (fun _ h => List.mem_cons_of_mem _ (List.mem_append_right _ h))
  have fl_27 := (hts (.fieldLink RX4 27 "RasherCase$Parish" "familyCell" "[I") (List.mem_of_getElem? (i := 6) rfl))
  have fl_30 := (hts (.fieldLink RX4 30 "RasherCase$Parish" "familyWill" "[I") (List.mem_of_getElem? (i := 5) rfl))
  have fl_38 := (hts (.fieldLink RX4 38 "RasherCase$Parish" "past" "LRasherCase$Rows;") (List.mem_of_getElem? (i := 1) rfl))
  have fl_58 := (hts (.fieldLink RX4 58 "RasherCase$Parish" "hung" "I") (List.mem_of_getElem? (i := 4) rfl))
  have fl_61 := (hts (.fieldLink RX4 61 "RasherCase$Parish" "day" "I") (List.mem_of_getElem? (i := 3) rfl))
  have fl_64 := (hts (.fieldLink RX4 64 "RasherCase$Rows" "size" "I") (List.mem_of_getElem? (i := 2) rfl))
  have hl : lv_has ls 3 [(0, .ref a_this)] := hl
  unfold wp_Pa_remember at h
  refine lv_aload_n hx hb dX4_remember_0 rfl (lv_at hl 0 rfl) ?_
  refine va_get (D := D) (ci := 3) (v := .ref a_past) (C := RX4) (T := TX4) (N := 15) hx hb hts in_X4 hown hK hP 0 rfl rfl 7 (by decide) fl_38 (fun _ h9 => h9) rfl dX4_remember_1 ?_
  refine st_callRI (st_runVR (n := 0) (As := []) (rest := []) (q0 := 0) F (co_Rw_isFull l D cy a_past a_past_numbers s_past_width s_past_limit s_past_size _ h) gX4_remember_X6_isFull rfl (by decide +kernel) rfl hKK hP [3] rfl rfl rfl rfl hl.1 rfl (Nat.le_of_ble_eq_true rfl) dX4_remember_4) (fun r_1 h => ?_)
  obtain ⟨J17, hJ17, h⟩ := jn2_ex h
  have kJ17_3 : ∀ (s_past_size_2 : Int32) (s_past_numbers_3 : Nat → Int32) (H : Heap) (locs : List Loc) (ls : Array Slot), J17 s_past_size_2 s_past_numbers_3 → va_P D vwCl (Wd_Pa_remember cy a_this a_familyCell a_familyWill a_past a_past_numbers a_flitchKind a_flitchCell a_flitchStrength a_familyKind a_familySide a_sightings a_notes a_marks s_flitchCount s_familyCount s_hung s_day s_familyCell s_familyWill s_past_width s_past_limit s_past_size_2 s_past_numbers_3) H → va_D A (Wd_Pa_remember cy a_this a_familyCell a_familyWill a_past a_past_numbers a_flitchKind a_flitchCell a_flitchStrength a_familyKind a_familySide a_sightings a_notes a_marks s_flitchCount s_familyCount s_hung s_day s_familyCell s_familyWill s_past_width s_past_limit s_past_size_2 s_past_numbers_3) → va_S A s.heap H locs → lv_has ls 3 [(0, .ref a_this)] → W p l e rm_Pa_remember s m args below meth c H locs 0 0 QQ (F0 m 17 ls []) := by
    intro s_past_size_2 s_past_numbers_3 H locs ls h hP hD hS hl
    have h := hJ17 _ _ h
    refine lv_aload_n hx hb dX4_remember_17 rfl (lv_at hl 0 rfl) ?_
    refine va_get (D := D) (ci := 3) (v := .ref a_past) (C := RX4) (T := TX4) (N := 15) hx hb hts in_X4 hown hK hP 0 rfl rfl 7 (by decide) fl_38 (fun _ h9 => h9) rfl dX4_remember_18 ?_
    refine va_get (D := D) (ci := 5) (v := .int s_past_size_2) (C := RX6) (T := TX6) (N := 4) hx hb hts in_X6 hown hK hP 3 rfl rfl 3 (by decide) fl_64 (fun _ h9 => h9) rfl dX4_remember_21 ?_
    refine lv_istore_n (lv' := [(1, .int s_past_size_2), (0, .ref a_this)]) hx hb dX4_remember_24 rfl hl (by decide) rfl (fun ls hl => ?_)
    refine lv_aload_n hx hb dX4_remember_25 rfl (lv_at hl 1 rfl) ?_
    refine va_get (D := D) (ci := 3) (v := .ref a_past) (C := RX4) (T := TX4) (N := 15) hx hb hts in_X4 hown hK hP 0 rfl rfl 7 (by decide) fl_38 (fun _ h9 => h9) rfl dX4_remember_26 ?_
    refine lv_iload_n hx hb dX4_remember_29 rfl (lv_at hl 0 rfl) ?_
    refine lv_iconst (v := 0) hx hb dX4_remember_30 (by decide) ?_
    refine lv_aload_n hx hb dX4_remember_31 rfl (lv_at hl 1 rfl) ?_
    refine va_get (D := D) (ci := 3) (v := .int s_day) (C := RX4) (T := TX4) (N := 15) hx hb hts in_X4 hown hK hP 0 rfl rfl 14 (by decide) fl_61 (fun _ h9 => h9) rfl dX4_remember_32 ?_
    refine st_callV (WR := [0, 1, 2].filterMap (fun i => (Wd_Pa_remember cy a_this a_familyCell a_familyWill a_past a_past_numbers a_flitchKind a_flitchCell a_flitchStrength a_familyKind a_familySide a_sightings a_notes a_marks s_flitchCount s_familyCount s_hung s_day s_familyCell s_familyWill s_past_width s_past_limit s_past_size_2 s_past_numbers_3)[i]?)) (WSn := fun u => (Wd_Pa_remember cy a_this a_familyCell a_familyWill a_past a_past_numbers a_flitchKind a_flitchCell a_flitchStrength a_familyKind a_familySide a_sightings a_notes a_marks s_flitchCount s_familyCount s_hung s_day s_familyCell s_familyWill s_past_width s_past_limit s_past_size_2 u)) (st_runV (n := 3) (As := [.int s_past_size_2, .int 0, .int s_day]) (rest := []) (q0 := 0) F ((co_Rw_put l D cy a_past a_past_numbers 128 s_past_width s_past_limit s_past_size_2 s_past_numbers_3 s_past_size_2 0 s_day _ h) _) rfl gX4_remember_X6_put rfl (by decide +kernel) rfl hKK hP hD [3, 4] rfl rfl rfl rfl rfl hl.1 rfl (Nat.le_of_ble_eq_true rfl) dX4_remember_35) hP hD hS hA [3, 4] [0, 1, 2] [0, 1, 2, 3, 4] rfl rfl rfl (fun _ => rfl) (fun u H locs h hP hD hS => ?_)
    obtain ⟨s_past_numbers_6, rfl⟩ : ∃ z, z = u := ⟨_, rfl⟩
    have hP : va_P D vwCl (Wd_Pa_remember cy a_this a_familyCell a_familyWill a_past a_past_numbers a_flitchKind a_flitchCell a_flitchStrength a_familyKind a_familySide a_sightings a_notes a_marks s_flitchCount s_familyCount s_hung s_day s_familyCell s_familyWill s_past_width s_past_limit s_past_size_2 s_past_numbers_6) H := hP
    have hD : va_D A (Wd_Pa_remember cy a_this a_familyCell a_familyWill a_past a_past_numbers a_flitchKind a_flitchCell a_flitchStrength a_familyKind a_familySide a_sightings a_notes a_marks s_flitchCount s_familyCount s_hung s_day s_familyCell s_familyWill s_past_width s_past_limit s_past_size_2 s_past_numbers_6) := hD
    refine lv_aload_n hx hb dX4_remember_38 rfl (lv_at hl 1 rfl) ?_
    refine va_get (D := D) (ci := 3) (v := .ref a_past) (C := RX4) (T := TX4) (N := 15) hx hb hts in_X4 hown hK hP 0 rfl rfl 7 (by decide) fl_38 (fun _ h9 => h9) rfl dX4_remember_39 ?_
    refine lv_iload_n hx hb dX4_remember_42 rfl (lv_at hl 0 rfl) ?_
    refine lv_iconst (v := 1) hx hb dX4_remember_43 (by decide) ?_
    refine lv_aload_n hx hb dX4_remember_44 rfl (lv_at hl 1 rfl) ?_
    refine va_get (D := D) (ci := 3) (v := .int s_hung) (C := RX4) (T := TX4) (N := 15) hx hb hts in_X4 hown hK hP 0 rfl rfl 13 (by decide) fl_58 (fun _ h9 => h9) rfl dX4_remember_45 ?_
    refine st_callV (WR := [0, 1, 2].filterMap (fun i => (Wd_Pa_remember cy a_this a_familyCell a_familyWill a_past a_past_numbers a_flitchKind a_flitchCell a_flitchStrength a_familyKind a_familySide a_sightings a_notes a_marks s_flitchCount s_familyCount s_hung s_day s_familyCell s_familyWill s_past_width s_past_limit s_past_size_2 s_past_numbers_6)[i]?)) (WSn := fun u => (Wd_Pa_remember cy a_this a_familyCell a_familyWill a_past a_past_numbers a_flitchKind a_flitchCell a_flitchStrength a_familyKind a_familySide a_sightings a_notes a_marks s_flitchCount s_familyCount s_hung s_day s_familyCell s_familyWill s_past_width s_past_limit s_past_size_2 u)) (st_runV (n := 3) (As := [.int s_past_size_2, .int 1, .int s_hung]) (rest := []) (q0 := 0) F ((co_Rw_put l D cy a_past a_past_numbers 128 s_past_width s_past_limit s_past_size_2 s_past_numbers_6 s_past_size_2 1 s_hung _ h) _) rfl gX4_remember_X6_put rfl (by decide +kernel) rfl hKK hP hD [3, 4] rfl rfl rfl rfl rfl hl.1 rfl (Nat.le_of_ble_eq_true rfl) dX4_remember_48) hP hD hS hA [3, 4] [0, 1, 2] [0, 1, 2, 3, 4] rfl rfl rfl (fun _ => rfl) (fun u H locs h hP hD hS => ?_)
    obtain ⟨s_past_numbers_8, rfl⟩ : ∃ z, z = u := ⟨_, rfl⟩
    have hP : va_P D vwCl (Wd_Pa_remember cy a_this a_familyCell a_familyWill a_past a_past_numbers a_flitchKind a_flitchCell a_flitchStrength a_familyKind a_familySide a_sightings a_notes a_marks s_flitchCount s_familyCount s_hung s_day s_familyCell s_familyWill s_past_width s_past_limit s_past_size_2 s_past_numbers_8) H := hP
    have hD : va_D A (Wd_Pa_remember cy a_this a_familyCell a_familyWill a_past a_past_numbers a_flitchKind a_flitchCell a_flitchStrength a_familyKind a_familySide a_sightings a_notes a_marks s_flitchCount s_familyCount s_hung s_day s_familyCell s_familyWill s_past_width s_past_limit s_past_size_2 s_past_numbers_8) := hD
    refine lv_iconst (v := 0) hx hb dX4_remember_51 (by decide) ?_
    refine lv_istore_n (lv' := [(2, .int 0), (1, .int s_past_size_2), (0, .ref a_this)]) hx hb dX4_remember_52 rfl hl (by decide) rfl (fun ls hl => ?_)
    obtain ⟨T53_10, hz53_10, hs53_10, n53_10, h⟩ := lpw2_use h
    have kT53_10 : ∀ (n : Nat) (x2_9 : Int32) (s_past_numbers_10 : Nat → Int32) (H : Heap) (locs : List Loc) (ls : Array Slot), T53_10 n x2_9 s_past_numbers_10 → va_P D vwCl (Wd_Pa_remember cy a_this a_familyCell a_familyWill a_past a_past_numbers a_flitchKind a_flitchCell a_flitchStrength a_familyKind a_familySide a_sightings a_notes a_marks s_flitchCount s_familyCount s_hung s_day s_familyCell s_familyWill s_past_width s_past_limit s_past_size_2 s_past_numbers_10) H → va_D A (Wd_Pa_remember cy a_this a_familyCell a_familyWill a_past a_past_numbers a_flitchKind a_flitchCell a_flitchStrength a_familyKind a_familySide a_sightings a_notes a_marks s_flitchCount s_familyCount s_hung s_day s_familyCell s_familyWill s_past_width s_past_limit s_past_size_2 s_past_numbers_10) → va_S A s.heap H locs → lv_has ls 3 [(0, .ref a_this), (1, .int s_past_size_2), (2, .int x2_9)] → W p l e rm_Pa_remember s m args below meth c H locs 0 0 QQ (F0 m 53 ls []) := by
      intro n
      induction n with
      | zero => intro x2_9 s_past_numbers_10 H locs ls h; exact absurd h (hz53_10 _ _)
      | succ n ih53_10 =>
        intro x2_9 s_past_numbers_10 H locs ls h hP hD hS hl
        have h := hs53_10 _ _ _ h
        refine lv_iload_n hx hb dX4_remember_53 rfl (lv_at hl 2 rfl) ?_
        refine lv_bipush (v := 7) hx hb dX4_remember_54 (by decide) ?_
        refine lv_icmp_ge (tgt := 100) hx hb dX4_remember_56 (by decide) (fun c_12 => ?_) (fun c_12 => ?_)
        · have h := h.1 c_12
          refine lv_aload_n hx hb dX4_remember_100 rfl (lv_at hl 0 rfl) ?_
          refine va_get (D := D) (ci := 3) (v := .ref a_past) (C := RX4) (T := TX4) (N := 15) hx hb hts in_X4 hown hK hP 0 rfl rfl 7 (by decide) fl_38 (fun _ h9 => h9) rfl dX4_remember_101 ?_
          refine lv_dup hx hb dX4_remember_104 rfl ?_
          refine va_get (D := D) (ci := 5) (v := .int s_past_size_2) (C := RX6) (T := TX6) (N := 4) hx hb hts in_X6 hown hK hP 3 rfl rfl 3 (by decide) fl_64 (fun _ h9 => h9) rfl dX4_remember_105 ?_
          refine lv_iconst (v := 1) hx hb dX4_remember_108 (by decide) ?_
          refine lv_iadd hx hb dX4_remember_109 ?_
          refine lv_topi (fun s_past_size_13 es_past_size_13 => ?_)
          have h := h s_past_size_13 es_past_size_13
          refine va_put (D := D) (ci := 5) (v := .int s_past_size_13) (ty := .int) (C := RX6) (T := TX6) (N := 4) hx hb hts in_X6 tyX6 tyX6_ok nmX6 hown hK hP hD hS 3 rfl rfl 3 (by decide) fl_64 (fun _ h9 => h9) rfl (tyX6_ok 3 (by decide)) rfl rfl (Nat.le_of_ble_eq_true rfl) dX4_remember_110 (fun H locs hP hD hS => ?_)
          have hP : va_P D vwCl (Wd_Pa_remember cy a_this a_familyCell a_familyWill a_past a_past_numbers a_flitchKind a_flitchCell a_flitchStrength a_familyKind a_familySide a_sightings a_notes a_marks s_flitchCount s_familyCount s_hung s_day s_familyCell s_familyWill s_past_width s_past_limit s_past_size_13 s_past_numbers_10) H := hP
          have hD : va_D A (Wd_Pa_remember cy a_this a_familyCell a_familyWill a_past a_past_numbers a_flitchKind a_flitchCell a_flitchStrength a_familyKind a_familySide a_sightings a_notes a_marks s_flitchCount s_familyCount s_hung s_day s_familyCell s_familyWill s_past_width s_past_limit s_past_size_13 s_past_numbers_10) := hD
          exact hret (s_past_size_13, s_past_numbers_10) _ _ _ _ h hP hD hS dX4_remember_113
        · have h := h.2 c_12
          refine lv_aload_n hx hb dX4_remember_59 rfl (lv_at hl 0 rfl) ?_
          refine va_get (D := D) (ci := 3) (v := .ref a_past) (C := RX4) (T := TX4) (N := 15) hx hb hts in_X4 hown hK hP 0 rfl rfl 7 (by decide) fl_38 (fun _ h9 => h9) rfl dX4_remember_60 ?_
          refine lv_iload_n hx hb dX4_remember_63 rfl (lv_at hl 1 rfl) ?_
          refine lv_iconst (v := 2) hx hb dX4_remember_64 (by decide) ?_
          refine lv_iload_n hx hb dX4_remember_65 rfl (lv_at hl 2 rfl) ?_
          refine lv_iadd hx hb dX4_remember_66 ?_
          refine lv_aload_n hx hb dX4_remember_67 rfl (lv_at hl 0 rfl) ?_
          refine va_get (D := D) (ci := 3) (v := .ref a_familyWill) (C := RX4) (T := TX4) (N := 15) hx hb hts in_X4 hown hK hP 0 rfl rfl 6 (by decide) fl_30 (fun _ h9 => h9) rfl dX4_remember_68 ?_
          refine lv_iload_n hx hb dX4_remember_71 rfl (lv_at hl 2 rfl) ?_
          obtain ⟨hi_14, h⟩ := h
          refine va_iald hx hb hK hP 2 1 rfl rfl hi_14 dX4_remember_72 ?_
          refine st_callV (WR := [0, 1, 2].filterMap (fun i => (Wd_Pa_remember cy a_this a_familyCell a_familyWill a_past a_past_numbers a_flitchKind a_flitchCell a_flitchStrength a_familyKind a_familySide a_sightings a_notes a_marks s_flitchCount s_familyCount s_hung s_day s_familyCell s_familyWill s_past_width s_past_limit s_past_size_2 s_past_numbers_10)[i]?)) (WSn := fun u => (Wd_Pa_remember cy a_this a_familyCell a_familyWill a_past a_past_numbers a_flitchKind a_flitchCell a_flitchStrength a_familyKind a_familySide a_sightings a_notes a_marks s_flitchCount s_familyCount s_hung s_day s_familyCell s_familyWill s_past_width s_past_limit s_past_size_2 u)) (st_runV (n := 3) (As := [.int s_past_size_2, .int (2 + x2_9), .int (s_familyWill (Int32.toNatClampNeg x2_9))]) (rest := []) (q0 := 0) F ((co_Rw_put l D cy a_past a_past_numbers 128 s_past_width s_past_limit s_past_size_2 s_past_numbers_10 s_past_size_2 (2 + x2_9) (s_familyWill (Int32.toNatClampNeg x2_9)) _ h) _) rfl gX4_remember_X6_put rfl (by decide +kernel) rfl hKK hP hD [3, 4] rfl rfl rfl rfl rfl hl.1 rfl (Nat.le_of_ble_eq_true rfl) dX4_remember_73) hP hD hS hA [3, 4] [0, 1, 2] [0, 1, 2, 3, 4] rfl rfl rfl (fun _ => rfl) (fun u H locs h hP hD hS => ?_)
          obtain ⟨s_past_numbers_16, rfl⟩ : ∃ z, z = u := ⟨_, rfl⟩
          have hP : va_P D vwCl (Wd_Pa_remember cy a_this a_familyCell a_familyWill a_past a_past_numbers a_flitchKind a_flitchCell a_flitchStrength a_familyKind a_familySide a_sightings a_notes a_marks s_flitchCount s_familyCount s_hung s_day s_familyCell s_familyWill s_past_width s_past_limit s_past_size_2 s_past_numbers_16) H := hP
          have hD : va_D A (Wd_Pa_remember cy a_this a_familyCell a_familyWill a_past a_past_numbers a_flitchKind a_flitchCell a_flitchStrength a_familyKind a_familySide a_sightings a_notes a_marks s_flitchCount s_familyCount s_hung s_day s_familyCell s_familyWill s_past_width s_past_limit s_past_size_2 s_past_numbers_16) := hD
          refine lv_aload_n hx hb dX4_remember_76 rfl (lv_at hl 0 rfl) ?_
          refine va_get (D := D) (ci := 3) (v := .ref a_past) (C := RX4) (T := TX4) (N := 15) hx hb hts in_X4 hown hK hP 0 rfl rfl 7 (by decide) fl_38 (fun _ h9 => h9) rfl dX4_remember_77 ?_
          refine lv_iload_n hx hb dX4_remember_80 rfl (lv_at hl 1 rfl) ?_
          refine lv_bipush (v := 9) hx hb dX4_remember_81 (by decide) ?_
          refine lv_iload_n hx hb dX4_remember_83 rfl (lv_at hl 2 rfl) ?_
          refine lv_iadd hx hb dX4_remember_84 ?_
          refine lv_aload_n hx hb dX4_remember_85 rfl (lv_at hl 0 rfl) ?_
          refine va_get (D := D) (ci := 3) (v := .ref a_familyCell) (C := RX4) (T := TX4) (N := 15) hx hb hts in_X4 hown hK hP 0 rfl rfl 5 (by decide) fl_27 (fun _ h9 => h9) rfl dX4_remember_86 ?_
          refine lv_iload_n hx hb dX4_remember_89 rfl (lv_at hl 2 rfl) ?_
          obtain ⟨hi_17, h⟩ := h
          refine va_iald hx hb hK hP 1 1 rfl rfl hi_17 dX4_remember_90 ?_
          refine st_callV (WR := [0, 1, 2].filterMap (fun i => (Wd_Pa_remember cy a_this a_familyCell a_familyWill a_past a_past_numbers a_flitchKind a_flitchCell a_flitchStrength a_familyKind a_familySide a_sightings a_notes a_marks s_flitchCount s_familyCount s_hung s_day s_familyCell s_familyWill s_past_width s_past_limit s_past_size_2 s_past_numbers_16)[i]?)) (WSn := fun u => (Wd_Pa_remember cy a_this a_familyCell a_familyWill a_past a_past_numbers a_flitchKind a_flitchCell a_flitchStrength a_familyKind a_familySide a_sightings a_notes a_marks s_flitchCount s_familyCount s_hung s_day s_familyCell s_familyWill s_past_width s_past_limit s_past_size_2 u)) (st_runV (n := 3) (As := [.int s_past_size_2, .int (9 + x2_9), .int (s_familyCell (Int32.toNatClampNeg x2_9))]) (rest := []) (q0 := 0) F ((co_Rw_put l D cy a_past a_past_numbers 128 s_past_width s_past_limit s_past_size_2 s_past_numbers_16 s_past_size_2 (9 + x2_9) (s_familyCell (Int32.toNatClampNeg x2_9)) _ h) _) rfl gX4_remember_X6_put rfl (by decide +kernel) rfl hKK hP hD [3, 4] rfl rfl rfl rfl rfl hl.1 rfl (Nat.le_of_ble_eq_true rfl) dX4_remember_91) hP hD hS hA [3, 4] [0, 1, 2] [0, 1, 2, 3, 4] rfl rfl rfl (fun _ => rfl) (fun u H locs h hP hD hS => ?_)
          obtain ⟨s_past_numbers_19, rfl⟩ : ∃ z, z = u := ⟨_, rfl⟩
          have hP : va_P D vwCl (Wd_Pa_remember cy a_this a_familyCell a_familyWill a_past a_past_numbers a_flitchKind a_flitchCell a_flitchStrength a_familyKind a_familySide a_sightings a_notes a_marks s_flitchCount s_familyCount s_hung s_day s_familyCell s_familyWill s_past_width s_past_limit s_past_size_2 s_past_numbers_19) H := hP
          have hD : va_D A (Wd_Pa_remember cy a_this a_familyCell a_familyWill a_past a_past_numbers a_flitchKind a_flitchCell a_flitchStrength a_familyKind a_familySide a_sightings a_notes a_marks s_flitchCount s_familyCount s_hung s_day s_familyCell s_familyWill s_past_width s_past_limit s_past_size_2 s_past_numbers_19) := hD
          obtain ⟨x2_20, ex2_20⟩ : ∃ y : Int32, y = x2_9 + 1 := ⟨_, rfl⟩
          have h := h x2_20 ex2_20
          refine lv_iinc (v := x2_20) (lv' := [(2, .int x2_20), (0, .ref a_this), (1, .int s_past_size_2)]) hx hb dX4_remember_94 hl (k := 2) rfl (by rw [ex2_20]; rfl) (by decide) rfl (fun ls hl => ?_)
          refine lv_goto (tgt := 53) hx hb dX4_remember_97 (by decide) ?_
          exact ih53_10 _ _ _ _ _ h hP hD hS (lv_sub hl [1, 2, 0] rfl)
    exact kT53_10 n53_10 _ _ _ _ _ h hP hD hS (lv_sub hl [2, 1, 0] rfl)
  refine lv_if_eq (tgt := 17) hx hb dX4_remember_7 (by decide) (fun c_21 => ?_) (fun c_21 => ?_)
  · have h := h.1 c_21
    exact kJ17_3 _ _ _ _ _ h hP hD hS (lv_sub hl [0] rfl)
  · have h := h.2 c_21
    refine lv_aload_n hx hb dX4_remember_10 rfl (lv_at hl 0 rfl) ?_
    refine va_get (D := D) (ci := 3) (v := .ref a_past) (C := RX4) (T := TX4) (N := 15) hx hb hts in_X4 hown hK hP 0 rfl rfl 7 (by decide) fl_38 (fun _ h9 => h9) rfl dX4_remember_11 ?_
    refine st_callV (WR := [0, 1, 2].filterMap (fun i => (Wd_Pa_remember cy a_this a_familyCell a_familyWill a_past a_past_numbers a_flitchKind a_flitchCell a_flitchStrength a_familyKind a_familySide a_sightings a_notes a_marks s_flitchCount s_familyCount s_hung s_day s_familyCell s_familyWill s_past_width s_past_limit s_past_size s_past_numbers)[i]?)) (WSn := fun u => (Wd_Pa_remember cy a_this a_familyCell a_familyWill a_past a_past_numbers a_flitchKind a_flitchCell a_flitchStrength a_familyKind a_familySide a_sightings a_notes a_marks s_flitchCount s_familyCount s_hung s_day s_familyCell s_familyWill s_past_width s_past_limit u.1 u.2)) (st_runV (n := 0) (As := []) (rest := []) (q0 := 0) F ((co_Rw_dropFirst l D cy a_past a_past_numbers 128 s_past_width s_past_limit s_past_size s_past_numbers _ h) _) rfl gX4_remember_X6_dropFirst rfl (by decide +kernel) rfl hKK hP hD [3, 4] rfl rfl rfl rfl rfl hl.1 rfl (Nat.le_of_ble_eq_true rfl) dX4_remember_14) hP hD hS hA [3, 4] [0, 1, 2] [0, 1, 2, 3, 4] rfl rfl rfl (fun _ => rfl) (fun u H locs h hP hD hS => ?_)
    obtain ⟨s_past_size_23, s_past_numbers_24⟩ := u
    dsimp only at h hP hD
    have hP : va_P D vwCl (Wd_Pa_remember cy a_this a_familyCell a_familyWill a_past a_past_numbers a_flitchKind a_flitchCell a_flitchStrength a_familyKind a_familySide a_sightings a_notes a_marks s_flitchCount s_familyCount s_hung s_day s_familyCell s_familyWill s_past_width s_past_limit s_past_size_23 s_past_numbers_24) H := hP
    have hD : va_D A (Wd_Pa_remember cy a_this a_familyCell a_familyWill a_past a_past_numbers a_flitchKind a_flitchCell a_flitchStrength a_familyKind a_familySide a_sightings a_notes a_marks s_flitchCount s_familyCount s_hung s_day s_familyCell s_familyWill s_past_width s_past_limit s_past_size_23 s_past_numbers_24) := hD
    exact kJ17_3 _ _ _ _ _ h hP hD hS (lv_sub hl [0] rfl)
abbrev Wd_Pa_goBack (cy : ClassId × ClassId × ClassId × ClassId) (a_this a_familyCell a_familyWill a_past a_past_numbers a_flitchKind a_flitchCell a_flitchStrength a_familyKind a_familySide a_sightings a_notes a_marks : Nat) (s_flitchCount : Int32) (s_familyCount : Int32) (s_hung : Int32) (s_day : Int32) (s_familyCell : Nat → Int32) (s_familyWill : Nat → Int32) (s_past_width : Int32) (s_past_limit : Int32) (s_past_size : Int32) (s_past_numbers : Nat → Int32) : va_W := [(a_this, .inr (3, [.ref a_flitchKind, .ref a_flitchCell, .ref a_flitchStrength, .ref a_familyKind, .ref a_familySide, .ref a_familyCell, .ref a_familyWill, .ref a_past, .ref a_sightings, .ref a_notes, .ref a_marks, .int s_flitchCount, .int s_familyCount, .int s_hung, .int s_day])), (a_familyCell, .inl (cy.2.1, 7, .inl s_familyCell)), (a_familyWill, .inl (cy.2.1, 7, .inl s_familyWill)), (a_past, .inr (5, [.int s_past_width, .int s_past_limit, .ref a_past_numbers, .int s_past_size])), (a_past_numbers, .inl (cy.2.1, 128, .inl s_past_numbers))]
abbrev rm_Pa_goBack : Room := { frames := 1, cells := 0, slots := 0, locals := 22 }
def wp_Pa_goBack (s_hung : Int32) (s_day : Int32) (s_familyCell : Nat → Int32) (s_familyWill : Nat → Int32) (s_past_width : Int32) (s_past_size : Int32) (s_past_numbers : Nat → Int32) (Q : Int32 → Int32 → Int32 → (Nat → Int32) → (Nat → Int32) → Int32 → Prop) : Prop := ((1 ≤ s_past_size → ∀ s_past_size_2 : Int32, s_past_size_2 = (s_past_size - 1) → wp_Rw_at s_past_size_2 0 128 s_past_width s_past_numbers (fun (r_3 : Int32) => wp_Rw_at s_past_size_2 1 128 s_past_width s_past_numbers (fun (r_4 : Int32) => ∃ n : Nat, lpw3 (fun (B62 : Int32 → (Nat → Int32) → (Nat → Int32) → Prop) (x2_5 : Int32) (s_familyCell_6 : Nat → Int32) (s_familyWill_7 : Nat → Int32) => ((7 ≤ x2_5 → Q 1 r_4 r_3 s_familyCell_6 s_familyWill_7 s_past_size_2) ∧ (¬ 7 ≤ x2_5 → wp_Rw_at s_past_size_2 (2 + x2_5) 128 s_past_width s_past_numbers (fun (r_10 : Int32) => vp_in x2_5 7 ∧ ∀ s_familyWill_12 : Nat → Int32, s_familyWill_12 = upd s_familyWill_7 (Int32.toNatClampNeg x2_5) r_10 → wp_Rw_at s_past_size_2 (9 + x2_5) 128 s_past_width s_past_numbers (fun (r_13 : Int32) => vp_in x2_5 7 ∧ ∀ s_familyCell_15 : Nat → Int32, s_familyCell_15 = upd s_familyCell_6 (Int32.toNatClampNeg x2_5) r_13 → ∀ x2_16 : Int32, x2_16 = x2_5 + 1 → B62 x2_16 s_familyCell_15 s_familyWill_12))))) n 0 s_familyCell s_familyWill))) ∧ (¬ 1 ≤ s_past_size → Q 0 s_hung s_day s_familyCell s_familyWill s_past_size))
set_option maxHeartbeats 4000000 in
set_option maxRecDepth 100000 in
theorem co_Pa_goBack (l : Launch) (D : va_G) (cy : ClassId × ClassId × ClassId × ClassId) (a_this a_familyCell a_familyWill a_past a_past_numbers a_flitchKind a_flitchCell a_flitchStrength a_familyKind a_familySide a_sightings a_notes a_marks : Nat) (s_flitchCount : Int32) (s_familyCount : Int32) (s_hung : Int32) (s_day : Int32) (s_familyCell : Nat → Int32) (s_familyWill : Nat → Int32) (s_past_width : Int32) (s_past_limit : Int32) (s_past_size : Int32) (s_past_numbers : Nat → Int32) (Q : Int32 → Int32 → Int32 → (Nat → Int32) → (Nat → Int32) → Int32 → Prop) (h : wp_Pa_goBack s_hung s_day s_familyCell s_familyWill s_past_width s_past_size s_past_numbers Q) : CoI l yX4_goBack wsX4_goBack rm_Pa_goBack D cy [.ref a_this] (Wd_Pa_goBack cy a_this a_familyCell a_familyWill a_past a_past_numbers a_flitchKind a_flitchCell a_flitchStrength a_familyKind a_familySide a_sightings a_notes a_marks s_flitchCount s_familyCount s_hung s_day s_familyCell s_familyWill s_past_width s_past_limit s_past_size s_past_numbers) (fun u : Int32 × Int32 × (Nat → Int32) × (Nat → Int32) × Int32 => (Wd_Pa_goBack cy a_this a_familyCell a_familyWill a_past a_past_numbers a_flitchKind a_flitchCell a_flitchStrength a_familyKind a_familySide a_sightings a_notes a_marks s_flitchCount s_familyCount u.1 u.2.1 u.2.2.1 u.2.2.2.1 s_past_width s_past_limit u.2.2.2.2 s_past_numbers)) (fun (r : Int32) (u : Int32 × Int32 × (Nat → Int32) × (Nat → Int32) × Int32) => Q r u.1 u.2.1 u.2.2.1 u.2.2.2.1 u.2.2.2.2) := by
  refine st_metZ (cc := cX4_goBack) (maxL := 3) RX4 (by decide) rfl rfl (Nat.le_of_ble_eq_true rfl) ?_
  intro p e s m args below meth c A QQ ls F hA hKK hP hD hS hl hret
  have hK := hKK.1
  have hnest := hKK.2.1
  have hx := F.1
  have hb := F.2.1
  have hown := F.2.2.2.1
  have hts := F.2.2.2.2
  have in_X4 : ∀ w ∈ u_ws RX4 TX4 15, w ∈ wsX4_goBack := (fun _ h => List.mem_cons_of_mem _ (List.mem_append_left _ (List.mem_append_right _ h)))
  have in_X6 : ∀ w ∈ u_ws RX6 TX6 4, w ∈ wsX4_goBack := (fun _ h => List.mem_cons_of_mem _ (List.mem_append_right _ h))
  have fl_27 := (hts (.fieldLink RX4 27 "RasherCase$Parish" "familyCell" "[I") (List.mem_of_getElem? (i := 6) rfl))
  have fl_30 := (hts (.fieldLink RX4 30 "RasherCase$Parish" "familyWill" "[I") (List.mem_of_getElem? (i := 5) rfl))
  have fl_38 := (hts (.fieldLink RX4 38 "RasherCase$Parish" "past" "LRasherCase$Rows;") (List.mem_of_getElem? (i := 1) rfl))
  have fl_58 := (hts (.fieldLink RX4 58 "RasherCase$Parish" "hung" "I") (List.mem_of_getElem? (i := 4) rfl))
  have fl_61 := (hts (.fieldLink RX4 61 "RasherCase$Parish" "day" "I") (List.mem_of_getElem? (i := 3) rfl))
  have fl_64 := (hts (.fieldLink RX4 64 "RasherCase$Rows" "size" "I") (List.mem_of_getElem? (i := 2) rfl))
  have hl : lv_has ls 3 [(0, .ref a_this)] := hl
  unfold wp_Pa_goBack at h
  refine lv_aload_n hx hb dX4_goBack_0 rfl (lv_at hl 0 rfl) ?_
  refine va_get (D := D) (ci := 3) (v := .ref a_past) (C := RX4) (T := TX4) (N := 15) hx hb hts in_X4 hown hK hP 0 rfl rfl 7 (by decide) fl_38 (fun _ h9 => h9) rfl dX4_goBack_1 ?_
  refine va_get (D := D) (ci := 5) (v := .int s_past_size) (C := RX6) (T := TX6) (N := 4) hx hb hts in_X6 hown hK hP 3 rfl rfl 3 (by decide) fl_64 (fun _ h9 => h9) rfl dX4_goBack_4 ?_
  refine lv_iconst (v := 1) hx hb dX4_goBack_7 (by decide) ?_
  refine lv_icmp_ge (tgt := 13) hx hb dX4_goBack_8 (by decide) (fun c_1 => ?_) (fun c_1 => ?_)
  · have h := h.1 c_1
    refine lv_aload_n hx hb dX4_goBack_13 rfl (lv_at hl 0 rfl) ?_
    refine va_get (D := D) (ci := 3) (v := .ref a_past) (C := RX4) (T := TX4) (N := 15) hx hb hts in_X4 hown hK hP 0 rfl rfl 7 (by decide) fl_38 (fun _ h9 => h9) rfl dX4_goBack_14 ?_
    refine lv_dup hx hb dX4_goBack_17 rfl ?_
    refine va_get (D := D) (ci := 5) (v := .int s_past_size) (C := RX6) (T := TX6) (N := 4) hx hb hts in_X6 hown hK hP 3 rfl rfl 3 (by decide) fl_64 (fun _ h9 => h9) rfl dX4_goBack_18 ?_
    refine lv_iconst (v := 1) hx hb dX4_goBack_21 (by decide) ?_
    refine lv_isub hx hb dX4_goBack_22 ?_
    refine lv_topi (fun s_past_size_2 es_past_size_2 => ?_)
    have h := h s_past_size_2 es_past_size_2
    refine va_put (D := D) (ci := 5) (v := .int s_past_size_2) (ty := .int) (C := RX6) (T := TX6) (N := 4) hx hb hts in_X6 tyX6 tyX6_ok nmX6 hown hK hP hD hS 3 rfl rfl 3 (by decide) fl_64 (fun _ h9 => h9) rfl (tyX6_ok 3 (by decide)) rfl rfl (Nat.le_of_ble_eq_true rfl) dX4_goBack_23 (fun H locs hP hD hS => ?_)
    have hP : va_P D vwCl (Wd_Pa_goBack cy a_this a_familyCell a_familyWill a_past a_past_numbers a_flitchKind a_flitchCell a_flitchStrength a_familyKind a_familySide a_sightings a_notes a_marks s_flitchCount s_familyCount s_hung s_day s_familyCell s_familyWill s_past_width s_past_limit s_past_size_2 s_past_numbers) H := hP
    have hD : va_D A (Wd_Pa_goBack cy a_this a_familyCell a_familyWill a_past a_past_numbers a_flitchKind a_flitchCell a_flitchStrength a_familyKind a_familySide a_sightings a_notes a_marks s_flitchCount s_familyCount s_hung s_day s_familyCell s_familyWill s_past_width s_past_limit s_past_size_2 s_past_numbers) := hD
    refine lv_aload_n hx hb dX4_goBack_26 rfl (lv_at hl 0 rfl) ?_
    refine va_get (D := D) (ci := 3) (v := .ref a_past) (C := RX4) (T := TX4) (N := 15) hx hb hts in_X4 hown hK hP 0 rfl rfl 7 (by decide) fl_38 (fun _ h9 => h9) rfl dX4_goBack_27 ?_
    refine va_get (D := D) (ci := 5) (v := .int s_past_size_2) (C := RX6) (T := TX6) (N := 4) hx hb hts in_X6 hown hK hP 3 rfl rfl 3 (by decide) fl_64 (fun _ h9 => h9) rfl dX4_goBack_30 ?_
    refine lv_istore_n (lv' := [(1, .int s_past_size_2), (0, .ref a_this)]) hx hb dX4_goBack_33 rfl hl (by decide) rfl (fun ls hl => ?_)
    refine lv_aload_n hx hb dX4_goBack_34 rfl (lv_at hl 1 rfl) ?_
    refine lv_aload_n hx hb dX4_goBack_35 rfl (lv_at hl 1 rfl) ?_
    refine va_get (D := D) (ci := 3) (v := .ref a_past) (C := RX4) (T := TX4) (N := 15) hx hb hts in_X4 hown hK hP 0 rfl rfl 7 (by decide) fl_38 (fun _ h9 => h9) rfl dX4_goBack_36 ?_
    refine lv_iload_n hx hb dX4_goBack_39 rfl (lv_at hl 0 rfl) ?_
    refine lv_iconst (v := 0) hx hb dX4_goBack_40 (by decide) ?_
    refine st_callRI (st_runVR (n := 2) (As := [.int s_past_size_2, .int 0]) (rest := [.ref a_this]) (q0 := 0) F (co_Rw_at l D cy a_past a_past_numbers 128 s_past_width s_past_limit s_past_size_2 s_past_numbers s_past_size_2 0 _ h) gX4_goBack_X6_at rfl (by decide +kernel) rfl hKK hP [3, 4] rfl rfl rfl rfl hl.1 rfl (Nat.le_of_ble_eq_true rfl) dX4_goBack_41) (fun r_3 h => ?_)
    refine va_put (D := D) (ci := 3) (v := .int r_3) (ty := .int) (C := RX4) (T := TX4) (N := 15) hx hb hts in_X4 tyX4 tyX4_ok nmX4 hown hK hP hD hS 0 rfl rfl 14 (by decide) fl_61 (fun _ h9 => h9) rfl (tyX4_ok 14 (by decide)) rfl rfl (Nat.le_of_ble_eq_true rfl) dX4_goBack_44 (fun H locs hP hD hS => ?_)
    have hP : va_P D vwCl (Wd_Pa_goBack cy a_this a_familyCell a_familyWill a_past a_past_numbers a_flitchKind a_flitchCell a_flitchStrength a_familyKind a_familySide a_sightings a_notes a_marks s_flitchCount s_familyCount s_hung r_3 s_familyCell s_familyWill s_past_width s_past_limit s_past_size_2 s_past_numbers) H := hP
    have hD : va_D A (Wd_Pa_goBack cy a_this a_familyCell a_familyWill a_past a_past_numbers a_flitchKind a_flitchCell a_flitchStrength a_familyKind a_familySide a_sightings a_notes a_marks s_flitchCount s_familyCount s_hung r_3 s_familyCell s_familyWill s_past_width s_past_limit s_past_size_2 s_past_numbers) := hD
    refine lv_aload_n hx hb dX4_goBack_47 rfl (lv_at hl 1 rfl) ?_
    refine lv_aload_n hx hb dX4_goBack_48 rfl (lv_at hl 1 rfl) ?_
    refine va_get (D := D) (ci := 3) (v := .ref a_past) (C := RX4) (T := TX4) (N := 15) hx hb hts in_X4 hown hK hP 0 rfl rfl 7 (by decide) fl_38 (fun _ h9 => h9) rfl dX4_goBack_49 ?_
    refine lv_iload_n hx hb dX4_goBack_52 rfl (lv_at hl 0 rfl) ?_
    refine lv_iconst (v := 1) hx hb dX4_goBack_53 (by decide) ?_
    refine st_callRI (st_runVR (n := 2) (As := [.int s_past_size_2, .int 1]) (rest := [.ref a_this]) (q0 := 0) F (co_Rw_at l D cy a_past a_past_numbers 128 s_past_width s_past_limit s_past_size_2 s_past_numbers s_past_size_2 1 _ h) gX4_goBack_X6_at rfl (by decide +kernel) rfl hKK hP [3, 4] rfl rfl rfl rfl hl.1 rfl (Nat.le_of_ble_eq_true rfl) dX4_goBack_54) (fun r_4 h => ?_)
    refine va_put (D := D) (ci := 3) (v := .int r_4) (ty := .int) (C := RX4) (T := TX4) (N := 15) hx hb hts in_X4 tyX4 tyX4_ok nmX4 hown hK hP hD hS 0 rfl rfl 13 (by decide) fl_58 (fun _ h9 => h9) rfl (tyX4_ok 13 (by decide)) rfl rfl (Nat.le_of_ble_eq_true rfl) dX4_goBack_57 (fun H locs hP hD hS => ?_)
    have hP : va_P D vwCl (Wd_Pa_goBack cy a_this a_familyCell a_familyWill a_past a_past_numbers a_flitchKind a_flitchCell a_flitchStrength a_familyKind a_familySide a_sightings a_notes a_marks s_flitchCount s_familyCount r_4 r_3 s_familyCell s_familyWill s_past_width s_past_limit s_past_size_2 s_past_numbers) H := hP
    have hD : va_D A (Wd_Pa_goBack cy a_this a_familyCell a_familyWill a_past a_past_numbers a_flitchKind a_flitchCell a_flitchStrength a_familyKind a_familySide a_sightings a_notes a_marks s_flitchCount s_familyCount r_4 r_3 s_familyCell s_familyWill s_past_width s_past_limit s_past_size_2 s_past_numbers) := hD
    refine lv_iconst (v := 0) hx hb dX4_goBack_60 (by decide) ?_
    refine lv_istore_n (lv' := [(2, .int 0), (1, .int s_past_size_2), (0, .ref a_this)]) hx hb dX4_goBack_61 rfl hl (by decide) rfl (fun ls hl => ?_)
    obtain ⟨T62_7, hz62_7, hs62_7, n62_7, h⟩ := lpw3_use h
    have kT62_7 : ∀ (n : Nat) (x2_5 : Int32) (s_familyCell_6 : Nat → Int32) (s_familyWill_7 : Nat → Int32) (H : Heap) (locs : List Loc) (ls : Array Slot), T62_7 n x2_5 s_familyCell_6 s_familyWill_7 → va_P D vwCl (Wd_Pa_goBack cy a_this a_familyCell a_familyWill a_past a_past_numbers a_flitchKind a_flitchCell a_flitchStrength a_familyKind a_familySide a_sightings a_notes a_marks s_flitchCount s_familyCount r_4 r_3 s_familyCell_6 s_familyWill_7 s_past_width s_past_limit s_past_size_2 s_past_numbers) H → va_D A (Wd_Pa_goBack cy a_this a_familyCell a_familyWill a_past a_past_numbers a_flitchKind a_flitchCell a_flitchStrength a_familyKind a_familySide a_sightings a_notes a_marks s_flitchCount s_familyCount r_4 r_3 s_familyCell_6 s_familyWill_7 s_past_width s_past_limit s_past_size_2 s_past_numbers) → va_S A s.heap H locs → lv_has ls 3 [(0, .ref a_this), (1, .int s_past_size_2), (2, .int x2_5)] → W p l e rm_Pa_goBack s m args below meth c H locs 0 0 QQ (F0 m 62 ls []) := by
      intro n
      induction n with
      | zero => intro x2_5 s_familyCell_6 s_familyWill_7 H locs ls h; exact absurd h (hz62_7 _ _ _)
      | succ n ih62_7 =>
        intro x2_5 s_familyCell_6 s_familyWill_7 H locs ls h hP hD hS hl
        have h := hs62_7 _ _ _ _ h
        refine lv_iload_n hx hb dX4_goBack_62 rfl (lv_at hl 2 rfl) ?_
        refine lv_bipush (v := 7) hx hb dX4_goBack_63 (by decide) ?_
        refine lv_icmp_ge (tgt := 109) hx hb dX4_goBack_65 (by decide) (fun c_9 => ?_) (fun c_9 => ?_)
        · have h := h.1 c_9
          refine lv_iconst (v := 1) hx hb dX4_goBack_109 (by decide) ?_
          exact hret _ (r_4, r_3, s_familyCell_6, s_familyWill_7, s_past_size_2) _ _ _ _ bz1 h hP hD hS dX4_goBack_110
        · have h := h.2 c_9
          refine lv_aload_n hx hb dX4_goBack_68 rfl (lv_at hl 0 rfl) ?_
          refine va_get (D := D) (ci := 3) (v := .ref a_familyWill) (C := RX4) (T := TX4) (N := 15) hx hb hts in_X4 hown hK hP 0 rfl rfl 6 (by decide) fl_30 (fun _ h9 => h9) rfl dX4_goBack_69 ?_
          refine lv_iload_n hx hb dX4_goBack_72 rfl (lv_at hl 2 rfl) ?_
          refine lv_aload_n hx hb dX4_goBack_73 rfl (lv_at hl 0 rfl) ?_
          refine va_get (D := D) (ci := 3) (v := .ref a_past) (C := RX4) (T := TX4) (N := 15) hx hb hts in_X4 hown hK hP 0 rfl rfl 7 (by decide) fl_38 (fun _ h9 => h9) rfl dX4_goBack_74 ?_
          refine lv_iload_n hx hb dX4_goBack_77 rfl (lv_at hl 1 rfl) ?_
          refine lv_iconst (v := 2) hx hb dX4_goBack_78 (by decide) ?_
          refine lv_iload_n hx hb dX4_goBack_79 rfl (lv_at hl 2 rfl) ?_
          refine lv_iadd hx hb dX4_goBack_80 ?_
          refine st_callRI (st_runVR (n := 2) (As := [.int s_past_size_2, .int (2 + x2_5)]) (rest := [.int x2_5, .ref a_familyWill]) (q0 := 0) F (co_Rw_at l D cy a_past a_past_numbers 128 s_past_width s_past_limit s_past_size_2 s_past_numbers s_past_size_2 (2 + x2_5) _ h) gX4_goBack_X6_at rfl (by decide +kernel) rfl hKK hP [3, 4] rfl rfl rfl rfl hl.1 rfl (Nat.le_of_ble_eq_true rfl) dX4_goBack_81) (fun r_10 h => ?_)
          obtain ⟨hi_11, h⟩ := h
          refine va_iast hx hb hK hP hD hS 2 1 rfl rfl hi_11 dX4_goBack_84 (fun H locs hP hD hS => ?_)
          obtain ⟨s_familyWill_12, es_familyWill_12⟩ : ∃ f : Nat → Int32, f = upd s_familyWill_7 (Int32.toNatClampNeg x2_5) r_10 := ⟨_, rfl⟩
          have hP : va_P D vwCl (Wd_Pa_goBack cy a_this a_familyCell a_familyWill a_past a_past_numbers a_flitchKind a_flitchCell a_flitchStrength a_familyKind a_familySide a_sightings a_notes a_marks s_flitchCount s_familyCount r_4 r_3 s_familyCell_6 s_familyWill_12 s_past_width s_past_limit s_past_size_2 s_past_numbers) H := by rw [es_familyWill_12]; exact hP
          have hD : va_D A (Wd_Pa_goBack cy a_this a_familyCell a_familyWill a_past a_past_numbers a_flitchKind a_flitchCell a_flitchStrength a_familyKind a_familySide a_sightings a_notes a_marks s_flitchCount s_familyCount r_4 r_3 s_familyCell_6 s_familyWill_12 s_past_width s_past_limit s_past_size_2 s_past_numbers) := by rw [es_familyWill_12]; exact hD
          have h := h s_familyWill_12 es_familyWill_12
          refine lv_aload_n hx hb dX4_goBack_85 rfl (lv_at hl 0 rfl) ?_
          refine va_get (D := D) (ci := 3) (v := .ref a_familyCell) (C := RX4) (T := TX4) (N := 15) hx hb hts in_X4 hown hK hP 0 rfl rfl 5 (by decide) fl_27 (fun _ h9 => h9) rfl dX4_goBack_86 ?_
          refine lv_iload_n hx hb dX4_goBack_89 rfl (lv_at hl 2 rfl) ?_
          refine lv_aload_n hx hb dX4_goBack_90 rfl (lv_at hl 0 rfl) ?_
          refine va_get (D := D) (ci := 3) (v := .ref a_past) (C := RX4) (T := TX4) (N := 15) hx hb hts in_X4 hown hK hP 0 rfl rfl 7 (by decide) fl_38 (fun _ h9 => h9) rfl dX4_goBack_91 ?_
          refine lv_iload_n hx hb dX4_goBack_94 rfl (lv_at hl 1 rfl) ?_
          refine lv_bipush (v := 9) hx hb dX4_goBack_95 (by decide) ?_
          refine lv_iload_n hx hb dX4_goBack_97 rfl (lv_at hl 2 rfl) ?_
          refine lv_iadd hx hb dX4_goBack_98 ?_
          refine st_callRI (st_runVR (n := 2) (As := [.int s_past_size_2, .int (9 + x2_5)]) (rest := [.int x2_5, .ref a_familyCell]) (q0 := 0) F (co_Rw_at l D cy a_past a_past_numbers 128 s_past_width s_past_limit s_past_size_2 s_past_numbers s_past_size_2 (9 + x2_5) _ h) gX4_goBack_X6_at rfl (by decide +kernel) rfl hKK hP [3, 4] rfl rfl rfl rfl hl.1 rfl (Nat.le_of_ble_eq_true rfl) dX4_goBack_99) (fun r_13 h => ?_)
          obtain ⟨hi_14, h⟩ := h
          refine va_iast hx hb hK hP hD hS 1 1 rfl rfl hi_14 dX4_goBack_102 (fun H locs hP hD hS => ?_)
          obtain ⟨s_familyCell_15, es_familyCell_15⟩ : ∃ f : Nat → Int32, f = upd s_familyCell_6 (Int32.toNatClampNeg x2_5) r_13 := ⟨_, rfl⟩
          have hP : va_P D vwCl (Wd_Pa_goBack cy a_this a_familyCell a_familyWill a_past a_past_numbers a_flitchKind a_flitchCell a_flitchStrength a_familyKind a_familySide a_sightings a_notes a_marks s_flitchCount s_familyCount r_4 r_3 s_familyCell_15 s_familyWill_12 s_past_width s_past_limit s_past_size_2 s_past_numbers) H := by rw [es_familyCell_15]; exact hP
          have hD : va_D A (Wd_Pa_goBack cy a_this a_familyCell a_familyWill a_past a_past_numbers a_flitchKind a_flitchCell a_flitchStrength a_familyKind a_familySide a_sightings a_notes a_marks s_flitchCount s_familyCount r_4 r_3 s_familyCell_15 s_familyWill_12 s_past_width s_past_limit s_past_size_2 s_past_numbers) := by rw [es_familyCell_15]; exact hD
          have h := h s_familyCell_15 es_familyCell_15
          obtain ⟨x2_16, ex2_16⟩ : ∃ y : Int32, y = x2_5 + 1 := ⟨_, rfl⟩
          have h := h x2_16 ex2_16
          refine lv_iinc (v := x2_16) (lv' := [(2, .int x2_16), (0, .ref a_this), (1, .int s_past_size_2)]) hx hb dX4_goBack_103 hl (k := 2) rfl (by rw [ex2_16]; rfl) (by decide) rfl (fun ls hl => ?_)
          refine lv_goto (tgt := 62) hx hb dX4_goBack_106 (by decide) ?_
          exact ih62_7 _ _ _ _ _ _ h hP hD hS (lv_sub hl [1, 2, 0] rfl)
    exact kT62_7 n62_7 _ _ _ _ _ _ h hP hD hS (lv_sub hl [2, 1, 0] rfl)
  · have h := h.2 c_1
    refine lv_iconst (v := 0) hx hb dX4_goBack_11 (by decide) ?_
    exact hret _ (s_hung, s_day, s_familyCell, s_familyWill, s_past_size) _ _ _ _ bz0 h hP hD hS dX4_goBack_12
abbrev Wd_Pa_familyFact (cy : ClassId × ClassId × ClassId × ClassId) (a_this a_familyCell a_familyKind a_familySide a_familyWill a_flitchKind a_flitchCell a_flitchStrength a_past a_sightings a_notes a_marks : Nat) (s_flitchCount : Int32) (s_familyCount : Int32) (s_hung : Int32) (s_day : Int32) (s_familyCell : Nat → Int32) (s_familyKind : Nat → Int32) (s_familySide : Nat → Int32) (s_familyWill : Nat → Int32) : va_W := [(a_this, .inr (3, [.ref a_flitchKind, .ref a_flitchCell, .ref a_flitchStrength, .ref a_familyKind, .ref a_familySide, .ref a_familyCell, .ref a_familyWill, .ref a_past, .ref a_sightings, .ref a_notes, .ref a_marks, .int s_flitchCount, .int s_familyCount, .int s_hung, .int s_day])), (a_familyCell, .inl (cy.2.1, 7, .inl s_familyCell)), (a_familyKind, .inl (cy.2.1, 7, .inl s_familyKind)), (a_familySide, .inl (cy.2.1, 7, .inl s_familySide)), (a_familyWill, .inl (cy.2.1, 7, .inl s_familyWill))]
abbrev rm_Pa_familyFact : Room := { frames := 1, cells := 0, slots := 0, locals := 21 }
def wp_Pa_familyFact (x1 : Int32) (x2 : Int32) (s_familyCell : Nat → Int32) (s_familyKind : Nat → Int32) (s_familySide : Nat → Int32) (s_familyWill : Nat → Int32) (Q : Int32 → Prop) : Prop := ((x2 = 0 → vp_in x1 7 ∧ Q (s_familyKind (Int32.toNatClampNeg x1))) ∧ (¬ x2 = 0 → ((x2 = 1 → vp_in x1 7 ∧ Q (s_familySide (Int32.toNatClampNeg x1))) ∧ (¬ x2 = 1 → ((x2 = 2 → vp_in x1 7 ∧ Q (s_familyCell (Int32.toNatClampNeg x1))) ∧ (¬ x2 = 2 → ((x2 = 3 → vp_in x1 7 ∧ Q (s_familyWill (Int32.toNatClampNeg x1))) ∧ (¬ x2 = 3 → wp_Pa_hasLapsed x1 s_familyWill (fun (r_9 : Int32) => ((r_9 = 0 → Q 0) ∧ (¬ r_9 = 0 → Q 1)))))))))))
set_option maxHeartbeats 4000000 in
set_option maxRecDepth 100000 in
theorem co_Pa_familyFact (l : Launch) (D : va_G) (cy : ClassId × ClassId × ClassId × ClassId) (a_this a_familyCell a_familyKind a_familySide a_familyWill a_flitchKind a_flitchCell a_flitchStrength a_past a_sightings a_notes a_marks : Nat) (s_flitchCount : Int32) (s_familyCount : Int32) (s_hung : Int32) (s_day : Int32) (s_familyCell : Nat → Int32) (s_familyKind : Nat → Int32) (s_familySide : Nat → Int32) (s_familyWill : Nat → Int32) (x1 : Int32) (x2 : Int32) (Q : Int32 → Prop) (h : wp_Pa_familyFact x1 x2 s_familyCell s_familyKind s_familySide s_familyWill Q) : RoI l yX4_familyFact wsX4_familyFact rm_Pa_familyFact D cy [.ref a_this, .int x1, .int x2] (Wd_Pa_familyFact cy a_this a_familyCell a_familyKind a_familySide a_familyWill a_flitchKind a_flitchCell a_flitchStrength a_past a_sightings a_notes a_marks s_flitchCount s_familyCount s_hung s_day s_familyCell s_familyKind s_familySide s_familyWill) Q := by
  refine st_metRI (cc := cX4_familyFact) (maxL := 3) RX4 (by decide) rfl rfl (Nat.le_of_ble_eq_true rfl) ?_
  intro p e s m args below meth c QQ ls F hKK hP hl hret
  have hK := hKK.1
  have hnest := hKK.2.1
  have hx := F.1
  have hb := F.2.1
  have hown := F.2.2.2.1
  have hts := F.2.2.2.2
  have in_X4 : ∀ w ∈ u_ws RX4 TX4 15, w ∈ wsX4_familyFact := (fun _ h => List.mem_cons_of_mem _ (List.mem_append_right _ h))
  have fl_21 := (hts (.fieldLink RX4 21 "RasherCase$Parish" "familyKind" "[I") (List.mem_of_getElem? (i := 1) rfl))
  have fl_24 := (hts (.fieldLink RX4 24 "RasherCase$Parish" "familySide" "[I") (List.mem_of_getElem? (i := 2) rfl))
  have fl_27 := (hts (.fieldLink RX4 27 "RasherCase$Parish" "familyCell" "[I") (List.mem_of_getElem? (i := 3) rfl))
  have fl_30 := (hts (.fieldLink RX4 30 "RasherCase$Parish" "familyWill" "[I") (List.mem_of_getElem? (i := 4) rfl))
  have hl : lv_has ls 3 [(0, .ref a_this), (1, .int x1), (2, .int x2)] := hl
  unfold wp_Pa_familyFact at h
  refine lv_iload_n hx hb dX4_familyFact_0 rfl (lv_at hl 2 rfl) ?_
  by_cases c_1 : x2 = 0
  · have h := h.1 c_1
    refine lv_tableIn (tgt := 32) hx hb dX4_familyFact_1 (by rw [c_1]; decide) (by rw [c_1]; decide) (by rw [c_1]; rfl) (by decide) ?_
    refine lv_aload_n hx hb dX4_familyFact_32 rfl (lv_at hl 0 rfl) ?_
    refine va_get (D := D) (ci := 3) (v := .ref a_familyKind) (C := RX4) (T := TX4) (N := 15) hx hb hts in_X4 hown hK hP 0 rfl rfl 3 (by decide) fl_21 (fun _ h9 => h9) rfl dX4_familyFact_33 ?_
    refine lv_iload_n hx hb dX4_familyFact_36 rfl (lv_at hl 1 rfl) ?_
    obtain ⟨hi_2, h⟩ := h
    refine va_iald hx hb hK hP 2 1 rfl rfl hi_2 dX4_familyFact_37 ?_
    exact hret _ _ _ h dX4_familyFact_38
  · have h := h.2 c_1
    by_cases c_3 : x2 = 1
    · have h := h.1 c_3
      refine lv_tableIn (tgt := 39) hx hb dX4_familyFact_1 (by rw [c_3]; decide) (by rw [c_3]; decide) (by rw [c_3]; rfl) (by decide) ?_
      refine lv_aload_n hx hb dX4_familyFact_39 rfl (lv_at hl 0 rfl) ?_
      refine va_get (D := D) (ci := 3) (v := .ref a_familySide) (C := RX4) (T := TX4) (N := 15) hx hb hts in_X4 hown hK hP 0 rfl rfl 4 (by decide) fl_24 (fun _ h9 => h9) rfl dX4_familyFact_40 ?_
      refine lv_iload_n hx hb dX4_familyFact_43 rfl (lv_at hl 1 rfl) ?_
      obtain ⟨hi_4, h⟩ := h
      refine va_iald hx hb hK hP 3 1 rfl rfl hi_4 dX4_familyFact_44 ?_
      exact hret _ _ _ h dX4_familyFact_45
    · have h := h.2 c_3
      by_cases c_5 : x2 = 2
      · have h := h.1 c_5
        refine lv_tableIn (tgt := 46) hx hb dX4_familyFact_1 (by rw [c_5]; decide) (by rw [c_5]; decide) (by rw [c_5]; rfl) (by decide) ?_
        refine lv_aload_n hx hb dX4_familyFact_46 rfl (lv_at hl 0 rfl) ?_
        refine va_get (D := D) (ci := 3) (v := .ref a_familyCell) (C := RX4) (T := TX4) (N := 15) hx hb hts in_X4 hown hK hP 0 rfl rfl 5 (by decide) fl_27 (fun _ h9 => h9) rfl dX4_familyFact_47 ?_
        refine lv_iload_n hx hb dX4_familyFact_50 rfl (lv_at hl 1 rfl) ?_
        obtain ⟨hi_6, h⟩ := h
        refine va_iald hx hb hK hP 1 1 rfl rfl hi_6 dX4_familyFact_51 ?_
        exact hret _ _ _ h dX4_familyFact_52
      · have h := h.2 c_5
        by_cases c_7 : x2 = 3
        · have h := h.1 c_7
          refine lv_tableIn (tgt := 53) hx hb dX4_familyFact_1 (by rw [c_7]; decide) (by rw [c_7]; decide) (by rw [c_7]; rfl) (by decide) ?_
          refine lv_aload_n hx hb dX4_familyFact_53 rfl (lv_at hl 0 rfl) ?_
          refine va_get (D := D) (ci := 3) (v := .ref a_familyWill) (C := RX4) (T := TX4) (N := 15) hx hb hts in_X4 hown hK hP 0 rfl rfl 6 (by decide) fl_30 (fun _ h9 => h9) rfl dX4_familyFact_54 ?_
          refine lv_iload_n hx hb dX4_familyFact_57 rfl (lv_at hl 1 rfl) ?_
          obtain ⟨hi_8, h⟩ := h
          refine va_iald hx hb hK hP 4 1 rfl rfl hi_8 dX4_familyFact_58 ?_
          exact hret _ _ _ h dX4_familyFact_59
        · have h := h.2 c_7
          have nc_1 := lv_neT c_1 (a := 0) (by decide)
          have nc_3 := lv_neT c_3 (a := 1) (by decide)
          have nc_5 := lv_neT c_5 (a := 2) (by decide)
          have nc_7 := lv_neT c_7 (a := 3) (by decide)
          refine lv_tableOut (tgt := 60) hx hb dX4_familyFact_1 (by omega) (by decide) ?_
          refine lv_aload_n hx hb dX4_familyFact_60 rfl (lv_at hl 0 rfl) ?_
          refine lv_iload_n hx hb dX4_familyFact_61 rfl (lv_at hl 1 rfl) ?_
          refine st_callRI (st_runVR (n := 1) (As := [.int x1]) (rest := []) (q0 := 0) F (co_Pa_hasLapsed l D cy a_this a_familyWill a_flitchKind a_flitchCell a_flitchStrength a_familyKind a_familySide a_familyCell a_past a_sightings a_notes a_marks s_flitchCount s_familyCount s_hung s_day s_familyWill x1 _ h) gX4_familyFact_X4_hasLapsed rfl (by decide +kernel) rfl hKK hP [0, 4] rfl rfl rfl rfl hl.1 rfl (Nat.le_of_ble_eq_true rfl) dX4_familyFact_62) (fun r_9 h => ?_)
          refine lv_if_eq (tgt := 72) hx hb dX4_familyFact_65 (by decide) (fun c_10 => ?_) (fun c_10 => ?_)
          · have h := h.1 c_10
            refine lv_iconst (v := 0) hx hb dX4_familyFact_72 (by decide) ?_
            exact hret _ _ _ h dX4_familyFact_73
          · have h := h.2 c_10
            refine lv_iconst (v := 1) hx hb dX4_familyFact_68 (by decide) ?_
            refine lv_goto (tgt := 73) hx hb dX4_familyFact_69 (by decide) ?_
            exact hret _ _ _ h dX4_familyFact_73
abbrev Wd_Pa_flitchFact (cy : ClassId × ClassId × ClassId × ClassId) (a_this a_flitchCell a_flitchKind a_flitchStrength a_familyKind a_familySide a_familyCell a_familyWill a_past a_sightings a_notes a_marks : Nat) (s_flitchCount : Int32) (s_familyCount : Int32) (s_hung : Int32) (s_day : Int32) (s_flitchCell : Nat → Int32) (s_flitchKind : Nat → Int32) (s_flitchStrength : Nat → Int32) : va_W := [(a_this, .inr (3, [.ref a_flitchKind, .ref a_flitchCell, .ref a_flitchStrength, .ref a_familyKind, .ref a_familySide, .ref a_familyCell, .ref a_familyWill, .ref a_past, .ref a_sightings, .ref a_notes, .ref a_marks, .int s_flitchCount, .int s_familyCount, .int s_hung, .int s_day])), (a_flitchCell, .inl (cy.2.1, 3, .inl s_flitchCell)), (a_flitchKind, .inl (cy.2.1, 3, .inl s_flitchKind)), (a_flitchStrength, .inl (cy.2.1, 3, .inl s_flitchStrength))]
abbrev rm_Pa_flitchFact : Room := { frames := 1, cells := 0, slots := 0, locals := 21 }
def wp_Pa_flitchFact (x1 : Int32) (x2 : Int32) (s_hung : Int32) (s_flitchCell : Nat → Int32) (s_flitchKind : Nat → Int32) (s_flitchStrength : Nat → Int32) (Q : Int32 → Prop) : Prop := ((x2 = 0 → vp_in x1 3 ∧ Q (s_flitchKind (Int32.toNatClampNeg x1))) ∧ (¬ x2 = 0 → ((x2 = 1 → vp_in x1 3 ∧ Q (s_flitchCell (Int32.toNatClampNeg x1))) ∧ (¬ x2 = 1 → ((x2 = 2 → vp_in x1 3 ∧ Q (s_flitchStrength (Int32.toNatClampNeg x1))) ∧ (¬ x2 = 2 → wp_Pa_hungBit x1 s_hung (fun (r_7 : Int32) => Q r_7)))))))
set_option maxHeartbeats 4000000 in
set_option maxRecDepth 100000 in
theorem co_Pa_flitchFact (l : Launch) (D : va_G) (cy : ClassId × ClassId × ClassId × ClassId) (a_this a_flitchCell a_flitchKind a_flitchStrength a_familyKind a_familySide a_familyCell a_familyWill a_past a_sightings a_notes a_marks : Nat) (s_flitchCount : Int32) (s_familyCount : Int32) (s_hung : Int32) (s_day : Int32) (s_flitchCell : Nat → Int32) (s_flitchKind : Nat → Int32) (s_flitchStrength : Nat → Int32) (x1 : Int32) (x2 : Int32) (Q : Int32 → Prop) (h : wp_Pa_flitchFact x1 x2 s_hung s_flitchCell s_flitchKind s_flitchStrength Q) : RoI l yX4_flitchFact wsX4_flitchFact rm_Pa_flitchFact D cy [.ref a_this, .int x1, .int x2] (Wd_Pa_flitchFact cy a_this a_flitchCell a_flitchKind a_flitchStrength a_familyKind a_familySide a_familyCell a_familyWill a_past a_sightings a_notes a_marks s_flitchCount s_familyCount s_hung s_day s_flitchCell s_flitchKind s_flitchStrength) Q := by
  refine st_metRI (cc := cX4_flitchFact) (maxL := 3) RX4 (by decide) rfl rfl (Nat.le_of_ble_eq_true rfl) ?_
  intro p e s m args below meth c QQ ls F hKK hP hl hret
  have hK := hKK.1
  have hnest := hKK.2.1
  have hx := F.1
  have hb := F.2.1
  have hown := F.2.2.2.1
  have hts := F.2.2.2.2
  have in_X4 : ∀ w ∈ u_ws RX4 TX4 15, w ∈ wsX4_flitchFact := (fun _ h => List.mem_cons_of_mem _ (List.mem_append_right _ h))
  have fl_9 := (hts (.fieldLink RX4 9 "RasherCase$Parish" "flitchKind" "[I") (List.mem_of_getElem? (i := 1) rfl))
  have fl_15 := (hts (.fieldLink RX4 15 "RasherCase$Parish" "flitchCell" "[I") (List.mem_of_getElem? (i := 2) rfl))
  have fl_18 := (hts (.fieldLink RX4 18 "RasherCase$Parish" "flitchStrength" "[I") (List.mem_of_getElem? (i := 3) rfl))
  have hl : lv_has ls 3 [(0, .ref a_this), (1, .int x1), (2, .int x2)] := hl
  unfold wp_Pa_flitchFact at h
  refine lv_iload_n hx hb dX4_flitchFact_0 rfl (lv_at hl 2 rfl) ?_
  by_cases c_1 : x2 = 0
  · have h := h.1 c_1
    refine lv_tableIn (tgt := 28) hx hb dX4_flitchFact_1 (by rw [c_1]; decide) (by rw [c_1]; decide) (by rw [c_1]; rfl) (by decide) ?_
    refine lv_aload_n hx hb dX4_flitchFact_28 rfl (lv_at hl 0 rfl) ?_
    refine va_get (D := D) (ci := 3) (v := .ref a_flitchKind) (C := RX4) (T := TX4) (N := 15) hx hb hts in_X4 hown hK hP 0 rfl rfl 0 (by decide) fl_9 (fun _ h9 => h9) rfl dX4_flitchFact_29 ?_
    refine lv_iload_n hx hb dX4_flitchFact_32 rfl (lv_at hl 1 rfl) ?_
    obtain ⟨hi_2, h⟩ := h
    refine va_iald hx hb hK hP 2 1 rfl rfl hi_2 dX4_flitchFact_33 ?_
    exact hret _ _ _ h dX4_flitchFact_34
  · have h := h.2 c_1
    by_cases c_3 : x2 = 1
    · have h := h.1 c_3
      refine lv_tableIn (tgt := 35) hx hb dX4_flitchFact_1 (by rw [c_3]; decide) (by rw [c_3]; decide) (by rw [c_3]; rfl) (by decide) ?_
      refine lv_aload_n hx hb dX4_flitchFact_35 rfl (lv_at hl 0 rfl) ?_
      refine va_get (D := D) (ci := 3) (v := .ref a_flitchCell) (C := RX4) (T := TX4) (N := 15) hx hb hts in_X4 hown hK hP 0 rfl rfl 1 (by decide) fl_15 (fun _ h9 => h9) rfl dX4_flitchFact_36 ?_
      refine lv_iload_n hx hb dX4_flitchFact_39 rfl (lv_at hl 1 rfl) ?_
      obtain ⟨hi_4, h⟩ := h
      refine va_iald hx hb hK hP 1 1 rfl rfl hi_4 dX4_flitchFact_40 ?_
      exact hret _ _ _ h dX4_flitchFact_41
    · have h := h.2 c_3
      by_cases c_5 : x2 = 2
      · have h := h.1 c_5
        refine lv_tableIn (tgt := 42) hx hb dX4_flitchFact_1 (by rw [c_5]; decide) (by rw [c_5]; decide) (by rw [c_5]; rfl) (by decide) ?_
        refine lv_aload_n hx hb dX4_flitchFact_42 rfl (lv_at hl 0 rfl) ?_
        refine va_get (D := D) (ci := 3) (v := .ref a_flitchStrength) (C := RX4) (T := TX4) (N := 15) hx hb hts in_X4 hown hK hP 0 rfl rfl 2 (by decide) fl_18 (fun _ h9 => h9) rfl dX4_flitchFact_43 ?_
        refine lv_iload_n hx hb dX4_flitchFact_46 rfl (lv_at hl 1 rfl) ?_
        obtain ⟨hi_6, h⟩ := h
        refine va_iald hx hb hK hP 3 1 rfl rfl hi_6 dX4_flitchFact_47 ?_
        exact hret _ _ _ h dX4_flitchFact_48
      · have h := h.2 c_5
        have nc_1 := lv_neT c_1 (a := 0) (by decide)
        have nc_3 := lv_neT c_3 (a := 1) (by decide)
        have nc_5 := lv_neT c_5 (a := 2) (by decide)
        refine lv_tableOut (tgt := 49) hx hb dX4_flitchFact_1 (by omega) (by decide) ?_
        refine lv_aload_n hx hb dX4_flitchFact_49 rfl (lv_at hl 0 rfl) ?_
        refine lv_iload_n hx hb dX4_flitchFact_50 rfl (lv_at hl 1 rfl) ?_
        refine st_callRI (st_runVR (n := 1) (As := [.int x1]) (rest := []) (q0 := 0) F (co_Pa_hungBit l D cy a_this a_flitchKind a_flitchCell a_flitchStrength a_familyKind a_familySide a_familyCell a_familyWill a_past a_sightings a_notes a_marks s_flitchCount s_familyCount s_hung s_day x1 _ h) gX4_flitchFact_X4_hungBit rfl (by decide +kernel) rfl hKK hP [0] rfl rfl rfl rfl hl.1 rfl (Nat.le_of_ble_eq_true rfl) dX4_flitchFact_51) (fun r_7 h => ?_)
        exact hret _ _ _ h dX4_flitchFact_54
abbrev Wd_Rw_digestOn (cy : ClassId × ClassId × ClassId × ClassId) (a_this a_numbers : Nat) (n_numbers : Nat) (s_width : Int32) (s_limit : Int32) (s_size : Int32) (s_numbers : Nat → Int32) : va_W := [(a_this, .inr (5, [.int s_width, .int s_limit, .ref a_numbers, .int s_size])), (a_numbers, .inl (cy.2.1, n_numbers, .inl s_numbers))]
abbrev rm_Rw_digestOn : Room := { frames := 0, cells := 0, slots := 0, locals := 0 }
def wp_Rw_digestOn (x1 : Int64) (n_numbers : Nat) (s_width : Int32) (s_size : Int32) (s_numbers : Nat → Int32) (Q : Int64 → Prop) : Prop := ∃ n : Nat, lpw2 (fun (B5 : Int64 → Int32 → Prop) (x3_1 : Int64) (x5_2 : Int32) => (((s_size * s_width) ≤ x5_2 → Q x3_1) ∧ (¬ (s_size * s_width) ≤ x5_2 → vp_in x5_2 n_numbers ∧ ∀ x3_6 : Int64, x3_6 = ((31 * x3_1) + (Int32.toInt64 (s_numbers (Int32.toNatClampNeg x5_2)))) → ∀ x5_7 : Int32, x5_7 = x5_2 + 1 → B5 x3_6 x5_7))) n x1 0
set_option maxHeartbeats 4000000 in
set_option maxRecDepth 100000 in
theorem co_Rw_digestOn (l : Launch) (D : va_G) (cy : ClassId × ClassId × ClassId × ClassId) (a_this a_numbers : Nat) (n_numbers : Nat) (s_width : Int32) (s_limit : Int32) (s_size : Int32) (s_numbers : Nat → Int32) (x1 : Int64) (Q : Int64 → Prop) (h : wp_Rw_digestOn x1 n_numbers s_width s_size s_numbers Q) : RoL l yX6_digestOn wsX6_digestOn rm_Rw_digestOn D cy [.ref a_this, .long x1] (Wd_Rw_digestOn cy a_this a_numbers n_numbers s_width s_limit s_size s_numbers) Q := by
  refine st_metRL (cc := cX6_digestOn) (maxL := 6) RX6 (by decide) rfl rfl (Nat.le_of_ble_eq_true rfl) ?_
  intro p e s m args below meth c QQ ls F hKK hP hl hret
  have hK := hKK.1
  have hnest := hKK.2.1
  have hx := F.1
  have hb := F.2.1
  have hown := F.2.2.2.1
  have hts := F.2.2.2.2
  have in_X6 : ∀ w ∈ u_ws RX6 TX6 4, w ∈ wsX6_digestOn := (fun _ h => List.mem_cons_of_mem _ (List.mem_append_right _ h))
  have fl_7 := (hts (.fieldLink RX6 7 "RasherCase$Rows" "width" "I") (List.mem_of_getElem? (i := 2) rfl))
  have fl_16 := (hts (.fieldLink RX6 16 "RasherCase$Rows" "numbers" "[I") (List.mem_of_getElem? (i := 4) rfl))
  have fl_20 := (hts (.fieldLink RX6 20 "RasherCase$Rows" "size" "I") (List.mem_of_getElem? (i := 1) rfl))
  have hl : lv_has ls 6 [(0, .ref a_this), (1, .long x1)] := hl
  unfold wp_Rw_digestOn at h
  refine lv_lload_n hx hb dX6_digestOn_0 rfl (lv_at hl 1 rfl) ?_
  refine lv_lstore_n (lv' := [(3, .long x1), (0, .ref a_this), (1, .long x1)]) hx hb dX6_digestOn_1 rfl hl (by decide) rfl (fun ls hl => ?_)
  refine lv_iconst (v := 0) hx hb dX6_digestOn_2 (by decide) ?_
  refine lv_istore (lv' := [(5, .int 0), (3, .long x1), (0, .ref a_this), (1, .long x1)]) hx hb dX6_digestOn_3 hl (by decide) rfl (fun ls hl => ?_)
  obtain ⟨T5_2, hz5_2, hs5_2, n5_2, h⟩ := lpw2_use h
  have kT5_2 : ∀ (n : Nat) (x3_1 : Int64) (x5_2 : Int32) (ls : Array Slot), T5_2 n x3_1 x5_2 → lv_has ls 6 [(0, .ref a_this), (3, .long x3_1), (5, .int x5_2)] → W p l e rm_Rw_digestOn s m args below meth c s.heap [] 0 0 QQ (F0 m 5 ls []) := by
    intro n
    induction n with
    | zero => intro x3_1 x5_2 ls h; exact absurd h (hz5_2 _ _)
    | succ n ih5_2 =>
      intro x3_1 x5_2 ls h hl
      have h := hs5_2 _ _ _ h
      refine lv_iload hx hb dX6_digestOn_5 (lv_at hl 2 rfl) ?_
      refine lv_aload_n hx hb dX6_digestOn_7 rfl (lv_at hl 0 rfl) ?_
      refine va_get (D := D) (ci := 5) (v := .int s_size) (C := RX6) (T := TX6) (N := 4) hx hb hts in_X6 hown hK hP 0 rfl rfl 3 (by decide) fl_20 (fun _ h9 => h9) rfl dX6_digestOn_8 ?_
      refine lv_aload_n hx hb dX6_digestOn_11 rfl (lv_at hl 0 rfl) ?_
      refine va_get (D := D) (ci := 5) (v := .int s_width) (C := RX6) (T := TX6) (N := 4) hx hb hts in_X6 hown hK hP 0 rfl rfl 0 (by decide) fl_7 (fun _ h9 => h9) rfl dX6_digestOn_12 ?_
      refine lv_imul hx hb dX6_digestOn_15 ?_
      refine lv_icmp_ge (tgt := 40) hx hb dX6_digestOn_16 (by decide) (fun c_4 => ?_) (fun c_4 => ?_)
      · have h := h.1 c_4
        refine lv_lload_n hx hb dX6_digestOn_40 rfl (lv_at hl 1 rfl) ?_
        exact hret _ _ _ h dX6_digestOn_41
      · have h := h.2 c_4
        refine lv_ldc2 (v := 31) hx hb hown (hts (.constantLong RX6 33 (31)) (List.mem_of_getElem? (i := 3) rfl)) dX6_digestOn_19 ?_
        refine lv_lload_n hx hb dX6_digestOn_22 rfl (lv_at hl 1 rfl) ?_
        refine lv_lmul hx hb dX6_digestOn_23 ?_
        refine lv_aload_n hx hb dX6_digestOn_24 rfl (lv_at hl 0 rfl) ?_
        refine va_get (D := D) (ci := 5) (v := .ref a_numbers) (C := RX6) (T := TX6) (N := 4) hx hb hts in_X6 hown hK hP 0 rfl rfl 2 (by decide) fl_16 (fun _ h9 => h9) rfl dX6_digestOn_25 ?_
        refine lv_iload hx hb dX6_digestOn_28 (lv_at hl 2 rfl) ?_
        obtain ⟨hi_5, h⟩ := h
        refine va_iald hx hb hK hP 1 1 rfl rfl hi_5 dX6_digestOn_30 ?_
        refine lv_i2l hx hb dX6_digestOn_31 rfl ?_
        refine lv_ladd hx hb dX6_digestOn_32 ?_
        refine lv_topl (fun x3_6 ex3_6 => ?_)
        have h := h x3_6 ex3_6
        refine lv_lstore_n (lv' := [(3, .long x3_6), (0, .ref a_this), (5, .int x5_2)]) hx hb dX6_digestOn_33 rfl hl (by decide) rfl (fun ls hl => ?_)
        obtain ⟨x5_7, ex5_7⟩ : ∃ y : Int32, y = x5_2 + 1 := ⟨_, rfl⟩
        have h := h x5_7 ex5_7
        refine lv_iinc (v := x5_7) (lv' := [(5, .int x5_7), (3, .long x3_6), (0, .ref a_this)]) hx hb dX6_digestOn_34 hl (k := 2) rfl (by rw [ex5_7]; rfl) (by decide) rfl (fun ls hl => ?_)
        refine lv_goto (tgt := 5) hx hb dX6_digestOn_37 (by decide) ?_
        exact ih5_2 _ _ _ h (lv_sub hl [2, 1, 0] rfl)
  exact kT5_2 n5_2 _ _ _ h (lv_sub hl [2, 1, 0] rfl)
abbrev Wd_Pa_digestOn (cy : ClassId × ClassId × ClassId × ClassId) (a_this a_familyCell a_familyKind a_familySide a_familyWill a_flitchCell a_flitchKind a_flitchStrength a_marks a_marks_numbers a_notes a_notes_numbers a_sightings a_sightings_numbers a_past : Nat) (s_flitchCount : Int32) (s_familyCount : Int32) (s_hung : Int32) (s_day : Int32) (s_familyCell : Nat → Int32) (s_familyKind : Nat → Int32) (s_familySide : Nat → Int32) (s_familyWill : Nat → Int32) (s_flitchCell : Nat → Int32) (s_flitchKind : Nat → Int32) (s_flitchStrength : Nat → Int32) (s_marks_width : Int32) (s_marks_limit : Int32) (s_marks_size : Int32) (s_marks_numbers : Nat → Int32) (s_notes_width : Int32) (s_notes_limit : Int32) (s_notes_size : Int32) (s_notes_numbers : Nat → Int32) (s_sightings_width : Int32) (s_sightings_limit : Int32) (s_sightings_size : Int32) (s_sightings_numbers : Nat → Int32) : va_W := [(a_this, .inr (3, [.ref a_flitchKind, .ref a_flitchCell, .ref a_flitchStrength, .ref a_familyKind, .ref a_familySide, .ref a_familyCell, .ref a_familyWill, .ref a_past, .ref a_sightings, .ref a_notes, .ref a_marks, .int s_flitchCount, .int s_familyCount, .int s_hung, .int s_day])), (a_familyCell, .inl (cy.2.1, 7, .inl s_familyCell)), (a_familyKind, .inl (cy.2.1, 7, .inl s_familyKind)), (a_familySide, .inl (cy.2.1, 7, .inl s_familySide)), (a_familyWill, .inl (cy.2.1, 7, .inl s_familyWill)), (a_flitchCell, .inl (cy.2.1, 3, .inl s_flitchCell)), (a_flitchKind, .inl (cy.2.1, 3, .inl s_flitchKind)), (a_flitchStrength, .inl (cy.2.1, 3, .inl s_flitchStrength)), (a_marks, .inr (5, [.int s_marks_width, .int s_marks_limit, .ref a_marks_numbers, .int s_marks_size])), (a_marks_numbers, .inl (cy.2.1, 24, .inl s_marks_numbers)), (a_notes, .inr (5, [.int s_notes_width, .int s_notes_limit, .ref a_notes_numbers, .int s_notes_size])), (a_notes_numbers, .inl (cy.2.1, 30, .inl s_notes_numbers)), (a_sightings, .inr (5, [.int s_sightings_width, .int s_sightings_limit, .ref a_sightings_numbers, .int s_sightings_size])), (a_sightings_numbers, .inl (cy.2.1, 15, .inl s_sightings_numbers))]
abbrev rm_Pa_digestOn : Room := { frames := 2, cells := 0, slots := 0, locals := 43 }
def wp_Pa_digestOn (x1 : Int64) (s_flitchCount : Int32) (s_familyCount : Int32) (s_hung : Int32) (s_familyCell : Nat → Int32) (s_familyKind : Nat → Int32) (s_familySide : Nat → Int32) (s_familyWill : Nat → Int32) (s_flitchCell : Nat → Int32) (s_flitchKind : Nat → Int32) (s_flitchStrength : Nat → Int32) (s_marks_width : Int32) (s_marks_size : Int32) (s_marks_numbers : Nat → Int32) (s_notes_width : Int32) (s_notes_size : Int32) (s_notes_numbers : Nat → Int32) (s_sightings_width : Int32) (s_sightings_size : Int32) (s_sightings_numbers : Nat → Int32) (Q : Int64 → Prop) : Prop := ∃ n : Nat, lpw2 (fun (B5 : Int64 → Int32 → Prop) (x3_1 : Int64) (x5_2 : Int32) => ((s_flitchCount ≤ x5_2 → ∃ n : Nat, lpw2 (fun (B54 : Int64 → Int32 → Prop) (x3_5 : Int64) (x5_6 : Int32) => ((s_familyCount ≤ x5_6 → wp_Rw_digestOn x3_5 15 s_sightings_width s_sightings_size s_sightings_numbers (fun (r_9 : Int64) => wp_Rw_digestOn r_9 30 s_notes_width s_notes_size s_notes_numbers (fun (r_10 : Int64) => wp_Rw_digestOn r_10 24 s_marks_width s_marks_size s_marks_numbers (fun (r_11 : Int64) => Q r_11)))) ∧ (¬ s_familyCount ≤ x5_6 → ∃ n : Nat, lpw2 (fun (B66 : Int64 → Int32 → Prop) (x3_12 : Int64) (x6_13 : Int32) => ((5 ≤ x6_13 → ∀ x5_16 : Int32, x5_16 = x5_6 + 1 → B54 x3_12 x5_16) ∧ (¬ 5 ≤ x6_13 → wp_Pa_familyFact x5_6 x6_13 s_familyCell s_familyKind s_familySide s_familyWill (fun (r_17 : Int32) => ∀ x3_18 : Int64, x3_18 = ((31 * x3_12) + (Int32.toInt64 r_17)) → ∀ x6_19 : Int32, x6_19 = x6_13 + 1 → B66 x3_18 x6_19)))) n x3_5 0))) n x3_1 0) ∧ (¬ s_flitchCount ≤ x5_2 → ∃ n : Nat, lpw2 (fun (B17 : Int64 → Int32 → Prop) (x3_20 : Int64) (x6_21 : Int32) => ((4 ≤ x6_21 → ∀ x5_24 : Int32, x5_24 = x5_2 + 1 → B5 x3_20 x5_24) ∧ (¬ 4 ≤ x6_21 → wp_Pa_flitchFact x5_2 x6_21 s_hung s_flitchCell s_flitchKind s_flitchStrength (fun (r_25 : Int32) => ∀ x3_26 : Int64, x3_26 = ((31 * x3_20) + (Int32.toInt64 r_25)) → ∀ x6_27 : Int32, x6_27 = x6_21 + 1 → B17 x3_26 x6_27)))) n x3_1 0))) n x1 0
set_option maxHeartbeats 4000000 in
set_option maxRecDepth 100000 in
theorem co_Pa_digestOn (l : Launch) (D : va_G) (cy : ClassId × ClassId × ClassId × ClassId) (a_this a_familyCell a_familyKind a_familySide a_familyWill a_flitchCell a_flitchKind a_flitchStrength a_marks a_marks_numbers a_notes a_notes_numbers a_sightings a_sightings_numbers a_past : Nat) (s_flitchCount : Int32) (s_familyCount : Int32) (s_hung : Int32) (s_day : Int32) (s_familyCell : Nat → Int32) (s_familyKind : Nat → Int32) (s_familySide : Nat → Int32) (s_familyWill : Nat → Int32) (s_flitchCell : Nat → Int32) (s_flitchKind : Nat → Int32) (s_flitchStrength : Nat → Int32) (s_marks_width : Int32) (s_marks_limit : Int32) (s_marks_size : Int32) (s_marks_numbers : Nat → Int32) (s_notes_width : Int32) (s_notes_limit : Int32) (s_notes_size : Int32) (s_notes_numbers : Nat → Int32) (s_sightings_width : Int32) (s_sightings_limit : Int32) (s_sightings_size : Int32) (s_sightings_numbers : Nat → Int32) (x1 : Int64) (Q : Int64 → Prop) (h : wp_Pa_digestOn x1 s_flitchCount s_familyCount s_hung s_familyCell s_familyKind s_familySide s_familyWill s_flitchCell s_flitchKind s_flitchStrength s_marks_width s_marks_size s_marks_numbers s_notes_width s_notes_size s_notes_numbers s_sightings_width s_sightings_size s_sightings_numbers Q) : RoL l yX4_digestOn wsX4_digestOn rm_Pa_digestOn D cy [.ref a_this, .long x1] (Wd_Pa_digestOn cy a_this a_familyCell a_familyKind a_familySide a_familyWill a_flitchCell a_flitchKind a_flitchStrength a_marks a_marks_numbers a_notes a_notes_numbers a_sightings a_sightings_numbers a_past s_flitchCount s_familyCount s_hung s_day s_familyCell s_familyKind s_familySide s_familyWill s_flitchCell s_flitchKind s_flitchStrength s_marks_width s_marks_limit s_marks_size s_marks_numbers s_notes_width s_notes_limit s_notes_size s_notes_numbers s_sightings_width s_sightings_limit s_sightings_size s_sightings_numbers) Q := by
  refine st_metRL (cc := cX4_digestOn) (maxL := 7) RX4 (by decide) rfl rfl (Nat.le_of_ble_eq_true rfl) ?_
  intro p e s m args below meth c QQ ls F hKK hP hl hret
  have hK := hKK.1
  have hnest := hKK.2.1
  have hx := F.1
  have hb := F.2.1
  have hown := F.2.2.2.1
  have hts := F.2.2.2.2
  have in_X4 : ∀ w ∈ u_ws RX4 TX4 15, w ∈ wsX4_digestOn := (fun _ h => List.mem_cons_of_mem _ (List.mem_append_left _ (List.mem_append_right _ h)))
  have fl_42 := (hts (.fieldLink RX4 42 "RasherCase$Parish" "sightings" "LRasherCase$Rows;") (List.mem_of_getElem? (i := 6) rfl))
  have fl_45 := (hts (.fieldLink RX4 45 "RasherCase$Parish" "notes" "LRasherCase$Rows;") (List.mem_of_getElem? (i := 5) rfl))
  have fl_48 := (hts (.fieldLink RX4 48 "RasherCase$Parish" "marks" "LRasherCase$Rows;") (List.mem_of_getElem? (i := 4) rfl))
  have fl_51 := (hts (.fieldLink RX4 51 "RasherCase$Parish" "flitchCount" "I") (List.mem_of_getElem? (i := 1) rfl))
  have fl_55 := (hts (.fieldLink RX4 55 "RasherCase$Parish" "familyCount" "I") (List.mem_of_getElem? (i := 3) rfl))
  have hl : lv_has ls 7 [(0, .ref a_this), (1, .long x1)] := hl
  unfold wp_Pa_digestOn at h
  refine lv_lload_n hx hb dX4_digestOn_0 rfl (lv_at hl 1 rfl) ?_
  refine lv_lstore_n (lv' := [(3, .long x1), (0, .ref a_this), (1, .long x1)]) hx hb dX4_digestOn_1 rfl hl (by decide) rfl (fun ls hl => ?_)
  refine lv_iconst (v := 0) hx hb dX4_digestOn_2 (by decide) ?_
  refine lv_istore (lv' := [(5, .int 0), (3, .long x1), (0, .ref a_this), (1, .long x1)]) hx hb dX4_digestOn_3 hl (by decide) rfl (fun ls hl => ?_)
  obtain ⟨T5_2, hz5_2, hs5_2, n5_2, h⟩ := lpw2_use h
  have kT5_2 : ∀ (n : Nat) (x3_1 : Int64) (x5_2 : Int32) (ls : Array Slot), T5_2 n x3_1 x5_2 → lv_has ls 7 [(0, .ref a_this), (3, .long x3_1), (5, .int x5_2)] → W p l e rm_Pa_digestOn s m args below meth c s.heap [] 0 0 QQ (F0 m 5 ls []) := by
    intro n
    induction n with
    | zero => intro x3_1 x5_2 ls h; exact absurd h (hz5_2 _ _)
    | succ n ih5_2 =>
      intro x3_1 x5_2 ls h hl
      have h := hs5_2 _ _ _ h
      refine lv_iload hx hb dX4_digestOn_5 (lv_at hl 2 rfl) ?_
      refine lv_aload_n hx hb dX4_digestOn_7 rfl (lv_at hl 0 rfl) ?_
      refine va_get (D := D) (ci := 3) (v := .int s_flitchCount) (C := RX4) (T := TX4) (N := 15) hx hb hts in_X4 hown hK hP 0 rfl rfl 11 (by decide) fl_51 (fun _ h9 => h9) rfl dX4_digestOn_8 ?_
      refine lv_icmp_ge (tgt := 51) hx hb dX4_digestOn_11 (by decide) (fun c_4 => ?_) (fun c_4 => ?_)
      · have h := h.1 c_4
        refine lv_iconst (v := 0) hx hb dX4_digestOn_51 (by decide) ?_
        refine lv_istore (lv' := [(5, .int 0), (0, .ref a_this), (3, .long x3_1)]) hx hb dX4_digestOn_52 hl (by decide) rfl (fun ls hl => ?_)
        obtain ⟨T54_6, hz54_6, hs54_6, n54_6, h⟩ := lpw2_use h
        have kT54_6 : ∀ (n : Nat) (x3_5 : Int64) (x5_6 : Int32) (ls : Array Slot), T54_6 n x3_5 x5_6 → lv_has ls 7 [(0, .ref a_this), (3, .long x3_5), (5, .int x5_6)] → W p l e rm_Pa_digestOn s m args below meth c s.heap [] 0 0 QQ (F0 m 54 ls []) := by
          intro n
          induction n with
          | zero => intro x3_5 x5_6 ls h; exact absurd h (hz54_6 _ _)
          | succ n ih54_6 =>
            intro x3_5 x5_6 ls h hl
            have h := hs54_6 _ _ _ h
            refine lv_iload hx hb dX4_digestOn_54 (lv_at hl 2 rfl) ?_
            refine lv_aload_n hx hb dX4_digestOn_56 rfl (lv_at hl 0 rfl) ?_
            refine va_get (D := D) (ci := 3) (v := .int s_familyCount) (C := RX4) (T := TX4) (N := 15) hx hb hts in_X4 hown hK hP 0 rfl rfl 12 (by decide) fl_55 (fun _ h9 => h9) rfl dX4_digestOn_57 ?_
            refine lv_icmp_ge (tgt := 100) hx hb dX4_digestOn_60 (by decide) (fun c_8 => ?_) (fun c_8 => ?_)
            · have h := h.1 c_8
              refine lv_aload_n hx hb dX4_digestOn_100 rfl (lv_at hl 0 rfl) ?_
              refine va_get (D := D) (ci := 3) (v := .ref a_marks) (C := RX4) (T := TX4) (N := 15) hx hb hts in_X4 hown hK hP 0 rfl rfl 10 (by decide) fl_48 (fun _ h9 => h9) rfl dX4_digestOn_101 ?_
              refine lv_aload_n hx hb dX4_digestOn_104 rfl (lv_at hl 0 rfl) ?_
              refine va_get (D := D) (ci := 3) (v := .ref a_notes) (C := RX4) (T := TX4) (N := 15) hx hb hts in_X4 hown hK hP 0 rfl rfl 9 (by decide) fl_45 (fun _ h9 => h9) rfl dX4_digestOn_105 ?_
              refine lv_aload_n hx hb dX4_digestOn_108 rfl (lv_at hl 0 rfl) ?_
              refine va_get (D := D) (ci := 3) (v := .ref a_sightings) (C := RX4) (T := TX4) (N := 15) hx hb hts in_X4 hown hK hP 0 rfl rfl 8 (by decide) fl_42 (fun _ h9 => h9) rfl dX4_digestOn_109 ?_
              refine lv_lload_n hx hb dX4_digestOn_112 rfl (lv_at hl 1 rfl) ?_
              refine st_callRL (st_runVR (n := 1) (As := [.long x3_5]) (rest := [.ref a_notes, .ref a_marks]) (q0 := 0) F (co_Rw_digestOn l D cy a_sightings a_sightings_numbers 15 s_sightings_width s_sightings_limit s_sightings_size s_sightings_numbers x3_5 _ h) gX4_digestOn_X6_digestOn rfl (by decide +kernel) rfl hKK hP [12, 13] rfl rfl rfl rfl hl.1 rfl (Nat.le_of_ble_eq_true rfl) dX4_digestOn_113) (fun r_9 h => ?_)
              refine st_callRL (st_runVR (n := 1) (As := [.long r_9]) (rest := [.ref a_marks]) (q0 := 0) F (co_Rw_digestOn l D cy a_notes a_notes_numbers 30 s_notes_width s_notes_limit s_notes_size s_notes_numbers r_9 _ h) gX4_digestOn_X6_digestOn rfl (by decide +kernel) rfl hKK hP [10, 11] rfl rfl rfl rfl hl.1 rfl (Nat.le_of_ble_eq_true rfl) dX4_digestOn_116) (fun r_10 h => ?_)
              refine st_callRL (st_runVR (n := 1) (As := [.long r_10]) (rest := []) (q0 := 0) F (co_Rw_digestOn l D cy a_marks a_marks_numbers 24 s_marks_width s_marks_limit s_marks_size s_marks_numbers r_10 _ h) gX4_digestOn_X6_digestOn rfl (by decide +kernel) rfl hKK hP [8, 9] rfl rfl rfl rfl hl.1 rfl (Nat.le_of_ble_eq_true rfl) dX4_digestOn_119) (fun r_11 h => ?_)
              exact hret _ _ _ h dX4_digestOn_122
            · have h := h.2 c_8
              refine lv_iconst (v := 0) hx hb dX4_digestOn_63 (by decide) ?_
              refine lv_istore (lv' := [(6, .int 0), (0, .ref a_this), (3, .long x3_5), (5, .int x5_6)]) hx hb dX4_digestOn_64 hl (by decide) rfl (fun ls hl => ?_)
              obtain ⟨T66_13, hz66_13, hs66_13, n66_13, h⟩ := lpw2_use h
              have kT66_13 : ∀ (n : Nat) (x3_12 : Int64) (x6_13 : Int32) (ls : Array Slot), T66_13 n x3_12 x6_13 → lv_has ls 7 [(0, .ref a_this), (3, .long x3_12), (5, .int x5_6), (6, .int x6_13)] → W p l e rm_Pa_digestOn s m args below meth c s.heap [] 0 0 QQ (F0 m 66 ls []) := by
                intro n
                induction n with
                | zero => intro x3_12 x6_13 ls h; exact absurd h (hz66_13 _ _)
                | succ n ih66_13 =>
                  intro x3_12 x6_13 ls h hl
                  have h := hs66_13 _ _ _ h
                  refine lv_iload hx hb dX4_digestOn_66 (lv_at hl 3 rfl) ?_
                  refine lv_iconst (v := 5) hx hb dX4_digestOn_68 (by decide) ?_
                  refine lv_icmp_ge (tgt := 94) hx hb dX4_digestOn_69 (by decide) (fun c_15 => ?_) (fun c_15 => ?_)
                  · have h := h.1 c_15
                    obtain ⟨x5_16, ex5_16⟩ : ∃ y : Int32, y = x5_6 + 1 := ⟨_, rfl⟩
                    have h := h x5_16 ex5_16
                    refine lv_iinc (v := x5_16) (lv' := [(5, .int x5_16), (0, .ref a_this), (3, .long x3_12), (6, .int x6_13)]) hx hb dX4_digestOn_94 hl (k := 2) rfl (by rw [ex5_16]; rfl) (by decide) rfl (fun ls hl => ?_)
                    refine lv_goto (tgt := 54) hx hb dX4_digestOn_97 (by decide) ?_
                    exact ih54_6 _ _ _ h (lv_sub hl [1, 2, 0] rfl)
                  · have h := h.2 c_15
                    refine lv_ldc2 (v := 31) hx hb hown (hts (.constantLong RX4 129 (31)) (List.mem_of_getElem? (i := 2) rfl)) dX4_digestOn_72 ?_
                    refine lv_lload_n hx hb dX4_digestOn_75 rfl (lv_at hl 1 rfl) ?_
                    refine lv_lmul hx hb dX4_digestOn_76 ?_
                    refine lv_aload_n hx hb dX4_digestOn_77 rfl (lv_at hl 0 rfl) ?_
                    refine lv_iload hx hb dX4_digestOn_78 (lv_at hl 2 rfl) ?_
                    refine lv_iload hx hb dX4_digestOn_80 (lv_at hl 3 rfl) ?_
                    refine st_callRI (st_runVR (n := 2) (As := [.int x5_6, .int x6_13]) (rest := [.long (31 * x3_12)]) (q0 := 0) F (co_Pa_familyFact l D cy a_this a_familyCell a_familyKind a_familySide a_familyWill a_flitchKind a_flitchCell a_flitchStrength a_past a_sightings a_notes a_marks s_flitchCount s_familyCount s_hung s_day s_familyCell s_familyKind s_familySide s_familyWill x5_6 x6_13 _ h) gX4_digestOn_X4_familyFact rfl (by decide +kernel) rfl hKK hP [0, 1, 2, 3, 4] rfl rfl rfl rfl hl.1 rfl (Nat.le_of_ble_eq_true rfl) dX4_digestOn_82) (fun r_17 h => ?_)
                    refine lv_i2l hx hb dX4_digestOn_85 rfl ?_
                    refine lv_ladd hx hb dX4_digestOn_86 ?_
                    refine lv_topl (fun x3_18 ex3_18 => ?_)
                    have h := h x3_18 ex3_18
                    refine lv_lstore_n (lv' := [(3, .long x3_18), (0, .ref a_this), (5, .int x5_6), (6, .int x6_13)]) hx hb dX4_digestOn_87 rfl hl (by decide) rfl (fun ls hl => ?_)
                    obtain ⟨x6_19, ex6_19⟩ : ∃ y : Int32, y = x6_13 + 1 := ⟨_, rfl⟩
                    have h := h x6_19 ex6_19
                    refine lv_iinc (v := x6_19) (lv' := [(6, .int x6_19), (3, .long x3_18), (0, .ref a_this), (5, .int x5_6)]) hx hb dX4_digestOn_88 hl (k := 3) rfl (by rw [ex6_19]; rfl) (by decide) rfl (fun ls hl => ?_)
                    refine lv_goto (tgt := 66) hx hb dX4_digestOn_91 (by decide) ?_
                    exact ih66_13 _ _ _ h (lv_sub hl [2, 1, 3, 0] rfl)
              exact kT66_13 n66_13 _ _ _ h (lv_sub hl [1, 2, 3, 0] rfl)
        exact kT54_6 n54_6 _ _ _ h (lv_sub hl [1, 2, 0] rfl)
      · have h := h.2 c_4
        refine lv_iconst (v := 0) hx hb dX4_digestOn_14 (by decide) ?_
        refine lv_istore (lv' := [(6, .int 0), (0, .ref a_this), (3, .long x3_1), (5, .int x5_2)]) hx hb dX4_digestOn_15 hl (by decide) rfl (fun ls hl => ?_)
        obtain ⟨T17_21, hz17_21, hs17_21, n17_21, h⟩ := lpw2_use h
        have kT17_21 : ∀ (n : Nat) (x3_20 : Int64) (x6_21 : Int32) (ls : Array Slot), T17_21 n x3_20 x6_21 → lv_has ls 7 [(0, .ref a_this), (3, .long x3_20), (5, .int x5_2), (6, .int x6_21)] → W p l e rm_Pa_digestOn s m args below meth c s.heap [] 0 0 QQ (F0 m 17 ls []) := by
          intro n
          induction n with
          | zero => intro x3_20 x6_21 ls h; exact absurd h (hz17_21 _ _)
          | succ n ih17_21 =>
            intro x3_20 x6_21 ls h hl
            have h := hs17_21 _ _ _ h
            refine lv_iload hx hb dX4_digestOn_17 (lv_at hl 3 rfl) ?_
            refine lv_iconst (v := 4) hx hb dX4_digestOn_19 (by decide) ?_
            refine lv_icmp_ge (tgt := 45) hx hb dX4_digestOn_20 (by decide) (fun c_23 => ?_) (fun c_23 => ?_)
            · have h := h.1 c_23
              obtain ⟨x5_24, ex5_24⟩ : ∃ y : Int32, y = x5_2 + 1 := ⟨_, rfl⟩
              have h := h x5_24 ex5_24
              refine lv_iinc (v := x5_24) (lv' := [(5, .int x5_24), (0, .ref a_this), (3, .long x3_20), (6, .int x6_21)]) hx hb dX4_digestOn_45 hl (k := 2) rfl (by rw [ex5_24]; rfl) (by decide) rfl (fun ls hl => ?_)
              refine lv_goto (tgt := 5) hx hb dX4_digestOn_48 (by decide) ?_
              exact ih5_2 _ _ _ h (lv_sub hl [1, 2, 0] rfl)
            · have h := h.2 c_23
              refine lv_ldc2 (v := 31) hx hb hown (hts (.constantLong RX4 129 (31)) (List.mem_of_getElem? (i := 2) rfl)) dX4_digestOn_23 ?_
              refine lv_lload_n hx hb dX4_digestOn_26 rfl (lv_at hl 1 rfl) ?_
              refine lv_lmul hx hb dX4_digestOn_27 ?_
              refine lv_aload_n hx hb dX4_digestOn_28 rfl (lv_at hl 0 rfl) ?_
              refine lv_iload hx hb dX4_digestOn_29 (lv_at hl 2 rfl) ?_
              refine lv_iload hx hb dX4_digestOn_31 (lv_at hl 3 rfl) ?_
              refine st_callRI (st_runVR (n := 2) (As := [.int x5_2, .int x6_21]) (rest := [.long (31 * x3_20)]) (q0 := 0) F (co_Pa_flitchFact l D cy a_this a_flitchCell a_flitchKind a_flitchStrength a_familyKind a_familySide a_familyCell a_familyWill a_past a_sightings a_notes a_marks s_flitchCount s_familyCount s_hung s_day s_flitchCell s_flitchKind s_flitchStrength x5_2 x6_21 _ h) gX4_digestOn_X4_flitchFact rfl (by decide +kernel) rfl hKK hP [0, 5, 6, 7] rfl rfl rfl rfl hl.1 rfl (Nat.le_of_ble_eq_true rfl) dX4_digestOn_33) (fun r_25 h => ?_)
              refine lv_i2l hx hb dX4_digestOn_36 rfl ?_
              refine lv_ladd hx hb dX4_digestOn_37 ?_
              refine lv_topl (fun x3_26 ex3_26 => ?_)
              have h := h x3_26 ex3_26
              refine lv_lstore_n (lv' := [(3, .long x3_26), (0, .ref a_this), (5, .int x5_2), (6, .int x6_21)]) hx hb dX4_digestOn_38 rfl hl (by decide) rfl (fun ls hl => ?_)
              obtain ⟨x6_27, ex6_27⟩ : ∃ y : Int32, y = x6_21 + 1 := ⟨_, rfl⟩
              have h := h x6_27 ex6_27
              refine lv_iinc (v := x6_27) (lv' := [(6, .int x6_27), (3, .long x3_26), (0, .ref a_this), (5, .int x5_2)]) hx hb dX4_digestOn_39 hl (k := 3) rfl (by rw [ex6_27]; rfl) (by decide) rfl (fun ls hl => ?_)
              refine lv_goto (tgt := 17) hx hb dX4_digestOn_42 (by decide) ?_
              exact ih17_21 _ _ _ h (lv_sub hl [2, 1, 3, 0] rfl)
        exact kT17_21 n17_21 _ _ _ h (lv_sub hl [1, 2, 3, 0] rfl)
  exact kT5_2 n5_2 _ _ _ h (lv_sub hl [2, 1, 0] rfl)
abbrev Wd_Ph_beside (cy : ClassId × ClassId × ClassId × ClassId) : va_W := []
abbrev rm_Ph_beside : Room := { frames := 0, cells := 0, slots := 0, locals := 0 }
def wp_Ph_beside (x0 : Int32) (x1 : Int32) (Q : Int32 → Prop) : Prop := ((x1 = 0 → ((x0 < 5 → Q (-1)) ∧ (¬ x0 < 5 → Q (x0 - 5)))) ∧ (¬ x1 = 0 → ((x1 = 1 → (((irem x0 5) ≤ 0 → Q (-1)) ∧ (¬ (irem x0 5) ≤ 0 → Q (x0 - 1)))) ∧ (¬ x1 = 1 → ((x1 = 2 → ((4 ≤ (irem x0 5) → Q (-1)) ∧ (¬ 4 ≤ (irem x0 5) → Q (x0 + 1)))) ∧ (¬ x1 = 2 → ((25 ≤ (x0 + 5) → Q (-1)) ∧ (¬ 25 ≤ (x0 + 5) → Q (x0 + 5)))))))))
set_option maxHeartbeats 4000000 in
set_option maxRecDepth 100000 in
theorem co_Ph_beside (l : Launch) (D : va_G) (cy : ClassId × ClassId × ClassId × ClassId) (x0 : Int32) (x1 : Int32) (Q : Int32 → Prop) (h : wp_Ph_beside x0 x1 Q) : RoI l yX5_beside wsX5_beside rm_Ph_beside D cy [.int x0, .int x1] (Wd_Ph_beside cy) Q := by
  refine st_metRI (cc := cX5_beside) (maxL := 2) RX5 (by decide) rfl rfl (Nat.le_of_ble_eq_true rfl) ?_
  intro p e s m args below meth c QQ ls F hKK hP hl hret
  have hK := hKK.1
  have hnest := hKK.2.1
  have hx := F.1
  have hb := F.2.1
  have hown := F.2.2.2.1
  have hts := F.2.2.2.2
  have hl : lv_has ls 2 [(0, .int x0), (1, .int x1)] := hl
  unfold wp_Ph_beside at h
  refine lv_iload_n hx hb dX5_beside_0 rfl (lv_at hl 1 rfl) ?_
  by_cases c_1 : x1 = 0
  · have h := h.1 c_1
    refine lv_tableIn (tgt := 28) hx hb dX5_beside_1 (by rw [c_1]; decide) (by rw [c_1]; decide) (by rw [c_1]; rfl) (by decide) ?_
    refine lv_iload_n hx hb dX5_beside_28 rfl (lv_at hl 0 rfl) ?_
    refine lv_iconst (v := 5) hx hb dX5_beside_29 (by decide) ?_
    refine lv_icmp_lt (tgt := 39) hx hb dX5_beside_30 (by decide) (fun c_2 => ?_) (fun c_2 => ?_)
    · have h := h.1 c_2
      refine lv_iconst (v := (-1)) hx hb dX5_beside_39 (by decide) ?_
      exact hret _ _ _ h dX5_beside_40
    · have h := h.2 c_2
      refine lv_iload_n hx hb dX5_beside_33 rfl (lv_at hl 0 rfl) ?_
      refine lv_iconst (v := 5) hx hb dX5_beside_34 (by decide) ?_
      refine lv_isub hx hb dX5_beside_35 ?_
      refine lv_goto (tgt := 40) hx hb dX5_beside_36 (by decide) ?_
      exact hret _ _ _ h dX5_beside_40
  · have h := h.2 c_1
    by_cases c_3 : x1 = 1
    · have h := h.1 c_3
      refine lv_tableIn (tgt := 41) hx hb dX5_beside_1 (by rw [c_3]; decide) (by rw [c_3]; decide) (by rw [c_3]; rfl) (by decide) ?_
      refine lv_iload_n hx hb dX5_beside_41 rfl (lv_at hl 0 rfl) ?_
      refine lv_iconst (v := 5) hx hb dX5_beside_42 (by decide) ?_
      refine lv_irem hx hb dX5_beside_43 (by decide) ?_
      refine lv_if_le (tgt := 53) hx hb dX5_beside_44 (by decide) (fun c_4 => ?_) (fun c_4 => ?_)
      · have h := h.1 c_4
        refine lv_iconst (v := (-1)) hx hb dX5_beside_53 (by decide) ?_
        exact hret _ _ _ h dX5_beside_54
      · have h := h.2 c_4
        refine lv_iload_n hx hb dX5_beside_47 rfl (lv_at hl 0 rfl) ?_
        refine lv_iconst (v := 1) hx hb dX5_beside_48 (by decide) ?_
        refine lv_isub hx hb dX5_beside_49 ?_
        refine lv_goto (tgt := 54) hx hb dX5_beside_50 (by decide) ?_
        exact hret _ _ _ h dX5_beside_54
    · have h := h.2 c_3
      by_cases c_5 : x1 = 2
      · have h := h.1 c_5
        refine lv_tableIn (tgt := 55) hx hb dX5_beside_1 (by rw [c_5]; decide) (by rw [c_5]; decide) (by rw [c_5]; rfl) (by decide) ?_
        refine lv_iload_n hx hb dX5_beside_55 rfl (lv_at hl 0 rfl) ?_
        refine lv_iconst (v := 5) hx hb dX5_beside_56 (by decide) ?_
        refine lv_irem hx hb dX5_beside_57 (by decide) ?_
        refine lv_iconst (v := 4) hx hb dX5_beside_58 (by decide) ?_
        refine lv_icmp_ge (tgt := 68) hx hb dX5_beside_59 (by decide) (fun c_6 => ?_) (fun c_6 => ?_)
        · have h := h.1 c_6
          refine lv_iconst (v := (-1)) hx hb dX5_beside_68 (by decide) ?_
          exact hret _ _ _ h dX5_beside_69
        · have h := h.2 c_6
          refine lv_iload_n hx hb dX5_beside_62 rfl (lv_at hl 0 rfl) ?_
          refine lv_iconst (v := 1) hx hb dX5_beside_63 (by decide) ?_
          refine lv_iadd hx hb dX5_beside_64 ?_
          refine lv_goto (tgt := 69) hx hb dX5_beside_65 (by decide) ?_
          exact hret _ _ _ h dX5_beside_69
      · have h := h.2 c_5
        have nc_1 := lv_neT c_1 (a := 0) (by decide)
        have nc_3 := lv_neT c_3 (a := 1) (by decide)
        have nc_5 := lv_neT c_5 (a := 2) (by decide)
        refine lv_tableOut (tgt := 70) hx hb dX5_beside_1 (by omega) (by decide) ?_
        refine lv_iload_n hx hb dX5_beside_70 rfl (lv_at hl 0 rfl) ?_
        refine lv_iconst (v := 5) hx hb dX5_beside_71 (by decide) ?_
        refine lv_iadd hx hb dX5_beside_72 ?_
        refine lv_bipush (v := 25) hx hb dX5_beside_73 (by decide) ?_
        refine lv_icmp_ge (tgt := 84) hx hb dX5_beside_75 (by decide) (fun c_7 => ?_) (fun c_7 => ?_)
        · have h := h.1 c_7
          refine lv_iconst (v := (-1)) hx hb dX5_beside_84 (by decide) ?_
          exact hret _ _ _ h dX5_beside_85
        · have h := h.2 c_7
          refine lv_iload_n hx hb dX5_beside_78 rfl (lv_at hl 0 rfl) ?_
          refine lv_iconst (v := 5) hx hb dX5_beside_79 (by decide) ?_
          refine lv_iadd hx hb dX5_beside_80 ?_
          refine lv_goto (tgt := 85) hx hb dX5_beside_81 (by decide) ?_
          exact hret _ _ _ h dX5_beside_85
abbrev Wd_Ph_improve (cy : ClassId × ClassId × ClassId × ClassId) (a_this a_cost a_entering a_parish : Nat) (s_goal : Int32) (s_cost : Nat → Int32) (s_entering : Nat → Int32) : va_W := [(a_this, .inr (4, [.ref a_parish, .ref a_entering, .ref a_cost, .int s_goal])), (a_cost, .inl (cy.2.1, 25, .inl s_cost)), (a_entering, .inl (cy.2.1, 25, .inl s_entering))]
abbrev rm_Ph_improve : Room := { frames := 1, cells := 0, slots := 0, locals := 21 }
def wp_Ph_improve (x1 : Int32) (s_cost : Nat → Int32) (s_entering : Nat → Int32) (Q : Int32 → (Nat → Int32) → Prop) : Prop := ∃ n : Nat, lpw3 (fun (B4 : Int32 → Int32 → (Nat → Int32) → Prop) (x2_1 : Int32) (x3_2 : Int32) (s_cost_3 : Nat → Int32) => ((4 ≤ x3_2 → bz x2_1 ∧ Q x2_1 s_cost_3) ∧ (¬ 4 ≤ x3_2 → wp_Ph_beside x1 x3_2 (fun (r_7 : Int32) => jn2 (fun (J69 : Int32 → (Nat → Int32) → Prop) => ((r_7 = (-1) → J69 x2_1 s_cost_3) ∧ (¬ r_7 = (-1) → vp_in r_7 25 ∧ vp_in r_7 25 ∧ vp_in x1 25 ∧ (((s_cost_3 (Int32.toNatClampNeg x1)) ≤ ((s_cost_3 (Int32.toNatClampNeg r_7)) + (s_entering (Int32.toNatClampNeg r_7))) → J69 x2_1 s_cost_3) ∧ (¬ (s_cost_3 (Int32.toNatClampNeg x1)) ≤ ((s_cost_3 (Int32.toNatClampNeg r_7)) + (s_entering (Int32.toNatClampNeg r_7))) → vp_in r_7 25 ∧ vp_in r_7 25 ∧ vp_in x1 25 ∧ ∀ s_cost_20 : Nat → Int32, s_cost_20 = upd s_cost_3 (Int32.toNatClampNeg x1) ((s_cost_3 (Int32.toNatClampNeg r_7)) + (s_entering (Int32.toNatClampNeg r_7))) → J69 1 s_cost_20))))) (fun (x2_8 : Int32) (s_cost_9 : Nat → Int32) => ∀ x3_11 : Int32, x3_11 = x3_2 + 1 → B4 x2_8 x3_11 s_cost_9))))) n 0 0 s_cost
set_option maxHeartbeats 4000000 in
set_option maxRecDepth 100000 in
theorem co_Ph_improve (l : Launch) (D : va_G) (cy : ClassId × ClassId × ClassId × ClassId) (a_this a_cost a_entering a_parish : Nat) (s_goal : Int32) (s_cost : Nat → Int32) (s_entering : Nat → Int32) (x1 : Int32) (Q : Int32 → (Nat → Int32) → Prop) (h : wp_Ph_improve x1 s_cost s_entering Q) : CoI l yX5_improve wsX5_improve rm_Ph_improve D cy [.ref a_this, .int x1] (Wd_Ph_improve cy a_this a_cost a_entering a_parish s_goal s_cost s_entering) (fun u : (Nat → Int32) => (Wd_Ph_improve cy a_this a_cost a_entering a_parish s_goal u s_entering)) (fun (r : Int32) (u : (Nat → Int32)) => Q r u) := by
  refine st_metZ (cc := cX5_improve) (maxL := 5) RX5 (by decide) rfl rfl (Nat.le_of_ble_eq_true rfl) ?_
  intro p e s m args below meth c A QQ ls F hA hKK hP hD hS hl hret
  have hK := hKK.1
  have hnest := hKK.2.1
  have hx := F.1
  have hb := F.2.1
  have hown := F.2.2.2.1
  have hts := F.2.2.2.2
  have in_X5 : ∀ w ∈ u_ws RX5 TX5 4, w ∈ wsX5_improve := (fun _ h => List.mem_cons_of_mem _ (List.mem_append_right _ h))
  have fl_9 := (hts (.fieldLink RX5 9 "RasherCase$Paths" "entering" "[I") (List.mem_of_getElem? (i := 2) rfl))
  have fl_15 := (hts (.fieldLink RX5 15 "RasherCase$Paths" "cost" "[I") (List.mem_of_getElem? (i := 1) rfl))
  have hl : lv_has ls 5 [(0, .ref a_this), (1, .int x1)] := hl
  unfold wp_Ph_improve at h
  refine lv_iconst (v := 0) hx hb dX5_improve_0 (by decide) ?_
  refine lv_istore_n (lv' := [(2, .int 0), (0, .ref a_this), (1, .int x1)]) hx hb dX5_improve_1 rfl hl (by decide) rfl (fun ls hl => ?_)
  refine lv_iconst (v := 0) hx hb dX5_improve_2 (by decide) ?_
  refine lv_istore_n (lv' := [(3, .int 0), (2, .int 0), (0, .ref a_this), (1, .int x1)]) hx hb dX5_improve_3 rfl hl (by decide) rfl (fun ls hl => ?_)
  obtain ⟨T4_3, hz4_3, hs4_3, n4_3, h⟩ := lpw3_use h
  have kT4_3 : ∀ (n : Nat) (x2_1 : Int32) (x3_2 : Int32) (s_cost_3 : Nat → Int32) (H : Heap) (locs : List Loc) (ls : Array Slot), T4_3 n x2_1 x3_2 s_cost_3 → va_P D vwCl (Wd_Ph_improve cy a_this a_cost a_entering a_parish s_goal s_cost_3 s_entering) H → va_D A (Wd_Ph_improve cy a_this a_cost a_entering a_parish s_goal s_cost_3 s_entering) → va_S A s.heap H locs → lv_has ls 5 [(0, .ref a_this), (1, .int x1), (2, .int x2_1), (3, .int x3_2)] → W p l e rm_Ph_improve s m args below meth c H locs 0 0 QQ (F0 m 4 ls []) := by
    intro n
    induction n with
    | zero => intro x2_1 x3_2 s_cost_3 H locs ls h; exact absurd h (hz4_3 _ _ _)
    | succ n ih4_3 =>
      intro x2_1 x3_2 s_cost_3 H locs ls h hP hD hS hl
      have h := hs4_3 _ _ _ _ h
      refine lv_iload_n hx hb dX5_improve_4 rfl (lv_at hl 3 rfl) ?_
      refine lv_iconst (v := 4) hx hb dX5_improve_5 (by decide) ?_
      refine lv_icmp_ge (tgt := 75) hx hb dX5_improve_6 (by decide) (fun c_5 => ?_) (fun c_5 => ?_)
      · have h := h.1 c_5
        refine lv_iload_n hx hb dX5_improve_75 rfl (lv_at hl 2 rfl) ?_
        obtain ⟨hz_6, h⟩ := h
        exact hret _ (s_cost_3) _ _ _ _ hz_6 h hP hD hS dX5_improve_76
      · have h := h.2 c_5
        refine lv_iload_n hx hb dX5_improve_9 rfl (lv_at hl 1 rfl) ?_
        refine lv_iload_n hx hb dX5_improve_10 rfl (lv_at hl 3 rfl) ?_
        refine st_callRI (st_runSR (n := 2) (As := [.int x1, .int x3_2]) (rest := []) F (co_Ph_beside l D cy x1 x3_2 _ h) gX5_improve_X5_beside rfl (by decide +kernel) rfl hKK hP [] rfl rfl hl.1 rfl (Nat.le_of_ble_eq_true rfl) dX5_improve_11) (fun r_7 h => ?_)
        refine lv_istore (lv' := [(4, .int r_7), (0, .ref a_this), (1, .int x1), (2, .int x2_1), (3, .int x3_2)]) hx hb dX5_improve_14 hl (by decide) rfl (fun ls hl => ?_)
        refine lv_iload hx hb dX5_improve_16 (lv_at hl 0 rfl) ?_
        refine lv_iconst (v := (-1)) hx hb dX5_improve_18 (by decide) ?_
        obtain ⟨J69, hJ69, h⟩ := jn2_ex h
        have kJ69_9 : ∀ (x2_8 : Int32) (s_cost_9 : Nat → Int32) (H : Heap) (locs : List Loc) (ls : Array Slot), J69 x2_8 s_cost_9 → va_P D vwCl (Wd_Ph_improve cy a_this a_cost a_entering a_parish s_goal s_cost_9 s_entering) H → va_D A (Wd_Ph_improve cy a_this a_cost a_entering a_parish s_goal s_cost_9 s_entering) → va_S A s.heap H locs → lv_has ls 5 [(0, .ref a_this), (1, .int x1), (2, .int x2_8), (3, .int x3_2)] → W p l e rm_Ph_improve s m args below meth c H locs 0 0 QQ (F0 m 69 ls []) := by
          intro x2_8 s_cost_9 H locs ls h hP hD hS hl
          have h := hJ69 _ _ h
          obtain ⟨x3_11, ex3_11⟩ : ∃ y : Int32, y = x3_2 + 1 := ⟨_, rfl⟩
          have h := h x3_11 ex3_11
          refine lv_iinc (v := x3_11) (lv' := [(3, .int x3_11), (0, .ref a_this), (1, .int x1), (2, .int x2_8)]) hx hb dX5_improve_69 hl (k := 3) rfl (by rw [ex3_11]; rfl) (by decide) rfl (fun ls hl => ?_)
          refine lv_goto (tgt := 4) hx hb dX5_improve_72 (by decide) ?_
          exact ih4_3 _ _ _ _ _ _ h hP hD hS (lv_sub hl [1, 2, 3, 0] rfl)
        refine lv_icmp_eq (tgt := 69) hx hb dX5_improve_19 (by decide) (fun c_12 => ?_) (fun c_12 => ?_)
        · have h := h.1 c_12
          exact kJ69_9 _ _ _ _ _ h hP hD hS (lv_sub hl [1, 2, 3, 4] rfl)
        · have h := h.2 c_12
          refine lv_aload_n hx hb dX5_improve_22 rfl (lv_at hl 1 rfl) ?_
          refine va_get (D := D) (ci := 4) (v := .ref a_cost) (C := RX5) (T := TX5) (N := 4) hx hb hts in_X5 hown hK hP 0 rfl rfl 2 (by decide) fl_15 (fun _ h9 => h9) rfl dX5_improve_23 ?_
          refine lv_iload hx hb dX5_improve_26 (lv_at hl 0 rfl) ?_
          obtain ⟨hi_13, h⟩ := h
          refine va_iald hx hb hK hP 1 1 rfl rfl hi_13 dX5_improve_28 ?_
          refine lv_aload_n hx hb dX5_improve_29 rfl (lv_at hl 1 rfl) ?_
          refine va_get (D := D) (ci := 4) (v := .ref a_entering) (C := RX5) (T := TX5) (N := 4) hx hb hts in_X5 hown hK hP 0 rfl rfl 1 (by decide) fl_9 (fun _ h9 => h9) rfl dX5_improve_30 ?_
          refine lv_iload hx hb dX5_improve_33 (lv_at hl 0 rfl) ?_
          obtain ⟨hi_14, h⟩ := h
          refine va_iald hx hb hK hP 2 1 rfl rfl hi_14 dX5_improve_35 ?_
          refine lv_iadd hx hb dX5_improve_36 ?_
          refine lv_aload_n hx hb dX5_improve_37 rfl (lv_at hl 1 rfl) ?_
          refine va_get (D := D) (ci := 4) (v := .ref a_cost) (C := RX5) (T := TX5) (N := 4) hx hb hts in_X5 hown hK hP 0 rfl rfl 2 (by decide) fl_15 (fun _ h9 => h9) rfl dX5_improve_38 ?_
          refine lv_iload_n hx hb dX5_improve_41 rfl (lv_at hl 2 rfl) ?_
          obtain ⟨hi_15, h⟩ := h
          refine va_iald hx hb hK hP 1 1 rfl rfl hi_15 dX5_improve_42 ?_
          refine lv_icmp_ge (tgt := 69) hx hb dX5_improve_43 (by decide) (fun c_16 => ?_) (fun c_16 => ?_)
          · have h := h.1 c_16
            exact kJ69_9 _ _ _ _ _ h hP hD hS (lv_sub hl [1, 2, 3, 4] rfl)
          · have h := h.2 c_16
            refine lv_aload_n hx hb dX5_improve_46 rfl (lv_at hl 1 rfl) ?_
            refine va_get (D := D) (ci := 4) (v := .ref a_cost) (C := RX5) (T := TX5) (N := 4) hx hb hts in_X5 hown hK hP 0 rfl rfl 2 (by decide) fl_15 (fun _ h9 => h9) rfl dX5_improve_47 ?_
            refine lv_iload_n hx hb dX5_improve_50 rfl (lv_at hl 2 rfl) ?_
            refine lv_aload_n hx hb dX5_improve_51 rfl (lv_at hl 1 rfl) ?_
            refine va_get (D := D) (ci := 4) (v := .ref a_cost) (C := RX5) (T := TX5) (N := 4) hx hb hts in_X5 hown hK hP 0 rfl rfl 2 (by decide) fl_15 (fun _ h9 => h9) rfl dX5_improve_52 ?_
            refine lv_iload hx hb dX5_improve_55 (lv_at hl 0 rfl) ?_
            obtain ⟨hi_17, h⟩ := h
            refine va_iald hx hb hK hP 1 1 rfl rfl hi_17 dX5_improve_57 ?_
            refine lv_aload_n hx hb dX5_improve_58 rfl (lv_at hl 1 rfl) ?_
            refine va_get (D := D) (ci := 4) (v := .ref a_entering) (C := RX5) (T := TX5) (N := 4) hx hb hts in_X5 hown hK hP 0 rfl rfl 1 (by decide) fl_9 (fun _ h9 => h9) rfl dX5_improve_59 ?_
            refine lv_iload hx hb dX5_improve_62 (lv_at hl 0 rfl) ?_
            obtain ⟨hi_18, h⟩ := h
            refine va_iald hx hb hK hP 2 1 rfl rfl hi_18 dX5_improve_64 ?_
            refine lv_iadd hx hb dX5_improve_65 ?_
            obtain ⟨hi_19, h⟩ := h
            refine va_iast hx hb hK hP hD hS 1 1 rfl rfl hi_19 dX5_improve_66 (fun H locs hP hD hS => ?_)
            obtain ⟨s_cost_20, es_cost_20⟩ : ∃ f : Nat → Int32, f = upd s_cost_3 (Int32.toNatClampNeg x1) ((s_cost_3 (Int32.toNatClampNeg r_7)) + (s_entering (Int32.toNatClampNeg r_7))) := ⟨_, rfl⟩
            have hP : va_P D vwCl (Wd_Ph_improve cy a_this a_cost a_entering a_parish s_goal s_cost_20 s_entering) H := by rw [es_cost_20]; exact hP
            have hD : va_D A (Wd_Ph_improve cy a_this a_cost a_entering a_parish s_goal s_cost_20 s_entering) := by rw [es_cost_20]; exact hD
            have h := h s_cost_20 es_cost_20
            refine lv_iconst (v := 1) hx hb dX5_improve_67 (by decide) ?_
            refine lv_istore_n (lv' := [(2, .int 1), (4, .int r_7), (0, .ref a_this), (1, .int x1), (3, .int x3_2)]) hx hb dX5_improve_68 rfl hl (by decide) rfl (fun ls hl => ?_)
            exact kJ69_9 _ _ _ _ _ h hP hD hS (lv_sub hl [2, 3, 0, 4] rfl)
  exact kT4_3 n4_3 _ _ _ _ _ _ h hP hD hS (lv_sub hl [2, 3, 1, 0] rfl)
