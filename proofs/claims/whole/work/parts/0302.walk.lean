abbrev Wd_Fs_bestCell (cy : ClassId × ClassId × ClassId × ClassId) (a_this a_parish a_parish_familyKind a_parish_familyWill a_parish_flitchCell a_parish_flitchKind a_parish_flitchStrength a_taken a_lapses a_wills a_cells a_smelling a_windy a_parish_familySide a_parish_familyCell a_parish_past a_parish_sightings a_parish_notes a_parish_marks : Nat) (s_parish_flitchCount : Int32) (s_parish_familyCount : Int32) (s_parish_hung : Int32) (s_parish_day : Int32) (s_parish_familyKind : Nat → Int32) (s_parish_familyWill : Nat → Int32) (s_parish_flitchCell : Nat → Int32) (s_parish_flitchKind : Nat → Int32) (s_parish_flitchStrength : Nat → Int32) (s_taken : Nat → Int32) : va_W := [(a_this, .inr (1, [.ref a_parish, .ref a_taken, .ref a_lapses, .ref a_wills, .ref a_cells, .ref a_smelling, .ref a_windy])), (a_parish, .inr (3, [.ref a_parish_flitchKind, .ref a_parish_flitchCell, .ref a_parish_flitchStrength, .ref a_parish_familyKind, .ref a_parish_familySide, .ref a_parish_familyCell, .ref a_parish_familyWill, .ref a_parish_past, .ref a_parish_sightings, .ref a_parish_notes, .ref a_parish_marks, .int s_parish_flitchCount, .int s_parish_familyCount, .int s_parish_hung, .int s_parish_day])), (a_parish_familyKind, .inl (cy.2.1, 7, .inl s_parish_familyKind)), (a_parish_familyWill, .inl (cy.2.1, 7, .inl s_parish_familyWill)), (a_parish_flitchCell, .inl (cy.2.1, 3, .inl s_parish_flitchCell)), (a_parish_flitchKind, .inl (cy.2.1, 3, .inl s_parish_flitchKind)), (a_parish_flitchStrength, .inl (cy.2.1, 3, .inl s_parish_flitchStrength)), (a_taken, .inl (cy.2.1, 61, .inl s_taken))]
abbrev rm_Fs_bestCell : Room := { frames := 4, cells := 0, slots := 0, locals := 126 }
def wp_Fs_bestCell (x1 : Int32) (s_parish_flitchCount : Int32) (s_parish_hung : Int32) (s_parish_day : Int32) (s_parish_familyKind : Nat → Int32) (s_parish_familyWill : Nat → Int32) (s_parish_flitchCell : Nat → Int32) (s_parish_flitchKind : Nat → Int32) (s_parish_flitchStrength : Nat → Int32) (s_taken : Nat → Int32) (Q : Int32 → (Nat → Int32) → Prop) : Prop := ∃ n : Nat, lpw4 (fun (B7 : Int32 → Int32 → Int32 → (Nat → Int32) → Prop) (x2_1 : Int32) (x3_2 : Int32) (x4_3 : Int32) (s_taken_4 : Nat → Int32) => ((25 ≤ x4_3 → Q x2_1 s_taken_4) ∧ (¬ 25 ≤ x4_3 → wp_Fs_lapseWithin x1 x4_3 60 s_parish_flitchCount s_parish_hung s_parish_day s_parish_familyKind s_parish_familyWill s_parish_flitchCell s_parish_flitchKind s_parish_flitchStrength s_taken_4 (fun (r_7 : Int32) (s_taken_8 : Nat → Int32) => jn1 (fun (J38 : Int32 → Prop) => ((¬ r_7 = (-1) → J38 r_7) ∧ (r_7 = (-1) → J38 61))) (fun (v_9 : Int32) => jn2 (fun (J52 : Int32 → Int32 → Prop) => ((v_9 ≤ x3_2 → J52 x2_1 x3_2) ∧ (¬ v_9 ≤ x3_2 → J52 x4_3 v_9))) (fun (x2_11 : Int32) (x3_12 : Int32) => ∀ x4_14 : Int32, x4_14 = x4_3 + 1 → B7 x2_11 x3_12 x4_14 s_taken_8)))))) n 0 (-1) 0 s_taken
set_option maxHeartbeats 4000000 in
set_option maxRecDepth 100000 in
theorem co_Fs_bestCell (l : Launch) (D : va_G) (cy : ClassId × ClassId × ClassId × ClassId) (a_this a_parish a_parish_familyKind a_parish_familyWill a_parish_flitchCell a_parish_flitchKind a_parish_flitchStrength a_taken a_lapses a_wills a_cells a_smelling a_windy a_parish_familySide a_parish_familyCell a_parish_past a_parish_sightings a_parish_notes a_parish_marks : Nat) (s_parish_flitchCount : Int32) (s_parish_familyCount : Int32) (s_parish_hung : Int32) (s_parish_day : Int32) (s_parish_familyKind : Nat → Int32) (s_parish_familyWill : Nat → Int32) (s_parish_flitchCell : Nat → Int32) (s_parish_flitchKind : Nat → Int32) (s_parish_flitchStrength : Nat → Int32) (s_taken : Nat → Int32) (x1 : Int32) (Q : Int32 → (Nat → Int32) → Prop) (h : wp_Fs_bestCell x1 s_parish_flitchCount s_parish_hung s_parish_day s_parish_familyKind s_parish_familyWill s_parish_flitchCell s_parish_flitchKind s_parish_flitchStrength s_taken Q) : CoI l yX1_bestCell wsX1_bestCell rm_Fs_bestCell D cy [.ref a_this, .int x1] (Wd_Fs_bestCell cy a_this a_parish a_parish_familyKind a_parish_familyWill a_parish_flitchCell a_parish_flitchKind a_parish_flitchStrength a_taken a_lapses a_wills a_cells a_smelling a_windy a_parish_familySide a_parish_familyCell a_parish_past a_parish_sightings a_parish_notes a_parish_marks s_parish_flitchCount s_parish_familyCount s_parish_hung s_parish_day s_parish_familyKind s_parish_familyWill s_parish_flitchCell s_parish_flitchKind s_parish_flitchStrength s_taken) (fun u : (Nat → Int32) => (Wd_Fs_bestCell cy a_this a_parish a_parish_familyKind a_parish_familyWill a_parish_flitchCell a_parish_flitchKind a_parish_flitchStrength a_taken a_lapses a_wills a_cells a_smelling a_windy a_parish_familySide a_parish_familyCell a_parish_past a_parish_sightings a_parish_notes a_parish_marks s_parish_flitchCount s_parish_familyCount s_parish_hung s_parish_day s_parish_familyKind s_parish_familyWill s_parish_flitchCell s_parish_flitchKind s_parish_flitchStrength u)) (fun (r : Int32) (u : (Nat → Int32)) => Q r u) := by
  refine st_metI (cc := cX1_bestCell) (maxL := 7) RX1 (by decide) rfl rfl (Nat.le_of_ble_eq_true rfl) ?_
  intro p e s m args below meth c A QQ ls F hA hKK hP hD hS hl hret
  have hK := hKK.1
  have hnest := hKK.2
  have hx := F.1
  have hb := F.2.1
  have hown := F.2.2.2.1
  have hts := F.2.2.2.2
  have hl : lv_has ls 7 [(0, .ref a_this), (1, .int x1)] := hl
  unfold wp_Fs_bestCell at h
  refine lv_iconst (v := 0) hx hb dX1_bestCell_0 (by decide) ?_
  refine lv_istore_n (lv' := [(2, .int 0), (0, .ref a_this), (1, .int x1)]) hx hb dX1_bestCell_1 rfl hl (by decide) rfl (fun ls hl => ?_)
  refine lv_iconst (v := (-1)) hx hb dX1_bestCell_2 (by decide) ?_
  refine lv_istore_n (lv' := [(3, .int (-1)), (2, .int 0), (0, .ref a_this), (1, .int x1)]) hx hb dX1_bestCell_3 rfl hl (by decide) rfl (fun ls hl => ?_)
  refine lv_iconst (v := 0) hx hb dX1_bestCell_4 (by decide) ?_
  refine lv_istore (lv' := [(4, .int 0), (3, .int (-1)), (2, .int 0), (0, .ref a_this), (1, .int x1)]) hx hb dX1_bestCell_5 hl (by decide) rfl (fun ls hl => ?_)
  obtain ⟨T7_4, hz7_4, hs7_4, n7_4, h⟩ := lpw4_use h
  have kT7_4 : ∀ (n : Nat) (x2_1 : Int32) (x3_2 : Int32) (x4_3 : Int32) (s_taken_4 : Nat → Int32) (H : Heap) (locs : List Loc) (ls : Array Slot), T7_4 n x2_1 x3_2 x4_3 s_taken_4 → va_P D vwCl (Wd_Fs_bestCell cy a_this a_parish a_parish_familyKind a_parish_familyWill a_parish_flitchCell a_parish_flitchKind a_parish_flitchStrength a_taken a_lapses a_wills a_cells a_smelling a_windy a_parish_familySide a_parish_familyCell a_parish_past a_parish_sightings a_parish_notes a_parish_marks s_parish_flitchCount s_parish_familyCount s_parish_hung s_parish_day s_parish_familyKind s_parish_familyWill s_parish_flitchCell s_parish_flitchKind s_parish_flitchStrength s_taken_4) H → va_D A (Wd_Fs_bestCell cy a_this a_parish a_parish_familyKind a_parish_familyWill a_parish_flitchCell a_parish_flitchKind a_parish_flitchStrength a_taken a_lapses a_wills a_cells a_smelling a_windy a_parish_familySide a_parish_familyCell a_parish_past a_parish_sightings a_parish_notes a_parish_marks s_parish_flitchCount s_parish_familyCount s_parish_hung s_parish_day s_parish_familyKind s_parish_familyWill s_parish_flitchCell s_parish_flitchKind s_parish_flitchStrength s_taken_4) → va_S A s.heap H locs → lv_has ls 7 [(0, .ref a_this), (1, .int x1), (2, .int x2_1), (3, .int x3_2), (4, .int x4_3)] → W p l e rm_Fs_bestCell s m args below meth c H locs 0 0 QQ (F0 m 7 ls []) := by
    intro n
    induction n with
    | zero => intro x2_1 x3_2 x4_3 s_taken_4 H locs ls h; exact absurd h (hz7_4 _ _ _ _)
    | succ n ih7_4 =>
      intro x2_1 x3_2 x4_3 s_taken_4 H locs ls h hP hD hS hl
      have h := hs7_4 _ _ _ _ _ h
      refine lv_iload hx hb dX1_bestCell_7 (lv_at hl 4 rfl) ?_
      refine lv_bipush (v := 25) hx hb dX1_bestCell_9 (by decide) ?_
      refine lv_icmp_ge (tgt := 58) hx hb dX1_bestCell_11 (by decide) (fun c_6 => ?_) (fun c_6 => ?_)
      · have h := h.1 c_6
        refine lv_iload_n hx hb dX1_bestCell_58 rfl (lv_at hl 2 rfl) ?_
        exact hret _ (s_taken_4) _ _ _ _ h hP hD hS dX1_bestCell_59
      · have h := h.2 c_6
        refine lv_aload_n hx hb dX1_bestCell_14 rfl (lv_at hl 0 rfl) ?_
        refine lv_iload_n hx hb dX1_bestCell_15 rfl (lv_at hl 1 rfl) ?_
        refine lv_iload hx hb dX1_bestCell_16 (lv_at hl 4 rfl) ?_
        refine lv_bipush (v := 60) hx hb dX1_bestCell_18 (by decide) ?_
        refine st_callI (WR := []) (WSn := fun u => (Wd_Fs_bestCell cy a_this a_parish a_parish_familyKind a_parish_familyWill a_parish_flitchCell a_parish_flitchKind a_parish_flitchStrength a_taken a_lapses a_wills a_cells a_smelling a_windy a_parish_familySide a_parish_familyCell a_parish_past a_parish_sightings a_parish_notes a_parish_marks s_parish_flitchCount s_parish_familyCount s_parish_hung s_parish_day s_parish_familyKind s_parish_familyWill s_parish_flitchCell s_parish_flitchKind s_parish_flitchStrength u)) (st_runV (n := 3) (As := [.int x1, .int x4_3, .int 60]) (rest := []) (q0 := 0) F ((co_Fs_lapseWithin l D cy a_this a_parish a_parish_familyKind a_parish_familyWill a_parish_flitchCell a_parish_flitchKind a_parish_flitchStrength a_taken a_lapses a_wills a_cells a_smelling a_windy a_parish_familySide a_parish_familyCell a_parish_past a_parish_sightings a_parish_notes a_parish_marks s_parish_flitchCount s_parish_familyCount s_parish_hung s_parish_day s_parish_familyKind s_parish_familyWill s_parish_flitchCell s_parish_flitchKind s_parish_flitchStrength s_taken_4 x1 x4_3 60 _ h) _) rfl gX1_bestCell_X1_lapseWithin rfl (by decide +kernel) rfl hKK hP hD [0, 1, 2, 3, 4, 5, 6, 7] rfl rfl rfl rfl rfl hl.1 rfl (Nat.le_of_ble_eq_true rfl) dX1_bestCell_20) hP hD hS hA [0, 1, 2, 3, 4, 5, 6, 7] [] [0, 1, 2, 3, 4, 5, 6, 7] rfl rfl rfl (fun _ => rfl) (fun r_7 u H locs h hP hD hS => ?_)
        obtain ⟨s_taken_8, rfl⟩ : ∃ z, z = u := ⟨_, rfl⟩
        have hP : va_P D vwCl (Wd_Fs_bestCell cy a_this a_parish a_parish_familyKind a_parish_familyWill a_parish_flitchCell a_parish_flitchKind a_parish_flitchStrength a_taken a_lapses a_wills a_cells a_smelling a_windy a_parish_familySide a_parish_familyCell a_parish_past a_parish_sightings a_parish_notes a_parish_marks s_parish_flitchCount s_parish_familyCount s_parish_hung s_parish_day s_parish_familyKind s_parish_familyWill s_parish_flitchCell s_parish_flitchKind s_parish_flitchStrength s_taken_8) H := hP
        have hD : va_D A (Wd_Fs_bestCell cy a_this a_parish a_parish_familyKind a_parish_familyWill a_parish_flitchCell a_parish_flitchKind a_parish_flitchStrength a_taken a_lapses a_wills a_cells a_smelling a_windy a_parish_familySide a_parish_familyCell a_parish_past a_parish_sightings a_parish_notes a_parish_marks s_parish_flitchCount s_parish_familyCount s_parish_hung s_parish_day s_parish_familyKind s_parish_familyWill s_parish_flitchCell s_parish_flitchKind s_parish_flitchStrength s_taken_8) := hD
        refine lv_istore (lv' := [(5, .int r_7), (0, .ref a_this), (1, .int x1), (2, .int x2_1), (3, .int x3_2), (4, .int x4_3)]) hx hb dX1_bestCell_23 hl (by decide) rfl (fun ls hl => ?_)
        refine lv_iload hx hb dX1_bestCell_25 (lv_at hl 0 rfl) ?_
        refine lv_iconst (v := (-1)) hx hb dX1_bestCell_27 (by decide) ?_
        obtain ⟨J38, hJ38, h⟩ := jn1_ex h
        have kJ38_9 : ∀ (v_9 : Int32) (H : Heap) (locs : List Loc) (ls : Array Slot), J38 v_9 → va_P D vwCl (Wd_Fs_bestCell cy a_this a_parish a_parish_familyKind a_parish_familyWill a_parish_flitchCell a_parish_flitchKind a_parish_flitchStrength a_taken a_lapses a_wills a_cells a_smelling a_windy a_parish_familySide a_parish_familyCell a_parish_past a_parish_sightings a_parish_notes a_parish_marks s_parish_flitchCount s_parish_familyCount s_parish_hung s_parish_day s_parish_familyKind s_parish_familyWill s_parish_flitchCell s_parish_flitchKind s_parish_flitchStrength s_taken_8) H → va_D A (Wd_Fs_bestCell cy a_this a_parish a_parish_familyKind a_parish_familyWill a_parish_flitchCell a_parish_flitchKind a_parish_flitchStrength a_taken a_lapses a_wills a_cells a_smelling a_windy a_parish_familySide a_parish_familyCell a_parish_past a_parish_sightings a_parish_notes a_parish_marks s_parish_flitchCount s_parish_familyCount s_parish_hung s_parish_day s_parish_familyKind s_parish_familyWill s_parish_flitchCell s_parish_flitchKind s_parish_flitchStrength s_taken_8) → va_S A s.heap H locs → lv_has ls 7 [(0, .ref a_this), (1, .int x1), (2, .int x2_1), (3, .int x3_2), (4, .int x4_3)] → W p l e rm_Fs_bestCell s m args below meth c H locs 0 0 QQ (F0 m 38 ls [.int v_9]) := by
          intro v_9 H locs ls h hP hD hS hl
          have h := hJ38 _ h
          refine lv_istore (lv' := [(6, .int v_9), (0, .ref a_this), (1, .int x1), (2, .int x2_1), (3, .int x3_2), (4, .int x4_3)]) hx hb dX1_bestCell_38 hl (by decide) rfl (fun ls hl => ?_)
          refine lv_iload hx hb dX1_bestCell_40 (lv_at hl 0 rfl) ?_
          refine lv_iload_n hx hb dX1_bestCell_42 rfl (lv_at hl 4 rfl) ?_
          obtain ⟨J52, hJ52, h⟩ := jn2_ex h
          have kJ52_12 : ∀ (x2_11 : Int32) (x3_12 : Int32) (H : Heap) (locs : List Loc) (ls : Array Slot), J52 x2_11 x3_12 → va_P D vwCl (Wd_Fs_bestCell cy a_this a_parish a_parish_familyKind a_parish_familyWill a_parish_flitchCell a_parish_flitchKind a_parish_flitchStrength a_taken a_lapses a_wills a_cells a_smelling a_windy a_parish_familySide a_parish_familyCell a_parish_past a_parish_sightings a_parish_notes a_parish_marks s_parish_flitchCount s_parish_familyCount s_parish_hung s_parish_day s_parish_familyKind s_parish_familyWill s_parish_flitchCell s_parish_flitchKind s_parish_flitchStrength s_taken_8) H → va_D A (Wd_Fs_bestCell cy a_this a_parish a_parish_familyKind a_parish_familyWill a_parish_flitchCell a_parish_flitchKind a_parish_flitchStrength a_taken a_lapses a_wills a_cells a_smelling a_windy a_parish_familySide a_parish_familyCell a_parish_past a_parish_sightings a_parish_notes a_parish_marks s_parish_flitchCount s_parish_familyCount s_parish_hung s_parish_day s_parish_familyKind s_parish_familyWill s_parish_flitchCell s_parish_flitchKind s_parish_flitchStrength s_taken_8) → va_S A s.heap H locs → lv_has ls 7 [(0, .ref a_this), (1, .int x1), (2, .int x2_11), (3, .int x3_12), (4, .int x4_3)] → W p l e rm_Fs_bestCell s m args below meth c H locs 0 0 QQ (F0 m 52 ls []) := by
            intro x2_11 x3_12 H locs ls h hP hD hS hl
            have h := hJ52 _ _ h
            obtain ⟨x4_14, ex4_14⟩ : ∃ y : Int32, y = x4_3 + 1 := ⟨_, rfl⟩
            have h := h x4_14 ex4_14
            refine lv_iinc (v := x4_14) (lv' := [(4, .int x4_14), (0, .ref a_this), (1, .int x1), (2, .int x2_11), (3, .int x3_12)]) hx hb dX1_bestCell_52 hl (k := 4) rfl (by rw [ex4_14]; rfl) (by decide) rfl (fun ls hl => ?_)
            refine lv_goto (tgt := 7) hx hb dX1_bestCell_55 (by decide) ?_
            exact ih7_4 _ _ _ _ _ _ _ h hP hD hS (lv_sub hl [1, 2, 3, 4, 0] rfl)
          refine lv_icmp_le (tgt := 52) hx hb dX1_bestCell_43 (by decide) (fun c_15 => ?_) (fun c_15 => ?_)
          · have h := h.1 c_15
            exact kJ52_12 _ _ _ _ _ h hP hD hS (lv_sub hl [1, 2, 3, 4, 5] rfl)
          · have h := h.2 c_15
            refine lv_iload hx hb dX1_bestCell_46 (lv_at hl 0 rfl) ?_
            refine lv_istore_n (lv' := [(3, .int v_9), (6, .int v_9), (0, .ref a_this), (1, .int x1), (2, .int x2_1), (4, .int x4_3)]) hx hb dX1_bestCell_48 rfl hl (by decide) rfl (fun ls hl => ?_)
            refine lv_iload hx hb dX1_bestCell_49 (lv_at hl 5 rfl) ?_
            refine lv_istore_n (lv' := [(2, .int x4_3), (3, .int v_9), (6, .int v_9), (0, .ref a_this), (1, .int x1), (4, .int x4_3)]) hx hb dX1_bestCell_51 rfl hl (by decide) rfl (fun ls hl => ?_)
            exact kJ52_12 _ _ _ _ _ h hP hD hS (lv_sub hl [3, 4, 0, 1, 5] rfl)
        refine lv_icmp_ne (tgt := 36) hx hb dX1_bestCell_28 (by decide) (fun c_16 => ?_) (fun c_16 => ?_)
        · have h := h.1 c_16
          refine lv_iload hx hb dX1_bestCell_36 (lv_at hl 0 rfl) ?_
          exact kJ38_9 _ _ _ _ h hP hD hS (lv_sub hl [1, 2, 3, 4, 5] rfl)
        · have h := h.2 c_16
          refine lv_bipush (v := 61) hx hb dX1_bestCell_31 (by decide) ?_
          refine lv_goto (tgt := 38) hx hb dX1_bestCell_33 (by decide) ?_
          exact kJ38_9 _ _ _ _ h hP hD hS (lv_sub hl [1, 2, 3, 4, 5] rfl)
  exact kT7_4 n7_4 _ _ _ _ _ _ _ h hP hD hS (lv_sub hl [3, 4, 2, 1, 0] rfl)
abbrev Wd_Ji_bitCount (cy : ClassId × ClassId × ClassId × ClassId) : va_W := []
abbrev rm_Ji_bitCount : Room := { frames := 0, cells := 0, slots := 0, locals := 0 }
def wp_Ji_bitCount (x0 : Int32) (Q : Int32 → Prop) : Prop := ∀ x0_1 : Int32, x0_1 = (x0 - ((iushr x0 1) &&& 1431655765)) → ∀ x0_2 : Int32, x0_2 = ((x0_1 &&& 858993459) + ((iushr x0_1 2) &&& 858993459)) → ∀ x0_3 : Int32, x0_3 = ((x0_2 + (iushr x0_2 4)) &&& 252645135) → ∀ x0_4 : Int32, x0_4 = (x0_3 + (iushr x0_3 8)) → ∀ x0_5 : Int32, x0_5 = (x0_4 + (iushr x0_4 16)) → Q (x0_5 &&& 63)
set_option maxHeartbeats 4000000 in
set_option maxRecDepth 100000 in
theorem co_Ji_bitCount (l : Launch) (D : va_G) (cy : ClassId × ClassId × ClassId × ClassId) (x0 : Int32) (Q : Int32 → Prop) (h : wp_Ji_bitCount x0 Q) : RoI l yJ6_bitCount_0f7a4 wsJ6_bitCount_0f7a4 rm_Ji_bitCount D cy [.int x0] (Wd_Ji_bitCount cy) Q := by
  refine st_metRI (cc := cJ6_bitCount_0f7a4) (maxL := 1) RJ6 (by decide) rfl rfl (Nat.le_of_ble_eq_true rfl) ?_
  intro p e s m args below meth c QQ ls F hKK hP hl hret
  have hK := hKK.1
  have hnest := hKK.2
  have hx := F.1
  have hb := F.2.1
  have hown := F.2.2.2.1
  have hts := F.2.2.2.2
  have hl : lv_has ls 1 [(0, .int x0)] := hl
  unfold wp_Ji_bitCount at h
  refine lv_iload_n hx hb dJ6_bitCount_0f7a4_0 rfl (lv_at hl 0 rfl) ?_
  refine lv_iload_n hx hb dJ6_bitCount_0f7a4_1 rfl (lv_at hl 0 rfl) ?_
  refine lv_iconst (v := 1) hx hb dJ6_bitCount_0f7a4_2 (by decide) ?_
  refine lv_iushr (v := iushr x0 1) hx hb dJ6_bitCount_0f7a4_3 rfl ?_
  refine lv_ldcw (v := 1431655765) hx hb hown (hts (.constant RJ6 265 (1431655765)) (List.mem_of_getElem? (i := 1) rfl)) dJ6_bitCount_0f7a4_4 ?_
  refine lv_iand hx hb dJ6_bitCount_0f7a4_7 ?_
  refine lv_isub hx hb dJ6_bitCount_0f7a4_8 ?_
  refine lv_topi (fun x0_1 ex0_1 => ?_)
  have h := h x0_1 ex0_1
  refine lv_istore_n (lv' := [(0, .int x0_1)]) hx hb dJ6_bitCount_0f7a4_9 rfl hl (by decide) rfl (fun ls hl => ?_)
  refine lv_iload_n hx hb dJ6_bitCount_0f7a4_10 rfl (lv_at hl 0 rfl) ?_
  refine lv_ldcw (v := 858993459) hx hb hown (hts (.constant RJ6 266 (858993459)) (List.mem_of_getElem? (i := 2) rfl)) dJ6_bitCount_0f7a4_11 ?_
  refine lv_iand hx hb dJ6_bitCount_0f7a4_14 ?_
  refine lv_iload_n hx hb dJ6_bitCount_0f7a4_15 rfl (lv_at hl 0 rfl) ?_
  refine lv_iconst (v := 2) hx hb dJ6_bitCount_0f7a4_16 (by decide) ?_
  refine lv_iushr (v := iushr x0_1 2) hx hb dJ6_bitCount_0f7a4_17 rfl ?_
  refine lv_ldcw (v := 858993459) hx hb hown (hts (.constant RJ6 266 (858993459)) (List.mem_of_getElem? (i := 2) rfl)) dJ6_bitCount_0f7a4_18 ?_
  refine lv_iand hx hb dJ6_bitCount_0f7a4_21 ?_
  refine lv_iadd hx hb dJ6_bitCount_0f7a4_22 ?_
  refine lv_topi (fun x0_2 ex0_2 => ?_)
  have h := h x0_2 ex0_2
  refine lv_istore_n (lv' := [(0, .int x0_2)]) hx hb dJ6_bitCount_0f7a4_23 rfl hl (by decide) rfl (fun ls hl => ?_)
  refine lv_iload_n hx hb dJ6_bitCount_0f7a4_24 rfl (lv_at hl 0 rfl) ?_
  refine lv_iload_n hx hb dJ6_bitCount_0f7a4_25 rfl (lv_at hl 0 rfl) ?_
  refine lv_iconst (v := 4) hx hb dJ6_bitCount_0f7a4_26 (by decide) ?_
  refine lv_iushr (v := iushr x0_2 4) hx hb dJ6_bitCount_0f7a4_27 rfl ?_
  refine lv_iadd hx hb dJ6_bitCount_0f7a4_28 ?_
  refine lv_ldcw (v := 252645135) hx hb hown (hts (.constant RJ6 267 (252645135)) (List.mem_of_getElem? (i := 3) rfl)) dJ6_bitCount_0f7a4_29 ?_
  refine lv_iand hx hb dJ6_bitCount_0f7a4_32 ?_
  refine lv_topi (fun x0_3 ex0_3 => ?_)
  have h := h x0_3 ex0_3
  refine lv_istore_n (lv' := [(0, .int x0_3)]) hx hb dJ6_bitCount_0f7a4_33 rfl hl (by decide) rfl (fun ls hl => ?_)
  refine lv_iload_n hx hb dJ6_bitCount_0f7a4_34 rfl (lv_at hl 0 rfl) ?_
  refine lv_iload_n hx hb dJ6_bitCount_0f7a4_35 rfl (lv_at hl 0 rfl) ?_
  refine lv_bipush (v := 8) hx hb dJ6_bitCount_0f7a4_36 (by decide) ?_
  refine lv_iushr (v := iushr x0_3 8) hx hb dJ6_bitCount_0f7a4_38 rfl ?_
  refine lv_iadd hx hb dJ6_bitCount_0f7a4_39 ?_
  refine lv_topi (fun x0_4 ex0_4 => ?_)
  have h := h x0_4 ex0_4
  refine lv_istore_n (lv' := [(0, .int x0_4)]) hx hb dJ6_bitCount_0f7a4_40 rfl hl (by decide) rfl (fun ls hl => ?_)
  refine lv_iload_n hx hb dJ6_bitCount_0f7a4_41 rfl (lv_at hl 0 rfl) ?_
  refine lv_iload_n hx hb dJ6_bitCount_0f7a4_42 rfl (lv_at hl 0 rfl) ?_
  refine lv_bipush (v := 16) hx hb dJ6_bitCount_0f7a4_43 (by decide) ?_
  refine lv_iushr (v := iushr x0_4 16) hx hb dJ6_bitCount_0f7a4_45 rfl ?_
  refine lv_iadd hx hb dJ6_bitCount_0f7a4_46 ?_
  refine lv_topi (fun x0_5 ex0_5 => ?_)
  have h := h x0_5 ex0_5
  refine lv_istore_n (lv' := [(0, .int x0_5)]) hx hb dJ6_bitCount_0f7a4_47 rfl hl (by decide) rfl (fun ls hl => ?_)
  refine lv_iload_n hx hb dJ6_bitCount_0f7a4_48 rfl (lv_at hl 0 rfl) ?_
  refine lv_bipush (v := 63) hx hb dJ6_bitCount_0f7a4_49 (by decide) ?_
  refine lv_iand hx hb dJ6_bitCount_0f7a4_51 ?_
  exact hret _ _ _ h dJ6_bitCount_0f7a4_52
abbrev Wd_Pa_hasLapsed (cy : ClassId × ClassId × ClassId × ClassId) (a_this a_familyWill a_flitchKind a_flitchCell a_flitchStrength a_familyKind a_familySide a_familyCell a_past a_sightings a_notes a_marks : Nat) (s_flitchCount : Int32) (s_familyCount : Int32) (s_hung : Int32) (s_day : Int32) (s_familyWill : Nat → Int32) : va_W := [(a_this, .inr (3, [.ref a_flitchKind, .ref a_flitchCell, .ref a_flitchStrength, .ref a_familyKind, .ref a_familySide, .ref a_familyCell, .ref a_familyWill, .ref a_past, .ref a_sightings, .ref a_notes, .ref a_marks, .int s_flitchCount, .int s_familyCount, .int s_hung, .int s_day])), (a_familyWill, .inl (cy.2.1, 7, .inl s_familyWill))]
abbrev rm_Pa_hasLapsed : Room := { frames := 0, cells := 0, slots := 0, locals := 0 }
def wp_Pa_hasLapsed (x1 : Int32) (s_familyWill : Nat → Int32) (Q : Int32 → Prop) : Prop := vp_in x1 7 ∧ ((1 ≤ (s_familyWill (Int32.toNatClampNeg x1)) → Q 0) ∧ (¬ 1 ≤ (s_familyWill (Int32.toNatClampNeg x1)) → Q 1))
set_option maxHeartbeats 4000000 in
set_option maxRecDepth 100000 in
theorem co_Pa_hasLapsed (l : Launch) (D : va_G) (cy : ClassId × ClassId × ClassId × ClassId) (a_this a_familyWill a_flitchKind a_flitchCell a_flitchStrength a_familyKind a_familySide a_familyCell a_past a_sightings a_notes a_marks : Nat) (s_flitchCount : Int32) (s_familyCount : Int32) (s_hung : Int32) (s_day : Int32) (s_familyWill : Nat → Int32) (x1 : Int32) (Q : Int32 → Prop) (h : wp_Pa_hasLapsed x1 s_familyWill Q) : RoI l yX4_hasLapsed wsX4_hasLapsed rm_Pa_hasLapsed D cy [.ref a_this, .int x1] (Wd_Pa_hasLapsed cy a_this a_familyWill a_flitchKind a_flitchCell a_flitchStrength a_familyKind a_familySide a_familyCell a_past a_sightings a_notes a_marks s_flitchCount s_familyCount s_hung s_day s_familyWill) Q := by
  refine st_metRZ (cc := cX4_hasLapsed) (maxL := 2) RX4 (by decide) rfl rfl (Nat.le_of_ble_eq_true rfl) ?_
  intro p e s m args below meth c QQ ls F hKK hP hl hret
  have hK := hKK.1
  have hnest := hKK.2
  have hx := F.1
  have hb := F.2.1
  have hown := F.2.2.2.1
  have hts := F.2.2.2.2
  have in_X4 : ∀ w ∈ u_ws RX4 TX4 15, w ∈ wsX4_hasLapsed := (fun _ h => List.mem_cons_of_mem _ (List.mem_append_right _ h))
  have fl_30 := (hts (.fieldLink RX4 30 "RasherCase$Parish" "familyWill" "[I") (List.mem_of_getElem? (i := 1) rfl))
  have hl : lv_has ls 2 [(0, .ref a_this), (1, .int x1)] := hl
  unfold wp_Pa_hasLapsed at h
  refine lv_aload_n hx hb dX4_hasLapsed_0 rfl (lv_at hl 0 rfl) ?_
  refine va_get (D := D) (ci := 3) (v := .ref a_familyWill) (C := RX4) (T := TX4) (N := 15) hx hb hts in_X4 hown hK hP 0 rfl rfl 6 (by decide) fl_30 (fun _ h9 => h9) rfl dX4_hasLapsed_1 ?_
  refine lv_iload_n hx hb dX4_hasLapsed_4 rfl (lv_at hl 1 rfl) ?_
  obtain ⟨hi_1, h⟩ := h
  refine va_iald hx hb hK hP 1 1 rfl rfl hi_1 dX4_hasLapsed_5 ?_
  refine lv_iconst (v := 1) hx hb dX4_hasLapsed_6 (by decide) ?_
  refine lv_icmp_ge (tgt := 14) hx hb dX4_hasLapsed_7 (by decide) (fun c_2 => ?_) (fun c_2 => ?_)
  · have h := h.1 c_2
    refine lv_iconst (v := 0) hx hb dX4_hasLapsed_14 (by decide) ?_
    exact hret _ _ _ bz0 h dX4_hasLapsed_15
  · have h := h.2 c_2
    refine lv_iconst (v := 1) hx hb dX4_hasLapsed_10 (by decide) ?_
    refine lv_goto (tgt := 15) hx hb dX4_hasLapsed_11 (by decide) ?_
    exact hret _ _ _ bz1 h dX4_hasLapsed_15
abbrev Wd_Fs_allHold (cy : ClassId × ClassId × ClassId × ClassId) (a_this a_parish a_parish_familyCell a_parish_familyKind a_parish_familyWill a_parish_flitchCell a_parish_flitchKind a_parish_flitchStrength a_taken a_lapses a_wills a_cells a_smelling a_windy a_parish_familySide a_parish_past a_parish_sightings a_parish_notes a_parish_marks : Nat) (s_parish_flitchCount : Int32) (s_parish_familyCount : Int32) (s_parish_hung : Int32) (s_parish_day : Int32) (s_parish_familyCell : Nat → Int32) (s_parish_familyKind : Nat → Int32) (s_parish_familyWill : Nat → Int32) (s_parish_flitchCell : Nat → Int32) (s_parish_flitchKind : Nat → Int32) (s_parish_flitchStrength : Nat → Int32) (s_taken : Nat → Int32) : va_W := [(a_this, .inr (1, [.ref a_parish, .ref a_taken, .ref a_lapses, .ref a_wills, .ref a_cells, .ref a_smelling, .ref a_windy])), (a_parish, .inr (3, [.ref a_parish_flitchKind, .ref a_parish_flitchCell, .ref a_parish_flitchStrength, .ref a_parish_familyKind, .ref a_parish_familySide, .ref a_parish_familyCell, .ref a_parish_familyWill, .ref a_parish_past, .ref a_parish_sightings, .ref a_parish_notes, .ref a_parish_marks, .int s_parish_flitchCount, .int s_parish_familyCount, .int s_parish_hung, .int s_parish_day])), (a_parish_familyCell, .inl (cy.2.1, 7, .inl s_parish_familyCell)), (a_parish_familyKind, .inl (cy.2.1, 7, .inl s_parish_familyKind)), (a_parish_familyWill, .inl (cy.2.1, 7, .inl s_parish_familyWill)), (a_parish_flitchCell, .inl (cy.2.1, 3, .inl s_parish_flitchCell)), (a_parish_flitchKind, .inl (cy.2.1, 3, .inl s_parish_flitchKind)), (a_parish_flitchStrength, .inl (cy.2.1, 3, .inl s_parish_flitchStrength)), (a_taken, .inl (cy.2.1, 61, .inl s_taken))]
abbrev rm_Fs_allHold : Room := { frames := 3, cells := 0, slots := 0, locals := 103 }
def wp_Fs_allHold (x1 : Int32) (x2 : Int32) (s_parish_flitchCount : Int32) (s_parish_familyCount : Int32) (s_parish_day : Int32) (s_parish_familyCell : Nat → Int32) (s_parish_familyKind : Nat → Int32) (s_parish_familyWill : Nat → Int32) (s_parish_flitchCell : Nat → Int32) (s_parish_flitchKind : Nat → Int32) (s_parish_flitchStrength : Nat → Int32) (s_taken : Nat → Int32) (Q : Int32 → (Nat → Int32) → Prop) : Prop := ∃ n : Nat, lpw2 (fun (B2 : Int32 → (Nat → Int32) → Prop) (x3_1 : Int32) (s_taken_2 : Nat → Int32) => ((s_parish_familyCount ≤ x3_1 → Q 1 s_taken_2) ∧ (¬ s_parish_familyCount ≤ x3_1 → wp_Pa_hasLapsed x3_1 s_parish_familyWill (fun (r_5 : Int32) => jn1 (fun (J68 : (Nat → Int32) → Prop) => ((¬ r_5 = 0 → J68 s_taken_2) ∧ (r_5 = 0 → vp_in x3_1 7 ∧ vp_in x3_1 7 ∧ wp_Fs_reckon (s_parish_familyKind (Int32.toNatClampNeg x3_1)) (s_parish_familyCell (Int32.toNatClampNeg x3_1)) x1 x2 s_parish_flitchCount s_parish_day s_parish_flitchCell s_parish_flitchKind s_parish_flitchStrength s_taken_2 (fun (s_taken_13 : Nat → Int32) => vp_in x2 61 ∧ vp_in x3_1 7 ∧ (((s_taken_13 (Int32.toNatClampNeg x2)) < (s_parish_familyWill (Int32.toNatClampNeg x3_1)) → J68 s_taken_13) ∧ (¬ (s_taken_13 (Int32.toNatClampNeg x2)) < (s_parish_familyWill (Int32.toNatClampNeg x3_1)) → Q 0 s_taken_13)))))) (fun (s_taken_6 : Nat → Int32) => ∀ x3_8 : Int32, x3_8 = x3_1 + 1 → B2 x3_8 s_taken_6))))) n 0 s_taken
set_option maxHeartbeats 4000000 in
set_option maxRecDepth 100000 in
theorem co_Fs_allHold (l : Launch) (D : va_G) (cy : ClassId × ClassId × ClassId × ClassId) (a_this a_parish a_parish_familyCell a_parish_familyKind a_parish_familyWill a_parish_flitchCell a_parish_flitchKind a_parish_flitchStrength a_taken a_lapses a_wills a_cells a_smelling a_windy a_parish_familySide a_parish_past a_parish_sightings a_parish_notes a_parish_marks : Nat) (s_parish_flitchCount : Int32) (s_parish_familyCount : Int32) (s_parish_hung : Int32) (s_parish_day : Int32) (s_parish_familyCell : Nat → Int32) (s_parish_familyKind : Nat → Int32) (s_parish_familyWill : Nat → Int32) (s_parish_flitchCell : Nat → Int32) (s_parish_flitchKind : Nat → Int32) (s_parish_flitchStrength : Nat → Int32) (s_taken : Nat → Int32) (x1 : Int32) (x2 : Int32) (Q : Int32 → (Nat → Int32) → Prop) (h : wp_Fs_allHold x1 x2 s_parish_flitchCount s_parish_familyCount s_parish_day s_parish_familyCell s_parish_familyKind s_parish_familyWill s_parish_flitchCell s_parish_flitchKind s_parish_flitchStrength s_taken Q) : CoI l yX1_allHold wsX1_allHold rm_Fs_allHold D cy [.ref a_this, .int x1, .int x2] (Wd_Fs_allHold cy a_this a_parish a_parish_familyCell a_parish_familyKind a_parish_familyWill a_parish_flitchCell a_parish_flitchKind a_parish_flitchStrength a_taken a_lapses a_wills a_cells a_smelling a_windy a_parish_familySide a_parish_past a_parish_sightings a_parish_notes a_parish_marks s_parish_flitchCount s_parish_familyCount s_parish_hung s_parish_day s_parish_familyCell s_parish_familyKind s_parish_familyWill s_parish_flitchCell s_parish_flitchKind s_parish_flitchStrength s_taken) (fun u : (Nat → Int32) => (Wd_Fs_allHold cy a_this a_parish a_parish_familyCell a_parish_familyKind a_parish_familyWill a_parish_flitchCell a_parish_flitchKind a_parish_flitchStrength a_taken a_lapses a_wills a_cells a_smelling a_windy a_parish_familySide a_parish_past a_parish_sightings a_parish_notes a_parish_marks s_parish_flitchCount s_parish_familyCount s_parish_hung s_parish_day s_parish_familyCell s_parish_familyKind s_parish_familyWill s_parish_flitchCell s_parish_flitchKind s_parish_flitchStrength u)) (fun (r : Int32) (u : (Nat → Int32)) => Q r u) := by
  refine st_metZ (cc := cX1_allHold) (maxL := 4) RX1 (by decide) rfl rfl (Nat.le_of_ble_eq_true rfl) ?_
  intro p e s m args below meth c A QQ ls F hA hKK hP hD hS hl hret
  have hK := hKK.1
  have hnest := hKK.2
  have hx := F.1
  have hb := F.2.1
  have hown := F.2.2.2.1
  have hts := F.2.2.2.2
  have in_X1 : ∀ w ∈ u_ws RX1 TX1 7, w ∈ wsX1_allHold := (fun _ h => List.mem_cons_of_mem _ (List.mem_append_left _ (List.mem_append_right _ h)))
  have in_X4 : ∀ w ∈ u_ws RX4 TX4 15, w ∈ wsX1_allHold := (fun _ h => List.mem_cons_of_mem _ (List.mem_append_right _ h))
  have fl_9 := (hts (.fieldLink RX1 9 "RasherCase$Foresight" "taken" "[I") (List.mem_of_getElem? (i := 5) rfl))
  have fl_30 := (hts (.fieldLink RX1 30 "RasherCase$Foresight" "parish" "LRasherCase$Parish;") (List.mem_of_getElem? (i := 1) rfl))
  have fl_49 := (hts (.fieldLink RX1 49 "RasherCase$Parish" "familyKind" "[I") (List.mem_of_getElem? (i := 3) rfl))
  have fl_52 := (hts (.fieldLink RX1 52 "RasherCase$Parish" "familyCell" "[I") (List.mem_of_getElem? (i := 4) rfl))
  have fl_62 := (hts (.fieldLink RX1 62 "RasherCase$Parish" "familyWill" "[I") (List.mem_of_getElem? (i := 6) rfl))
  have fl_74 := (hts (.fieldLink RX1 74 "RasherCase$Parish" "familyCount" "I") (List.mem_of_getElem? (i := 2) rfl))
  have hl : lv_has ls 4 [(0, .ref a_this), (1, .int x1), (2, .int x2)] := hl
  unfold wp_Fs_allHold at h
  refine lv_iconst (v := 0) hx hb dX1_allHold_0 (by decide) ?_
  refine lv_istore_n (lv' := [(3, .int 0), (0, .ref a_this), (1, .int x1), (2, .int x2)]) hx hb dX1_allHold_1 rfl hl (by decide) rfl (fun ls hl => ?_)
  obtain ⟨T2_2, hz2_2, hs2_2, n2_2, h⟩ := lpw2_use h
  have kT2_2 : ∀ (n : Nat) (x3_1 : Int32) (s_taken_2 : Nat → Int32) (H : Heap) (locs : List Loc) (ls : Array Slot), T2_2 n x3_1 s_taken_2 → va_P D vwCl (Wd_Fs_allHold cy a_this a_parish a_parish_familyCell a_parish_familyKind a_parish_familyWill a_parish_flitchCell a_parish_flitchKind a_parish_flitchStrength a_taken a_lapses a_wills a_cells a_smelling a_windy a_parish_familySide a_parish_past a_parish_sightings a_parish_notes a_parish_marks s_parish_flitchCount s_parish_familyCount s_parish_hung s_parish_day s_parish_familyCell s_parish_familyKind s_parish_familyWill s_parish_flitchCell s_parish_flitchKind s_parish_flitchStrength s_taken_2) H → va_D A (Wd_Fs_allHold cy a_this a_parish a_parish_familyCell a_parish_familyKind a_parish_familyWill a_parish_flitchCell a_parish_flitchKind a_parish_flitchStrength a_taken a_lapses a_wills a_cells a_smelling a_windy a_parish_familySide a_parish_past a_parish_sightings a_parish_notes a_parish_marks s_parish_flitchCount s_parish_familyCount s_parish_hung s_parish_day s_parish_familyCell s_parish_familyKind s_parish_familyWill s_parish_flitchCell s_parish_flitchKind s_parish_flitchStrength s_taken_2) → va_S A s.heap H locs → lv_has ls 4 [(0, .ref a_this), (1, .int x1), (2, .int x2), (3, .int x3_1)] → W p l e rm_Fs_allHold s m args below meth c H locs 0 0 QQ (F0 m 2 ls []) := by
    intro n
    induction n with
    | zero => intro x3_1 s_taken_2 H locs ls h; exact absurd h (hz2_2 _ _)
    | succ n ih2_2 =>
      intro x3_1 s_taken_2 H locs ls h hP hD hS hl
      have h := hs2_2 _ _ _ h
      refine lv_iload_n hx hb dX1_allHold_2 rfl (lv_at hl 3 rfl) ?_
      refine lv_aload_n hx hb dX1_allHold_3 rfl (lv_at hl 0 rfl) ?_
      refine va_get (D := D) (ci := 1) (v := .ref a_parish) (C := RX1) (T := TX1) (N := 7) hx hb hts in_X1 hown hK hP 0 rfl rfl 0 (by decide) fl_30 (fun _ h9 => h9) rfl dX1_allHold_4 ?_
      refine va_get (D := D) (ci := 3) (v := .int s_parish_familyCount) (C := RX4) (T := TX4) (N := 15) hx hb hts in_X4 hown hK hP 1 rfl rfl 12 (by decide) fl_74 (fun _ h9 => h9) rfl dX1_allHold_7 ?_
      refine lv_icmp_ge (tgt := 74) hx hb dX1_allHold_10 (by decide) (fun c_4 => ?_) (fun c_4 => ?_)
      · have h := h.1 c_4
        refine lv_iconst (v := 1) hx hb dX1_allHold_74 (by decide) ?_
        exact hret _ (s_taken_2) _ _ _ _ bz1 h hP hD hS dX1_allHold_75
      · have h := h.2 c_4
        refine lv_aload_n hx hb dX1_allHold_13 rfl (lv_at hl 0 rfl) ?_
        refine va_get (D := D) (ci := 1) (v := .ref a_parish) (C := RX1) (T := TX1) (N := 7) hx hb hts in_X1 hown hK hP 0 rfl rfl 0 (by decide) fl_30 (fun _ h9 => h9) rfl dX1_allHold_14 ?_
        refine lv_iload_n hx hb dX1_allHold_17 rfl (lv_at hl 3 rfl) ?_
        refine st_callRI (st_runVR (n := 1) (As := [.int x3_1]) (rest := []) (q0 := 0) F (co_Pa_hasLapsed l D cy a_parish a_parish_familyWill a_parish_flitchKind a_parish_flitchCell a_parish_flitchStrength a_parish_familyKind a_parish_familySide a_parish_familyCell a_parish_past a_parish_sightings a_parish_notes a_parish_marks s_parish_flitchCount s_parish_familyCount s_parish_hung s_parish_day s_parish_familyWill x3_1 _ h) gX1_allHold_X4_hasLapsed rfl (by decide +kernel) rfl hKK hP [1, 4] rfl rfl rfl rfl hl.1 rfl (Nat.le_of_ble_eq_true rfl) dX1_allHold_18) (fun r_5 h => ?_)
        obtain ⟨J68, hJ68, h⟩ := jn1_ex h
        have kJ68_6 : ∀ (s_taken_6 : Nat → Int32) (H : Heap) (locs : List Loc) (ls : Array Slot), J68 s_taken_6 → va_P D vwCl (Wd_Fs_allHold cy a_this a_parish a_parish_familyCell a_parish_familyKind a_parish_familyWill a_parish_flitchCell a_parish_flitchKind a_parish_flitchStrength a_taken a_lapses a_wills a_cells a_smelling a_windy a_parish_familySide a_parish_past a_parish_sightings a_parish_notes a_parish_marks s_parish_flitchCount s_parish_familyCount s_parish_hung s_parish_day s_parish_familyCell s_parish_familyKind s_parish_familyWill s_parish_flitchCell s_parish_flitchKind s_parish_flitchStrength s_taken_6) H → va_D A (Wd_Fs_allHold cy a_this a_parish a_parish_familyCell a_parish_familyKind a_parish_familyWill a_parish_flitchCell a_parish_flitchKind a_parish_flitchStrength a_taken a_lapses a_wills a_cells a_smelling a_windy a_parish_familySide a_parish_past a_parish_sightings a_parish_notes a_parish_marks s_parish_flitchCount s_parish_familyCount s_parish_hung s_parish_day s_parish_familyCell s_parish_familyKind s_parish_familyWill s_parish_flitchCell s_parish_flitchKind s_parish_flitchStrength s_taken_6) → va_S A s.heap H locs → lv_has ls 4 [(0, .ref a_this), (1, .int x1), (2, .int x2), (3, .int x3_1)] → W p l e rm_Fs_allHold s m args below meth c H locs 0 0 QQ (F0 m 68 ls []) := by
          intro s_taken_6 H locs ls h hP hD hS hl
          have h := hJ68 _ h
          obtain ⟨x3_8, ex3_8⟩ : ∃ y : Int32, y = x3_1 + 1 := ⟨_, rfl⟩
          have h := h x3_8 ex3_8
          refine lv_iinc (v := x3_8) (lv' := [(3, .int x3_8), (0, .ref a_this), (1, .int x1), (2, .int x2)]) hx hb dX1_allHold_68 hl (k := 3) rfl (by rw [ex3_8]; rfl) (by decide) rfl (fun ls hl => ?_)
          refine lv_goto (tgt := 2) hx hb dX1_allHold_71 (by decide) ?_
          exact ih2_2 _ _ _ _ _ h hP hD hS (lv_sub hl [1, 2, 3, 0] rfl)
        refine lv_if_ne (tgt := 68) hx hb dX1_allHold_21 (by decide) (fun c_9 => ?_) (fun c_9 => ?_)
        · have h := h.1 c_9
          exact kJ68_6 _ _ _ _ h hP hD hS (lv_sub hl [0, 1, 2, 3] rfl)
        · have h := h.2 c_9
          refine lv_aload_n hx hb dX1_allHold_24 rfl (lv_at hl 0 rfl) ?_
          refine lv_aload_n hx hb dX1_allHold_25 rfl (lv_at hl 0 rfl) ?_
          refine va_get (D := D) (ci := 1) (v := .ref a_parish) (C := RX1) (T := TX1) (N := 7) hx hb hts in_X1 hown hK hP 0 rfl rfl 0 (by decide) fl_30 (fun _ h9 => h9) rfl dX1_allHold_26 ?_
          refine va_get (D := D) (ci := 3) (v := .ref a_parish_familyKind) (C := RX4) (T := TX4) (N := 15) hx hb hts in_X4 hown hK hP 1 rfl rfl 3 (by decide) fl_49 (fun _ h9 => h9) rfl dX1_allHold_29 ?_
          refine lv_iload_n hx hb dX1_allHold_32 rfl (lv_at hl 3 rfl) ?_
          obtain ⟨hi_10, h⟩ := h
          refine va_iald hx hb hK hP 3 1 rfl rfl hi_10 dX1_allHold_33 ?_
          refine lv_aload_n hx hb dX1_allHold_34 rfl (lv_at hl 0 rfl) ?_
          refine va_get (D := D) (ci := 1) (v := .ref a_parish) (C := RX1) (T := TX1) (N := 7) hx hb hts in_X1 hown hK hP 0 rfl rfl 0 (by decide) fl_30 (fun _ h9 => h9) rfl dX1_allHold_35 ?_
          refine va_get (D := D) (ci := 3) (v := .ref a_parish_familyCell) (C := RX4) (T := TX4) (N := 15) hx hb hts in_X4 hown hK hP 1 rfl rfl 5 (by decide) fl_52 (fun _ h9 => h9) rfl dX1_allHold_38 ?_
          refine lv_iload_n hx hb dX1_allHold_41 rfl (lv_at hl 3 rfl) ?_
          obtain ⟨hi_11, h⟩ := h
          refine va_iald hx hb hK hP 2 1 rfl rfl hi_11 dX1_allHold_42 ?_
          refine lv_iload_n hx hb dX1_allHold_43 rfl (lv_at hl 1 rfl) ?_
          refine lv_iload_n hx hb dX1_allHold_44 rfl (lv_at hl 2 rfl) ?_
          refine st_callV (WR := [2, 3, 4].filterMap (fun i => (Wd_Fs_allHold cy a_this a_parish a_parish_familyCell a_parish_familyKind a_parish_familyWill a_parish_flitchCell a_parish_flitchKind a_parish_flitchStrength a_taken a_lapses a_wills a_cells a_smelling a_windy a_parish_familySide a_parish_past a_parish_sightings a_parish_notes a_parish_marks s_parish_flitchCount s_parish_familyCount s_parish_hung s_parish_day s_parish_familyCell s_parish_familyKind s_parish_familyWill s_parish_flitchCell s_parish_flitchKind s_parish_flitchStrength s_taken_2)[i]?)) (WSn := fun u => (Wd_Fs_allHold cy a_this a_parish a_parish_familyCell a_parish_familyKind a_parish_familyWill a_parish_flitchCell a_parish_flitchKind a_parish_flitchStrength a_taken a_lapses a_wills a_cells a_smelling a_windy a_parish_familySide a_parish_past a_parish_sightings a_parish_notes a_parish_marks s_parish_flitchCount s_parish_familyCount s_parish_hung s_parish_day s_parish_familyCell s_parish_familyKind s_parish_familyWill s_parish_flitchCell s_parish_flitchKind s_parish_flitchStrength u)) (st_runV (n := 4) (As := [.int (s_parish_familyKind (Int32.toNatClampNeg x3_1)), .int (s_parish_familyCell (Int32.toNatClampNeg x3_1)), .int x1, .int x2]) (rest := []) (q0 := 0) F ((co_Fs_reckon l D cy a_this a_parish a_parish_flitchCell a_parish_flitchKind a_parish_flitchStrength a_taken a_lapses a_wills a_cells a_smelling a_windy a_parish_familyKind a_parish_familySide a_parish_familyCell a_parish_familyWill a_parish_past a_parish_sightings a_parish_notes a_parish_marks s_parish_flitchCount s_parish_familyCount s_parish_hung s_parish_day s_parish_flitchCell s_parish_flitchKind s_parish_flitchStrength s_taken_2 (s_parish_familyKind (Int32.toNatClampNeg x3_1)) (s_parish_familyCell (Int32.toNatClampNeg x3_1)) x1 x2 _ h) _) rfl gX1_allHold_X1_reckon rfl (by decide +kernel) rfl hKK hP hD [0, 1, 5, 6, 7, 8] rfl rfl rfl rfl rfl hl.1 rfl (Nat.le_of_ble_eq_true rfl) dX1_allHold_45) hP hD hS hA [0, 1, 5, 6, 7, 8] [2, 3, 4] [3, 4, 0, 1, 2, 5, 6, 7, 8] rfl rfl rfl (fun _ => rfl) (fun u H locs h hP hD hS => ?_)
          obtain ⟨s_taken_13, rfl⟩ : ∃ z, z = u := ⟨_, rfl⟩
          have hP : va_P D vwCl (Wd_Fs_allHold cy a_this a_parish a_parish_familyCell a_parish_familyKind a_parish_familyWill a_parish_flitchCell a_parish_flitchKind a_parish_flitchStrength a_taken a_lapses a_wills a_cells a_smelling a_windy a_parish_familySide a_parish_past a_parish_sightings a_parish_notes a_parish_marks s_parish_flitchCount s_parish_familyCount s_parish_hung s_parish_day s_parish_familyCell s_parish_familyKind s_parish_familyWill s_parish_flitchCell s_parish_flitchKind s_parish_flitchStrength s_taken_13) H := hP
          have hD : va_D A (Wd_Fs_allHold cy a_this a_parish a_parish_familyCell a_parish_familyKind a_parish_familyWill a_parish_flitchCell a_parish_flitchKind a_parish_flitchStrength a_taken a_lapses a_wills a_cells a_smelling a_windy a_parish_familySide a_parish_past a_parish_sightings a_parish_notes a_parish_marks s_parish_flitchCount s_parish_familyCount s_parish_hung s_parish_day s_parish_familyCell s_parish_familyKind s_parish_familyWill s_parish_flitchCell s_parish_flitchKind s_parish_flitchStrength s_taken_13) := hD
          refine lv_aload_n hx hb dX1_allHold_48 rfl (lv_at hl 0 rfl) ?_
          refine va_get (D := D) (ci := 1) (v := .ref a_taken) (C := RX1) (T := TX1) (N := 7) hx hb hts in_X1 hown hK hP 0 rfl rfl 1 (by decide) fl_9 (fun _ h9 => h9) rfl dX1_allHold_49 ?_
          refine lv_iload_n hx hb dX1_allHold_52 rfl (lv_at hl 2 rfl) ?_
          obtain ⟨hi_14, h⟩ := h
          refine va_iald hx hb hK hP 8 1 rfl rfl hi_14 dX1_allHold_53 ?_
          refine lv_aload_n hx hb dX1_allHold_54 rfl (lv_at hl 0 rfl) ?_
          refine va_get (D := D) (ci := 1) (v := .ref a_parish) (C := RX1) (T := TX1) (N := 7) hx hb hts in_X1 hown hK hP 0 rfl rfl 0 (by decide) fl_30 (fun _ h9 => h9) rfl dX1_allHold_55 ?_
          refine va_get (D := D) (ci := 3) (v := .ref a_parish_familyWill) (C := RX4) (T := TX4) (N := 15) hx hb hts in_X4 hown hK hP 1 rfl rfl 6 (by decide) fl_62 (fun _ h9 => h9) rfl dX1_allHold_58 ?_
          refine lv_iload_n hx hb dX1_allHold_61 rfl (lv_at hl 3 rfl) ?_
          obtain ⟨hi_15, h⟩ := h
          refine va_iald hx hb hK hP 4 1 rfl rfl hi_15 dX1_allHold_62 ?_
          refine lv_icmp_lt (tgt := 68) hx hb dX1_allHold_63 (by decide) (fun c_16 => ?_) (fun c_16 => ?_)
          · have h := h.1 c_16
            exact kJ68_6 _ _ _ _ h hP hD hS (lv_sub hl [0, 1, 2, 3] rfl)
          · have h := h.2 c_16
            refine lv_iconst (v := 0) hx hb dX1_allHold_66 (by decide) ?_
            exact hret _ (s_taken_13) _ _ _ _ bz0 h hP hD hS dX1_allHold_67
  exact kT2_2 n2_2 _ _ _ _ _ h hP hD hS (lv_sub hl [1, 2, 3, 0] rfl)
abbrev Wd_Fs_fewestOut (cy : ClassId × ClassId × ClassId × ClassId) (a_this a_parish a_parish_familyCell a_parish_familyKind a_parish_familyWill a_parish_flitchCell a_parish_flitchKind a_parish_flitchStrength a_taken a_lapses a_wills a_cells a_smelling a_windy a_parish_familySide a_parish_past a_parish_sightings a_parish_notes a_parish_marks : Nat) (s_parish_flitchCount : Int32) (s_parish_familyCount : Int32) (s_parish_hung : Int32) (s_parish_day : Int32) (s_parish_familyCell : Nat → Int32) (s_parish_familyKind : Nat → Int32) (s_parish_familyWill : Nat → Int32) (s_parish_flitchCell : Nat → Int32) (s_parish_flitchKind : Nat → Int32) (s_parish_flitchStrength : Nat → Int32) (s_taken : Nat → Int32) : va_W := [(a_this, .inr (1, [.ref a_parish, .ref a_taken, .ref a_lapses, .ref a_wills, .ref a_cells, .ref a_smelling, .ref a_windy])), (a_parish, .inr (3, [.ref a_parish_flitchKind, .ref a_parish_flitchCell, .ref a_parish_flitchStrength, .ref a_parish_familyKind, .ref a_parish_familySide, .ref a_parish_familyCell, .ref a_parish_familyWill, .ref a_parish_past, .ref a_parish_sightings, .ref a_parish_notes, .ref a_parish_marks, .int s_parish_flitchCount, .int s_parish_familyCount, .int s_parish_hung, .int s_parish_day])), (a_parish_familyCell, .inl (cy.2.1, 7, .inl s_parish_familyCell)), (a_parish_familyKind, .inl (cy.2.1, 7, .inl s_parish_familyKind)), (a_parish_familyWill, .inl (cy.2.1, 7, .inl s_parish_familyWill)), (a_parish_flitchCell, .inl (cy.2.1, 3, .inl s_parish_flitchCell)), (a_parish_flitchKind, .inl (cy.2.1, 3, .inl s_parish_flitchKind)), (a_parish_flitchStrength, .inl (cy.2.1, 3, .inl s_parish_flitchStrength)), (a_taken, .inl (cy.2.1, 61, .inl s_taken))]
abbrev rm_Fs_fewestOut : Room := { frames := 4, cells := 0, slots := 0, locals := 126 }
def wp_Fs_fewestOut (x1 : Int32) (s_parish_flitchCount : Int32) (s_parish_familyCount : Int32) (s_parish_day : Int32) (s_parish_familyCell : Nat → Int32) (s_parish_familyKind : Nat → Int32) (s_parish_familyWill : Nat → Int32) (s_parish_flitchCell : Nat → Int32) (s_parish_flitchKind : Nat → Int32) (s_parish_flitchStrength : Nat → Int32) (s_taken : Nat → Int32) (Q : Int32 → (Nat → Int32) → Prop) : Prop := ∀ x3_1 : Int32, x3_1 = ((ishl 1 s_parish_flitchCount) - 1) → ∃ n : Nat, lpw3 (fun (B17 : Int32 → Int32 → (Nat → Int32) → Prop) (x2_2 : Int32) (x4_3 : Int32) (s_taken_4 : Nat → Int32) => ((x3_1 < x4_3 → Q x2_2 s_taken_4) ∧ (¬ x3_1 < x4_3 → jn1 (fun (J45 : Int32 → Prop) => jn0 (fun (J40 : Prop) => ((x2_2 = (-1) → J40) ∧ (¬ x2_2 = (-1) → wp_Ji_bitCount x4_3 (fun (r_19 : Int32) => wp_Ji_bitCount x2_2 (fun (r_20 : Int32) => ((r_20 ≤ r_19 → J45 0) ∧ (¬ r_20 ≤ r_19 → J40))))))) (J45 1)) (fun (v_7 : Int32) => jn2 (fun (J69 : Int32 → (Nat → Int32) → Prop) => ((v_7 = 0 → J69 x2_2 s_taken_4) ∧ (¬ v_7 = 0 → wp_Fs_allHold (x3_1 &&& (x4_3 ^^^ (-1))) x1 s_parish_flitchCount s_parish_familyCount s_parish_day s_parish_familyCell s_parish_familyKind s_parish_familyWill s_parish_flitchCell s_parish_flitchKind s_parish_flitchStrength s_taken_4 (fun (r_14 : Int32) (s_taken_15 : Nat → Int32) => ((r_14 = 0 → J69 x2_2 s_taken_15) ∧ (¬ r_14 = 0 → J69 x4_3 s_taken_15)))))) (fun (x2_9 : Int32) (s_taken_10 : Nat → Int32) => ∀ x4_12 : Int32, x4_12 = x4_3 + 1 → B17 x2_9 x4_12 s_taken_10))))) n (-1) 0 s_taken
set_option maxHeartbeats 4000000 in
set_option maxRecDepth 100000 in
theorem co_Fs_fewestOut (l : Launch) (D : va_G) (cy : ClassId × ClassId × ClassId × ClassId) (a_this a_parish a_parish_familyCell a_parish_familyKind a_parish_familyWill a_parish_flitchCell a_parish_flitchKind a_parish_flitchStrength a_taken a_lapses a_wills a_cells a_smelling a_windy a_parish_familySide a_parish_past a_parish_sightings a_parish_notes a_parish_marks : Nat) (s_parish_flitchCount : Int32) (s_parish_familyCount : Int32) (s_parish_hung : Int32) (s_parish_day : Int32) (s_parish_familyCell : Nat → Int32) (s_parish_familyKind : Nat → Int32) (s_parish_familyWill : Nat → Int32) (s_parish_flitchCell : Nat → Int32) (s_parish_flitchKind : Nat → Int32) (s_parish_flitchStrength : Nat → Int32) (s_taken : Nat → Int32) (x1 : Int32) (Q : Int32 → (Nat → Int32) → Prop) (h : wp_Fs_fewestOut x1 s_parish_flitchCount s_parish_familyCount s_parish_day s_parish_familyCell s_parish_familyKind s_parish_familyWill s_parish_flitchCell s_parish_flitchKind s_parish_flitchStrength s_taken Q) : CoI l yX1_fewestOut wsX1_fewestOut rm_Fs_fewestOut D cy [.ref a_this, .int x1] (Wd_Fs_fewestOut cy a_this a_parish a_parish_familyCell a_parish_familyKind a_parish_familyWill a_parish_flitchCell a_parish_flitchKind a_parish_flitchStrength a_taken a_lapses a_wills a_cells a_smelling a_windy a_parish_familySide a_parish_past a_parish_sightings a_parish_notes a_parish_marks s_parish_flitchCount s_parish_familyCount s_parish_hung s_parish_day s_parish_familyCell s_parish_familyKind s_parish_familyWill s_parish_flitchCell s_parish_flitchKind s_parish_flitchStrength s_taken) (fun u : (Nat → Int32) => (Wd_Fs_fewestOut cy a_this a_parish a_parish_familyCell a_parish_familyKind a_parish_familyWill a_parish_flitchCell a_parish_flitchKind a_parish_flitchStrength a_taken a_lapses a_wills a_cells a_smelling a_windy a_parish_familySide a_parish_past a_parish_sightings a_parish_notes a_parish_marks s_parish_flitchCount s_parish_familyCount s_parish_hung s_parish_day s_parish_familyCell s_parish_familyKind s_parish_familyWill s_parish_flitchCell s_parish_flitchKind s_parish_flitchStrength u)) (fun (r : Int32) (u : (Nat → Int32)) => Q r u) := by
  refine st_metI (cc := cX1_fewestOut) (maxL := 6) RX1 (by decide) rfl rfl (Nat.le_of_ble_eq_true rfl) ?_
  intro p e s m args below meth c A QQ ls F hA hKK hP hD hS hl hret
  have hK := hKK.1
  have hnest := hKK.2
  have hx := F.1
  have hb := F.2.1
  have hown := F.2.2.2.1
  have hts := F.2.2.2.2
  have in_X1 : ∀ w ∈ u_ws RX1 TX1 7, w ∈ wsX1_fewestOut := (fun _ h => List.mem_cons_of_mem _ (List.mem_append_left _ (List.mem_append_right _ h)))
  have in_X4 : ∀ w ∈ u_ws RX4 TX4 15, w ∈ wsX1_fewestOut := (fun _ h => List.mem_cons_of_mem _ (List.mem_append_right _ h))
  have fl_30 := (hts (.fieldLink RX1 30 "RasherCase$Foresight" "parish" "LRasherCase$Parish;") (List.mem_of_getElem? (i := 1) rfl))
  have fl_91 := (hts (.fieldLink RX1 91 "RasherCase$Parish" "flitchCount" "I") (List.mem_of_getElem? (i := 2) rfl))
  have hl : lv_has ls 6 [(0, .ref a_this), (1, .int x1)] := hl
  unfold wp_Fs_fewestOut at h
  refine lv_iconst (v := (-1)) hx hb dX1_fewestOut_0 (by decide) ?_
  refine lv_istore_n (lv' := [(2, .int (-1)), (0, .ref a_this), (1, .int x1)]) hx hb dX1_fewestOut_1 rfl hl (by decide) rfl (fun ls hl => ?_)
  refine lv_iconst (v := 1) hx hb dX1_fewestOut_2 (by decide) ?_
  refine lv_aload_n hx hb dX1_fewestOut_3 rfl (lv_at hl 1 rfl) ?_
  refine va_get (D := D) (ci := 1) (v := .ref a_parish) (C := RX1) (T := TX1) (N := 7) hx hb hts in_X1 hown hK hP 0 rfl rfl 0 (by decide) fl_30 (fun _ h9 => h9) rfl dX1_fewestOut_4 ?_
  refine va_get (D := D) (ci := 3) (v := .int s_parish_flitchCount) (C := RX4) (T := TX4) (N := 15) hx hb hts in_X4 hown hK hP 1 rfl rfl 11 (by decide) fl_91 (fun _ h9 => h9) rfl dX1_fewestOut_7 ?_
  refine lv_ishl hx hb dX1_fewestOut_10 ?_
  refine lv_iconst (v := 1) hx hb dX1_fewestOut_11 (by decide) ?_
  refine lv_isub hx hb dX1_fewestOut_12 ?_
  refine lv_topi (fun x3_1 ex3_1 => ?_)
  have h := h x3_1 ex3_1
  refine lv_istore_n (lv' := [(3, .int x3_1), (2, .int (-1)), (0, .ref a_this), (1, .int x1)]) hx hb dX1_fewestOut_13 rfl hl (by decide) rfl (fun ls hl => ?_)
  refine lv_iconst (v := 0) hx hb dX1_fewestOut_14 (by decide) ?_
  refine lv_istore (lv' := [(4, .int 0), (3, .int x3_1), (2, .int (-1)), (0, .ref a_this), (1, .int x1)]) hx hb dX1_fewestOut_15 hl (by decide) rfl (fun ls hl => ?_)
  obtain ⟨T17_4, hz17_4, hs17_4, n17_4, h⟩ := lpw3_use h
  have kT17_4 : ∀ (n : Nat) (x2_2 : Int32) (x4_3 : Int32) (s_taken_4 : Nat → Int32) (H : Heap) (locs : List Loc) (ls : Array Slot), T17_4 n x2_2 x4_3 s_taken_4 → va_P D vwCl (Wd_Fs_fewestOut cy a_this a_parish a_parish_familyCell a_parish_familyKind a_parish_familyWill a_parish_flitchCell a_parish_flitchKind a_parish_flitchStrength a_taken a_lapses a_wills a_cells a_smelling a_windy a_parish_familySide a_parish_past a_parish_sightings a_parish_notes a_parish_marks s_parish_flitchCount s_parish_familyCount s_parish_hung s_parish_day s_parish_familyCell s_parish_familyKind s_parish_familyWill s_parish_flitchCell s_parish_flitchKind s_parish_flitchStrength s_taken_4) H → va_D A (Wd_Fs_fewestOut cy a_this a_parish a_parish_familyCell a_parish_familyKind a_parish_familyWill a_parish_flitchCell a_parish_flitchKind a_parish_flitchStrength a_taken a_lapses a_wills a_cells a_smelling a_windy a_parish_familySide a_parish_past a_parish_sightings a_parish_notes a_parish_marks s_parish_flitchCount s_parish_familyCount s_parish_hung s_parish_day s_parish_familyCell s_parish_familyKind s_parish_familyWill s_parish_flitchCell s_parish_flitchKind s_parish_flitchStrength s_taken_4) → va_S A s.heap H locs → lv_has ls 6 [(0, .ref a_this), (1, .int x1), (2, .int x2_2), (3, .int x3_1), (4, .int x4_3)] → W p l e rm_Fs_fewestOut s m args below meth c H locs 0 0 QQ (F0 m 17 ls []) := by
    intro n
    induction n with
    | zero => intro x2_2 x4_3 s_taken_4 H locs ls h; exact absurd h (hz17_4 _ _ _)
    | succ n ih17_4 =>
      intro x2_2 x4_3 s_taken_4 H locs ls h hP hD hS hl
      have h := hs17_4 _ _ _ _ h
      refine lv_iload hx hb dX1_fewestOut_17 (lv_at hl 4 rfl) ?_
      refine lv_iload_n hx hb dX1_fewestOut_19 rfl (lv_at hl 3 rfl) ?_
      refine lv_icmp_gt (tgt := 75) hx hb dX1_fewestOut_20 (by decide) (fun c_6 => ?_) (fun c_6 => ?_)
      · have h := h.1 c_6
        refine lv_iload_n hx hb dX1_fewestOut_75 rfl (lv_at hl 2 rfl) ?_
        exact hret _ (s_taken_4) _ _ _ _ h hP hD hS dX1_fewestOut_76
      · have h := h.2 c_6
        refine lv_iload_n hx hb dX1_fewestOut_23 rfl (lv_at hl 2 rfl) ?_
        refine lv_iconst (v := (-1)) hx hb dX1_fewestOut_24 (by decide) ?_
        obtain ⟨J45, hJ45, h⟩ := jn1_ex h
        have kJ45_7 : ∀ (v_7 : Int32) (H : Heap) (locs : List Loc) (ls : Array Slot), J45 v_7 → va_P D vwCl (Wd_Fs_fewestOut cy a_this a_parish a_parish_familyCell a_parish_familyKind a_parish_familyWill a_parish_flitchCell a_parish_flitchKind a_parish_flitchStrength a_taken a_lapses a_wills a_cells a_smelling a_windy a_parish_familySide a_parish_past a_parish_sightings a_parish_notes a_parish_marks s_parish_flitchCount s_parish_familyCount s_parish_hung s_parish_day s_parish_familyCell s_parish_familyKind s_parish_familyWill s_parish_flitchCell s_parish_flitchKind s_parish_flitchStrength s_taken_4) H → va_D A (Wd_Fs_fewestOut cy a_this a_parish a_parish_familyCell a_parish_familyKind a_parish_familyWill a_parish_flitchCell a_parish_flitchKind a_parish_flitchStrength a_taken a_lapses a_wills a_cells a_smelling a_windy a_parish_familySide a_parish_past a_parish_sightings a_parish_notes a_parish_marks s_parish_flitchCount s_parish_familyCount s_parish_hung s_parish_day s_parish_familyCell s_parish_familyKind s_parish_familyWill s_parish_flitchCell s_parish_flitchKind s_parish_flitchStrength s_taken_4) → va_S A s.heap H locs → lv_has ls 6 [(0, .ref a_this), (1, .int x1), (2, .int x2_2), (3, .int x3_1), (4, .int x4_3)] → W p l e rm_Fs_fewestOut s m args below meth c H locs 0 0 QQ (F0 m 45 ls [.int v_7]) := by
          intro v_7 H locs ls h hP hD hS hl
          have h := hJ45 _ h
          refine lv_istore (lv' := [(5, .int v_7), (0, .ref a_this), (1, .int x1), (2, .int x2_2), (3, .int x3_1), (4, .int x4_3)]) hx hb dX1_fewestOut_45 hl (by decide) rfl (fun ls hl => ?_)
          refine lv_iload hx hb dX1_fewestOut_47 (lv_at hl 0 rfl) ?_
          obtain ⟨J69, hJ69, h⟩ := jn2_ex h
          have kJ69_10 : ∀ (x2_9 : Int32) (s_taken_10 : Nat → Int32) (H : Heap) (locs : List Loc) (ls : Array Slot), J69 x2_9 s_taken_10 → va_P D vwCl (Wd_Fs_fewestOut cy a_this a_parish a_parish_familyCell a_parish_familyKind a_parish_familyWill a_parish_flitchCell a_parish_flitchKind a_parish_flitchStrength a_taken a_lapses a_wills a_cells a_smelling a_windy a_parish_familySide a_parish_past a_parish_sightings a_parish_notes a_parish_marks s_parish_flitchCount s_parish_familyCount s_parish_hung s_parish_day s_parish_familyCell s_parish_familyKind s_parish_familyWill s_parish_flitchCell s_parish_flitchKind s_parish_flitchStrength s_taken_10) H → va_D A (Wd_Fs_fewestOut cy a_this a_parish a_parish_familyCell a_parish_familyKind a_parish_familyWill a_parish_flitchCell a_parish_flitchKind a_parish_flitchStrength a_taken a_lapses a_wills a_cells a_smelling a_windy a_parish_familySide a_parish_past a_parish_sightings a_parish_notes a_parish_marks s_parish_flitchCount s_parish_familyCount s_parish_hung s_parish_day s_parish_familyCell s_parish_familyKind s_parish_familyWill s_parish_flitchCell s_parish_flitchKind s_parish_flitchStrength s_taken_10) → va_S A s.heap H locs → lv_has ls 6 [(0, .ref a_this), (1, .int x1), (2, .int x2_9), (3, .int x3_1), (4, .int x4_3)] → W p l e rm_Fs_fewestOut s m args below meth c H locs 0 0 QQ (F0 m 69 ls []) := by
            intro x2_9 s_taken_10 H locs ls h hP hD hS hl
            have h := hJ69 _ _ h
            obtain ⟨x4_12, ex4_12⟩ : ∃ y : Int32, y = x4_3 + 1 := ⟨_, rfl⟩
            have h := h x4_12 ex4_12
            refine lv_iinc (v := x4_12) (lv' := [(4, .int x4_12), (0, .ref a_this), (1, .int x1), (2, .int x2_9), (3, .int x3_1)]) hx hb dX1_fewestOut_69 hl (k := 4) rfl (by rw [ex4_12]; rfl) (by decide) rfl (fun ls hl => ?_)
            refine lv_goto (tgt := 17) hx hb dX1_fewestOut_72 (by decide) ?_
            exact ih17_4 _ _ _ _ _ _ h hP hD hS (lv_sub hl [1, 2, 3, 4, 0] rfl)
          refine lv_if_eq (tgt := 69) hx hb dX1_fewestOut_49 (by decide) (fun c_13 => ?_) (fun c_13 => ?_)
          · have h := h.1 c_13
            exact kJ69_10 _ _ _ _ _ h hP hD hS (lv_sub hl [1, 2, 3, 4, 5] rfl)
          · have h := h.2 c_13
            refine lv_aload_n hx hb dX1_fewestOut_52 rfl (lv_at hl 1 rfl) ?_
            refine lv_iload_n hx hb dX1_fewestOut_53 rfl (lv_at hl 4 rfl) ?_
            refine lv_iload hx hb dX1_fewestOut_54 (lv_at hl 5 rfl) ?_
            refine lv_iconst (v := (-1)) hx hb dX1_fewestOut_56 (by decide) ?_
            refine lv_ixor hx hb dX1_fewestOut_57 ?_
            refine lv_iand hx hb dX1_fewestOut_58 ?_
            refine lv_iload_n hx hb dX1_fewestOut_59 rfl (lv_at hl 2 rfl) ?_
            refine st_callI (WR := []) (WSn := fun u => (Wd_Fs_fewestOut cy a_this a_parish a_parish_familyCell a_parish_familyKind a_parish_familyWill a_parish_flitchCell a_parish_flitchKind a_parish_flitchStrength a_taken a_lapses a_wills a_cells a_smelling a_windy a_parish_familySide a_parish_past a_parish_sightings a_parish_notes a_parish_marks s_parish_flitchCount s_parish_familyCount s_parish_hung s_parish_day s_parish_familyCell s_parish_familyKind s_parish_familyWill s_parish_flitchCell s_parish_flitchKind s_parish_flitchStrength u)) (st_runV (n := 2) (As := [.int (x3_1 &&& (x4_3 ^^^ (-1))), .int x1]) (rest := []) (q0 := 0) F ((co_Fs_allHold l D cy a_this a_parish a_parish_familyCell a_parish_familyKind a_parish_familyWill a_parish_flitchCell a_parish_flitchKind a_parish_flitchStrength a_taken a_lapses a_wills a_cells a_smelling a_windy a_parish_familySide a_parish_past a_parish_sightings a_parish_notes a_parish_marks s_parish_flitchCount s_parish_familyCount s_parish_hung s_parish_day s_parish_familyCell s_parish_familyKind s_parish_familyWill s_parish_flitchCell s_parish_flitchKind s_parish_flitchStrength s_taken_4 (x3_1 &&& (x4_3 ^^^ (-1))) x1 _ h) _) rfl gX1_fewestOut_X1_allHold rfl (by decide +kernel) rfl hKK hP hD [0, 1, 2, 3, 4, 5, 6, 7, 8] rfl rfl rfl rfl rfl hl.1 rfl (Nat.le_of_ble_eq_true rfl) dX1_fewestOut_60) hP hD hS hA [0, 1, 2, 3, 4, 5, 6, 7, 8] [] [0, 1, 2, 3, 4, 5, 6, 7, 8] rfl rfl rfl (fun _ => rfl) (fun r_14 u H locs h hP hD hS => ?_)
            obtain ⟨s_taken_15, rfl⟩ : ∃ z, z = u := ⟨_, rfl⟩
            have hP : va_P D vwCl (Wd_Fs_fewestOut cy a_this a_parish a_parish_familyCell a_parish_familyKind a_parish_familyWill a_parish_flitchCell a_parish_flitchKind a_parish_flitchStrength a_taken a_lapses a_wills a_cells a_smelling a_windy a_parish_familySide a_parish_past a_parish_sightings a_parish_notes a_parish_marks s_parish_flitchCount s_parish_familyCount s_parish_hung s_parish_day s_parish_familyCell s_parish_familyKind s_parish_familyWill s_parish_flitchCell s_parish_flitchKind s_parish_flitchStrength s_taken_15) H := hP
            have hD : va_D A (Wd_Fs_fewestOut cy a_this a_parish a_parish_familyCell a_parish_familyKind a_parish_familyWill a_parish_flitchCell a_parish_flitchKind a_parish_flitchStrength a_taken a_lapses a_wills a_cells a_smelling a_windy a_parish_familySide a_parish_past a_parish_sightings a_parish_notes a_parish_marks s_parish_flitchCount s_parish_familyCount s_parish_hung s_parish_day s_parish_familyCell s_parish_familyKind s_parish_familyWill s_parish_flitchCell s_parish_flitchKind s_parish_flitchStrength s_taken_15) := hD
            refine lv_if_eq (tgt := 69) hx hb dX1_fewestOut_63 (by decide) (fun c_16 => ?_) (fun c_16 => ?_)
            · have h := h.1 c_16
              exact kJ69_10 _ _ _ _ _ h hP hD hS (lv_sub hl [1, 2, 3, 4, 5] rfl)
            · have h := h.2 c_16
              refine lv_iload hx hb dX1_fewestOut_66 (lv_at hl 5 rfl) ?_
              refine lv_istore_n (lv' := [(2, .int x4_3), (5, .int v_7), (0, .ref a_this), (1, .int x1), (3, .int x3_1), (4, .int x4_3)]) hx hb dX1_fewestOut_68 rfl hl (by decide) rfl (fun ls hl => ?_)
              exact kJ69_10 _ _ _ _ _ h hP hD hS (lv_sub hl [2, 3, 0, 4, 5] rfl)
        obtain ⟨J40, hJ40, h⟩ := jn0_ex h
        have kJ40_16 : ∀  (H : Heap) (locs : List Loc) (ls : Array Slot), J40 → va_P D vwCl (Wd_Fs_fewestOut cy a_this a_parish a_parish_familyCell a_parish_familyKind a_parish_familyWill a_parish_flitchCell a_parish_flitchKind a_parish_flitchStrength a_taken a_lapses a_wills a_cells a_smelling a_windy a_parish_familySide a_parish_past a_parish_sightings a_parish_notes a_parish_marks s_parish_flitchCount s_parish_familyCount s_parish_hung s_parish_day s_parish_familyCell s_parish_familyKind s_parish_familyWill s_parish_flitchCell s_parish_flitchKind s_parish_flitchStrength s_taken_4) H → va_D A (Wd_Fs_fewestOut cy a_this a_parish a_parish_familyCell a_parish_familyKind a_parish_familyWill a_parish_flitchCell a_parish_flitchKind a_parish_flitchStrength a_taken a_lapses a_wills a_cells a_smelling a_windy a_parish_familySide a_parish_past a_parish_sightings a_parish_notes a_parish_marks s_parish_flitchCount s_parish_familyCount s_parish_hung s_parish_day s_parish_familyCell s_parish_familyKind s_parish_familyWill s_parish_flitchCell s_parish_flitchKind s_parish_flitchStrength s_taken_4) → va_S A s.heap H locs → lv_has ls 6 [(0, .ref a_this), (1, .int x1), (2, .int x2_2), (3, .int x3_1), (4, .int x4_3)] → W p l e rm_Fs_fewestOut s m args below meth c H locs 0 0 QQ (F0 m 40 ls []) := by
          intro  H locs ls h hP hD hS hl
          have h := hJ40  h
          refine lv_iconst (v := 1) hx hb dX1_fewestOut_40 (by decide) ?_
          refine lv_goto (tgt := 45) hx hb dX1_fewestOut_41 (by decide) ?_
          exact kJ45_7 _ _ _ _ h hP hD hS (lv_sub hl [0, 1, 2, 3, 4] rfl)
        refine lv_icmp_eq (tgt := 40) hx hb dX1_fewestOut_25 (by decide) (fun c_18 => ?_) (fun c_18 => ?_)
        · have h := h.1 c_18
          exact kJ40_16  _ _ _ h hP hD hS (lv_sub hl [0, 1, 2, 3, 4] rfl)
        · have h := h.2 c_18
          refine lv_iload hx hb dX1_fewestOut_28 (lv_at hl 4 rfl) ?_
          refine st_callRI (st_runSR (n := 1) (As := [.int x4_3]) (rest := []) F (co_Ji_bitCount l D cy x4_3 _ h) gX1_fewestOut_J6_bitCount_0f7a4 rfl (by decide +kernel) rfl hKK hP [] rfl rfl hl.1 rfl (Nat.le_of_ble_eq_true rfl) dX1_fewestOut_30) (fun r_19 h => ?_)
          refine lv_iload_n hx hb dX1_fewestOut_33 rfl (lv_at hl 2 rfl) ?_
          refine st_callRI (st_runSR (n := 1) (As := [.int x2_2]) (rest := [.int r_19]) F (co_Ji_bitCount l D cy x2_2 _ h) gX1_fewestOut_J6_bitCount_0f7a4 rfl (by decide +kernel) rfl hKK hP [] rfl rfl hl.1 rfl (Nat.le_of_ble_eq_true rfl) dX1_fewestOut_34) (fun r_20 h => ?_)
          refine lv_icmp_ge (tgt := 44) hx hb dX1_fewestOut_37 (by decide) (fun c_21 => ?_) (fun c_21 => ?_)
          · have h := h.1 c_21
            refine lv_iconst (v := 0) hx hb dX1_fewestOut_44 (by decide) ?_
            exact kJ45_7 _ _ _ _ h hP hD hS (lv_sub hl [0, 1, 2, 3, 4] rfl)
          · have h := h.2 c_21
            exact kJ40_16  _ _ _ h hP hD hS (lv_sub hl [0, 1, 2, 3, 4] rfl)
  exact kT17_4 n17_4 _ _ _ _ _ _ h hP hD hS (lv_sub hl [3, 4, 2, 1, 0] rfl)
abbrev Wd_Rw_at (cy : ClassId × ClassId × ClassId × ClassId) (a_this a_numbers : Nat) (n_numbers : Nat) (s_width : Int32) (s_limit : Int32) (s_size : Int32) (s_numbers : Nat → Int32) : va_W := [(a_this, .inr (5, [.int s_width, .int s_limit, .ref a_numbers, .int s_size])), (a_numbers, .inl (cy.2.1, n_numbers, .inl s_numbers))]
abbrev rm_Rw_at : Room := { frames := 0, cells := 0, slots := 0, locals := 0 }
def wp_Rw_at (x1 : Int32) (x2 : Int32) (n_numbers : Nat) (s_width : Int32) (s_numbers : Nat → Int32) (Q : Int32 → Prop) : Prop := vp_in ((x1 * s_width) + x2) n_numbers ∧ Q (s_numbers (Int32.toNatClampNeg ((x1 * s_width) + x2)))
set_option maxHeartbeats 4000000 in
set_option maxRecDepth 100000 in
theorem co_Rw_at (l : Launch) (D : va_G) (cy : ClassId × ClassId × ClassId × ClassId) (a_this a_numbers : Nat) (n_numbers : Nat) (s_width : Int32) (s_limit : Int32) (s_size : Int32) (s_numbers : Nat → Int32) (x1 : Int32) (x2 : Int32) (Q : Int32 → Prop) (h : wp_Rw_at x1 x2 n_numbers s_width s_numbers Q) : RoI l yX6_at wsX6_at rm_Rw_at D cy [.ref a_this, .int x1, .int x2] (Wd_Rw_at cy a_this a_numbers n_numbers s_width s_limit s_size s_numbers) Q := by
  refine st_metRI (cc := cX6_at) (maxL := 3) RX6 (by decide) rfl rfl (Nat.le_of_ble_eq_true rfl) ?_
  intro p e s m args below meth c QQ ls F hKK hP hl hret
  have hK := hKK.1
  have hnest := hKK.2
  have hx := F.1
  have hb := F.2.1
  have hown := F.2.2.2.1
  have hts := F.2.2.2.2
  have in_X6 : ∀ w ∈ u_ws RX6 TX6 4, w ∈ wsX6_at := (fun _ h => List.mem_cons_of_mem _ (List.mem_append_right _ h))
  have fl_7 := (hts (.fieldLink RX6 7 "RasherCase$Rows" "width" "I") (List.mem_of_getElem? (i := 2) rfl))
  have fl_16 := (hts (.fieldLink RX6 16 "RasherCase$Rows" "numbers" "[I") (List.mem_of_getElem? (i := 1) rfl))
  have hl : lv_has ls 3 [(0, .ref a_this), (1, .int x1), (2, .int x2)] := hl
  unfold wp_Rw_at at h
  refine lv_aload_n hx hb dX6_at_0 rfl (lv_at hl 0 rfl) ?_
  refine va_get (D := D) (ci := 5) (v := .ref a_numbers) (C := RX6) (T := TX6) (N := 4) hx hb hts in_X6 hown hK hP 0 rfl rfl 2 (by decide) fl_16 (fun _ h9 => h9) rfl dX6_at_1 ?_
  refine lv_iload_n hx hb dX6_at_4 rfl (lv_at hl 1 rfl) ?_
  refine lv_aload_n hx hb dX6_at_5 rfl (lv_at hl 0 rfl) ?_
  refine va_get (D := D) (ci := 5) (v := .int s_width) (C := RX6) (T := TX6) (N := 4) hx hb hts in_X6 hown hK hP 0 rfl rfl 0 (by decide) fl_7 (fun _ h9 => h9) rfl dX6_at_6 ?_
  refine lv_imul hx hb dX6_at_9 ?_
  refine lv_iload_n hx hb dX6_at_10 rfl (lv_at hl 2 rfl) ?_
  refine lv_iadd hx hb dX6_at_11 ?_
  obtain ⟨hi_1, h⟩ := h
  refine va_iald hx hb hK hP 1 1 rfl rfl hi_1 dX6_at_12 ?_
  exact hret _ _ _ h dX6_at_13
abbrev Wd_Fs_fits (cy : ClassId × ClassId × ClassId × ClassId) (a_this a_parish a_parish_sightings a_parish_sightings_numbers a_taken a_lapses a_wills a_cells a_smelling a_windy a_parish_flitchKind a_parish_flitchCell a_parish_flitchStrength a_parish_familyKind a_parish_familySide a_parish_familyCell a_parish_familyWill a_parish_past a_parish_notes a_parish_marks : Nat) (s_parish_flitchCount : Int32) (s_parish_familyCount : Int32) (s_parish_hung : Int32) (s_parish_day : Int32) (s_parish_sightings_width : Int32) (s_parish_sightings_limit : Int32) (s_parish_sightings_size : Int32) (s_parish_sightings_numbers : Nat → Int32) (s_taken : Nat → Int32) : va_W := [(a_this, .inr (1, [.ref a_parish, .ref a_taken, .ref a_lapses, .ref a_wills, .ref a_cells, .ref a_smelling, .ref a_windy])), (a_parish, .inr (3, [.ref a_parish_flitchKind, .ref a_parish_flitchCell, .ref a_parish_flitchStrength, .ref a_parish_familyKind, .ref a_parish_familySide, .ref a_parish_familyCell, .ref a_parish_familyWill, .ref a_parish_past, .ref a_parish_sightings, .ref a_parish_notes, .ref a_parish_marks, .int s_parish_flitchCount, .int s_parish_familyCount, .int s_parish_hung, .int s_parish_day])), (a_parish_sightings, .inr (5, [.int s_parish_sightings_width, .int s_parish_sightings_limit, .ref a_parish_sightings_numbers, .int s_parish_sightings_size])), (a_parish_sightings_numbers, .inl (cy.2.1, 15, .inl s_parish_sightings_numbers)), (a_taken, .inl (cy.2.1, 61, .inl s_taken))]
abbrev rm_Fs_fits : Room := { frames := 1, cells := 0, slots := 0, locals := 22 }
def wp_Fs_fits (x1 : Int32) (x2 : Int32) (s_parish_sightings_width : Int32) (s_parish_sightings_size : Int32) (s_parish_sightings_numbers : Nat → Int32) (s_taken : Nat → Int32) (Q : Int32 → Prop) : Prop := ∃ n : Nat, lpw1 (fun (B11 : Int32 → Prop) (x4_1 : Int32) => ((s_parish_sightings_size ≤ x4_1 → Q 1) ∧ (¬ s_parish_sightings_size ≤ x4_1 → wp_Rw_at x4_1 0 15 s_parish_sightings_width s_parish_sightings_numbers (fun (r_4 : Int32) => jn0 (fun (J77 : Prop) => ((¬ r_4 = x1 → J77) ∧ (r_4 = x1 → wp_Rw_at x4_1 1 15 s_parish_sightings_width s_parish_sightings_numbers (fun (r_8 : Int32) => vp_in r_8 61 ∧ jn1 (fun (J52 : Int32 → Prop) => (((s_taken (Int32.toNatClampNeg r_8)) < x2 → J52 0) ∧ (¬ (s_taken (Int32.toNatClampNeg r_8)) < x2 → J52 1))) (fun (v_10 : Int32) => wp_Rw_at x4_1 2 15 s_parish_sightings_width s_parish_sightings_numbers (fun (r_12 : Int32) => jn1 (fun (J72 : Int32 → Prop) => ((¬ r_12 = 1 → J72 0) ∧ (r_12 = 1 → J72 1))) (fun (v_13 : Int32) => ((v_10 = v_13 → J77) ∧ (¬ v_10 = v_13 → Q 0))))))))) (∀ x4_6 : Int32, x4_6 = x4_1 + 1 → B11 x4_6))))) n 0
set_option maxHeartbeats 4000000 in
set_option maxRecDepth 100000 in
theorem co_Fs_fits (l : Launch) (D : va_G) (cy : ClassId × ClassId × ClassId × ClassId) (a_this a_parish a_parish_sightings a_parish_sightings_numbers a_taken a_lapses a_wills a_cells a_smelling a_windy a_parish_flitchKind a_parish_flitchCell a_parish_flitchStrength a_parish_familyKind a_parish_familySide a_parish_familyCell a_parish_familyWill a_parish_past a_parish_notes a_parish_marks : Nat) (s_parish_flitchCount : Int32) (s_parish_familyCount : Int32) (s_parish_hung : Int32) (s_parish_day : Int32) (s_parish_sightings_width : Int32) (s_parish_sightings_limit : Int32) (s_parish_sightings_size : Int32) (s_parish_sightings_numbers : Nat → Int32) (s_taken : Nat → Int32) (x1 : Int32) (x2 : Int32) (Q : Int32 → Prop) (h : wp_Fs_fits x1 x2 s_parish_sightings_width s_parish_sightings_size s_parish_sightings_numbers s_taken Q) : RoI l yX1_fits wsX1_fits rm_Fs_fits D cy [.ref a_this, .int x1, .int x2] (Wd_Fs_fits cy a_this a_parish a_parish_sightings a_parish_sightings_numbers a_taken a_lapses a_wills a_cells a_smelling a_windy a_parish_flitchKind a_parish_flitchCell a_parish_flitchStrength a_parish_familyKind a_parish_familySide a_parish_familyCell a_parish_familyWill a_parish_past a_parish_notes a_parish_marks s_parish_flitchCount s_parish_familyCount s_parish_hung s_parish_day s_parish_sightings_width s_parish_sightings_limit s_parish_sightings_size s_parish_sightings_numbers s_taken) Q := by
  refine st_metRZ (cc := cX1_fits) (maxL := 6) RX1 (by decide) rfl rfl (Nat.le_of_ble_eq_true rfl) ?_
  intro p e s m args below meth c QQ ls F hKK hP hl hret
  have hK := hKK.1
  have hnest := hKK.2
  have hx := F.1
  have hb := F.2.1
  have hown := F.2.2.2.1
  have hts := F.2.2.2.2
  have in_X1 : ∀ w ∈ u_ws RX1 TX1 7, w ∈ wsX1_fits := (fun _ h => List.mem_cons_of_mem _ (List.mem_append_left _ (List.mem_append_left _ (List.mem_append_right _ h))))
  have in_X4 : ∀ w ∈ u_ws RX4 TX4 15, w ∈ wsX1_fits := (fun _ h => List.mem_cons_of_mem _ (List.mem_append_left _ (List.mem_append_right _ h)))
  have in_X6 : ∀ w ∈ u_ws RX6 TX6 4, w ∈ wsX1_fits := (fun _ h => List.mem_cons_of_mem _ (List.mem_append_right _ h))
  have fl_9 := (hts (.fieldLink RX1 9 "RasherCase$Foresight" "taken" "[I") (List.mem_of_getElem? (i := 4) rfl))
  have fl_30 := (hts (.fieldLink RX1 30 "RasherCase$Foresight" "parish" "LRasherCase$Parish;") (List.mem_of_getElem? (i := 1) rfl))
  have fl_110 := (hts (.fieldLink RX1 110 "RasherCase$Parish" "sightings" "LRasherCase$Rows;") (List.mem_of_getElem? (i := 2) rfl))
  have fl_114 := (hts (.fieldLink RX1 114 "RasherCase$Rows" "size" "I") (List.mem_of_getElem? (i := 3) rfl))
  have hl : lv_has ls 6 [(0, .ref a_this), (1, .int x1), (2, .int x2)] := hl
  unfold wp_Fs_fits at h
  refine lv_aload_n hx hb dX1_fits_0 rfl (lv_at hl 0 rfl) ?_
  refine va_get (D := D) (ci := 1) (v := .ref a_parish) (C := RX1) (T := TX1) (N := 7) hx hb hts in_X1 hown hK hP 0 rfl rfl 0 (by decide) fl_30 (fun _ h9 => h9) rfl dX1_fits_1 ?_
  refine va_get (D := D) (ci := 3) (v := .ref a_parish_sightings) (C := RX4) (T := TX4) (N := 15) hx hb hts in_X4 hown hK hP 1 rfl rfl 8 (by decide) fl_110 (fun _ h9 => h9) rfl dX1_fits_4 ?_
  refine lv_astore_n (lv' := [(3, .ref a_parish_sightings), (0, .ref a_this), (1, .int x1), (2, .int x2)]) hx hb dX1_fits_7 rfl hl (by decide) rfl (fun ls hl => ?_)
  refine lv_iconst (v := 0) hx hb dX1_fits_8 (by decide) ?_
  refine lv_istore (lv' := [(4, .int 0), (3, .ref a_parish_sightings), (0, .ref a_this), (1, .int x1), (2, .int x2)]) hx hb dX1_fits_9 hl (by decide) rfl (fun ls hl => ?_)
  obtain ⟨T11_1, hz11_1, hs11_1, n11_1, h⟩ := lpw1_use h
  have kT11_1 : ∀ (n : Nat) (x4_1 : Int32) (ls : Array Slot), T11_1 n x4_1 → lv_has ls 6 [(0, .ref a_this), (1, .int x1), (2, .int x2), (3, .ref a_parish_sightings), (4, .int x4_1)] → W p l e rm_Fs_fits s m args below meth c s.heap [] 0 0 QQ (F0 m 11 ls []) := by
    intro n
    induction n with
    | zero => intro x4_1 ls h; exact absurd h (hz11_1 _)
    | succ n ih11_1 =>
      intro x4_1 ls h hl
      have h := hs11_1 _ _ h
      refine lv_iload hx hb dX1_fits_11 (lv_at hl 4 rfl) ?_
      refine lv_aload_n hx hb dX1_fits_13 rfl (lv_at hl 3 rfl) ?_
      refine va_get (D := D) (ci := 5) (v := .int s_parish_sightings_size) (C := RX6) (T := TX6) (N := 4) hx hb hts in_X6 hown hK hP 2 rfl rfl 3 (by decide) fl_114 (fun _ h9 => h9) rfl dX1_fits_14 ?_
      refine lv_icmp_ge (tgt := 83) hx hb dX1_fits_17 (by decide) (fun c_3 => ?_) (fun c_3 => ?_)
      · have h := h.1 c_3
        refine lv_iconst (v := 1) hx hb dX1_fits_83 (by decide) ?_
        exact hret _ _ _ bz1 h dX1_fits_84
      · have h := h.2 c_3
        refine lv_aload_n hx hb dX1_fits_20 rfl (lv_at hl 3 rfl) ?_
        refine lv_iload hx hb dX1_fits_21 (lv_at hl 4 rfl) ?_
        refine lv_iconst (v := 0) hx hb dX1_fits_23 (by decide) ?_
        refine st_callRI (st_runVR (n := 2) (As := [.int x4_1, .int 0]) (rest := []) (q0 := 0) F (co_Rw_at l D cy a_parish_sightings a_parish_sightings_numbers 15 s_parish_sightings_width s_parish_sightings_limit s_parish_sightings_size s_parish_sightings_numbers x4_1 0 _ h) gX1_fits_X6_at rfl (by decide +kernel) rfl hKK hP [2, 3] rfl rfl rfl rfl hl.1 rfl (Nat.le_of_ble_eq_true rfl) dX1_fits_24) (fun r_4 h => ?_)
        refine lv_iload_n hx hb dX1_fits_27 rfl (lv_at hl 1 rfl) ?_
        obtain ⟨J77, hJ77, h⟩ := jn0_ex h
        have kJ77_4 : ∀  (ls : Array Slot), J77 → lv_has ls 6 [(0, .ref a_this), (1, .int x1), (2, .int x2), (3, .ref a_parish_sightings), (4, .int x4_1)] → W p l e rm_Fs_fits s m args below meth c s.heap [] 0 0 QQ (F0 m 77 ls []) := by
          intro  ls h hl
          have h := hJ77  h
          obtain ⟨x4_6, ex4_6⟩ : ∃ y : Int32, y = x4_1 + 1 := ⟨_, rfl⟩
          have h := h x4_6 ex4_6
          refine lv_iinc (v := x4_6) (lv' := [(4, .int x4_6), (0, .ref a_this), (1, .int x1), (2, .int x2), (3, .ref a_parish_sightings)]) hx hb dX1_fits_77 hl (k := 4) rfl (by rw [ex4_6]; rfl) (by decide) rfl (fun ls hl => ?_)
          refine lv_goto (tgt := 11) hx hb dX1_fits_80 (by decide) ?_
          exact ih11_1 _ _ h (lv_sub hl [1, 2, 3, 4, 0] rfl)
        refine lv_icmp_ne (tgt := 77) hx hb dX1_fits_28 (by decide) (fun c_7 => ?_) (fun c_7 => ?_)
        · have h := h.1 c_7
          exact kJ77_4  _ h (lv_sub hl [0, 1, 2, 3, 4] rfl)
        · have h := h.2 c_7
          refine lv_aload_n hx hb dX1_fits_31 rfl (lv_at hl 0 rfl) ?_
          refine va_get (D := D) (ci := 1) (v := .ref a_taken) (C := RX1) (T := TX1) (N := 7) hx hb hts in_X1 hown hK hP 0 rfl rfl 1 (by decide) fl_9 (fun _ h9 => h9) rfl dX1_fits_32 ?_
          refine lv_aload_n hx hb dX1_fits_35 rfl (lv_at hl 3 rfl) ?_
          refine lv_iload hx hb dX1_fits_36 (lv_at hl 4 rfl) ?_
          refine lv_iconst (v := 1) hx hb dX1_fits_38 (by decide) ?_
          refine st_callRI (st_runVR (n := 2) (As := [.int x4_1, .int 1]) (rest := [.ref a_taken]) (q0 := 0) F (co_Rw_at l D cy a_parish_sightings a_parish_sightings_numbers 15 s_parish_sightings_width s_parish_sightings_limit s_parish_sightings_size s_parish_sightings_numbers x4_1 1 _ h) gX1_fits_X6_at rfl (by decide +kernel) rfl hKK hP [2, 3] rfl rfl rfl rfl hl.1 rfl (Nat.le_of_ble_eq_true rfl) dX1_fits_39) (fun r_8 h => ?_)
          obtain ⟨hi_9, h⟩ := h
          refine va_iald hx hb hK hP 4 1 rfl rfl hi_9 dX1_fits_42 ?_
          refine lv_iload_n hx hb dX1_fits_43 rfl (lv_at hl 2 rfl) ?_
          obtain ⟨J52, hJ52, h⟩ := jn1_ex h
          have kJ52_10 : ∀ (v_10 : Int32) (ls : Array Slot), J52 v_10 → lv_has ls 6 [(0, .ref a_this), (1, .int x1), (2, .int x2), (3, .ref a_parish_sightings), (4, .int x4_1)] → W p l e rm_Fs_fits s m args below meth c s.heap [] 0 0 QQ (F0 m 52 ls [.int v_10]) := by
            intro v_10 ls h hl
            have h := hJ52 _ h
            refine lv_istore (lv' := [(5, .int v_10), (0, .ref a_this), (1, .int x1), (2, .int x2), (3, .ref a_parish_sightings), (4, .int x4_1)]) hx hb dX1_fits_52 hl (by decide) rfl (fun ls hl => ?_)
            refine lv_iload hx hb dX1_fits_54 (lv_at hl 0 rfl) ?_
            refine lv_aload_n hx hb dX1_fits_56 rfl (lv_at hl 4 rfl) ?_
            refine lv_iload hx hb dX1_fits_57 (lv_at hl 5 rfl) ?_
            refine lv_iconst (v := 2) hx hb dX1_fits_59 (by decide) ?_
            refine st_callRI (st_runVR (n := 2) (As := [.int x4_1, .int 2]) (rest := [.int v_10]) (q0 := 0) F (co_Rw_at l D cy a_parish_sightings a_parish_sightings_numbers 15 s_parish_sightings_width s_parish_sightings_limit s_parish_sightings_size s_parish_sightings_numbers x4_1 2 _ h) gX1_fits_X6_at rfl (by decide +kernel) rfl hKK hP [2, 3] rfl rfl rfl rfl hl.1 rfl (Nat.le_of_ble_eq_true rfl) dX1_fits_60) (fun r_12 h => ?_)
            refine lv_iconst (v := 1) hx hb dX1_fits_63 (by decide) ?_
            obtain ⟨J72, hJ72, h⟩ := jn1_ex h
            have kJ72_13 : ∀ (v_13 : Int32) (ls : Array Slot), J72 v_13 → lv_has ls 6 [(0, .ref a_this), (1, .int x1), (2, .int x2), (3, .ref a_parish_sightings), (4, .int x4_1)] → W p l e rm_Fs_fits s m args below meth c s.heap [] 0 0 QQ (F0 m 72 ls [.int v_13, .int v_10]) := by
              intro v_13 ls h hl
              have h := hJ72 _ h
              refine lv_icmp_eq (tgt := 77) hx hb dX1_fits_72 (by decide) (fun c_15 => ?_) (fun c_15 => ?_)
              · have h := h.1 c_15
                exact kJ77_4  _ h (lv_sub hl [0, 1, 2, 3, 4] rfl)
              · have h := h.2 c_15
                refine lv_iconst (v := 0) hx hb dX1_fits_75 (by decide) ?_
                exact hret _ _ _ bz0 h dX1_fits_76
            refine lv_icmp_ne (tgt := 71) hx hb dX1_fits_64 (by decide) (fun c_16 => ?_) (fun c_16 => ?_)
            · have h := h.1 c_16
              refine lv_iconst (v := 0) hx hb dX1_fits_71 (by decide) ?_
              exact kJ72_13 _ _ h (lv_sub hl [1, 2, 3, 4, 5] rfl)
            · have h := h.2 c_16
              refine lv_iconst (v := 1) hx hb dX1_fits_67 (by decide) ?_
              refine lv_goto (tgt := 72) hx hb dX1_fits_68 (by decide) ?_
              exact kJ72_13 _ _ h (lv_sub hl [1, 2, 3, 4, 5] rfl)
          refine lv_icmp_lt (tgt := 51) hx hb dX1_fits_44 (by decide) (fun c_17 => ?_) (fun c_17 => ?_)
          · have h := h.1 c_17
            refine lv_iconst (v := 0) hx hb dX1_fits_51 (by decide) ?_
            exact kJ52_10 _ _ h (lv_sub hl [0, 1, 2, 3, 4] rfl)
          · have h := h.2 c_17
            refine lv_iconst (v := 1) hx hb dX1_fits_47 (by decide) ?_
            refine lv_goto (tgt := 52) hx hb dX1_fits_48 (by decide) ?_
            exact kJ52_10 _ _ h (lv_sub hl [0, 1, 2, 3, 4] rfl)
  exact kT11_1 n11_1 _ _ h (lv_sub hl [2, 3, 4, 1, 0] rfl)
abbrev Wd_Fs_fittingWills (cy : ClassId × ClassId × ClassId × ClassId) (a_this a_parish a_parish_familyCell a_parish_familyKind a_parish_flitchCell a_parish_flitchKind a_parish_flitchStrength a_parish_sightings a_parish_sightings_numbers a_taken a_lapses a_wills a_cells a_smelling a_windy a_parish_familySide a_parish_familyWill a_parish_past a_parish_notes a_parish_marks : Nat) (s_parish_flitchCount : Int32) (s_parish_familyCount : Int32) (s_parish_hung : Int32) (s_parish_day : Int32) (s_parish_familyCell : Nat → Int32) (s_parish_familyKind : Nat → Int32) (s_parish_flitchCell : Nat → Int32) (s_parish_flitchKind : Nat → Int32) (s_parish_flitchStrength : Nat → Int32) (s_parish_sightings_width : Int32) (s_parish_sightings_limit : Int32) (s_parish_sightings_size : Int32) (s_parish_sightings_numbers : Nat → Int32) (s_taken : Nat → Int32) : va_W := [(a_this, .inr (1, [.ref a_parish, .ref a_taken, .ref a_lapses, .ref a_wills, .ref a_cells, .ref a_smelling, .ref a_windy])), (a_parish, .inr (3, [.ref a_parish_flitchKind, .ref a_parish_flitchCell, .ref a_parish_flitchStrength, .ref a_parish_familyKind, .ref a_parish_familySide, .ref a_parish_familyCell, .ref a_parish_familyWill, .ref a_parish_past, .ref a_parish_sightings, .ref a_parish_notes, .ref a_parish_marks, .int s_parish_flitchCount, .int s_parish_familyCount, .int s_parish_hung, .int s_parish_day])), (a_parish_familyCell, .inl (cy.2.1, 7, .inl s_parish_familyCell)), (a_parish_familyKind, .inl (cy.2.1, 7, .inl s_parish_familyKind)), (a_parish_flitchCell, .inl (cy.2.1, 3, .inl s_parish_flitchCell)), (a_parish_flitchKind, .inl (cy.2.1, 3, .inl s_parish_flitchKind)), (a_parish_flitchStrength, .inl (cy.2.1, 3, .inl s_parish_flitchStrength)), (a_parish_sightings, .inr (5, [.int s_parish_sightings_width, .int s_parish_sightings_limit, .ref a_parish_sightings_numbers, .int s_parish_sightings_size])), (a_parish_sightings_numbers, .inl (cy.2.1, 15, .inl s_parish_sightings_numbers)), (a_taken, .inl (cy.2.1, 61, .inl s_taken))]
abbrev rm_Fs_fittingWills : Room := { frames := 3, cells := 0, slots := 0, locals := 103 }
def wp_Fs_fittingWills (x1 : Int32) (x2 : Int32) (s_parish_flitchCount : Int32) (s_parish_hung : Int32) (s_parish_day : Int32) (s_parish_familyCell : Nat → Int32) (s_parish_familyKind : Nat → Int32) (s_parish_flitchCell : Nat → Int32) (s_parish_flitchKind : Nat → Int32) (s_parish_flitchStrength : Nat → Int32) (s_parish_sightings_width : Int32) (s_parish_sightings_size : Int32) (s_parish_sightings_numbers : Nat → Int32) (s_taken : Nat → Int32) (Q : Int32 → (Nat → Int32) → Prop) : Prop := vp_in x1 7 ∧ vp_in x1 7 ∧ wp_Fs_reckon (s_parish_familyKind (Int32.toNatClampNeg x1)) (s_parish_familyCell (Int32.toNatClampNeg x1)) s_parish_hung 60 s_parish_flitchCount s_parish_day s_parish_flitchCell s_parish_flitchKind s_parish_flitchStrength s_taken (fun (s_taken_4 : Nat → Int32) => ∃ n : Nat, lpw4 (fun (B42 : Int32 → Int32 → Int32 → Int32 → Prop) (x3_5 : Int32) (x4_6 : Int32) (x5_7 : Int32) (x6_8 : Int32) => ((99 < x6_8 → ((¬ x2 = 0 → ((¬ x2 = 1 → Q x5_7 s_taken_4) ∧ (x2 = 1 → Q x4_6 s_taken_4))) ∧ (x2 = 0 → Q x3_5 s_taken_4))) ∧ (¬ 99 < x6_8 → wp_Fs_fits x1 x6_8 s_parish_sightings_width s_parish_sightings_size s_parish_sightings_numbers s_taken_4 (fun (r_13 : Int32) => jn3 (fun (J81 : Int32 → Int32 → Int32 → Prop) => ((r_13 = 0 → J81 x3_5 x4_6 x5_7) ∧ (¬ r_13 = 0 → ∀ x3_20 : Int32, x3_20 = x3_5 + 1 → jn1 (fun (J75 : Int32 → Prop) => ((¬ x4_6 = (-1) → J75 x4_6) ∧ (x4_6 = (-1) → J75 x6_8))) (fun (v_21 : Int32) => J81 x3_20 v_21 x6_8)))) (fun (x3_14 : Int32) (x4_15 : Int32) (x5_16 : Int32) => ∀ x6_18 : Int32, x6_18 = x6_8 + 1 → B42 x3_14 x4_15 x5_16 x6_18))))) n 0 (-1) (-1) 1)
set_option maxHeartbeats 4000000 in
set_option maxRecDepth 100000 in
theorem co_Fs_fittingWills (l : Launch) (D : va_G) (cy : ClassId × ClassId × ClassId × ClassId) (a_this a_parish a_parish_familyCell a_parish_familyKind a_parish_flitchCell a_parish_flitchKind a_parish_flitchStrength a_parish_sightings a_parish_sightings_numbers a_taken a_lapses a_wills a_cells a_smelling a_windy a_parish_familySide a_parish_familyWill a_parish_past a_parish_notes a_parish_marks : Nat) (s_parish_flitchCount : Int32) (s_parish_familyCount : Int32) (s_parish_hung : Int32) (s_parish_day : Int32) (s_parish_familyCell : Nat → Int32) (s_parish_familyKind : Nat → Int32) (s_parish_flitchCell : Nat → Int32) (s_parish_flitchKind : Nat → Int32) (s_parish_flitchStrength : Nat → Int32) (s_parish_sightings_width : Int32) (s_parish_sightings_limit : Int32) (s_parish_sightings_size : Int32) (s_parish_sightings_numbers : Nat → Int32) (s_taken : Nat → Int32) (x1 : Int32) (x2 : Int32) (Q : Int32 → (Nat → Int32) → Prop) (h : wp_Fs_fittingWills x1 x2 s_parish_flitchCount s_parish_hung s_parish_day s_parish_familyCell s_parish_familyKind s_parish_flitchCell s_parish_flitchKind s_parish_flitchStrength s_parish_sightings_width s_parish_sightings_size s_parish_sightings_numbers s_taken Q) : CoI l yX1_fittingWills wsX1_fittingWills rm_Fs_fittingWills D cy [.ref a_this, .int x1, .int x2] (Wd_Fs_fittingWills cy a_this a_parish a_parish_familyCell a_parish_familyKind a_parish_flitchCell a_parish_flitchKind a_parish_flitchStrength a_parish_sightings a_parish_sightings_numbers a_taken a_lapses a_wills a_cells a_smelling a_windy a_parish_familySide a_parish_familyWill a_parish_past a_parish_notes a_parish_marks s_parish_flitchCount s_parish_familyCount s_parish_hung s_parish_day s_parish_familyCell s_parish_familyKind s_parish_flitchCell s_parish_flitchKind s_parish_flitchStrength s_parish_sightings_width s_parish_sightings_limit s_parish_sightings_size s_parish_sightings_numbers s_taken) (fun u : (Nat → Int32) => (Wd_Fs_fittingWills cy a_this a_parish a_parish_familyCell a_parish_familyKind a_parish_flitchCell a_parish_flitchKind a_parish_flitchStrength a_parish_sightings a_parish_sightings_numbers a_taken a_lapses a_wills a_cells a_smelling a_windy a_parish_familySide a_parish_familyWill a_parish_past a_parish_notes a_parish_marks s_parish_flitchCount s_parish_familyCount s_parish_hung s_parish_day s_parish_familyCell s_parish_familyKind s_parish_flitchCell s_parish_flitchKind s_parish_flitchStrength s_parish_sightings_width s_parish_sightings_limit s_parish_sightings_size s_parish_sightings_numbers u)) (fun (r : Int32) (u : (Nat → Int32)) => Q r u) := by
  refine st_metI (cc := cX1_fittingWills) (maxL := 7) RX1 (by decide) rfl rfl (Nat.le_of_ble_eq_true rfl) ?_
  intro p e s m args below meth c A QQ ls F hA hKK hP hD hS hl hret
  have hK := hKK.1
  have hnest := hKK.2
  have hx := F.1
  have hb := F.2.1
  have hown := F.2.2.2.1
  have hts := F.2.2.2.2
  have in_X1 : ∀ w ∈ u_ws RX1 TX1 7, w ∈ wsX1_fittingWills := (fun _ h => List.mem_cons_of_mem _ (List.mem_append_left _ (List.mem_append_left _ (List.mem_append_right _ h))))
  have in_X4 : ∀ w ∈ u_ws RX4 TX4 15, w ∈ wsX1_fittingWills := (fun _ h => List.mem_cons_of_mem _ (List.mem_append_left _ (List.mem_append_right _ h)))
  have fl_30 := (hts (.fieldLink RX1 30 "RasherCase$Foresight" "parish" "LRasherCase$Parish;") (List.mem_of_getElem? (i := 1) rfl))
  have fl_49 := (hts (.fieldLink RX1 49 "RasherCase$Parish" "familyKind" "[I") (List.mem_of_getElem? (i := 2) rfl))
  have fl_52 := (hts (.fieldLink RX1 52 "RasherCase$Parish" "familyCell" "[I") (List.mem_of_getElem? (i := 3) rfl))
  have fl_55 := (hts (.fieldLink RX1 55 "RasherCase$Parish" "hung" "I") (List.mem_of_getElem? (i := 4) rfl))
  have hl : lv_has ls 7 [(0, .ref a_this), (1, .int x1), (2, .int x2)] := hl
  unfold wp_Fs_fittingWills at h
  refine lv_aload_n hx hb dX1_fittingWills_0 rfl (lv_at hl 0 rfl) ?_
  refine lv_aload_n hx hb dX1_fittingWills_1 rfl (lv_at hl 0 rfl) ?_
  refine va_get (D := D) (ci := 1) (v := .ref a_parish) (C := RX1) (T := TX1) (N := 7) hx hb hts in_X1 hown hK hP 0 rfl rfl 0 (by decide) fl_30 (fun _ h9 => h9) rfl dX1_fittingWills_2 ?_
  refine va_get (D := D) (ci := 3) (v := .ref a_parish_familyKind) (C := RX4) (T := TX4) (N := 15) hx hb hts in_X4 hown hK hP 1 rfl rfl 3 (by decide) fl_49 (fun _ h9 => h9) rfl dX1_fittingWills_5 ?_
  refine lv_iload_n hx hb dX1_fittingWills_8 rfl (lv_at hl 1 rfl) ?_
  obtain ⟨hi_1, h⟩ := h
  refine va_iald hx hb hK hP 3 1 rfl rfl hi_1 dX1_fittingWills_9 ?_
  refine lv_aload_n hx hb dX1_fittingWills_10 rfl (lv_at hl 0 rfl) ?_
  refine va_get (D := D) (ci := 1) (v := .ref a_parish) (C := RX1) (T := TX1) (N := 7) hx hb hts in_X1 hown hK hP 0 rfl rfl 0 (by decide) fl_30 (fun _ h9 => h9) rfl dX1_fittingWills_11 ?_
  refine va_get (D := D) (ci := 3) (v := .ref a_parish_familyCell) (C := RX4) (T := TX4) (N := 15) hx hb hts in_X4 hown hK hP 1 rfl rfl 5 (by decide) fl_52 (fun _ h9 => h9) rfl dX1_fittingWills_14 ?_
  refine lv_iload_n hx hb dX1_fittingWills_17 rfl (lv_at hl 1 rfl) ?_
  obtain ⟨hi_2, h⟩ := h
  refine va_iald hx hb hK hP 2 1 rfl rfl hi_2 dX1_fittingWills_18 ?_
  refine lv_aload_n hx hb dX1_fittingWills_19 rfl (lv_at hl 0 rfl) ?_
  refine va_get (D := D) (ci := 1) (v := .ref a_parish) (C := RX1) (T := TX1) (N := 7) hx hb hts in_X1 hown hK hP 0 rfl rfl 0 (by decide) fl_30 (fun _ h9 => h9) rfl dX1_fittingWills_20 ?_
  refine va_get (D := D) (ci := 3) (v := .int s_parish_hung) (C := RX4) (T := TX4) (N := 15) hx hb hts in_X4 hown hK hP 1 rfl rfl 13 (by decide) fl_55 (fun _ h9 => h9) rfl dX1_fittingWills_23 ?_
  refine lv_bipush (v := 60) hx hb dX1_fittingWills_26 (by decide) ?_
  refine st_callV (WR := [2, 3, 7, 8].filterMap (fun i => (Wd_Fs_fittingWills cy a_this a_parish a_parish_familyCell a_parish_familyKind a_parish_flitchCell a_parish_flitchKind a_parish_flitchStrength a_parish_sightings a_parish_sightings_numbers a_taken a_lapses a_wills a_cells a_smelling a_windy a_parish_familySide a_parish_familyWill a_parish_past a_parish_notes a_parish_marks s_parish_flitchCount s_parish_familyCount s_parish_hung s_parish_day s_parish_familyCell s_parish_familyKind s_parish_flitchCell s_parish_flitchKind s_parish_flitchStrength s_parish_sightings_width s_parish_sightings_limit s_parish_sightings_size s_parish_sightings_numbers s_taken)[i]?)) (WSn := fun u => (Wd_Fs_fittingWills cy a_this a_parish a_parish_familyCell a_parish_familyKind a_parish_flitchCell a_parish_flitchKind a_parish_flitchStrength a_parish_sightings a_parish_sightings_numbers a_taken a_lapses a_wills a_cells a_smelling a_windy a_parish_familySide a_parish_familyWill a_parish_past a_parish_notes a_parish_marks s_parish_flitchCount s_parish_familyCount s_parish_hung s_parish_day s_parish_familyCell s_parish_familyKind s_parish_flitchCell s_parish_flitchKind s_parish_flitchStrength s_parish_sightings_width s_parish_sightings_limit s_parish_sightings_size s_parish_sightings_numbers u)) (st_runV (n := 4) (As := [.int (s_parish_familyKind (Int32.toNatClampNeg x1)), .int (s_parish_familyCell (Int32.toNatClampNeg x1)), .int s_parish_hung, .int 60]) (rest := []) (q0 := 0) F ((co_Fs_reckon l D cy a_this a_parish a_parish_flitchCell a_parish_flitchKind a_parish_flitchStrength a_taken a_lapses a_wills a_cells a_smelling a_windy a_parish_familyKind a_parish_familySide a_parish_familyCell a_parish_familyWill a_parish_past a_parish_sightings a_parish_notes a_parish_marks s_parish_flitchCount s_parish_familyCount s_parish_hung s_parish_day s_parish_flitchCell s_parish_flitchKind s_parish_flitchStrength s_taken (s_parish_familyKind (Int32.toNatClampNeg x1)) (s_parish_familyCell (Int32.toNatClampNeg x1)) s_parish_hung 60 _ h) _) rfl gX1_fittingWills_X1_reckon rfl (by decide +kernel) rfl hKK hP hD [0, 1, 4, 5, 6, 9] rfl rfl rfl rfl rfl hl.1 rfl (Nat.le_of_ble_eq_true rfl) dX1_fittingWills_28) hP hD hS hA [0, 1, 4, 5, 6, 9] [2, 3, 7, 8] [4, 5, 0, 1, 6, 7, 8, 2, 3, 9] rfl rfl rfl (fun _ => rfl) (fun u H locs h hP hD hS => ?_)
  obtain ⟨s_taken_4, rfl⟩ : ∃ z, z = u := ⟨_, rfl⟩
  have hP : va_P D vwCl (Wd_Fs_fittingWills cy a_this a_parish a_parish_familyCell a_parish_familyKind a_parish_flitchCell a_parish_flitchKind a_parish_flitchStrength a_parish_sightings a_parish_sightings_numbers a_taken a_lapses a_wills a_cells a_smelling a_windy a_parish_familySide a_parish_familyWill a_parish_past a_parish_notes a_parish_marks s_parish_flitchCount s_parish_familyCount s_parish_hung s_parish_day s_parish_familyCell s_parish_familyKind s_parish_flitchCell s_parish_flitchKind s_parish_flitchStrength s_parish_sightings_width s_parish_sightings_limit s_parish_sightings_size s_parish_sightings_numbers s_taken_4) H := hP
  have hD : va_D A (Wd_Fs_fittingWills cy a_this a_parish a_parish_familyCell a_parish_familyKind a_parish_flitchCell a_parish_flitchKind a_parish_flitchStrength a_parish_sightings a_parish_sightings_numbers a_taken a_lapses a_wills a_cells a_smelling a_windy a_parish_familySide a_parish_familyWill a_parish_past a_parish_notes a_parish_marks s_parish_flitchCount s_parish_familyCount s_parish_hung s_parish_day s_parish_familyCell s_parish_familyKind s_parish_flitchCell s_parish_flitchKind s_parish_flitchStrength s_parish_sightings_width s_parish_sightings_limit s_parish_sightings_size s_parish_sightings_numbers s_taken_4) := hD
  refine lv_iconst (v := 0) hx hb dX1_fittingWills_31 (by decide) ?_
  refine lv_istore_n (lv' := [(3, .int 0), (0, .ref a_this), (1, .int x1), (2, .int x2)]) hx hb dX1_fittingWills_32 rfl hl (by decide) rfl (fun ls hl => ?_)
  refine lv_iconst (v := (-1)) hx hb dX1_fittingWills_33 (by decide) ?_
  refine lv_istore (lv' := [(4, .int (-1)), (3, .int 0), (0, .ref a_this), (1, .int x1), (2, .int x2)]) hx hb dX1_fittingWills_34 hl (by decide) rfl (fun ls hl => ?_)
  refine lv_iconst (v := (-1)) hx hb dX1_fittingWills_36 (by decide) ?_
  refine lv_istore (lv' := [(5, .int (-1)), (4, .int (-1)), (3, .int 0), (0, .ref a_this), (1, .int x1), (2, .int x2)]) hx hb dX1_fittingWills_37 hl (by decide) rfl (fun ls hl => ?_)
  refine lv_iconst (v := 1) hx hb dX1_fittingWills_39 (by decide) ?_
  refine lv_istore (lv' := [(6, .int 1), (5, .int (-1)), (4, .int (-1)), (3, .int 0), (0, .ref a_this), (1, .int x1), (2, .int x2)]) hx hb dX1_fittingWills_40 hl (by decide) rfl (fun ls hl => ?_)
  obtain ⟨T42_8, hz42_8, hs42_8, n42_8, h⟩ := lpw4_use h
  have kT42_8 : ∀ (n : Nat) (x3_5 : Int32) (x4_6 : Int32) (x5_7 : Int32) (x6_8 : Int32) (H : Heap) (locs : List Loc) (ls : Array Slot), T42_8 n x3_5 x4_6 x5_7 x6_8 → va_P D vwCl (Wd_Fs_fittingWills cy a_this a_parish a_parish_familyCell a_parish_familyKind a_parish_flitchCell a_parish_flitchKind a_parish_flitchStrength a_parish_sightings a_parish_sightings_numbers a_taken a_lapses a_wills a_cells a_smelling a_windy a_parish_familySide a_parish_familyWill a_parish_past a_parish_notes a_parish_marks s_parish_flitchCount s_parish_familyCount s_parish_hung s_parish_day s_parish_familyCell s_parish_familyKind s_parish_flitchCell s_parish_flitchKind s_parish_flitchStrength s_parish_sightings_width s_parish_sightings_limit s_parish_sightings_size s_parish_sightings_numbers s_taken_4) H → va_D A (Wd_Fs_fittingWills cy a_this a_parish a_parish_familyCell a_parish_familyKind a_parish_flitchCell a_parish_flitchKind a_parish_flitchStrength a_parish_sightings a_parish_sightings_numbers a_taken a_lapses a_wills a_cells a_smelling a_windy a_parish_familySide a_parish_familyWill a_parish_past a_parish_notes a_parish_marks s_parish_flitchCount s_parish_familyCount s_parish_hung s_parish_day s_parish_familyCell s_parish_familyKind s_parish_flitchCell s_parish_flitchKind s_parish_flitchStrength s_parish_sightings_width s_parish_sightings_limit s_parish_sightings_size s_parish_sightings_numbers s_taken_4) → va_S A s.heap H locs → lv_has ls 7 [(0, .ref a_this), (1, .int x1), (2, .int x2), (3, .int x3_5), (4, .int x4_6), (5, .int x5_7), (6, .int x6_8)] → W p l e rm_Fs_fittingWills s m args below meth c H locs 0 0 QQ (F0 m 42 ls []) := by
    intro n
    induction n with
    | zero => intro x3_5 x4_6 x5_7 x6_8 H locs ls h; exact absurd h (hz42_8 _ _ _ _)
    | succ n ih42_8 =>
      intro x3_5 x4_6 x5_7 x6_8 H locs ls h hP hD hS hl
      have h := hs42_8 _ _ _ _ _ h
      refine lv_iload hx hb dX1_fittingWills_42 (lv_at hl 6 rfl) ?_
      refine lv_bipush (v := 99) hx hb dX1_fittingWills_44 (by decide) ?_
      refine lv_icmp_gt (tgt := 87) hx hb dX1_fittingWills_46 (by decide) (fun c_10 => ?_) (fun c_10 => ?_)
      · have h := h.1 c_10
        refine lv_iload_n hx hb dX1_fittingWills_87 rfl (lv_at hl 2 rfl) ?_
        refine lv_if_ne (tgt := 95) hx hb dX1_fittingWills_88 (by decide) (fun c_11 => ?_) (fun c_11 => ?_)
        · have h := h.1 c_11
          refine lv_iload_n hx hb dX1_fittingWills_95 rfl (lv_at hl 2 rfl) ?_
          refine lv_iconst (v := 1) hx hb dX1_fittingWills_96 (by decide) ?_
          refine lv_icmp_ne (tgt := 105) hx hb dX1_fittingWills_97 (by decide) (fun c_12 => ?_) (fun c_12 => ?_)
          · have h := h.1 c_12
            refine lv_iload hx hb dX1_fittingWills_105 (lv_at hl 5 rfl) ?_
            exact hret _ (s_taken_4) _ _ _ _ h hP hD hS dX1_fittingWills_107
          · have h := h.2 c_12
            refine lv_iload hx hb dX1_fittingWills_100 (lv_at hl 4 rfl) ?_
            refine lv_goto (tgt := 107) hx hb dX1_fittingWills_102 (by decide) ?_
            exact hret _ (s_taken_4) _ _ _ _ h hP hD hS dX1_fittingWills_107
        · have h := h.2 c_11
          refine lv_iload_n hx hb dX1_fittingWills_91 rfl (lv_at hl 3 rfl) ?_
          refine lv_goto (tgt := 107) hx hb dX1_fittingWills_92 (by decide) ?_
          exact hret _ (s_taken_4) _ _ _ _ h hP hD hS dX1_fittingWills_107
      · have h := h.2 c_10
        refine lv_aload_n hx hb dX1_fittingWills_49 rfl (lv_at hl 0 rfl) ?_
        refine lv_iload_n hx hb dX1_fittingWills_50 rfl (lv_at hl 1 rfl) ?_
        refine lv_iload hx hb dX1_fittingWills_51 (lv_at hl 6 rfl) ?_
        refine st_callRI (st_runVR (n := 2) (As := [.int x1, .int x6_8]) (rest := []) (q0 := 0) F (co_Fs_fits l D cy a_this a_parish a_parish_sightings a_parish_sightings_numbers a_taken a_lapses a_wills a_cells a_smelling a_windy a_parish_flitchKind a_parish_flitchCell a_parish_flitchStrength a_parish_familyKind a_parish_familySide a_parish_familyCell a_parish_familyWill a_parish_past a_parish_notes a_parish_marks s_parish_flitchCount s_parish_familyCount s_parish_hung s_parish_day s_parish_sightings_width s_parish_sightings_limit s_parish_sightings_size s_parish_sightings_numbers s_taken_4 x1 x6_8 _ h) gX1_fittingWills_X1_fits rfl (by decide +kernel) rfl hKK hP [0, 1, 7, 8, 9] rfl rfl rfl rfl hl.1 rfl (Nat.le_of_ble_eq_true rfl) dX1_fittingWills_53) (fun r_13 h => ?_)
        obtain ⟨J81, hJ81, h⟩ := jn3_ex h
        have kJ81_16 : ∀ (x3_14 : Int32) (x4_15 : Int32) (x5_16 : Int32) (H : Heap) (locs : List Loc) (ls : Array Slot), J81 x3_14 x4_15 x5_16 → va_P D vwCl (Wd_Fs_fittingWills cy a_this a_parish a_parish_familyCell a_parish_familyKind a_parish_flitchCell a_parish_flitchKind a_parish_flitchStrength a_parish_sightings a_parish_sightings_numbers a_taken a_lapses a_wills a_cells a_smelling a_windy a_parish_familySide a_parish_familyWill a_parish_past a_parish_notes a_parish_marks s_parish_flitchCount s_parish_familyCount s_parish_hung s_parish_day s_parish_familyCell s_parish_familyKind s_parish_flitchCell s_parish_flitchKind s_parish_flitchStrength s_parish_sightings_width s_parish_sightings_limit s_parish_sightings_size s_parish_sightings_numbers s_taken_4) H → va_D A (Wd_Fs_fittingWills cy a_this a_parish a_parish_familyCell a_parish_familyKind a_parish_flitchCell a_parish_flitchKind a_parish_flitchStrength a_parish_sightings a_parish_sightings_numbers a_taken a_lapses a_wills a_cells a_smelling a_windy a_parish_familySide a_parish_familyWill a_parish_past a_parish_notes a_parish_marks s_parish_flitchCount s_parish_familyCount s_parish_hung s_parish_day s_parish_familyCell s_parish_familyKind s_parish_flitchCell s_parish_flitchKind s_parish_flitchStrength s_parish_sightings_width s_parish_sightings_limit s_parish_sightings_size s_parish_sightings_numbers s_taken_4) → va_S A s.heap H locs → lv_has ls 7 [(0, .ref a_this), (1, .int x1), (2, .int x2), (3, .int x3_14), (4, .int x4_15), (5, .int x5_16), (6, .int x6_8)] → W p l e rm_Fs_fittingWills s m args below meth c H locs 0 0 QQ (F0 m 81 ls []) := by
          intro x3_14 x4_15 x5_16 H locs ls h hP hD hS hl
          have h := hJ81 _ _ _ h
          obtain ⟨x6_18, ex6_18⟩ : ∃ y : Int32, y = x6_8 + 1 := ⟨_, rfl⟩
          have h := h x6_18 ex6_18
          refine lv_iinc (v := x6_18) (lv' := [(6, .int x6_18), (0, .ref a_this), (1, .int x1), (2, .int x2), (3, .int x3_14), (4, .int x4_15), (5, .int x5_16)]) hx hb dX1_fittingWills_81 hl (k := 6) rfl (by rw [ex6_18]; rfl) (by decide) rfl (fun ls hl => ?_)
          refine lv_goto (tgt := 42) hx hb dX1_fittingWills_84 (by decide) ?_
          exact ih42_8 _ _ _ _ _ _ _ h hP hD hS (lv_sub hl [1, 2, 3, 4, 5, 6, 0] rfl)
        refine lv_if_eq (tgt := 81) hx hb dX1_fittingWills_56 (by decide) (fun c_19 => ?_) (fun c_19 => ?_)
        · have h := h.1 c_19
          exact kJ81_16 _ _ _ _ _ _ h hP hD hS (lv_sub hl [0, 1, 2, 3, 4, 5, 6] rfl)
        · have h := h.2 c_19
          obtain ⟨x3_20, ex3_20⟩ : ∃ y : Int32, y = x3_5 + 1 := ⟨_, rfl⟩
          have h := h x3_20 ex3_20
          refine lv_iinc (v := x3_20) (lv' := [(3, .int x3_20), (0, .ref a_this), (1, .int x1), (2, .int x2), (4, .int x4_6), (5, .int x5_7), (6, .int x6_8)]) hx hb dX1_fittingWills_59 hl (k := 3) rfl (by rw [ex3_20]; rfl) (by decide) rfl (fun ls hl => ?_)
          refine lv_iload hx hb dX1_fittingWills_62 (lv_at hl 4 rfl) ?_
          refine lv_iconst (v := (-1)) hx hb dX1_fittingWills_64 (by decide) ?_
          obtain ⟨J75, hJ75, h⟩ := jn1_ex h
          have kJ75_21 : ∀ (v_21 : Int32) (H : Heap) (locs : List Loc) (ls : Array Slot), J75 v_21 → va_P D vwCl (Wd_Fs_fittingWills cy a_this a_parish a_parish_familyCell a_parish_familyKind a_parish_flitchCell a_parish_flitchKind a_parish_flitchStrength a_parish_sightings a_parish_sightings_numbers a_taken a_lapses a_wills a_cells a_smelling a_windy a_parish_familySide a_parish_familyWill a_parish_past a_parish_notes a_parish_marks s_parish_flitchCount s_parish_familyCount s_parish_hung s_parish_day s_parish_familyCell s_parish_familyKind s_parish_flitchCell s_parish_flitchKind s_parish_flitchStrength s_parish_sightings_width s_parish_sightings_limit s_parish_sightings_size s_parish_sightings_numbers s_taken_4) H → va_D A (Wd_Fs_fittingWills cy a_this a_parish a_parish_familyCell a_parish_familyKind a_parish_flitchCell a_parish_flitchKind a_parish_flitchStrength a_parish_sightings a_parish_sightings_numbers a_taken a_lapses a_wills a_cells a_smelling a_windy a_parish_familySide a_parish_familyWill a_parish_past a_parish_notes a_parish_marks s_parish_flitchCount s_parish_familyCount s_parish_hung s_parish_day s_parish_familyCell s_parish_familyKind s_parish_flitchCell s_parish_flitchKind s_parish_flitchStrength s_parish_sightings_width s_parish_sightings_limit s_parish_sightings_size s_parish_sightings_numbers s_taken_4) → va_S A s.heap H locs → lv_has ls 7 [(0, .ref a_this), (1, .int x1), (2, .int x2), (3, .int x3_20), (6, .int x6_8)] → W p l e rm_Fs_fittingWills s m args below meth c H locs 0 0 QQ (F0 m 75 ls [.int v_21]) := by
            intro v_21 H locs ls h hP hD hS hl
            have h := hJ75 _ h
            refine lv_istore (lv' := [(4, .int v_21), (0, .ref a_this), (1, .int x1), (2, .int x2), (3, .int x3_20), (6, .int x6_8)]) hx hb dX1_fittingWills_75 hl (by decide) rfl (fun ls hl => ?_)
            refine lv_iload hx hb dX1_fittingWills_77 (lv_at hl 5 rfl) ?_
            refine lv_istore (lv' := [(5, .int x6_8), (4, .int v_21), (0, .ref a_this), (1, .int x1), (2, .int x2), (3, .int x3_20), (6, .int x6_8)]) hx hb dX1_fittingWills_79 hl (by decide) rfl (fun ls hl => ?_)
            exact kJ81_16 _ _ _ _ _ _ h hP hD hS (lv_sub hl [2, 3, 4, 5, 1, 0, 6] rfl)
          refine lv_icmp_ne (tgt := 73) hx hb dX1_fittingWills_65 (by decide) (fun c_23 => ?_) (fun c_23 => ?_)
          · have h := h.1 c_23
            refine lv_iload hx hb dX1_fittingWills_73 (lv_at hl 4 rfl) ?_
            exact kJ75_21 _ _ _ _ h hP hD hS (lv_sub hl [1, 2, 3, 0, 6] rfl)
          · have h := h.2 c_23
            refine lv_iload hx hb dX1_fittingWills_68 (lv_at hl 6 rfl) ?_
            refine lv_goto (tgt := 75) hx hb dX1_fittingWills_70 (by decide) ?_
            exact kJ75_21 _ _ _ _ h hP hD hS (lv_sub hl [1, 2, 3, 0, 6] rfl)
  exact kT42_8 n42_8 _ _ _ _ _ _ _ h hP hD hS (lv_sub hl [4, 5, 6, 3, 2, 1, 0] rfl)
abbrev Wd_Fs_lapsingMornings (cy : ClassId × ClassId × ClassId × ClassId) (a_this a_parish a_parish_familyCell a_parish_familyKind a_parish_familyWill a_parish_flitchCell a_parish_flitchKind a_parish_flitchStrength a_smelling a_windy a_taken a_lapses a_wills a_cells a_parish_familySide a_parish_past a_parish_sightings a_parish_notes a_parish_marks : Nat) (s_parish_flitchCount : Int32) (s_parish_familyCount : Int32) (s_parish_hung : Int32) (s_parish_day : Int32) (s_parish_familyCell : Nat → Int32) (s_parish_familyKind : Nat → Int32) (s_parish_familyWill : Nat → Int32) (s_parish_flitchCell : Nat → Int32) (s_parish_flitchKind : Nat → Int32) (s_parish_flitchStrength : Nat → Int32) (s_smelling : Nat → Int32) (s_windy : Nat → Int32) : va_W := [(a_this, .inr (1, [.ref a_parish, .ref a_taken, .ref a_lapses, .ref a_wills, .ref a_cells, .ref a_smelling, .ref a_windy])), (a_parish, .inr (3, [.ref a_parish_flitchKind, .ref a_parish_flitchCell, .ref a_parish_flitchStrength, .ref a_parish_familyKind, .ref a_parish_familySide, .ref a_parish_familyCell, .ref a_parish_familyWill, .ref a_parish_past, .ref a_parish_sightings, .ref a_parish_notes, .ref a_parish_marks, .int s_parish_flitchCount, .int s_parish_familyCount, .int s_parish_hung, .int s_parish_day])), (a_parish_familyCell, .inl (cy.2.1, 7, .inl s_parish_familyCell)), (a_parish_familyKind, .inl (cy.2.1, 7, .inl s_parish_familyKind)), (a_parish_familyWill, .inl (cy.2.1, 7, .inl s_parish_familyWill)), (a_parish_flitchCell, .inl (cy.2.1, 3, .inl s_parish_flitchCell)), (a_parish_flitchKind, .inl (cy.2.1, 3, .inl s_parish_flitchKind)), (a_parish_flitchStrength, .inl (cy.2.1, 3, .inl s_parish_flitchStrength)), (a_smelling, .inl (cy.2.1, 6, .inl s_smelling)), (a_windy, .inl (cy.2.1, 6, .inl s_windy))]
abbrev rm_Fs_lapsingMornings : Room := { frames := 2, cells := 0, slots := 0, locals := 75 }
def wp_Fs_lapsingMornings (x1 : Int32) (x2 : Int32) (x3 : Int32) (s_parish_flitchCount : Int32) (s_parish_hung : Int32) (s_parish_day : Int32) (s_parish_familyCell : Nat → Int32) (s_parish_familyKind : Nat → Int32) (s_parish_familyWill : Nat → Int32) (s_parish_flitchCell : Nat → Int32) (s_parish_flitchKind : Nat → Int32) (s_parish_flitchStrength : Nat → Int32) (s_smelling : Nat → Int32) (s_windy : Nat → Int32) (Q : Int64 → (Nat → Int32) → (Nat → Int32) → Prop) : Prop := vp_in x1 7 ∧ ∀ x4_2 : Int32, x4_2 = (s_parish_familyKind (Int32.toNatClampNeg x1)) → ∃ n : Nat, lpw3 (fun (B14 : Int32 → (Nat → Int32) → (Nat → Int32) → Prop) (x5_3 : Int32) (s_smelling_4 : Nat → Int32) (s_windy_5 : Nat → Int32) => ((x2 ≤ x5_3 → ∃ n : Nat, lpw2 (fun (B98 : Int64 → Int32 → Prop) (x5_8 : Int64) (x7_9 : Int32) => (((ishl 1 x2) ≤ x7_9 → Q x5_8 s_smelling_4 s_windy_5) ∧ (¬ (ishl 1 x2) ≤ x7_9 → ∃ n : Nat, lpw3 (fun (B115 : Int64 → Int32 → Int32 → Prop) (x8_12 : Int64) (x10_13 : Int32) (x11_14 : Int32) => ((x2 ≤ x11_14 → vp_in x1 7 ∧ jn1 (fun (J212 : Int64 → Prop) => ((x10_13 < (s_parish_familyWill (Int32.toNatClampNeg x1)) → J212 x5_8) ∧ (¬ x10_13 < (s_parish_familyWill (Int32.toNatClampNeg x1)) → ∀ x5_22 : Int64, x5_22 = (x5_8 + x8_12) → J212 x5_22))) (fun (x5_18 : Int64) => ∀ x7_20 : Int32, x7_20 = x7_9 + 1 → B98 x5_18 x7_20)) ∧ (¬ x2 ≤ x11_14 → jn1 (fun (J137 : Int32 → Prop) => ((¬ ((ishr x7_9 x11_14) &&& 1) = 1 → J137 0) ∧ (((ishr x7_9 x11_14) &&& 1) = 1 → J137 1))) (fun (v_23 : Int32) => jn1 (fun (J154 : Int32 → Prop) => ((v_23 = 0 → J154 (10 - x3)) ∧ (¬ v_23 = 0 → J154 x3))) (fun (v_25 : Int32) => ∀ x8_27 : Int64, x8_27 = (x8_12 * (Int32.toInt64 v_25)) → jn1 (fun (J182 : Int32 → Prop) => ((v_23 = 0 → vp_in x11_14 6 ∧ J182 (s_smelling_4 (Int32.toNatClampNeg x11_14))) ∧ (¬ v_23 = 0 → vp_in x11_14 6 ∧ J182 (s_windy_5 (Int32.toNatClampNeg x11_14))))) (fun (v_28 : Int32) => ∀ x10_30 : Int32, x10_30 = (x10_13 + v_28) → ∀ x11_31 : Int32, x11_31 = x11_14 + 1 → B115 x8_27 x10_30 x11_31)))))) n 1 0 0))) n 0 0) ∧ (¬ x2 ≤ x5_3 → ∀ x6_37 : Int32, x6_37 = (s_parish_day + x5_3) → vp_in x1 7 ∧ wp_Pa_scentAt (s_parish_familyCell (Int32.toNatClampNeg x1)) x6_37 s_parish_hung s_parish_flitchCount s_parish_flitchCell s_parish_flitchKind s_parish_flitchStrength (fun (r_39 : Int32) => wp_Nt_loss x4_2 r_39 x6_37 (fun (r_40 : Int32) => vp_in x5_3 6 ∧ ∀ s_smelling_42 : Nat → Int32, s_smelling_42 = upd s_smelling_4 (Int32.toNatClampNeg x5_3) r_40 → wp_Nt_loss x4_2 0 x6_37 (fun (r_43 : Int32) => vp_in x5_3 6 ∧ ∀ s_windy_45 : Nat → Int32, s_windy_45 = upd s_windy_5 (Int32.toNatClampNeg x5_3) r_43 → ∀ x5_46 : Int32, x5_46 = x5_3 + 1 → B14 x5_46 s_smelling_42 s_windy_45)))))) n 0 s_smelling s_windy
set_option maxHeartbeats 4000000 in
set_option maxRecDepth 100000 in
theorem co_Fs_lapsingMornings (l : Launch) (D : va_G) (cy : ClassId × ClassId × ClassId × ClassId) (a_this a_parish a_parish_familyCell a_parish_familyKind a_parish_familyWill a_parish_flitchCell a_parish_flitchKind a_parish_flitchStrength a_smelling a_windy a_taken a_lapses a_wills a_cells a_parish_familySide a_parish_past a_parish_sightings a_parish_notes a_parish_marks : Nat) (s_parish_flitchCount : Int32) (s_parish_familyCount : Int32) (s_parish_hung : Int32) (s_parish_day : Int32) (s_parish_familyCell : Nat → Int32) (s_parish_familyKind : Nat → Int32) (s_parish_familyWill : Nat → Int32) (s_parish_flitchCell : Nat → Int32) (s_parish_flitchKind : Nat → Int32) (s_parish_flitchStrength : Nat → Int32) (s_smelling : Nat → Int32) (s_windy : Nat → Int32) (x1 : Int32) (x2 : Int32) (x3 : Int32) (Q : Int64 → (Nat → Int32) → (Nat → Int32) → Prop) (h : wp_Fs_lapsingMornings x1 x2 x3 s_parish_flitchCount s_parish_hung s_parish_day s_parish_familyCell s_parish_familyKind s_parish_familyWill s_parish_flitchCell s_parish_flitchKind s_parish_flitchStrength s_smelling s_windy Q) : CoL l yX1_lapsingMornings wsX1_lapsingMornings rm_Fs_lapsingMornings D cy [.ref a_this, .int x1, .int x2, .int x3] (Wd_Fs_lapsingMornings cy a_this a_parish a_parish_familyCell a_parish_familyKind a_parish_familyWill a_parish_flitchCell a_parish_flitchKind a_parish_flitchStrength a_smelling a_windy a_taken a_lapses a_wills a_cells a_parish_familySide a_parish_past a_parish_sightings a_parish_notes a_parish_marks s_parish_flitchCount s_parish_familyCount s_parish_hung s_parish_day s_parish_familyCell s_parish_familyKind s_parish_familyWill s_parish_flitchCell s_parish_flitchKind s_parish_flitchStrength s_smelling s_windy) (fun u : (Nat → Int32) × (Nat → Int32) => (Wd_Fs_lapsingMornings cy a_this a_parish a_parish_familyCell a_parish_familyKind a_parish_familyWill a_parish_flitchCell a_parish_flitchKind a_parish_flitchStrength a_smelling a_windy a_taken a_lapses a_wills a_cells a_parish_familySide a_parish_past a_parish_sightings a_parish_notes a_parish_marks s_parish_flitchCount s_parish_familyCount s_parish_hung s_parish_day s_parish_familyCell s_parish_familyKind s_parish_familyWill s_parish_flitchCell s_parish_flitchKind s_parish_flitchStrength u.1 u.2)) (fun (r : Int64) (u : (Nat → Int32) × (Nat → Int32)) => Q r u.1 u.2) := by
  refine st_metL (cc := cX1_lapsingMornings) (maxL := 13) RX1 (by decide) rfl rfl (Nat.le_of_ble_eq_true rfl) ?_
  intro p e s m args below meth c A QQ ls F hA hKK hP hD hS hl hret
  have hK := hKK.1
  have hnest := hKK.2
  have hx := F.1
  have hb := F.2.1
  have hown := F.2.2.2.1
  have hts := F.2.2.2.2
  have in_X1 : ∀ w ∈ u_ws RX1 TX1 7, w ∈ wsX1_lapsingMornings := (fun _ h => List.mem_cons_of_mem _ (List.mem_append_left _ (List.mem_append_right _ h)))
  have in_X4 : ∀ w ∈ u_ws RX4 TX4 15, w ∈ wsX1_lapsingMornings := (fun _ h => List.mem_cons_of_mem _ (List.mem_append_right _ h))
  have fl_24 := (hts (.fieldLink RX1 24 "RasherCase$Foresight" "smelling" "[I") (List.mem_of_getElem? (i := 4) rfl))
  have fl_27 := (hts (.fieldLink RX1 27 "RasherCase$Foresight" "windy" "[I") (List.mem_of_getElem? (i := 7) rfl))
  have fl_30 := (hts (.fieldLink RX1 30 "RasherCase$Foresight" "parish" "LRasherCase$Parish;") (List.mem_of_getElem? (i := 1) rfl))
  have fl_40 := (hts (.fieldLink RX1 40 "RasherCase$Parish" "day" "I") (List.mem_of_getElem? (i := 3) rfl))
  have fl_49 := (hts (.fieldLink RX1 49 "RasherCase$Parish" "familyKind" "[I") (List.mem_of_getElem? (i := 2) rfl))
  have fl_52 := (hts (.fieldLink RX1 52 "RasherCase$Parish" "familyCell" "[I") (List.mem_of_getElem? (i := 5) rfl))
  have fl_55 := (hts (.fieldLink RX1 55 "RasherCase$Parish" "hung" "I") (List.mem_of_getElem? (i := 6) rfl))
  have fl_62 := (hts (.fieldLink RX1 62 "RasherCase$Parish" "familyWill" "[I") (List.mem_of_getElem? (i := 8) rfl))
  have hl : lv_has ls 13 [(0, .ref a_this), (1, .int x1), (2, .int x2), (3, .int x3)] := hl
  unfold wp_Fs_lapsingMornings at h
  refine lv_aload_n hx hb dX1_lapsingMornings_0 rfl (lv_at hl 0 rfl) ?_
  refine va_get (D := D) (ci := 1) (v := .ref a_parish) (C := RX1) (T := TX1) (N := 7) hx hb hts in_X1 hown hK hP 0 rfl rfl 0 (by decide) fl_30 (fun _ h9 => h9) rfl dX1_lapsingMornings_1 ?_
  refine va_get (D := D) (ci := 3) (v := .ref a_parish_familyKind) (C := RX4) (T := TX4) (N := 15) hx hb hts in_X4 hown hK hP 1 rfl rfl 3 (by decide) fl_49 (fun _ h9 => h9) rfl dX1_lapsingMornings_4 ?_
  refine lv_iload_n hx hb dX1_lapsingMornings_7 rfl (lv_at hl 1 rfl) ?_
  obtain ⟨hi_1, h⟩ := h
  refine va_iald hx hb hK hP 3 1 rfl rfl hi_1 dX1_lapsingMornings_8 ?_
  refine lv_topi (fun x4_2 ex4_2 => ?_)
  have h := h x4_2 ex4_2
  refine lv_istore (lv' := [(4, .int x4_2), (0, .ref a_this), (1, .int x1), (2, .int x2), (3, .int x3)]) hx hb dX1_lapsingMornings_9 hl (by decide) rfl (fun ls hl => ?_)
  refine lv_iconst (v := 0) hx hb dX1_lapsingMornings_11 (by decide) ?_
  refine lv_istore (lv' := [(5, .int 0), (4, .int x4_2), (0, .ref a_this), (1, .int x1), (2, .int x2), (3, .int x3)]) hx hb dX1_lapsingMornings_12 hl (by decide) rfl (fun ls hl => ?_)
  obtain ⟨T14_5, hz14_5, hs14_5, n14_5, h⟩ := lpw3_use h
  have kT14_5 : ∀ (n : Nat) (x5_3 : Int32) (s_smelling_4 : Nat → Int32) (s_windy_5 : Nat → Int32) (H : Heap) (locs : List Loc) (ls : Array Slot), T14_5 n x5_3 s_smelling_4 s_windy_5 → va_P D vwCl (Wd_Fs_lapsingMornings cy a_this a_parish a_parish_familyCell a_parish_familyKind a_parish_familyWill a_parish_flitchCell a_parish_flitchKind a_parish_flitchStrength a_smelling a_windy a_taken a_lapses a_wills a_cells a_parish_familySide a_parish_past a_parish_sightings a_parish_notes a_parish_marks s_parish_flitchCount s_parish_familyCount s_parish_hung s_parish_day s_parish_familyCell s_parish_familyKind s_parish_familyWill s_parish_flitchCell s_parish_flitchKind s_parish_flitchStrength s_smelling_4 s_windy_5) H → va_D A (Wd_Fs_lapsingMornings cy a_this a_parish a_parish_familyCell a_parish_familyKind a_parish_familyWill a_parish_flitchCell a_parish_flitchKind a_parish_flitchStrength a_smelling a_windy a_taken a_lapses a_wills a_cells a_parish_familySide a_parish_past a_parish_sightings a_parish_notes a_parish_marks s_parish_flitchCount s_parish_familyCount s_parish_hung s_parish_day s_parish_familyCell s_parish_familyKind s_parish_familyWill s_parish_flitchCell s_parish_flitchKind s_parish_flitchStrength s_smelling_4 s_windy_5) → va_S A s.heap H locs → lv_has ls 13 [(0, .ref a_this), (1, .int x1), (2, .int x2), (3, .int x3), (4, .int x4_2), (5, .int x5_3)] → W p l e rm_Fs_lapsingMornings s m args below meth c H locs 0 0 QQ (F0 m 14 ls []) := by
    intro n
    induction n with
    | zero => intro x5_3 s_smelling_4 s_windy_5 H locs ls h; exact absurd h (hz14_5 _ _ _)
    | succ n ih14_5 =>
      intro x5_3 s_smelling_4 s_windy_5 H locs ls h hP hD hS hl
      have h := hs14_5 _ _ _ _ h
      refine lv_iload hx hb dX1_lapsingMornings_14 (lv_at hl 5 rfl) ?_
      refine lv_iload_n hx hb dX1_lapsingMornings_16 rfl (lv_at hl 2 rfl) ?_
      refine lv_icmp_ge (tgt := 92) hx hb dX1_lapsingMornings_17 (by decide) (fun c_7 => ?_) (fun c_7 => ?_)
      · have h := h.1 c_7
        refine lv_lconst (v := 0) hx hb dX1_lapsingMornings_92 (by decide) ?_
        refine lv_lstore (lv' := [(5, .long 0), (0, .ref a_this), (1, .int x1), (2, .int x2), (3, .int x3), (4, .int x4_2)]) hx hb dX1_lapsingMornings_93 hl (by decide) rfl (fun ls hl => ?_)
        refine lv_iconst (v := 0) hx hb dX1_lapsingMornings_95 (by decide) ?_
        refine lv_istore (lv' := [(7, .int 0), (5, .long 0), (0, .ref a_this), (1, .int x1), (2, .int x2), (3, .int x3), (4, .int x4_2)]) hx hb dX1_lapsingMornings_96 hl (by decide) rfl (fun ls hl => ?_)
        obtain ⟨T98_9, hz98_9, hs98_9, n98_9, h⟩ := lpw2_use h
        have kT98_9 : ∀ (n : Nat) (x5_8 : Int64) (x7_9 : Int32) (H : Heap) (locs : List Loc) (ls : Array Slot), T98_9 n x5_8 x7_9 → va_P D vwCl (Wd_Fs_lapsingMornings cy a_this a_parish a_parish_familyCell a_parish_familyKind a_parish_familyWill a_parish_flitchCell a_parish_flitchKind a_parish_flitchStrength a_smelling a_windy a_taken a_lapses a_wills a_cells a_parish_familySide a_parish_past a_parish_sightings a_parish_notes a_parish_marks s_parish_flitchCount s_parish_familyCount s_parish_hung s_parish_day s_parish_familyCell s_parish_familyKind s_parish_familyWill s_parish_flitchCell s_parish_flitchKind s_parish_flitchStrength s_smelling_4 s_windy_5) H → va_D A (Wd_Fs_lapsingMornings cy a_this a_parish a_parish_familyCell a_parish_familyKind a_parish_familyWill a_parish_flitchCell a_parish_flitchKind a_parish_flitchStrength a_smelling a_windy a_taken a_lapses a_wills a_cells a_parish_familySide a_parish_past a_parish_sightings a_parish_notes a_parish_marks s_parish_flitchCount s_parish_familyCount s_parish_hung s_parish_day s_parish_familyCell s_parish_familyKind s_parish_familyWill s_parish_flitchCell s_parish_flitchKind s_parish_flitchStrength s_smelling_4 s_windy_5) → va_S A s.heap H locs → lv_has ls 13 [(0, .ref a_this), (1, .int x1), (2, .int x2), (3, .int x3), (5, .long x5_8), (7, .int x7_9)] → W p l e rm_Fs_lapsingMornings s m args below meth c H locs 0 0 QQ (F0 m 98 ls []) := by
          intro n
          induction n with
          | zero => intro x5_8 x7_9 H locs ls h; exact absurd h (hz98_9 _ _)
          | succ n ih98_9 =>
            intro x5_8 x7_9 H locs ls h hP hD hS hl
            have h := hs98_9 _ _ _ h
            refine lv_iload hx hb dX1_lapsingMornings_98 (lv_at hl 5 rfl) ?_
            refine lv_iconst (v := 1) hx hb dX1_lapsingMornings_100 (by decide) ?_
            refine lv_iload_n hx hb dX1_lapsingMornings_101 rfl (lv_at hl 2 rfl) ?_
            refine lv_ishl hx hb dX1_lapsingMornings_102 ?_
            refine lv_icmp_ge (tgt := 218) hx hb dX1_lapsingMornings_103 (by decide) (fun c_11 => ?_) (fun c_11 => ?_)
            · have h := h.1 c_11
              refine lv_lload hx hb dX1_lapsingMornings_218 (lv_at hl 4 rfl) ?_
              exact hret _ (s_smelling_4, s_windy_5) _ _ _ _ h hP hD hS dX1_lapsingMornings_220
            · have h := h.2 c_11
              refine lv_lconst (v := 1) hx hb dX1_lapsingMornings_106 (by decide) ?_
              refine lv_lstore (lv' := [(8, .long 1), (0, .ref a_this), (1, .int x1), (2, .int x2), (3, .int x3), (5, .long x5_8), (7, .int x7_9)]) hx hb dX1_lapsingMornings_107 hl (by decide) rfl (fun ls hl => ?_)
              refine lv_iconst (v := 0) hx hb dX1_lapsingMornings_109 (by decide) ?_
              refine lv_istore (lv' := [(10, .int 0), (8, .long 1), (0, .ref a_this), (1, .int x1), (2, .int x2), (3, .int x3), (5, .long x5_8), (7, .int x7_9)]) hx hb dX1_lapsingMornings_110 hl (by decide) rfl (fun ls hl => ?_)
              refine lv_iconst (v := 0) hx hb dX1_lapsingMornings_112 (by decide) ?_
              refine lv_istore (lv' := [(11, .int 0), (10, .int 0), (8, .long 1), (0, .ref a_this), (1, .int x1), (2, .int x2), (3, .int x3), (5, .long x5_8), (7, .int x7_9)]) hx hb dX1_lapsingMornings_113 hl (by decide) rfl (fun ls hl => ?_)
              obtain ⟨T115_14, hz115_14, hs115_14, n115_14, h⟩ := lpw3_use h
              have kT115_14 : ∀ (n : Nat) (x8_12 : Int64) (x10_13 : Int32) (x11_14 : Int32) (H : Heap) (locs : List Loc) (ls : Array Slot), T115_14 n x8_12 x10_13 x11_14 → va_P D vwCl (Wd_Fs_lapsingMornings cy a_this a_parish a_parish_familyCell a_parish_familyKind a_parish_familyWill a_parish_flitchCell a_parish_flitchKind a_parish_flitchStrength a_smelling a_windy a_taken a_lapses a_wills a_cells a_parish_familySide a_parish_past a_parish_sightings a_parish_notes a_parish_marks s_parish_flitchCount s_parish_familyCount s_parish_hung s_parish_day s_parish_familyCell s_parish_familyKind s_parish_familyWill s_parish_flitchCell s_parish_flitchKind s_parish_flitchStrength s_smelling_4 s_windy_5) H → va_D A (Wd_Fs_lapsingMornings cy a_this a_parish a_parish_familyCell a_parish_familyKind a_parish_familyWill a_parish_flitchCell a_parish_flitchKind a_parish_flitchStrength a_smelling a_windy a_taken a_lapses a_wills a_cells a_parish_familySide a_parish_past a_parish_sightings a_parish_notes a_parish_marks s_parish_flitchCount s_parish_familyCount s_parish_hung s_parish_day s_parish_familyCell s_parish_familyKind s_parish_familyWill s_parish_flitchCell s_parish_flitchKind s_parish_flitchStrength s_smelling_4 s_windy_5) → va_S A s.heap H locs → lv_has ls 13 [(0, .ref a_this), (1, .int x1), (2, .int x2), (3, .int x3), (5, .long x5_8), (7, .int x7_9), (8, .long x8_12), (10, .int x10_13), (11, .int x11_14)] → W p l e rm_Fs_lapsingMornings s m args below meth c H locs 0 0 QQ (F0 m 115 ls []) := by
                intro n
                induction n with
                | zero => intro x8_12 x10_13 x11_14 H locs ls h; exact absurd h (hz115_14 _ _ _)
                | succ n ih115_14 =>
                  intro x8_12 x10_13 x11_14 H locs ls h hP hD hS hl
                  have h := hs115_14 _ _ _ _ h
                  refine lv_iload hx hb dX1_lapsingMornings_115 (lv_at hl 8 rfl) ?_
                  refine lv_iload_n hx hb dX1_lapsingMornings_117 rfl (lv_at hl 2 rfl) ?_
                  refine lv_icmp_ge (tgt := 191) hx hb dX1_lapsingMornings_118 (by decide) (fun c_16 => ?_) (fun c_16 => ?_)
                  · have h := h.1 c_16
                    refine lv_iload hx hb dX1_lapsingMornings_191 (lv_at hl 7 rfl) ?_
                    refine lv_aload_n hx hb dX1_lapsingMornings_193 rfl (lv_at hl 0 rfl) ?_
                    refine va_get (D := D) (ci := 1) (v := .ref a_parish) (C := RX1) (T := TX1) (N := 7) hx hb hts in_X1 hown hK hP 0 rfl rfl 0 (by decide) fl_30 (fun _ h9 => h9) rfl dX1_lapsingMornings_194 ?_
                    refine va_get (D := D) (ci := 3) (v := .ref a_parish_familyWill) (C := RX4) (T := TX4) (N := 15) hx hb hts in_X4 hown hK hP 1 rfl rfl 6 (by decide) fl_62 (fun _ h9 => h9) rfl dX1_lapsingMornings_197 ?_
                    refine lv_iload_n hx hb dX1_lapsingMornings_200 rfl (lv_at hl 1 rfl) ?_
                    obtain ⟨hi_17, h⟩ := h
                    refine va_iald hx hb hK hP 4 1 rfl rfl hi_17 dX1_lapsingMornings_201 ?_
                    obtain ⟨J212, hJ212, h⟩ := jn1_ex h
                    have kJ212_18 : ∀ (x5_18 : Int64) (H : Heap) (locs : List Loc) (ls : Array Slot), J212 x5_18 → va_P D vwCl (Wd_Fs_lapsingMornings cy a_this a_parish a_parish_familyCell a_parish_familyKind a_parish_familyWill a_parish_flitchCell a_parish_flitchKind a_parish_flitchStrength a_smelling a_windy a_taken a_lapses a_wills a_cells a_parish_familySide a_parish_past a_parish_sightings a_parish_notes a_parish_marks s_parish_flitchCount s_parish_familyCount s_parish_hung s_parish_day s_parish_familyCell s_parish_familyKind s_parish_familyWill s_parish_flitchCell s_parish_flitchKind s_parish_flitchStrength s_smelling_4 s_windy_5) H → va_D A (Wd_Fs_lapsingMornings cy a_this a_parish a_parish_familyCell a_parish_familyKind a_parish_familyWill a_parish_flitchCell a_parish_flitchKind a_parish_flitchStrength a_smelling a_windy a_taken a_lapses a_wills a_cells a_parish_familySide a_parish_past a_parish_sightings a_parish_notes a_parish_marks s_parish_flitchCount s_parish_familyCount s_parish_hung s_parish_day s_parish_familyCell s_parish_familyKind s_parish_familyWill s_parish_flitchCell s_parish_flitchKind s_parish_flitchStrength s_smelling_4 s_windy_5) → va_S A s.heap H locs → lv_has ls 13 [(0, .ref a_this), (1, .int x1), (2, .int x2), (3, .int x3), (5, .long x5_18), (7, .int x7_9)] → W p l e rm_Fs_lapsingMornings s m args below meth c H locs 0 0 QQ (F0 m 212 ls []) := by
                      intro x5_18 H locs ls h hP hD hS hl
                      have h := hJ212 _ h
                      obtain ⟨x7_20, ex7_20⟩ : ∃ y : Int32, y = x7_9 + 1 := ⟨_, rfl⟩
                      have h := h x7_20 ex7_20
                      refine lv_iinc (v := x7_20) (lv' := [(7, .int x7_20), (0, .ref a_this), (1, .int x1), (2, .int x2), (3, .int x3), (5, .long x5_18)]) hx hb dX1_lapsingMornings_212 hl (k := 5) rfl (by rw [ex7_20]; rfl) (by decide) rfl (fun ls hl => ?_)
                      refine lv_goto (tgt := 98) hx hb dX1_lapsingMornings_215 (by decide) ?_
                      exact ih98_9 _ _ _ _ _ h hP hD hS (lv_sub hl [1, 2, 3, 4, 5, 0] rfl)
                    refine lv_icmp_lt (tgt := 212) hx hb dX1_lapsingMornings_202 (by decide) (fun c_21 => ?_) (fun c_21 => ?_)
                    · have h := h.1 c_21
                      exact kJ212_18 _ _ _ _ h hP hD hS (lv_sub hl [0, 1, 2, 3, 4, 5] rfl)
                    · have h := h.2 c_21
                      refine lv_lload hx hb dX1_lapsingMornings_205 (lv_at hl 4 rfl) ?_
                      refine lv_lload hx hb dX1_lapsingMornings_207 (lv_at hl 6 rfl) ?_
                      refine lv_ladd hx hb dX1_lapsingMornings_209 ?_
                      refine lv_topl (fun x5_22 ex5_22 => ?_)
                      have h := h x5_22 ex5_22
                      refine lv_lstore (lv' := [(5, .long x5_22), (0, .ref a_this), (1, .int x1), (2, .int x2), (3, .int x3), (7, .int x7_9), (8, .long x8_12), (10, .int x10_13), (11, .int x11_14)]) hx hb dX1_lapsingMornings_210 hl (by decide) rfl (fun ls hl => ?_)
                      exact kJ212_18 _ _ _ _ h hP hD hS (lv_sub hl [1, 2, 3, 4, 0, 5] rfl)
                  · have h := h.2 c_16
                    refine lv_iload hx hb dX1_lapsingMornings_121 (lv_at hl 5 rfl) ?_
                    refine lv_iload hx hb dX1_lapsingMornings_123 (lv_at hl 8 rfl) ?_
                    refine lv_ishr hx hb dX1_lapsingMornings_125 ?_
                    refine lv_iconst (v := 1) hx hb dX1_lapsingMornings_126 (by decide) ?_
                    refine lv_iand hx hb dX1_lapsingMornings_127 ?_
                    refine lv_iconst (v := 1) hx hb dX1_lapsingMornings_128 (by decide) ?_
                    obtain ⟨J137, hJ137, h⟩ := jn1_ex h
                    have kJ137_23 : ∀ (v_23 : Int32) (H : Heap) (locs : List Loc) (ls : Array Slot), J137 v_23 → va_P D vwCl (Wd_Fs_lapsingMornings cy a_this a_parish a_parish_familyCell a_parish_familyKind a_parish_familyWill a_parish_flitchCell a_parish_flitchKind a_parish_flitchStrength a_smelling a_windy a_taken a_lapses a_wills a_cells a_parish_familySide a_parish_past a_parish_sightings a_parish_notes a_parish_marks s_parish_flitchCount s_parish_familyCount s_parish_hung s_parish_day s_parish_familyCell s_parish_familyKind s_parish_familyWill s_parish_flitchCell s_parish_flitchKind s_parish_flitchStrength s_smelling_4 s_windy_5) H → va_D A (Wd_Fs_lapsingMornings cy a_this a_parish a_parish_familyCell a_parish_familyKind a_parish_familyWill a_parish_flitchCell a_parish_flitchKind a_parish_flitchStrength a_smelling a_windy a_taken a_lapses a_wills a_cells a_parish_familySide a_parish_past a_parish_sightings a_parish_notes a_parish_marks s_parish_flitchCount s_parish_familyCount s_parish_hung s_parish_day s_parish_familyCell s_parish_familyKind s_parish_familyWill s_parish_flitchCell s_parish_flitchKind s_parish_flitchStrength s_smelling_4 s_windy_5) → va_S A s.heap H locs → lv_has ls 13 [(0, .ref a_this), (1, .int x1), (2, .int x2), (3, .int x3), (5, .long x5_8), (7, .int x7_9), (8, .long x8_12), (10, .int x10_13), (11, .int x11_14)] → W p l e rm_Fs_lapsingMornings s m args below meth c H locs 0 0 QQ (F0 m 137 ls [.int v_23]) := by
                      intro v_23 H locs ls h hP hD hS hl
                      have h := hJ137 _ h
                      refine lv_istore (lv' := [(12, .int v_23), (0, .ref a_this), (1, .int x1), (2, .int x2), (3, .int x3), (5, .long x5_8), (7, .int x7_9), (8, .long x8_12), (10, .int x10_13), (11, .int x11_14)]) hx hb dX1_lapsingMornings_137 hl (by decide) rfl (fun ls hl => ?_)
                      refine lv_lload hx hb dX1_lapsingMornings_139 (lv_at hl 7 rfl) ?_
                      refine lv_iload hx hb dX1_lapsingMornings_141 (lv_at hl 0 rfl) ?_
                      obtain ⟨J154, hJ154, h⟩ := jn1_ex h
                      have kJ154_25 : ∀ (v_25 : Int32) (H : Heap) (locs : List Loc) (ls : Array Slot), J154 v_25 → va_P D vwCl (Wd_Fs_lapsingMornings cy a_this a_parish a_parish_familyCell a_parish_familyKind a_parish_familyWill a_parish_flitchCell a_parish_flitchKind a_parish_flitchStrength a_smelling a_windy a_taken a_lapses a_wills a_cells a_parish_familySide a_parish_past a_parish_sightings a_parish_notes a_parish_marks s_parish_flitchCount s_parish_familyCount s_parish_hung s_parish_day s_parish_familyCell s_parish_familyKind s_parish_familyWill s_parish_flitchCell s_parish_flitchKind s_parish_flitchStrength s_smelling_4 s_windy_5) H → va_D A (Wd_Fs_lapsingMornings cy a_this a_parish a_parish_familyCell a_parish_familyKind a_parish_familyWill a_parish_flitchCell a_parish_flitchKind a_parish_flitchStrength a_smelling a_windy a_taken a_lapses a_wills a_cells a_parish_familySide a_parish_past a_parish_sightings a_parish_notes a_parish_marks s_parish_flitchCount s_parish_familyCount s_parish_hung s_parish_day s_parish_familyCell s_parish_familyKind s_parish_familyWill s_parish_flitchCell s_parish_flitchKind s_parish_flitchStrength s_smelling_4 s_windy_5) → va_S A s.heap H locs → lv_has ls 13 [(0, .ref a_this), (1, .int x1), (2, .int x2), (3, .int x3), (5, .long x5_8), (7, .int x7_9), (10, .int x10_13), (11, .int x11_14), (12, .int v_23)] → W p l e rm_Fs_lapsingMornings s m args below meth c H locs 0 0 QQ (F0 m 154 ls [.int v_25, .long x8_12]) := by
                        intro v_25 H locs ls h hP hD hS hl
                        have h := hJ154 _ h
                        refine lv_i2l hx hb dX1_lapsingMornings_154 rfl ?_
                        refine lv_lmul hx hb dX1_lapsingMornings_155 ?_
                        refine lv_topl (fun x8_27 ex8_27 => ?_)
                        have h := h x8_27 ex8_27
                        refine lv_lstore (lv' := [(8, .long x8_27), (0, .ref a_this), (1, .int x1), (2, .int x2), (3, .int x3), (5, .long x5_8), (7, .int x7_9), (10, .int x10_13), (11, .int x11_14), (12, .int v_23)]) hx hb dX1_lapsingMornings_156 hl (by decide) rfl (fun ls hl => ?_)
                        refine lv_iload hx hb dX1_lapsingMornings_158 (lv_at hl 7 rfl) ?_
                        refine lv_iload hx hb dX1_lapsingMornings_160 (lv_at hl 9 rfl) ?_
                        obtain ⟨J182, hJ182, h⟩ := jn1_ex h
                        have kJ182_28 : ∀ (v_28 : Int32) (H : Heap) (locs : List Loc) (ls : Array Slot), J182 v_28 → va_P D vwCl (Wd_Fs_lapsingMornings cy a_this a_parish a_parish_familyCell a_parish_familyKind a_parish_familyWill a_parish_flitchCell a_parish_flitchKind a_parish_flitchStrength a_smelling a_windy a_taken a_lapses a_wills a_cells a_parish_familySide a_parish_past a_parish_sightings a_parish_notes a_parish_marks s_parish_flitchCount s_parish_familyCount s_parish_hung s_parish_day s_parish_familyCell s_parish_familyKind s_parish_familyWill s_parish_flitchCell s_parish_flitchKind s_parish_flitchStrength s_smelling_4 s_windy_5) H → va_D A (Wd_Fs_lapsingMornings cy a_this a_parish a_parish_familyCell a_parish_familyKind a_parish_familyWill a_parish_flitchCell a_parish_flitchKind a_parish_flitchStrength a_smelling a_windy a_taken a_lapses a_wills a_cells a_parish_familySide a_parish_past a_parish_sightings a_parish_notes a_parish_marks s_parish_flitchCount s_parish_familyCount s_parish_hung s_parish_day s_parish_familyCell s_parish_familyKind s_parish_familyWill s_parish_flitchCell s_parish_flitchKind s_parish_flitchStrength s_smelling_4 s_windy_5) → va_S A s.heap H locs → lv_has ls 13 [(0, .ref a_this), (1, .int x1), (2, .int x2), (3, .int x3), (5, .long x5_8), (7, .int x7_9), (8, .long x8_27), (11, .int x11_14)] → W p l e rm_Fs_lapsingMornings s m args below meth c H locs 0 0 QQ (F0 m 182 ls [.int v_28, .int x10_13]) := by
                          intro v_28 H locs ls h hP hD hS hl
                          have h := hJ182 _ h
                          refine lv_iadd hx hb dX1_lapsingMornings_182 ?_
                          refine lv_topi (fun x10_30 ex10_30 => ?_)
                          have h := h x10_30 ex10_30
                          refine lv_istore (lv' := [(10, .int x10_30), (0, .ref a_this), (1, .int x1), (2, .int x2), (3, .int x3), (5, .long x5_8), (7, .int x7_9), (8, .long x8_27), (11, .int x11_14)]) hx hb dX1_lapsingMornings_183 hl (by decide) rfl (fun ls hl => ?_)
                          obtain ⟨x11_31, ex11_31⟩ : ∃ y : Int32, y = x11_14 + 1 := ⟨_, rfl⟩
                          have h := h x11_31 ex11_31
                          refine lv_iinc (v := x11_31) (lv' := [(11, .int x11_31), (10, .int x10_30), (0, .ref a_this), (1, .int x1), (2, .int x2), (3, .int x3), (5, .long x5_8), (7, .int x7_9), (8, .long x8_27)]) hx hb dX1_lapsingMornings_185 hl (k := 8) rfl (by rw [ex11_31]; rfl) (by decide) rfl (fun ls hl => ?_)
                          refine lv_goto (tgt := 115) hx hb dX1_lapsingMornings_188 (by decide) ?_
                          exact ih115_14 _ _ _ _ _ _ h hP hD hS (lv_sub hl [2, 3, 4, 5, 6, 7, 8, 1, 0] rfl)
                        refine lv_if_eq (tgt := 175) hx hb dX1_lapsingMornings_162 (by decide) (fun c_32 => ?_) (fun c_32 => ?_)
                        · have h := h.1 c_32
                          refine lv_aload_n hx hb dX1_lapsingMornings_175 rfl (lv_at hl 1 rfl) ?_
                          refine va_get (D := D) (ci := 1) (v := .ref a_smelling) (C := RX1) (T := TX1) (N := 7) hx hb hts in_X1 hown hK hP 0 rfl rfl 5 (by decide) fl_24 (fun _ h9 => h9) rfl dX1_lapsingMornings_176 ?_
                          refine lv_iload hx hb dX1_lapsingMornings_179 (lv_at hl 8 rfl) ?_
                          obtain ⟨hi_33, h⟩ := h
                          refine va_iald hx hb hK hP 8 1 rfl rfl hi_33 dX1_lapsingMornings_181 ?_
                          exact kJ182_28 _ _ _ _ h hP hD hS (lv_sub hl [1, 2, 3, 4, 5, 6, 0, 8] rfl)
                        · have h := h.2 c_32
                          refine lv_aload_n hx hb dX1_lapsingMornings_165 rfl (lv_at hl 1 rfl) ?_
                          refine va_get (D := D) (ci := 1) (v := .ref a_windy) (C := RX1) (T := TX1) (N := 7) hx hb hts in_X1 hown hK hP 0 rfl rfl 6 (by decide) fl_27 (fun _ h9 => h9) rfl dX1_lapsingMornings_166 ?_
                          refine lv_iload hx hb dX1_lapsingMornings_169 (lv_at hl 8 rfl) ?_
                          obtain ⟨hi_34, h⟩ := h
                          refine va_iald hx hb hK hP 9 1 rfl rfl hi_34 dX1_lapsingMornings_171 ?_
                          refine lv_goto (tgt := 182) hx hb dX1_lapsingMornings_172 (by decide) ?_
                          exact kJ182_28 _ _ _ _ h hP hD hS (lv_sub hl [1, 2, 3, 4, 5, 6, 0, 8] rfl)
                      refine lv_if_eq (tgt := 150) hx hb dX1_lapsingMornings_143 (by decide) (fun c_35 => ?_) (fun c_35 => ?_)
                      · have h := h.1 c_35
                        refine lv_bipush (v := 10) hx hb dX1_lapsingMornings_150 (by decide) ?_
                        refine lv_iload_n hx hb dX1_lapsingMornings_152 rfl (lv_at hl 4 rfl) ?_
                        refine lv_isub hx hb dX1_lapsingMornings_153 ?_
                        exact kJ154_25 _ _ _ _ h hP hD hS (lv_sub hl [1, 2, 3, 4, 5, 6, 8, 9, 0] rfl)
                      · have h := h.2 c_35
                        refine lv_iload_n hx hb dX1_lapsingMornings_146 rfl (lv_at hl 4 rfl) ?_
                        refine lv_goto (tgt := 154) hx hb dX1_lapsingMornings_147 (by decide) ?_
                        exact kJ154_25 _ _ _ _ h hP hD hS (lv_sub hl [1, 2, 3, 4, 5, 6, 8, 9, 0] rfl)
                    refine lv_icmp_ne (tgt := 136) hx hb dX1_lapsingMornings_129 (by decide) (fun c_36 => ?_) (fun c_36 => ?_)
                    · have h := h.1 c_36
                      refine lv_iconst (v := 0) hx hb dX1_lapsingMornings_136 (by decide) ?_
                      exact kJ137_23 _ _ _ _ h hP hD hS (lv_sub hl [0, 1, 2, 3, 4, 5, 6, 7, 8] rfl)
                    · have h := h.2 c_36
                      refine lv_iconst (v := 1) hx hb dX1_lapsingMornings_132 (by decide) ?_
                      refine lv_goto (tgt := 137) hx hb dX1_lapsingMornings_133 (by decide) ?_
                      exact kJ137_23 _ _ _ _ h hP hD hS (lv_sub hl [0, 1, 2, 3, 4, 5, 6, 7, 8] rfl)
              exact kT115_14 n115_14 _ _ _ _ _ _ h hP hD hS (lv_sub hl [3, 4, 5, 6, 7, 8, 2, 1, 0] rfl)
        exact kT98_9 n98_9 _ _ _ _ _ h hP hD hS (lv_sub hl [2, 3, 4, 5, 1, 0] rfl)
      · have h := h.2 c_7
        refine lv_aload_n hx hb dX1_lapsingMornings_20 rfl (lv_at hl 0 rfl) ?_
        refine va_get (D := D) (ci := 1) (v := .ref a_parish) (C := RX1) (T := TX1) (N := 7) hx hb hts in_X1 hown hK hP 0 rfl rfl 0 (by decide) fl_30 (fun _ h9 => h9) rfl dX1_lapsingMornings_21 ?_
        refine va_get (D := D) (ci := 3) (v := .int s_parish_day) (C := RX4) (T := TX4) (N := 15) hx hb hts in_X4 hown hK hP 1 rfl rfl 14 (by decide) fl_40 (fun _ h9 => h9) rfl dX1_lapsingMornings_24 ?_
        refine lv_iload hx hb dX1_lapsingMornings_27 (lv_at hl 5 rfl) ?_
        refine lv_iadd hx hb dX1_lapsingMornings_29 ?_
        refine lv_topi (fun x6_37 ex6_37 => ?_)
        have h := h x6_37 ex6_37
        refine lv_istore (lv' := [(6, .int x6_37), (0, .ref a_this), (1, .int x1), (2, .int x2), (3, .int x3), (4, .int x4_2), (5, .int x5_3)]) hx hb dX1_lapsingMornings_30 hl (by decide) rfl (fun ls hl => ?_)
        refine lv_aload_n hx hb dX1_lapsingMornings_32 rfl (lv_at hl 1 rfl) ?_
        refine va_get (D := D) (ci := 1) (v := .ref a_smelling) (C := RX1) (T := TX1) (N := 7) hx hb hts in_X1 hown hK hP 0 rfl rfl 5 (by decide) fl_24 (fun _ h9 => h9) rfl dX1_lapsingMornings_33 ?_
        refine lv_iload hx hb dX1_lapsingMornings_36 (lv_at hl 6 rfl) ?_
        refine lv_iload hx hb dX1_lapsingMornings_38 (lv_at hl 5 rfl) ?_
        refine lv_aload_n hx hb dX1_lapsingMornings_40 rfl (lv_at hl 1 rfl) ?_
        refine va_get (D := D) (ci := 1) (v := .ref a_parish) (C := RX1) (T := TX1) (N := 7) hx hb hts in_X1 hown hK hP 0 rfl rfl 0 (by decide) fl_30 (fun _ h9 => h9) rfl dX1_lapsingMornings_41 ?_
        refine lv_aload_n hx hb dX1_lapsingMornings_44 rfl (lv_at hl 1 rfl) ?_
        refine va_get (D := D) (ci := 1) (v := .ref a_parish) (C := RX1) (T := TX1) (N := 7) hx hb hts in_X1 hown hK hP 0 rfl rfl 0 (by decide) fl_30 (fun _ h9 => h9) rfl dX1_lapsingMornings_45 ?_
        refine va_get (D := D) (ci := 3) (v := .ref a_parish_familyCell) (C := RX4) (T := TX4) (N := 15) hx hb hts in_X4 hown hK hP 1 rfl rfl 5 (by decide) fl_52 (fun _ h9 => h9) rfl dX1_lapsingMornings_48 ?_
        refine lv_iload_n hx hb dX1_lapsingMornings_51 rfl (lv_at hl 2 rfl) ?_
        obtain ⟨hi_38, h⟩ := h
        refine va_iald hx hb hK hP 2 1 rfl rfl hi_38 dX1_lapsingMornings_52 ?_
        refine lv_iload hx hb dX1_lapsingMornings_53 (lv_at hl 0 rfl) ?_
        refine lv_aload_n hx hb dX1_lapsingMornings_55 rfl (lv_at hl 1 rfl) ?_
        refine va_get (D := D) (ci := 1) (v := .ref a_parish) (C := RX1) (T := TX1) (N := 7) hx hb hts in_X1 hown hK hP 0 rfl rfl 0 (by decide) fl_30 (fun _ h9 => h9) rfl dX1_lapsingMornings_56 ?_
        refine va_get (D := D) (ci := 3) (v := .int s_parish_hung) (C := RX4) (T := TX4) (N := 15) hx hb hts in_X4 hown hK hP 1 rfl rfl 13 (by decide) fl_55 (fun _ h9 => h9) rfl dX1_lapsingMornings_59 ?_
        refine st_callRI (st_runVR (n := 3) (As := [.int (s_parish_familyCell (Int32.toNatClampNeg x1)), .int x6_37, .int s_parish_hung]) (rest := [.int x4_2, .int x5_3, .ref a_smelling]) (q0 := 0) F (co_Pa_scentAt l D cy a_parish a_parish_flitchCell a_parish_flitchKind a_parish_flitchStrength a_parish_familyKind a_parish_familySide a_parish_familyCell a_parish_familyWill a_parish_past a_parish_sightings a_parish_notes a_parish_marks s_parish_flitchCount s_parish_familyCount s_parish_hung s_parish_day s_parish_flitchCell s_parish_flitchKind s_parish_flitchStrength (s_parish_familyCell (Int32.toNatClampNeg x1)) x6_37 s_parish_hung _ h) gX1_lapsingMornings_X4_scentAt rfl (by decide +kernel) rfl hKK hP [1, 5, 6, 7] rfl rfl rfl rfl hl.1 rfl (Nat.le_of_ble_eq_true rfl) dX1_lapsingMornings_62) (fun r_39 h => ?_)
        refine lv_iload hx hb dX1_lapsingMornings_65 (lv_at hl 0 rfl) ?_
        refine st_callRI (st_runSR (n := 3) (As := [.int x4_2, .int r_39, .int x6_37]) (rest := [.int x5_3, .ref a_smelling]) F (co_Nt_loss l D cy x4_2 r_39 x6_37 _ h) gX1_lapsingMornings_X3_loss rfl (by decide +kernel) rfl hKK hP [] rfl rfl hl.1 rfl (Nat.le_of_ble_eq_true rfl) dX1_lapsingMornings_67) (fun r_40 h => ?_)
        obtain ⟨hi_41, h⟩ := h
        refine va_iast hx hb hK hP hD hS 8 1 rfl rfl hi_41 dX1_lapsingMornings_70 (fun H locs hP hD hS => ?_)
        obtain ⟨s_smelling_42, es_smelling_42⟩ : ∃ f : Nat → Int32, f = upd s_smelling_4 (Int32.toNatClampNeg x5_3) r_40 := ⟨_, rfl⟩
        have hP : va_P D vwCl (Wd_Fs_lapsingMornings cy a_this a_parish a_parish_familyCell a_parish_familyKind a_parish_familyWill a_parish_flitchCell a_parish_flitchKind a_parish_flitchStrength a_smelling a_windy a_taken a_lapses a_wills a_cells a_parish_familySide a_parish_past a_parish_sightings a_parish_notes a_parish_marks s_parish_flitchCount s_parish_familyCount s_parish_hung s_parish_day s_parish_familyCell s_parish_familyKind s_parish_familyWill s_parish_flitchCell s_parish_flitchKind s_parish_flitchStrength s_smelling_42 s_windy_5) H := by rw [es_smelling_42]; exact hP
        have hD : va_D A (Wd_Fs_lapsingMornings cy a_this a_parish a_parish_familyCell a_parish_familyKind a_parish_familyWill a_parish_flitchCell a_parish_flitchKind a_parish_flitchStrength a_smelling a_windy a_taken a_lapses a_wills a_cells a_parish_familySide a_parish_past a_parish_sightings a_parish_notes a_parish_marks s_parish_flitchCount s_parish_familyCount s_parish_hung s_parish_day s_parish_familyCell s_parish_familyKind s_parish_familyWill s_parish_flitchCell s_parish_flitchKind s_parish_flitchStrength s_smelling_42 s_windy_5) := by rw [es_smelling_42]; exact hD
        have h := h s_smelling_42 es_smelling_42
        refine lv_aload_n hx hb dX1_lapsingMornings_71 rfl (lv_at hl 1 rfl) ?_
        refine va_get (D := D) (ci := 1) (v := .ref a_windy) (C := RX1) (T := TX1) (N := 7) hx hb hts in_X1 hown hK hP 0 rfl rfl 6 (by decide) fl_27 (fun _ h9 => h9) rfl dX1_lapsingMornings_72 ?_
        refine lv_iload hx hb dX1_lapsingMornings_75 (lv_at hl 6 rfl) ?_
        refine lv_iload hx hb dX1_lapsingMornings_77 (lv_at hl 5 rfl) ?_
        refine lv_iconst (v := 0) hx hb dX1_lapsingMornings_79 (by decide) ?_
        refine lv_iload hx hb dX1_lapsingMornings_80 (lv_at hl 0 rfl) ?_
        refine st_callRI (st_runSR (n := 3) (As := [.int x4_2, .int 0, .int x6_37]) (rest := [.int x5_3, .ref a_windy]) F (co_Nt_loss l D cy x4_2 0 x6_37 _ h) gX1_lapsingMornings_X3_loss rfl (by decide +kernel) rfl hKK hP [] rfl rfl hl.1 rfl (Nat.le_of_ble_eq_true rfl) dX1_lapsingMornings_82) (fun r_43 h => ?_)
        obtain ⟨hi_44, h⟩ := h
        refine va_iast hx hb hK hP hD hS 9 1 rfl rfl hi_44 dX1_lapsingMornings_85 (fun H locs hP hD hS => ?_)
        obtain ⟨s_windy_45, es_windy_45⟩ : ∃ f : Nat → Int32, f = upd s_windy_5 (Int32.toNatClampNeg x5_3) r_43 := ⟨_, rfl⟩
        have hP : va_P D vwCl (Wd_Fs_lapsingMornings cy a_this a_parish a_parish_familyCell a_parish_familyKind a_parish_familyWill a_parish_flitchCell a_parish_flitchKind a_parish_flitchStrength a_smelling a_windy a_taken a_lapses a_wills a_cells a_parish_familySide a_parish_past a_parish_sightings a_parish_notes a_parish_marks s_parish_flitchCount s_parish_familyCount s_parish_hung s_parish_day s_parish_familyCell s_parish_familyKind s_parish_familyWill s_parish_flitchCell s_parish_flitchKind s_parish_flitchStrength s_smelling_42 s_windy_45) H := by rw [es_windy_45]; exact hP
        have hD : va_D A (Wd_Fs_lapsingMornings cy a_this a_parish a_parish_familyCell a_parish_familyKind a_parish_familyWill a_parish_flitchCell a_parish_flitchKind a_parish_flitchStrength a_smelling a_windy a_taken a_lapses a_wills a_cells a_parish_familySide a_parish_past a_parish_sightings a_parish_notes a_parish_marks s_parish_flitchCount s_parish_familyCount s_parish_hung s_parish_day s_parish_familyCell s_parish_familyKind s_parish_familyWill s_parish_flitchCell s_parish_flitchKind s_parish_flitchStrength s_smelling_42 s_windy_45) := by rw [es_windy_45]; exact hD
        have h := h s_windy_45 es_windy_45
        obtain ⟨x5_46, ex5_46⟩ : ∃ y : Int32, y = x5_3 + 1 := ⟨_, rfl⟩
        have h := h x5_46 ex5_46
        refine lv_iinc (v := x5_46) (lv' := [(5, .int x5_46), (6, .int x6_37), (0, .ref a_this), (1, .int x1), (2, .int x2), (3, .int x3), (4, .int x4_2)]) hx hb dX1_lapsingMornings_86 hl (k := 6) rfl (by rw [ex5_46]; rfl) (by decide) rfl (fun ls hl => ?_)
        refine lv_goto (tgt := 14) hx hb dX1_lapsingMornings_89 (by decide) ?_
        exact ih14_5 _ _ _ _ _ _ h hP hD hS (lv_sub hl [2, 3, 4, 5, 6, 0] rfl)
  exact kT14_5 n14_5 _ _ _ _ _ _ h hP hD hS (lv_sub hl [2, 3, 4, 5, 1, 0] rfl)
