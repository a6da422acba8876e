abbrev Wd_Gs_familyKinds (cy : ClassId × ClassId × ClassId × ClassId) (a_this a_parish a_parish_marks a_parish_marks_numbers a_outcome a_parish_flitchKind a_parish_flitchCell a_parish_flitchStrength a_parish_familyKind a_parish_familySide a_parish_familyCell a_parish_familyWill a_parish_past a_parish_sightings a_parish_notes : Nat) (s_parish_flitchCount : Int32) (s_parish_familyCount : Int32) (s_parish_hung : Int32) (s_parish_day : Int32) (s_parish_marks_width : Int32) (s_parish_marks_limit : Int32) (s_parish_marks_size : Int32) (s_parish_marks_numbers : Nat → Int32) : va_W := [(a_this, .inr (2, [.ref a_parish, .ref a_outcome])), (a_parish, .inr (3, [.ref a_parish_flitchKind, .ref a_parish_flitchCell, .ref a_parish_flitchStrength, .ref a_parish_familyKind, .ref a_parish_familySide, .ref a_parish_familyCell, .ref a_parish_familyWill, .ref a_parish_past, .ref a_parish_sightings, .ref a_parish_notes, .ref a_parish_marks, .int s_parish_flitchCount, .int s_parish_familyCount, .int s_parish_hung, .int s_parish_day])), (a_parish_marks, .inr (5, [.int s_parish_marks_width, .int s_parish_marks_limit, .ref a_parish_marks_numbers, .int s_parish_marks_size])), (a_parish_marks_numbers, .inl (cy.2.1, 24, .inl s_parish_marks_numbers))]
abbrev rm_Gs_familyKinds : Room := { frames := 3, cells := 0, slots := 0, locals := 98 }
def wp_Gs_familyKinds (x1 : Int32) (s_parish_marks_width : Int32) (s_parish_marks_size : Int32) (s_parish_marks_numbers : Nat → Int32) (Q : Int32 → Prop) : Prop := ∃ n : Nat, lpw2 (fun (B4 : Int32 → Int32 → Prop) (x2_1 : Int32) (x3_2 : Int32) => ((6 ≤ x3_2 → Q x2_1) ∧ (¬ 6 ≤ x3_2 → wp_Gs_fitsMarks x1 x3_2 s_parish_marks_width s_parish_marks_size s_parish_marks_numbers (fun (r_5 : Int32) => jn1 (fun (J25 : Int32 → Prop) => ((r_5 = 0 → J25 x2_1) ∧ (¬ r_5 = 0 → ∀ x2_10 : Int32, x2_10 = (x2_1 ||| (ishl 1 x3_2)) → J25 x2_10))) (fun (x2_6 : Int32) => ∀ x3_8 : Int32, x3_8 = x3_2 + 1 → B4 x2_6 x3_8))))) n 0 0
set_option maxHeartbeats 4000000 in
set_option maxRecDepth 100000 in
theorem co_Gs_familyKinds (l : Launch) (D : va_G) (cy : ClassId × ClassId × ClassId × ClassId) (a_this a_parish a_parish_marks a_parish_marks_numbers a_outcome a_parish_flitchKind a_parish_flitchCell a_parish_flitchStrength a_parish_familyKind a_parish_familySide a_parish_familyCell a_parish_familyWill a_parish_past a_parish_sightings a_parish_notes : Nat) (s_parish_flitchCount : Int32) (s_parish_familyCount : Int32) (s_parish_hung : Int32) (s_parish_day : Int32) (s_parish_marks_width : Int32) (s_parish_marks_limit : Int32) (s_parish_marks_size : Int32) (s_parish_marks_numbers : Nat → Int32) (x1 : Int32) (Q : Int32 → Prop) (h : wp_Gs_familyKinds x1 s_parish_marks_width s_parish_marks_size s_parish_marks_numbers Q) : RoI l yX2_familyKinds wsX2_familyKinds rm_Gs_familyKinds D cy [.ref a_this, .int x1] (Wd_Gs_familyKinds cy a_this a_parish a_parish_marks a_parish_marks_numbers a_outcome a_parish_flitchKind a_parish_flitchCell a_parish_flitchStrength a_parish_familyKind a_parish_familySide a_parish_familyCell a_parish_familyWill a_parish_past a_parish_sightings a_parish_notes s_parish_flitchCount s_parish_familyCount s_parish_hung s_parish_day s_parish_marks_width s_parish_marks_limit s_parish_marks_size s_parish_marks_numbers) Q := by
  refine st_metRI (cc := cX2_familyKinds) (maxL := 4) RX2 (by decide) rfl rfl (Nat.le_of_ble_eq_true rfl) ?_
  intro p e s m args below meth c QQ ls F hKK hP hl hret
  have hK := hKK.1
  have hnest := hKK.2.1
  have hx := F.1
  have hb := F.2.1
  have hown := F.2.2.2.1
  have hts := F.2.2.2.2
  have hl : lv_has ls 4 [(0, .ref a_this), (1, .int x1)] := hl
  unfold wp_Gs_familyKinds at h
  refine lv_iconst (v := 0) hx hb dX2_familyKinds_0 (by decide) ?_
  refine lv_istore_n (lv' := [(2, .int 0), (0, .ref a_this), (1, .int x1)]) hx hb dX2_familyKinds_1 rfl hl (by decide) rfl (fun ls hl => ?_)
  refine lv_iconst (v := 0) hx hb dX2_familyKinds_2 (by decide) ?_
  refine lv_istore_n (lv' := [(3, .int 0), (2, .int 0), (0, .ref a_this), (1, .int x1)]) hx hb dX2_familyKinds_3 rfl hl (by decide) rfl (fun ls hl => ?_)
  obtain ⟨T4_2, hz4_2, hs4_2, n4_2, h⟩ := lpw2_use h
  have kT4_2 : ∀ (n : Nat) (x2_1 : Int32) (x3_2 : Int32) (ls : Array Slot), T4_2 n x2_1 x3_2 → lv_has ls 4 [(0, .ref a_this), (1, .int x1), (2, .int x2_1), (3, .int x3_2)] → W p l e rm_Gs_familyKinds s m args below meth c s.heap [] 0 0 QQ (F0 m 4 ls []) := by
    intro n
    induction n with
    | zero => intro x2_1 x3_2 ls h; exact absurd h (hz4_2 _ _)
    | succ n ih4_2 =>
      intro x2_1 x3_2 ls h hl
      have h := hs4_2 _ _ _ h
      refine lv_iload_n hx hb dX2_familyKinds_4 rfl (lv_at hl 3 rfl) ?_
      refine lv_bipush (v := 6) hx hb dX2_familyKinds_5 (by decide) ?_
      refine lv_icmp_ge (tgt := 31) hx hb dX2_familyKinds_7 (by decide) (fun c_4 => ?_) (fun c_4 => ?_)
      · have h := h.1 c_4
        refine lv_iload_n hx hb dX2_familyKinds_31 rfl (lv_at hl 2 rfl) ?_
        exact hret _ _ _ h dX2_familyKinds_32
      · have h := h.2 c_4
        refine lv_aload_n hx hb dX2_familyKinds_10 rfl (lv_at hl 0 rfl) ?_
        refine lv_iload_n hx hb dX2_familyKinds_11 rfl (lv_at hl 1 rfl) ?_
        refine lv_iload_n hx hb dX2_familyKinds_12 rfl (lv_at hl 3 rfl) ?_
        refine st_callRI (st_runVR (n := 2) (As := [.int x1, .int x3_2]) (rest := []) (q0 := 0) F (co_Gs_fitsMarks l D cy a_this a_parish a_parish_marks a_parish_marks_numbers a_outcome a_parish_flitchKind a_parish_flitchCell a_parish_flitchStrength a_parish_familyKind a_parish_familySide a_parish_familyCell a_parish_familyWill a_parish_past a_parish_sightings a_parish_notes s_parish_flitchCount s_parish_familyCount s_parish_hung s_parish_day s_parish_marks_width s_parish_marks_limit s_parish_marks_size s_parish_marks_numbers x1 x3_2 _ h) gX2_familyKinds_X2_fitsMarks rfl (by decide +kernel) rfl hKK hP [0, 1, 2, 3] rfl rfl rfl rfl hl.1 rfl (Nat.le_of_ble_eq_true rfl) dX2_familyKinds_13) (fun r_5 h => ?_)
        obtain ⟨J25, hJ25, h⟩ := jn1_ex h
        have kJ25_6 : ∀ (x2_6 : Int32) (ls : Array Slot), J25 x2_6 → lv_has ls 4 [(0, .ref a_this), (1, .int x1), (2, .int x2_6), (3, .int x3_2)] → W p l e rm_Gs_familyKinds s m args below meth c s.heap [] 0 0 QQ (F0 m 25 ls []) := by
          intro x2_6 ls h hl
          have h := hJ25 _ h
          obtain ⟨x3_8, ex3_8⟩ : ∃ y : Int32, y = x3_2 + 1 := ⟨_, rfl⟩
          have h := h x3_8 ex3_8
          refine lv_iinc (v := x3_8) (lv' := [(3, .int x3_8), (0, .ref a_this), (1, .int x1), (2, .int x2_6)]) hx hb dX2_familyKinds_25 hl (k := 3) rfl (by rw [ex3_8]; rfl) (by decide) rfl (fun ls hl => ?_)
          refine lv_goto (tgt := 4) hx hb dX2_familyKinds_28 (by decide) ?_
          exact ih4_2 _ _ _ h (lv_sub hl [1, 2, 3, 0] rfl)
        refine lv_if_eq (tgt := 25) hx hb dX2_familyKinds_16 (by decide) (fun c_9 => ?_) (fun c_9 => ?_)
        · have h := h.1 c_9
          exact kJ25_6 _ _ h (lv_sub hl [0, 1, 2, 3] rfl)
        · have h := h.2 c_9
          refine lv_iload_n hx hb dX2_familyKinds_19 rfl (lv_at hl 2 rfl) ?_
          refine lv_iconst (v := 1) hx hb dX2_familyKinds_20 (by decide) ?_
          refine lv_iload_n hx hb dX2_familyKinds_21 rfl (lv_at hl 3 rfl) ?_
          refine lv_ishl hx hb dX2_familyKinds_22 ?_
          refine lv_ior hx hb dX2_familyKinds_23 ?_
          refine lv_topi (fun x2_10 ex2_10 => ?_)
          have h := h x2_10 ex2_10
          refine lv_istore_n (lv' := [(2, .int x2_10), (0, .ref a_this), (1, .int x1), (3, .int x3_2)]) hx hb dX2_familyKinds_24 rfl hl (by decide) rfl (fun ls hl => ?_)
          exact kJ25_6 _ _ h (lv_sub hl [1, 2, 0, 3] rfl)
  exact kT4_2 n4_2 _ _ _ h (lv_sub hl [2, 3, 1, 0] rfl)
abbrev Wd_Gs_mostAlike (cy : ClassId × ClassId × ClassId × ClassId) (a_this a_outcome a_parish : Nat) (s_outcome : Nat → Int32) : va_W := [(a_this, .inr (2, [.ref a_parish, .ref a_outcome])), (a_outcome, .inl (cy.2.1, 6, .inl s_outcome))]
abbrev rm_Gs_mostAlike : Room := { frames := 1, cells := 0, slots := 0, locals := 48 }
def wp_Gs_mostAlike (x1 : Int32) (s_outcome : Nat → Int32) (Q : Int32 → Prop) : Prop := ∃ n : Nat, lpw2 (fun (B4 : Int32 → Int32 → Prop) (x2_1 : Int32) (x3_2 : Int32) => ((6 ≤ x3_2 → Q x2_1) ∧ (¬ 6 ≤ x3_2 → ∃ n : Nat, lpw2 (fun (B16 : Int32 → Int32 → Prop) (x4_5 : Int32) (x5_6 : Int32) => ((6 ≤ x5_6 → ∀ x2_9 : Int32, x2_9 = (imax x2_1 x4_5) → ∀ x3_10 : Int32, x3_10 = x3_2 + 1 → B4 x2_9 x3_10) ∧ (¬ 6 ≤ x5_6 → jn1 (fun (J47 : Int32 → Prop) => jn0 (fun (J46 : Prop) => ((¬ ((ishr x1 x3_2) &&& 1) = 1 → J46) ∧ (((ishr x1 x3_2) &&& 1) = 1 → ((¬ ((ishr x1 x5_6) &&& 1) = 1 → J46) ∧ (((ishr x1 x5_6) &&& 1) = 1 → J47 1))))) (J47 0)) (fun (v_11 : Int32) => jn1 (fun (J73 : Int32 → Prop) => ((v_11 = 0 → J73 x4_5) ∧ (¬ v_11 = 0 → vp_in x3_2 6 ∧ vp_in x5_6 6 ∧ ((¬ (s_outcome (Int32.toNatClampNeg x3_2)) = (s_outcome (Int32.toNatClampNeg x5_6)) → J73 x4_5) ∧ ((s_outcome (Int32.toNatClampNeg x3_2)) = (s_outcome (Int32.toNatClampNeg x5_6)) → ∀ x4_20 : Int32, x4_20 = x4_5 + 1 → J73 x4_20))))) (fun (x4_13 : Int32) => ∀ x5_15 : Int32, x5_15 = x5_6 + 1 → B16 x4_13 x5_15))))) n 0 0))) n 0 0
set_option maxHeartbeats 4000000 in
set_option maxRecDepth 100000 in
theorem co_Gs_mostAlike (l : Launch) (D : va_G) (cy : ClassId × ClassId × ClassId × ClassId) (a_this a_outcome a_parish : Nat) (s_outcome : Nat → Int32) (x1 : Int32) (Q : Int32 → Prop) (h : wp_Gs_mostAlike x1 s_outcome Q) : RoI l yX2_mostAlike wsX2_mostAlike rm_Gs_mostAlike D cy [.ref a_this, .int x1] (Wd_Gs_mostAlike cy a_this a_outcome a_parish s_outcome) Q := by
  refine st_metRI (cc := cX2_mostAlike) (maxL := 7) RX2 (by decide) rfl rfl (Nat.le_of_ble_eq_true rfl) ?_
  intro p e s m args below meth c QQ ls F hKK hP hl hret
  have hK := hKK.1
  have hnest := hKK.2.1
  have hx := F.1
  have hb := F.2.1
  have hown := F.2.2.2.1
  have hts := F.2.2.2.2
  have in_X2 : ∀ w ∈ u_ws RX2 TX2 2, w ∈ wsX2_mostAlike := (fun _ h => List.mem_cons_of_mem _ (List.mem_append_right _ h))
  have fl_9 := (hts (.fieldLink RX2 9 "RasherCase$Guesses" "outcome" "[I") (List.mem_of_getElem? (i := 1) rfl))
  have hl : lv_has ls 7 [(0, .ref a_this), (1, .int x1)] := hl
  unfold wp_Gs_mostAlike at h
  refine lv_iconst (v := 0) hx hb dX2_mostAlike_0 (by decide) ?_
  refine lv_istore_n (lv' := [(2, .int 0), (0, .ref a_this), (1, .int x1)]) hx hb dX2_mostAlike_1 rfl hl (by decide) rfl (fun ls hl => ?_)
  refine lv_iconst (v := 0) hx hb dX2_mostAlike_2 (by decide) ?_
  refine lv_istore_n (lv' := [(3, .int 0), (2, .int 0), (0, .ref a_this), (1, .int x1)]) hx hb dX2_mostAlike_3 rfl hl (by decide) rfl (fun ls hl => ?_)
  obtain ⟨T4_2, hz4_2, hs4_2, n4_2, h⟩ := lpw2_use h
  have kT4_2 : ∀ (n : Nat) (x2_1 : Int32) (x3_2 : Int32) (ls : Array Slot), T4_2 n x2_1 x3_2 → lv_has ls 7 [(0, .ref a_this), (1, .int x1), (2, .int x2_1), (3, .int x3_2)] → W p l e rm_Gs_mostAlike s m args below meth c s.heap [] 0 0 QQ (F0 m 4 ls []) := by
    intro n
    induction n with
    | zero => intro x2_1 x3_2 ls h; exact absurd h (hz4_2 _ _)
    | succ n ih4_2 =>
      intro x2_1 x3_2 ls h hl
      have h := hs4_2 _ _ _ h
      refine lv_iload_n hx hb dX2_mostAlike_4 rfl (lv_at hl 3 rfl) ?_
      refine lv_bipush (v := 6) hx hb dX2_mostAlike_5 (by decide) ?_
      refine lv_icmp_ge (tgt := 92) hx hb dX2_mostAlike_7 (by decide) (fun c_4 => ?_) (fun c_4 => ?_)
      · have h := h.1 c_4
        refine lv_iload_n hx hb dX2_mostAlike_92 rfl (lv_at hl 2 rfl) ?_
        exact hret _ _ _ h dX2_mostAlike_93
      · have h := h.2 c_4
        refine lv_iconst (v := 0) hx hb dX2_mostAlike_10 (by decide) ?_
        refine lv_istore (lv' := [(4, .int 0), (0, .ref a_this), (1, .int x1), (2, .int x2_1), (3, .int x3_2)]) hx hb dX2_mostAlike_11 hl (by decide) rfl (fun ls hl => ?_)
        refine lv_iconst (v := 0) hx hb dX2_mostAlike_13 (by decide) ?_
        refine lv_istore (lv' := [(5, .int 0), (4, .int 0), (0, .ref a_this), (1, .int x1), (2, .int x2_1), (3, .int x3_2)]) hx hb dX2_mostAlike_14 hl (by decide) rfl (fun ls hl => ?_)
        obtain ⟨T16_6, hz16_6, hs16_6, n16_6, h⟩ := lpw2_use h
        have kT16_6 : ∀ (n : Nat) (x4_5 : Int32) (x5_6 : Int32) (ls : Array Slot), T16_6 n x4_5 x5_6 → lv_has ls 7 [(0, .ref a_this), (1, .int x1), (2, .int x2_1), (3, .int x3_2), (4, .int x4_5), (5, .int x5_6)] → W p l e rm_Gs_mostAlike s m args below meth c s.heap [] 0 0 QQ (F0 m 16 ls []) := by
          intro n
          induction n with
          | zero => intro x4_5 x5_6 ls h; exact absurd h (hz16_6 _ _)
          | succ n ih16_6 =>
            intro x4_5 x5_6 ls h hl
            have h := hs16_6 _ _ _ h
            refine lv_iload hx hb dX2_mostAlike_16 (lv_at hl 5 rfl) ?_
            refine lv_bipush (v := 6) hx hb dX2_mostAlike_18 (by decide) ?_
            refine lv_icmp_ge (tgt := 79) hx hb dX2_mostAlike_20 (by decide) (fun c_8 => ?_) (fun c_8 => ?_)
            · have h := h.1 c_8
              refine lv_iload_n hx hb dX2_mostAlike_79 rfl (lv_at hl 2 rfl) ?_
              refine lv_iload hx hb dX2_mostAlike_80 (lv_at hl 4 rfl) ?_
              refine va_mmax hx hb (F.2.2.1.trans hl.1.symm) hown (hts (.methodLink RX2 68 Lib.Math.max.name) (List.mem_of_getElem? (i := 2) rfl)) (hts (.static Lib.Math.max.name) (List.mem_of_getElem? (i := 3) rfl)) (hts (.initialized "java/lang/Math") (List.mem_of_getElem? (i := 4) rfl)) (hts (.code Lib.Math.max.name Lib.Math.max.code 2 (some .int)) (List.mem_of_getElem? (i := 5) rfl)) (Nat.le_of_ble_eq_true rfl) (Nat.le_of_ble_eq_true rfl) (Nat.zero_le _) (Nat.zero_le _) dX2_mostAlike_82 ?_
              refine lv_topi (fun x2_9 ex2_9 => ?_)
              have h := h x2_9 ex2_9
              refine lv_istore_n (lv' := [(2, .int x2_9), (0, .ref a_this), (1, .int x1), (3, .int x3_2), (4, .int x4_5), (5, .int x5_6)]) hx hb dX2_mostAlike_85 rfl hl (by decide) rfl (fun ls hl => ?_)
              obtain ⟨x3_10, ex3_10⟩ : ∃ y : Int32, y = x3_2 + 1 := ⟨_, rfl⟩
              have h := h x3_10 ex3_10
              refine lv_iinc (v := x3_10) (lv' := [(3, .int x3_10), (2, .int x2_9), (0, .ref a_this), (1, .int x1), (4, .int x4_5), (5, .int x5_6)]) hx hb dX2_mostAlike_86 hl (k := 3) rfl (by rw [ex3_10]; rfl) (by decide) rfl (fun ls hl => ?_)
              refine lv_goto (tgt := 4) hx hb dX2_mostAlike_89 (by decide) ?_
              exact ih4_2 _ _ _ h (lv_sub hl [2, 3, 1, 0] rfl)
            · have h := h.2 c_8
              refine lv_iload_n hx hb dX2_mostAlike_23 rfl (lv_at hl 1 rfl) ?_
              refine lv_iload_n hx hb dX2_mostAlike_24 rfl (lv_at hl 3 rfl) ?_
              refine lv_ishr hx hb dX2_mostAlike_25 ?_
              refine lv_iconst (v := 1) hx hb dX2_mostAlike_26 (by decide) ?_
              refine lv_iand hx hb dX2_mostAlike_27 ?_
              refine lv_iconst (v := 1) hx hb dX2_mostAlike_28 (by decide) ?_
              obtain ⟨J47, hJ47, h⟩ := jn1_ex h
              have kJ47_11 : ∀ (v_11 : Int32) (ls : Array Slot), J47 v_11 → lv_has ls 7 [(0, .ref a_this), (1, .int x1), (2, .int x2_1), (3, .int x3_2), (4, .int x4_5), (5, .int x5_6)] → W p l e rm_Gs_mostAlike s m args below meth c s.heap [] 0 0 QQ (F0 m 47 ls [.int v_11]) := by
                intro v_11 ls h hl
                have h := hJ47 _ h
                refine lv_istore (lv' := [(6, .int v_11), (0, .ref a_this), (1, .int x1), (2, .int x2_1), (3, .int x3_2), (4, .int x4_5), (5, .int x5_6)]) hx hb dX2_mostAlike_47 hl (by decide) rfl (fun ls hl => ?_)
                refine lv_iload hx hb dX2_mostAlike_49 (lv_at hl 0 rfl) ?_
                obtain ⟨J73, hJ73, h⟩ := jn1_ex h
                have kJ73_13 : ∀ (x4_13 : Int32) (ls : Array Slot), J73 x4_13 → lv_has ls 7 [(0, .ref a_this), (1, .int x1), (2, .int x2_1), (3, .int x3_2), (4, .int x4_13), (5, .int x5_6)] → W p l e rm_Gs_mostAlike s m args below meth c s.heap [] 0 0 QQ (F0 m 73 ls []) := by
                  intro x4_13 ls h hl
                  have h := hJ73 _ h
                  obtain ⟨x5_15, ex5_15⟩ : ∃ y : Int32, y = x5_6 + 1 := ⟨_, rfl⟩
                  have h := h x5_15 ex5_15
                  refine lv_iinc (v := x5_15) (lv' := [(5, .int x5_15), (0, .ref a_this), (1, .int x1), (2, .int x2_1), (3, .int x3_2), (4, .int x4_13)]) hx hb dX2_mostAlike_73 hl (k := 5) rfl (by rw [ex5_15]; rfl) (by decide) rfl (fun ls hl => ?_)
                  refine lv_goto (tgt := 16) hx hb dX2_mostAlike_76 (by decide) ?_
                  exact ih16_6 _ _ _ h (lv_sub hl [1, 2, 3, 4, 5, 0] rfl)
                refine lv_if_eq (tgt := 73) hx hb dX2_mostAlike_51 (by decide) (fun c_16 => ?_) (fun c_16 => ?_)
                · have h := h.1 c_16
                  exact kJ73_13 _ _ h (lv_sub hl [1, 2, 3, 4, 5, 6] rfl)
                · have h := h.2 c_16
                  refine lv_aload_n hx hb dX2_mostAlike_54 rfl (lv_at hl 1 rfl) ?_
                  refine va_get (D := D) (ci := 2) (v := .ref a_outcome) (C := RX2) (T := TX2) (N := 2) hx hb hts in_X2 hown hK hP 0 rfl rfl 1 (by decide) fl_9 (fun _ h9 => h9) rfl dX2_mostAlike_55 ?_
                  refine lv_iload_n hx hb dX2_mostAlike_58 rfl (lv_at hl 4 rfl) ?_
                  obtain ⟨hi_17, h⟩ := h
                  refine va_iald hx hb hK hP 1 1 rfl rfl hi_17 dX2_mostAlike_59 ?_
                  refine lv_aload_n hx hb dX2_mostAlike_60 rfl (lv_at hl 1 rfl) ?_
                  refine va_get (D := D) (ci := 2) (v := .ref a_outcome) (C := RX2) (T := TX2) (N := 2) hx hb hts in_X2 hown hK hP 0 rfl rfl 1 (by decide) fl_9 (fun _ h9 => h9) rfl dX2_mostAlike_61 ?_
                  refine lv_iload hx hb dX2_mostAlike_64 (lv_at hl 6 rfl) ?_
                  obtain ⟨hi_18, h⟩ := h
                  refine va_iald hx hb hK hP 1 1 rfl rfl hi_18 dX2_mostAlike_66 ?_
                  refine lv_icmp_ne (tgt := 73) hx hb dX2_mostAlike_67 (by decide) (fun c_19 => ?_) (fun c_19 => ?_)
                  · have h := h.1 c_19
                    exact kJ73_13 _ _ h (lv_sub hl [1, 2, 3, 4, 5, 6] rfl)
                  · have h := h.2 c_19
                    obtain ⟨x4_20, ex4_20⟩ : ∃ y : Int32, y = x4_5 + 1 := ⟨_, rfl⟩
                    have h := h x4_20 ex4_20
                    refine lv_iinc (v := x4_20) (lv' := [(4, .int x4_20), (6, .int v_11), (0, .ref a_this), (1, .int x1), (2, .int x2_1), (3, .int x3_2), (5, .int x5_6)]) hx hb dX2_mostAlike_70 hl (k := 5) rfl (by rw [ex4_20]; rfl) (by decide) rfl (fun ls hl => ?_)
                    exact kJ73_13 _ _ h (lv_sub hl [2, 3, 4, 5, 0, 6] rfl)
              obtain ⟨J46, hJ46, h⟩ := jn0_ex h
              have kJ46_20 : ∀  (ls : Array Slot), J46 → lv_has ls 7 [(0, .ref a_this), (1, .int x1), (2, .int x2_1), (3, .int x3_2), (4, .int x4_5), (5, .int x5_6)] → W p l e rm_Gs_mostAlike s m args below meth c s.heap [] 0 0 QQ (F0 m 46 ls []) := by
                intro  ls h hl
                have h := hJ46  h
                refine lv_iconst (v := 0) hx hb dX2_mostAlike_46 (by decide) ?_
                exact kJ47_11 _ _ h (lv_sub hl [0, 1, 2, 3, 4, 5] rfl)
              refine lv_icmp_ne (tgt := 46) hx hb dX2_mostAlike_29 (by decide) (fun c_22 => ?_) (fun c_22 => ?_)
              · have h := h.1 c_22
                exact kJ46_20  _ h (lv_sub hl [0, 1, 2, 3, 4, 5] rfl)
              · have h := h.2 c_22
                refine lv_iload_n hx hb dX2_mostAlike_32 rfl (lv_at hl 1 rfl) ?_
                refine lv_iload hx hb dX2_mostAlike_33 (lv_at hl 5 rfl) ?_
                refine lv_ishr hx hb dX2_mostAlike_35 ?_
                refine lv_iconst (v := 1) hx hb dX2_mostAlike_36 (by decide) ?_
                refine lv_iand hx hb dX2_mostAlike_37 ?_
                refine lv_iconst (v := 1) hx hb dX2_mostAlike_38 (by decide) ?_
                refine lv_icmp_ne (tgt := 46) hx hb dX2_mostAlike_39 (by decide) (fun c_23 => ?_) (fun c_23 => ?_)
                · have h := h.1 c_23
                  exact kJ46_20  _ h (lv_sub hl [0, 1, 2, 3, 4, 5] rfl)
                · have h := h.2 c_23
                  refine lv_iconst (v := 1) hx hb dX2_mostAlike_42 (by decide) ?_
                  refine lv_goto (tgt := 47) hx hb dX2_mostAlike_43 (by decide) ?_
                  exact kJ47_11 _ _ h (lv_sub hl [0, 1, 2, 3, 4, 5] rfl)
        exact kT16_6 n16_6 _ _ _ h (lv_sub hl [2, 3, 4, 5, 1, 0] rfl)
  exact kT4_2 n4_2 _ _ _ h (lv_sub hl [2, 3, 1, 0] rfl)
abbrev Wd_Gs_nextLook (cy : ClassId × ClassId × ClassId × ClassId) (a_this a_outcome a_parish a_parish_flitchStrength a_parish_notes a_parish_notes_numbers a_parish_flitchKind a_parish_flitchCell a_parish_familyKind a_parish_familySide a_parish_familyCell a_parish_familyWill a_parish_past a_parish_sightings a_parish_marks : Nat) (s_outcome : Nat → Int32) (s_parish_flitchCount : Int32) (s_parish_familyCount : Int32) (s_parish_hung : Int32) (s_parish_day : Int32) (s_parish_flitchStrength : Nat → Int32) (s_parish_notes_width : Int32) (s_parish_notes_limit : Int32) (s_parish_notes_size : Int32) (s_parish_notes_numbers : Nat → Int32) : va_W := [(a_this, .inr (2, [.ref a_parish, .ref a_outcome])), (a_outcome, .inl (cy.2.1, 6, .inl s_outcome)), (a_parish, .inr (3, [.ref a_parish_flitchKind, .ref a_parish_flitchCell, .ref a_parish_flitchStrength, .ref a_parish_familyKind, .ref a_parish_familySide, .ref a_parish_familyCell, .ref a_parish_familyWill, .ref a_parish_past, .ref a_parish_sightings, .ref a_parish_notes, .ref a_parish_marks, .int s_parish_flitchCount, .int s_parish_familyCount, .int s_parish_hung, .int s_parish_day])), (a_parish_flitchStrength, .inl (cy.2.1, 3, .inl s_parish_flitchStrength)), (a_parish_notes, .inr (5, [.int s_parish_notes_width, .int s_parish_notes_limit, .ref a_parish_notes_numbers, .int s_parish_notes_size])), (a_parish_notes_numbers, .inl (cy.2.1, 30, .inl s_parish_notes_numbers))]
abbrev rm_Gs_nextLook : Room := { frames := 3, cells := 0, slots := 0, locals := 74 }
def wp_Gs_nextLook (x1 : Int32) (s_outcome : Nat → Int32) (s_parish_flitchStrength : Nat → Int32) (s_parish_notes_width : Int32) (s_parish_notes_size : Int32) (s_parish_notes_numbers : Nat → Int32) (Q : Int32 → (Nat → Int32) → Prop) : Prop := wp_Gs_flitchKinds x1 s_parish_notes_width s_parish_notes_size s_parish_notes_numbers (fun (r_1 : Int32) => ∃ n : Nat, lpw4 (fun (B15 : Int32 → Int32 → Int32 → (Nat → Int32) → Prop) (x3_2 : Int32) (x4_3 : Int32) (x5_4 : Int32) (s_outcome_5 : Nat → Int32) => ((8 < x5_4 → Q x3_2 s_outcome_5) ∧ (¬ 8 < x5_4 → ((r_1 = 0 → Q x3_2 s_outcome_5) ∧ (¬ r_1 = 0 → ∃ n : Nat, lpw4 (fun (B29 : Int32 → Int32 → Int32 → (Nat → Int32) → Prop) (x3_9 : Int32) (x4_10 : Int32) (x6_11 : Int32) (s_outcome_12 : Nat → Int32) => ((1 < x6_11 → ∀ x5_15 : Int32, x5_15 = x5_4 + 1 → B15 x3_9 x4_10 x5_15 s_outcome_12) ∧ (¬ 1 < x6_11 → ∃ n : Nat, lpw2 (fun (B38 : Int32 → (Nat → Int32) → Prop) (x7_16 : Int32) (s_outcome_17 : Nat → Int32) => ((6 ≤ x7_16 → wp_Gs_mostAlike r_1 s_outcome_17 (fun (r_20 : Int32) => jn2 (fun (J103 : Int32 → Int32 → Prop) => ((x4_10 ≤ r_20 → J103 x3_9 x4_10) ∧ (¬ x4_10 ≤ r_20 → ∀ x3_26 : Int32, x3_26 = ((10 * x5_4) + x6_11) → J103 x3_26 r_20))) (fun (x3_21 : Int32) (x4_22 : Int32) => ∀ x6_24 : Int32, x6_24 = x6_11 + 1 → B29 x3_21 x4_22 x6_24 s_outcome_17))) ∧ (¬ 6 ≤ x7_16 → vp_in x1 3 ∧ wp_Nt_scent x7_16 (s_parish_flitchStrength (Int32.toNatClampNeg x1)) x5_4 x6_11 (fun (r_28 : Int32) => vp_in x7_16 6 ∧ ∀ s_outcome_30 : Nat → Int32, s_outcome_30 = upd s_outcome_17 (Int32.toNatClampNeg x7_16) r_28 → ∀ x7_31 : Int32, x7_31 = x7_16 + 1 → B38 x7_31 s_outcome_30)))) n 0 s_outcome_12))) n x3_2 x4_3 0 s_outcome_5))))) n (-1) 7 0 s_outcome)
set_option maxHeartbeats 4000000 in
set_option maxRecDepth 100000 in
theorem co_Gs_nextLook (l : Launch) (D : va_G) (cy : ClassId × ClassId × ClassId × ClassId) (a_this a_outcome a_parish a_parish_flitchStrength a_parish_notes a_parish_notes_numbers a_parish_flitchKind a_parish_flitchCell a_parish_familyKind a_parish_familySide a_parish_familyCell a_parish_familyWill a_parish_past a_parish_sightings a_parish_marks : Nat) (s_outcome : Nat → Int32) (s_parish_flitchCount : Int32) (s_parish_familyCount : Int32) (s_parish_hung : Int32) (s_parish_day : Int32) (s_parish_flitchStrength : Nat → Int32) (s_parish_notes_width : Int32) (s_parish_notes_limit : Int32) (s_parish_notes_size : Int32) (s_parish_notes_numbers : Nat → Int32) (x1 : Int32) (Q : Int32 → (Nat → Int32) → Prop) (h : wp_Gs_nextLook x1 s_outcome s_parish_flitchStrength s_parish_notes_width s_parish_notes_size s_parish_notes_numbers Q) : CoI l yX2_nextLook wsX2_nextLook rm_Gs_nextLook D cy [.ref a_this, .int x1] (Wd_Gs_nextLook cy a_this a_outcome a_parish a_parish_flitchStrength a_parish_notes a_parish_notes_numbers a_parish_flitchKind a_parish_flitchCell a_parish_familyKind a_parish_familySide a_parish_familyCell a_parish_familyWill a_parish_past a_parish_sightings a_parish_marks s_outcome s_parish_flitchCount s_parish_familyCount s_parish_hung s_parish_day s_parish_flitchStrength s_parish_notes_width s_parish_notes_limit s_parish_notes_size s_parish_notes_numbers) (fun u : (Nat → Int32) => (Wd_Gs_nextLook cy a_this a_outcome a_parish a_parish_flitchStrength a_parish_notes a_parish_notes_numbers a_parish_flitchKind a_parish_flitchCell a_parish_familyKind a_parish_familySide a_parish_familyCell a_parish_familyWill a_parish_past a_parish_sightings a_parish_marks u s_parish_flitchCount s_parish_familyCount s_parish_hung s_parish_day s_parish_flitchStrength s_parish_notes_width s_parish_notes_limit s_parish_notes_size s_parish_notes_numbers)) (fun (r : Int32) (u : (Nat → Int32)) => Q r u) := by
  refine st_metI (cc := cX2_nextLook) (maxL := 8) RX2 (by decide) rfl rfl (Nat.le_of_ble_eq_true rfl) ?_
  intro p e s m args below meth c A QQ ls F hA hKK hP hD hS hl hret
  have hK := hKK.1
  have hnest := hKK.2.1
  have hx := F.1
  have hb := F.2.1
  have hown := F.2.2.2.1
  have hts := F.2.2.2.2
  have in_X2 : ∀ w ∈ u_ws RX2 TX2 2, w ∈ wsX2_nextLook := (fun _ h => List.mem_cons_of_mem _ (List.mem_append_left _ (List.mem_append_left _ (List.mem_append_right _ h))))
  have in_X4 : ∀ w ∈ u_ws RX4 TX4 15, w ∈ wsX2_nextLook := (fun _ h => List.mem_cons_of_mem _ (List.mem_append_left _ (List.mem_append_right _ h)))
  have fl_9 := (hts (.fieldLink RX2 9 "RasherCase$Guesses" "outcome" "[I") (List.mem_of_getElem? (i := 1) rfl))
  have fl_15 := (hts (.fieldLink RX2 15 "RasherCase$Guesses" "parish" "LRasherCase$Parish;") (List.mem_of_getElem? (i := 2) rfl))
  have fl_59 := (hts (.fieldLink RX2 59 "RasherCase$Parish" "flitchStrength" "[I") (List.mem_of_getElem? (i := 3) rfl))
  have hl : lv_has ls 8 [(0, .ref a_this), (1, .int x1)] := hl
  unfold wp_Gs_nextLook at h
  refine lv_aload_n hx hb dX2_nextLook_0 rfl (lv_at hl 0 rfl) ?_
  refine lv_iload_n hx hb dX2_nextLook_1 rfl (lv_at hl 1 rfl) ?_
  refine st_callRI (st_runVR (n := 1) (As := [.int x1]) (rest := []) (q0 := 0) F (co_Gs_flitchKinds l D cy a_this a_parish a_parish_notes a_parish_notes_numbers a_outcome a_parish_flitchKind a_parish_flitchCell a_parish_flitchStrength a_parish_familyKind a_parish_familySide a_parish_familyCell a_parish_familyWill a_parish_past a_parish_sightings a_parish_marks s_parish_flitchCount s_parish_familyCount s_parish_hung s_parish_day s_parish_notes_width s_parish_notes_limit s_parish_notes_size s_parish_notes_numbers x1 _ h) gX2_nextLook_X2_flitchKinds rfl (by decide +kernel) rfl hKK hP [0, 2, 4, 5] rfl rfl rfl rfl hl.1 rfl (Nat.le_of_ble_eq_true rfl) dX2_nextLook_2) (fun r_1 h => ?_)
  refine lv_istore_n (lv' := [(2, .int r_1), (0, .ref a_this), (1, .int x1)]) hx hb dX2_nextLook_5 rfl hl (by decide) rfl (fun ls hl => ?_)
  refine lv_iconst (v := (-1)) hx hb dX2_nextLook_6 (by decide) ?_
  refine lv_istore_n (lv' := [(3, .int (-1)), (2, .int r_1), (0, .ref a_this), (1, .int x1)]) hx hb dX2_nextLook_7 rfl hl (by decide) rfl (fun ls hl => ?_)
  refine lv_bipush (v := 7) hx hb dX2_nextLook_8 (by decide) ?_
  refine lv_istore (lv' := [(4, .int 7), (3, .int (-1)), (2, .int r_1), (0, .ref a_this), (1, .int x1)]) hx hb dX2_nextLook_10 hl (by decide) rfl (fun ls hl => ?_)
  refine lv_iconst (v := 0) hx hb dX2_nextLook_12 (by decide) ?_
  refine lv_istore (lv' := [(5, .int 0), (4, .int 7), (3, .int (-1)), (2, .int r_1), (0, .ref a_this), (1, .int x1)]) hx hb dX2_nextLook_13 hl (by decide) rfl (fun ls hl => ?_)
  obtain ⟨T15_5, hz15_5, hs15_5, n15_5, h⟩ := lpw4_use h
  have kT15_5 : ∀ (n : Nat) (x3_2 : Int32) (x4_3 : Int32) (x5_4 : Int32) (s_outcome_5 : Nat → Int32) (H : Heap) (locs : List Loc) (ls : Array Slot), T15_5 n x3_2 x4_3 x5_4 s_outcome_5 → va_P D vwCl (Wd_Gs_nextLook cy a_this a_outcome a_parish a_parish_flitchStrength a_parish_notes a_parish_notes_numbers a_parish_flitchKind a_parish_flitchCell a_parish_familyKind a_parish_familySide a_parish_familyCell a_parish_familyWill a_parish_past a_parish_sightings a_parish_marks s_outcome_5 s_parish_flitchCount s_parish_familyCount s_parish_hung s_parish_day s_parish_flitchStrength s_parish_notes_width s_parish_notes_limit s_parish_notes_size s_parish_notes_numbers) H → va_D A (Wd_Gs_nextLook cy a_this a_outcome a_parish a_parish_flitchStrength a_parish_notes a_parish_notes_numbers a_parish_flitchKind a_parish_flitchCell a_parish_familyKind a_parish_familySide a_parish_familyCell a_parish_familyWill a_parish_past a_parish_sightings a_parish_marks s_outcome_5 s_parish_flitchCount s_parish_familyCount s_parish_hung s_parish_day s_parish_flitchStrength s_parish_notes_width s_parish_notes_limit s_parish_notes_size s_parish_notes_numbers) → va_S A s.heap H locs → lv_has ls 8 [(0, .ref a_this), (1, .int x1), (2, .int r_1), (3, .int x3_2), (4, .int x4_3), (5, .int x5_4)] → W p l e rm_Gs_nextLook s m args below meth c H locs 0 0 QQ (F0 m 15 ls []) := by
    intro n
    induction n with
    | zero => intro x3_2 x4_3 x5_4 s_outcome_5 H locs ls h; exact absurd h (hz15_5 _ _ _ _)
    | succ n ih15_5 =>
      intro x3_2 x4_3 x5_4 s_outcome_5 H locs ls h hP hD hS hl
      have h := hs15_5 _ _ _ _ _ h
      refine lv_iload hx hb dX2_nextLook_15 (lv_at hl 5 rfl) ?_
      refine lv_bipush (v := 8) hx hb dX2_nextLook_17 (by decide) ?_
      refine lv_icmp_gt (tgt := 115) hx hb dX2_nextLook_19 (by decide) (fun c_7 => ?_) (fun c_7 => ?_)
      · have h := h.1 c_7
        refine lv_iload_n hx hb dX2_nextLook_115 rfl (lv_at hl 3 rfl) ?_
        exact hret _ (s_outcome_5) _ _ _ _ h hP hD hS dX2_nextLook_116
      · have h := h.2 c_7
        refine lv_iload_n hx hb dX2_nextLook_22 rfl (lv_at hl 2 rfl) ?_
        refine lv_if_eq (tgt := 115) hx hb dX2_nextLook_23 (by decide) (fun c_8 => ?_) (fun c_8 => ?_)
        · have h := h.1 c_8
          refine lv_iload_n hx hb dX2_nextLook_115 rfl (lv_at hl 3 rfl) ?_
          exact hret _ (s_outcome_5) _ _ _ _ h hP hD hS dX2_nextLook_116
        · have h := h.2 c_8
          refine lv_iconst (v := 0) hx hb dX2_nextLook_26 (by decide) ?_
          refine lv_istore (lv' := [(6, .int 0), (0, .ref a_this), (1, .int x1), (2, .int r_1), (3, .int x3_2), (4, .int x4_3), (5, .int x5_4)]) hx hb dX2_nextLook_27 hl (by decide) rfl (fun ls hl => ?_)
          obtain ⟨T29_12, hz29_12, hs29_12, n29_12, h⟩ := lpw4_use h
          have kT29_12 : ∀ (n : Nat) (x3_9 : Int32) (x4_10 : Int32) (x6_11 : Int32) (s_outcome_12 : Nat → Int32) (H : Heap) (locs : List Loc) (ls : Array Slot), T29_12 n x3_9 x4_10 x6_11 s_outcome_12 → va_P D vwCl (Wd_Gs_nextLook cy a_this a_outcome a_parish a_parish_flitchStrength a_parish_notes a_parish_notes_numbers a_parish_flitchKind a_parish_flitchCell a_parish_familyKind a_parish_familySide a_parish_familyCell a_parish_familyWill a_parish_past a_parish_sightings a_parish_marks s_outcome_12 s_parish_flitchCount s_parish_familyCount s_parish_hung s_parish_day s_parish_flitchStrength s_parish_notes_width s_parish_notes_limit s_parish_notes_size s_parish_notes_numbers) H → va_D A (Wd_Gs_nextLook cy a_this a_outcome a_parish a_parish_flitchStrength a_parish_notes a_parish_notes_numbers a_parish_flitchKind a_parish_flitchCell a_parish_familyKind a_parish_familySide a_parish_familyCell a_parish_familyWill a_parish_past a_parish_sightings a_parish_marks s_outcome_12 s_parish_flitchCount s_parish_familyCount s_parish_hung s_parish_day s_parish_flitchStrength s_parish_notes_width s_parish_notes_limit s_parish_notes_size s_parish_notes_numbers) → va_S A s.heap H locs → lv_has ls 8 [(0, .ref a_this), (1, .int x1), (2, .int r_1), (3, .int x3_9), (4, .int x4_10), (5, .int x5_4), (6, .int x6_11)] → W p l e rm_Gs_nextLook s m args below meth c H locs 0 0 QQ (F0 m 29 ls []) := by
            intro n
            induction n with
            | zero => intro x3_9 x4_10 x6_11 s_outcome_12 H locs ls h; exact absurd h (hz29_12 _ _ _ _)
            | succ n ih29_12 =>
              intro x3_9 x4_10 x6_11 s_outcome_12 H locs ls h hP hD hS hl
              have h := hs29_12 _ _ _ _ _ h
              refine lv_iload hx hb dX2_nextLook_29 (lv_at hl 6 rfl) ?_
              refine lv_iconst (v := 1) hx hb dX2_nextLook_31 (by decide) ?_
              refine lv_icmp_gt (tgt := 109) hx hb dX2_nextLook_32 (by decide) (fun c_14 => ?_) (fun c_14 => ?_)
              · have h := h.1 c_14
                obtain ⟨x5_15, ex5_15⟩ : ∃ y : Int32, y = x5_4 + 1 := ⟨_, rfl⟩
                have h := h x5_15 ex5_15
                refine lv_iinc (v := x5_15) (lv' := [(5, .int x5_15), (0, .ref a_this), (1, .int x1), (2, .int r_1), (3, .int x3_9), (4, .int x4_10), (6, .int x6_11)]) hx hb dX2_nextLook_109 hl (k := 5) rfl (by rw [ex5_15]; rfl) (by decide) rfl (fun ls hl => ?_)
                refine lv_goto (tgt := 15) hx hb dX2_nextLook_112 (by decide) ?_
                exact ih15_5 _ _ _ _ _ _ _ h hP hD hS (lv_sub hl [1, 2, 3, 4, 5, 0] rfl)
              · have h := h.2 c_14
                refine lv_iconst (v := 0) hx hb dX2_nextLook_35 (by decide) ?_
                refine lv_istore (lv' := [(7, .int 0), (0, .ref a_this), (1, .int x1), (2, .int r_1), (3, .int x3_9), (4, .int x4_10), (5, .int x5_4), (6, .int x6_11)]) hx hb dX2_nextLook_36 hl (by decide) rfl (fun ls hl => ?_)
                obtain ⟨T38_17, hz38_17, hs38_17, n38_17, h⟩ := lpw2_use h
                have kT38_17 : ∀ (n : Nat) (x7_16 : Int32) (s_outcome_17 : Nat → Int32) (H : Heap) (locs : List Loc) (ls : Array Slot), T38_17 n x7_16 s_outcome_17 → va_P D vwCl (Wd_Gs_nextLook cy a_this a_outcome a_parish a_parish_flitchStrength a_parish_notes a_parish_notes_numbers a_parish_flitchKind a_parish_flitchCell a_parish_familyKind a_parish_familySide a_parish_familyCell a_parish_familyWill a_parish_past a_parish_sightings a_parish_marks s_outcome_17 s_parish_flitchCount s_parish_familyCount s_parish_hung s_parish_day s_parish_flitchStrength s_parish_notes_width s_parish_notes_limit s_parish_notes_size s_parish_notes_numbers) H → va_D A (Wd_Gs_nextLook cy a_this a_outcome a_parish a_parish_flitchStrength a_parish_notes a_parish_notes_numbers a_parish_flitchKind a_parish_flitchCell a_parish_familyKind a_parish_familySide a_parish_familyCell a_parish_familyWill a_parish_past a_parish_sightings a_parish_marks s_outcome_17 s_parish_flitchCount s_parish_familyCount s_parish_hung s_parish_day s_parish_flitchStrength s_parish_notes_width s_parish_notes_limit s_parish_notes_size s_parish_notes_numbers) → va_S A s.heap H locs → lv_has ls 8 [(0, .ref a_this), (1, .int x1), (2, .int r_1), (3, .int x3_9), (4, .int x4_10), (5, .int x5_4), (6, .int x6_11), (7, .int x7_16)] → W p l e rm_Gs_nextLook s m args below meth c H locs 0 0 QQ (F0 m 38 ls []) := by
                  intro n
                  induction n with
                  | zero => intro x7_16 s_outcome_17 H locs ls h; exact absurd h (hz38_17 _ _)
                  | succ n ih38_17 =>
                    intro x7_16 s_outcome_17 H locs ls h hP hD hS hl
                    have h := hs38_17 _ _ _ h
                    refine lv_iload hx hb dX2_nextLook_38 (lv_at hl 7 rfl) ?_
                    refine lv_bipush (v := 6) hx hb dX2_nextLook_40 (by decide) ?_
                    refine lv_icmp_ge (tgt := 76) hx hb dX2_nextLook_42 (by decide) (fun c_19 => ?_) (fun c_19 => ?_)
                    · have h := h.1 c_19
                      refine lv_aload_n hx hb dX2_nextLook_76 rfl (lv_at hl 0 rfl) ?_
                      refine lv_iload_n hx hb dX2_nextLook_77 rfl (lv_at hl 2 rfl) ?_
                      refine st_callRI (st_runVR (n := 1) (As := [.int r_1]) (rest := []) (q0 := 0) F (co_Gs_mostAlike l D cy a_this a_outcome a_parish s_outcome_17 r_1 _ h) gX2_nextLook_X2_mostAlike rfl (by decide +kernel) rfl hKK hP [0, 1] rfl rfl rfl rfl hl.1 rfl (Nat.le_of_ble_eq_true rfl) dX2_nextLook_78) (fun r_20 h => ?_)
                      refine lv_istore (lv' := [(7, .int r_20), (0, .ref a_this), (1, .int x1), (2, .int r_1), (3, .int x3_9), (4, .int x4_10), (5, .int x5_4), (6, .int x6_11)]) hx hb dX2_nextLook_81 hl (by decide) rfl (fun ls hl => ?_)
                      refine lv_iload hx hb dX2_nextLook_83 (lv_at hl 0 rfl) ?_
                      refine lv_iload hx hb dX2_nextLook_85 (lv_at hl 5 rfl) ?_
                      obtain ⟨J103, hJ103, h⟩ := jn2_ex h
                      have kJ103_22 : ∀ (x3_21 : Int32) (x4_22 : Int32) (H : Heap) (locs : List Loc) (ls : Array Slot), J103 x3_21 x4_22 → va_P D vwCl (Wd_Gs_nextLook cy a_this a_outcome a_parish a_parish_flitchStrength a_parish_notes a_parish_notes_numbers a_parish_flitchKind a_parish_flitchCell a_parish_familyKind a_parish_familySide a_parish_familyCell a_parish_familyWill a_parish_past a_parish_sightings a_parish_marks s_outcome_17 s_parish_flitchCount s_parish_familyCount s_parish_hung s_parish_day s_parish_flitchStrength s_parish_notes_width s_parish_notes_limit s_parish_notes_size s_parish_notes_numbers) H → va_D A (Wd_Gs_nextLook cy a_this a_outcome a_parish a_parish_flitchStrength a_parish_notes a_parish_notes_numbers a_parish_flitchKind a_parish_flitchCell a_parish_familyKind a_parish_familySide a_parish_familyCell a_parish_familyWill a_parish_past a_parish_sightings a_parish_marks s_outcome_17 s_parish_flitchCount s_parish_familyCount s_parish_hung s_parish_day s_parish_flitchStrength s_parish_notes_width s_parish_notes_limit s_parish_notes_size s_parish_notes_numbers) → va_S A s.heap H locs → lv_has ls 8 [(0, .ref a_this), (1, .int x1), (2, .int r_1), (3, .int x3_21), (4, .int x4_22), (5, .int x5_4), (6, .int x6_11)] → W p l e rm_Gs_nextLook s m args below meth c H locs 0 0 QQ (F0 m 103 ls []) := by
                        intro x3_21 x4_22 H locs ls h hP hD hS hl
                        have h := hJ103 _ _ h
                        obtain ⟨x6_24, ex6_24⟩ : ∃ y : Int32, y = x6_11 + 1 := ⟨_, rfl⟩
                        have h := h x6_24 ex6_24
                        refine lv_iinc (v := x6_24) (lv' := [(6, .int x6_24), (0, .ref a_this), (1, .int x1), (2, .int r_1), (3, .int x3_21), (4, .int x4_22), (5, .int x5_4)]) hx hb dX2_nextLook_103 hl (k := 6) rfl (by rw [ex6_24]; rfl) (by decide) rfl (fun ls hl => ?_)
                        refine lv_goto (tgt := 29) hx hb dX2_nextLook_106 (by decide) ?_
                        exact ih29_12 _ _ _ _ _ _ _ h hP hD hS (lv_sub hl [1, 2, 3, 4, 5, 6, 0] rfl)
                      refine lv_icmp_ge (tgt := 103) hx hb dX2_nextLook_87 (by decide) (fun c_25 => ?_) (fun c_25 => ?_)
                      · have h := h.1 c_25
                        exact kJ103_22 _ _ _ _ _ h hP hD hS (lv_sub hl [1, 2, 3, 4, 5, 6, 7] rfl)
                      · have h := h.2 c_25
                        refine lv_iload hx hb dX2_nextLook_90 (lv_at hl 0 rfl) ?_
                        refine lv_istore (lv' := [(4, .int r_20), (7, .int r_20), (0, .ref a_this), (1, .int x1), (2, .int r_1), (3, .int x3_9), (5, .int x5_4), (6, .int x6_11)]) hx hb dX2_nextLook_92 hl (by decide) rfl (fun ls hl => ?_)
                        refine lv_bipush (v := 10) hx hb dX2_nextLook_94 (by decide) ?_
                        refine lv_iload hx hb dX2_nextLook_96 (lv_at hl 6 rfl) ?_
                        refine lv_imul hx hb dX2_nextLook_98 ?_
                        refine lv_iload hx hb dX2_nextLook_99 (lv_at hl 7 rfl) ?_
                        refine lv_iadd hx hb dX2_nextLook_101 ?_
                        refine lv_topi (fun x3_26 ex3_26 => ?_)
                        have h := h x3_26 ex3_26
                        refine lv_istore_n (lv' := [(3, .int x3_26), (4, .int r_20), (7, .int r_20), (0, .ref a_this), (1, .int x1), (2, .int r_1), (5, .int x5_4), (6, .int x6_11)]) hx hb dX2_nextLook_102 rfl hl (by decide) rfl (fun ls hl => ?_)
                        exact kJ103_22 _ _ _ _ _ h hP hD hS (lv_sub hl [3, 4, 5, 0, 1, 6, 7] rfl)
                    · have h := h.2 c_19
                      refine lv_aload_n hx hb dX2_nextLook_45 rfl (lv_at hl 0 rfl) ?_
                      refine va_get (D := D) (ci := 2) (v := .ref a_outcome) (C := RX2) (T := TX2) (N := 2) hx hb hts in_X2 hown hK hP 0 rfl rfl 1 (by decide) fl_9 (fun _ h9 => h9) rfl dX2_nextLook_46 ?_
                      refine lv_iload hx hb dX2_nextLook_49 (lv_at hl 7 rfl) ?_
                      refine lv_iload hx hb dX2_nextLook_51 (lv_at hl 7 rfl) ?_
                      refine lv_aload_n hx hb dX2_nextLook_53 rfl (lv_at hl 0 rfl) ?_
                      refine va_get (D := D) (ci := 2) (v := .ref a_parish) (C := RX2) (T := TX2) (N := 2) hx hb hts in_X2 hown hK hP 0 rfl rfl 0 (by decide) fl_15 (fun _ h9 => h9) rfl dX2_nextLook_54 ?_
                      refine va_get (D := D) (ci := 3) (v := .ref a_parish_flitchStrength) (C := RX4) (T := TX4) (N := 15) hx hb hts in_X4 hown hK hP 2 rfl rfl 2 (by decide) fl_59 (fun _ h9 => h9) rfl dX2_nextLook_57 ?_
                      refine lv_iload_n hx hb dX2_nextLook_60 rfl (lv_at hl 1 rfl) ?_
                      obtain ⟨hi_27, h⟩ := h
                      refine va_iald hx hb hK hP 3 1 rfl rfl hi_27 dX2_nextLook_61 ?_
                      refine lv_iload hx hb dX2_nextLook_62 (lv_at hl 5 rfl) ?_
                      refine lv_iload hx hb dX2_nextLook_64 (lv_at hl 6 rfl) ?_
                      refine st_callRI (st_runSR (n := 4) (As := [.int x7_16, .int (s_parish_flitchStrength (Int32.toNatClampNeg x1)), .int x5_4, .int x6_11]) (rest := [.int x7_16, .ref a_outcome]) F (co_Nt_scent l D cy x7_16 (s_parish_flitchStrength (Int32.toNatClampNeg x1)) x5_4 x6_11 _ h) gX2_nextLook_X3_scent rfl (by decide +kernel) rfl hKK hP [] rfl rfl hl.1 rfl (Nat.le_of_ble_eq_true rfl) dX2_nextLook_66) (fun r_28 h => ?_)
                      obtain ⟨hi_29, h⟩ := h
                      refine va_iast hx hb hK hP hD hS 1 1 rfl rfl hi_29 dX2_nextLook_69 (fun H locs hP hD hS => ?_)
                      obtain ⟨s_outcome_30, es_outcome_30⟩ : ∃ f : Nat → Int32, f = upd s_outcome_17 (Int32.toNatClampNeg x7_16) r_28 := ⟨_, rfl⟩
                      have hP : va_P D vwCl (Wd_Gs_nextLook cy a_this a_outcome a_parish a_parish_flitchStrength a_parish_notes a_parish_notes_numbers a_parish_flitchKind a_parish_flitchCell a_parish_familyKind a_parish_familySide a_parish_familyCell a_parish_familyWill a_parish_past a_parish_sightings a_parish_marks s_outcome_30 s_parish_flitchCount s_parish_familyCount s_parish_hung s_parish_day s_parish_flitchStrength s_parish_notes_width s_parish_notes_limit s_parish_notes_size s_parish_notes_numbers) H := by rw [es_outcome_30]; exact hP
                      have hD : va_D A (Wd_Gs_nextLook cy a_this a_outcome a_parish a_parish_flitchStrength a_parish_notes a_parish_notes_numbers a_parish_flitchKind a_parish_flitchCell a_parish_familyKind a_parish_familySide a_parish_familyCell a_parish_familyWill a_parish_past a_parish_sightings a_parish_marks s_outcome_30 s_parish_flitchCount s_parish_familyCount s_parish_hung s_parish_day s_parish_flitchStrength s_parish_notes_width s_parish_notes_limit s_parish_notes_size s_parish_notes_numbers) := by rw [es_outcome_30]; exact hD
                      have h := h s_outcome_30 es_outcome_30
                      obtain ⟨x7_31, ex7_31⟩ : ∃ y : Int32, y = x7_16 + 1 := ⟨_, rfl⟩
                      have h := h x7_31 ex7_31
                      refine lv_iinc (v := x7_31) (lv' := [(7, .int x7_31), (0, .ref a_this), (1, .int x1), (2, .int r_1), (3, .int x3_9), (4, .int x4_10), (5, .int x5_4), (6, .int x6_11)]) hx hb dX2_nextLook_70 hl (k := 7) rfl (by rw [ex7_31]; rfl) (by decide) rfl (fun ls hl => ?_)
                      refine lv_goto (tgt := 38) hx hb dX2_nextLook_73 (by decide) ?_
                      exact ih38_17 _ _ _ _ _ h hP hD hS (lv_sub hl [1, 2, 3, 4, 5, 6, 7, 0] rfl)
                exact kT38_17 n38_17 _ _ _ _ _ h hP hD hS (lv_sub hl [1, 2, 3, 4, 5, 6, 7, 0] rfl)
          exact kT29_12 n29_12 _ _ _ _ _ _ _ h hP hD hS (lv_sub hl [1, 2, 3, 4, 5, 6, 0] rfl)
  exact kT15_5 n15_5 _ _ _ _ _ _ _ h hP hD hS (lv_sub hl [4, 5, 3, 2, 1, 0] rfl)
abbrev Wd_Gs_nextAsk (cy : ClassId × ClassId × ClassId × ClassId) (a_this a_outcome a_parish a_parish_marks a_parish_marks_numbers a_parish_flitchKind a_parish_flitchCell a_parish_flitchStrength a_parish_familyKind a_parish_familySide a_parish_familyCell a_parish_familyWill a_parish_past a_parish_sightings a_parish_notes : Nat) (s_outcome : Nat → Int32) (s_parish_flitchCount : Int32) (s_parish_familyCount : Int32) (s_parish_hung : Int32) (s_parish_day : Int32) (s_parish_marks_width : Int32) (s_parish_marks_limit : Int32) (s_parish_marks_size : Int32) (s_parish_marks_numbers : Nat → Int32) : va_W := [(a_this, .inr (2, [.ref a_parish, .ref a_outcome])), (a_outcome, .inl (cy.2.1, 6, .inl s_outcome)), (a_parish, .inr (3, [.ref a_parish_flitchKind, .ref a_parish_flitchCell, .ref a_parish_flitchStrength, .ref a_parish_familyKind, .ref a_parish_familySide, .ref a_parish_familyCell, .ref a_parish_familyWill, .ref a_parish_past, .ref a_parish_sightings, .ref a_parish_notes, .ref a_parish_marks, .int s_parish_flitchCount, .int s_parish_familyCount, .int s_parish_hung, .int s_parish_day])), (a_parish_marks, .inr (5, [.int s_parish_marks_width, .int s_parish_marks_limit, .ref a_parish_marks_numbers, .int s_parish_marks_size])), (a_parish_marks_numbers, .inl (cy.2.1, 24, .inl s_parish_marks_numbers))]
abbrev rm_Gs_nextAsk : Room := { frames := 4, cells := 0, slots := 0, locals := 121 }
def wp_Gs_nextAsk (x1 : Int32) (s_outcome : Nat → Int32) (s_parish_marks_width : Int32) (s_parish_marks_size : Int32) (s_parish_marks_numbers : Nat → Int32) (Q : Int32 → (Nat → Int32) → Prop) : Prop := wp_Gs_familyKinds x1 s_parish_marks_width s_parish_marks_size s_parish_marks_numbers (fun (r_1 : Int32) => ∃ n : Nat, lpw4 (fun (B15 : Int32 → Int32 → Int32 → (Nat → Int32) → Prop) (x3_2 : Int32) (x4_3 : Int32) (x5_4 : Int32) (s_outcome_5 : Nat → Int32) => ((1 < x5_4 → Q x3_2 s_outcome_5) ∧ (¬ 1 < x5_4 → ((r_1 = 0 → Q x3_2 s_outcome_5) ∧ (¬ r_1 = 0 → ∃ n : Nat, lpw4 (fun (B28 : Int32 → Int32 → Int32 → (Nat → Int32) → Prop) (x3_9 : Int32) (x4_10 : Int32) (x6_11 : Int32) (s_outcome_12 : Nat → Int32) => ((60 < x6_11 → ∀ x5_15 : Int32, x5_15 = x5_4 + 1 → B15 x3_9 x4_10 x5_15 s_outcome_12) ∧ (¬ 60 < x6_11 → ∃ n : Nat, lpw2 (fun (B38 : Int32 → (Nat → Int32) → Prop) (x7_16 : Int32) (s_outcome_17 : Nat → Int32) => ((6 ≤ x7_16 → wp_Gs_mostAlike r_1 s_outcome_17 (fun (r_20 : Int32) => jn2 (fun (J94 : Int32 → Int32 → Prop) => ((x4_10 ≤ r_20 → J94 x3_9 x4_10) ∧ (¬ x4_10 ≤ r_20 → ∀ x3_26 : Int32, x3_26 = ((100 * x5_4) + x6_11) → J94 x3_26 r_20))) (fun (x3_21 : Int32) (x4_22 : Int32) => ∀ x6_24 : Int32, x6_24 = x6_11 + 1 → B28 x3_21 x4_22 x6_24 s_outcome_17))) ∧ (¬ 6 ≤ x7_16 → wp_Nt_loss x7_16 x6_11 x5_4 (fun (r_27 : Int32) => vp_in x7_16 6 ∧ ∀ s_outcome_29 : Nat → Int32, s_outcome_29 = upd s_outcome_17 (Int32.toNatClampNeg x7_16) r_27 → ∀ x7_30 : Int32, x7_30 = x7_16 + 1 → B38 x7_30 s_outcome_29)))) n 0 s_outcome_12))) n x3_2 x4_3 0 s_outcome_5))))) n (-1) 7 0 s_outcome)
set_option maxHeartbeats 4000000 in
set_option maxRecDepth 100000 in
theorem co_Gs_nextAsk (l : Launch) (D : va_G) (cy : ClassId × ClassId × ClassId × ClassId) (a_this a_outcome a_parish a_parish_marks a_parish_marks_numbers a_parish_flitchKind a_parish_flitchCell a_parish_flitchStrength a_parish_familyKind a_parish_familySide a_parish_familyCell a_parish_familyWill a_parish_past a_parish_sightings a_parish_notes : Nat) (s_outcome : Nat → Int32) (s_parish_flitchCount : Int32) (s_parish_familyCount : Int32) (s_parish_hung : Int32) (s_parish_day : Int32) (s_parish_marks_width : Int32) (s_parish_marks_limit : Int32) (s_parish_marks_size : Int32) (s_parish_marks_numbers : Nat → Int32) (x1 : Int32) (Q : Int32 → (Nat → Int32) → Prop) (h : wp_Gs_nextAsk x1 s_outcome s_parish_marks_width s_parish_marks_size s_parish_marks_numbers Q) : CoI l yX2_nextAsk wsX2_nextAsk rm_Gs_nextAsk D cy [.ref a_this, .int x1] (Wd_Gs_nextAsk cy a_this a_outcome a_parish a_parish_marks a_parish_marks_numbers a_parish_flitchKind a_parish_flitchCell a_parish_flitchStrength a_parish_familyKind a_parish_familySide a_parish_familyCell a_parish_familyWill a_parish_past a_parish_sightings a_parish_notes s_outcome s_parish_flitchCount s_parish_familyCount s_parish_hung s_parish_day s_parish_marks_width s_parish_marks_limit s_parish_marks_size s_parish_marks_numbers) (fun u : (Nat → Int32) => (Wd_Gs_nextAsk cy a_this a_outcome a_parish a_parish_marks a_parish_marks_numbers a_parish_flitchKind a_parish_flitchCell a_parish_flitchStrength a_parish_familyKind a_parish_familySide a_parish_familyCell a_parish_familyWill a_parish_past a_parish_sightings a_parish_notes u s_parish_flitchCount s_parish_familyCount s_parish_hung s_parish_day s_parish_marks_width s_parish_marks_limit s_parish_marks_size s_parish_marks_numbers)) (fun (r : Int32) (u : (Nat → Int32)) => Q r u) := by
  refine st_metI (cc := cX2_nextAsk) (maxL := 8) RX2 (by decide) rfl rfl (Nat.le_of_ble_eq_true rfl) ?_
  intro p e s m args below meth c A QQ ls F hA hKK hP hD hS hl hret
  have hK := hKK.1
  have hnest := hKK.2.1
  have hx := F.1
  have hb := F.2.1
  have hown := F.2.2.2.1
  have hts := F.2.2.2.2
  have in_X2 : ∀ w ∈ u_ws RX2 TX2 2, w ∈ wsX2_nextAsk := (fun _ h => List.mem_cons_of_mem _ (List.mem_append_left _ (List.mem_append_left _ (List.mem_append_right _ h))))
  have fl_9 := (hts (.fieldLink RX2 9 "RasherCase$Guesses" "outcome" "[I") (List.mem_of_getElem? (i := 1) rfl))
  have hl : lv_has ls 8 [(0, .ref a_this), (1, .int x1)] := hl
  unfold wp_Gs_nextAsk at h
  refine lv_aload_n hx hb dX2_nextAsk_0 rfl (lv_at hl 0 rfl) ?_
  refine lv_iload_n hx hb dX2_nextAsk_1 rfl (lv_at hl 1 rfl) ?_
  refine st_callRI (st_runVR (n := 1) (As := [.int x1]) (rest := []) (q0 := 0) F (co_Gs_familyKinds l D cy a_this a_parish a_parish_marks a_parish_marks_numbers a_outcome a_parish_flitchKind a_parish_flitchCell a_parish_flitchStrength a_parish_familyKind a_parish_familySide a_parish_familyCell a_parish_familyWill a_parish_past a_parish_sightings a_parish_notes s_parish_flitchCount s_parish_familyCount s_parish_hung s_parish_day s_parish_marks_width s_parish_marks_limit s_parish_marks_size s_parish_marks_numbers x1 _ h) gX2_nextAsk_X2_familyKinds rfl (by decide +kernel) rfl hKK hP [0, 2, 3, 4] rfl rfl rfl rfl hl.1 rfl (Nat.le_of_ble_eq_true rfl) dX2_nextAsk_2) (fun r_1 h => ?_)
  refine lv_istore_n (lv' := [(2, .int r_1), (0, .ref a_this), (1, .int x1)]) hx hb dX2_nextAsk_5 rfl hl (by decide) rfl (fun ls hl => ?_)
  refine lv_iconst (v := (-1)) hx hb dX2_nextAsk_6 (by decide) ?_
  refine lv_istore_n (lv' := [(3, .int (-1)), (2, .int r_1), (0, .ref a_this), (1, .int x1)]) hx hb dX2_nextAsk_7 rfl hl (by decide) rfl (fun ls hl => ?_)
  refine lv_bipush (v := 7) hx hb dX2_nextAsk_8 (by decide) ?_
  refine lv_istore (lv' := [(4, .int 7), (3, .int (-1)), (2, .int r_1), (0, .ref a_this), (1, .int x1)]) hx hb dX2_nextAsk_10 hl (by decide) rfl (fun ls hl => ?_)
  refine lv_iconst (v := 0) hx hb dX2_nextAsk_12 (by decide) ?_
  refine lv_istore (lv' := [(5, .int 0), (4, .int 7), (3, .int (-1)), (2, .int r_1), (0, .ref a_this), (1, .int x1)]) hx hb dX2_nextAsk_13 hl (by decide) rfl (fun ls hl => ?_)
  obtain ⟨T15_5, hz15_5, hs15_5, n15_5, h⟩ := lpw4_use h
  have kT15_5 : ∀ (n : Nat) (x3_2 : Int32) (x4_3 : Int32) (x5_4 : Int32) (s_outcome_5 : Nat → Int32) (H : Heap) (locs : List Loc) (ls : Array Slot), T15_5 n x3_2 x4_3 x5_4 s_outcome_5 → va_P D vwCl (Wd_Gs_nextAsk cy a_this a_outcome a_parish a_parish_marks a_parish_marks_numbers a_parish_flitchKind a_parish_flitchCell a_parish_flitchStrength a_parish_familyKind a_parish_familySide a_parish_familyCell a_parish_familyWill a_parish_past a_parish_sightings a_parish_notes s_outcome_5 s_parish_flitchCount s_parish_familyCount s_parish_hung s_parish_day s_parish_marks_width s_parish_marks_limit s_parish_marks_size s_parish_marks_numbers) H → va_D A (Wd_Gs_nextAsk cy a_this a_outcome a_parish a_parish_marks a_parish_marks_numbers a_parish_flitchKind a_parish_flitchCell a_parish_flitchStrength a_parish_familyKind a_parish_familySide a_parish_familyCell a_parish_familyWill a_parish_past a_parish_sightings a_parish_notes s_outcome_5 s_parish_flitchCount s_parish_familyCount s_parish_hung s_parish_day s_parish_marks_width s_parish_marks_limit s_parish_marks_size s_parish_marks_numbers) → va_S A s.heap H locs → lv_has ls 8 [(0, .ref a_this), (2, .int r_1), (3, .int x3_2), (4, .int x4_3), (5, .int x5_4)] → W p l e rm_Gs_nextAsk s m args below meth c H locs 0 0 QQ (F0 m 15 ls []) := by
    intro n
    induction n with
    | zero => intro x3_2 x4_3 x5_4 s_outcome_5 H locs ls h; exact absurd h (hz15_5 _ _ _ _)
    | succ n ih15_5 =>
      intro x3_2 x4_3 x5_4 s_outcome_5 H locs ls h hP hD hS hl
      have h := hs15_5 _ _ _ _ _ h
      refine lv_iload hx hb dX2_nextAsk_15 (lv_at hl 4 rfl) ?_
      refine lv_iconst (v := 1) hx hb dX2_nextAsk_17 (by decide) ?_
      refine lv_icmp_gt (tgt := 106) hx hb dX2_nextAsk_18 (by decide) (fun c_7 => ?_) (fun c_7 => ?_)
      · have h := h.1 c_7
        refine lv_iload_n hx hb dX2_nextAsk_106 rfl (lv_at hl 2 rfl) ?_
        exact hret _ (s_outcome_5) _ _ _ _ h hP hD hS dX2_nextAsk_107
      · have h := h.2 c_7
        refine lv_iload_n hx hb dX2_nextAsk_21 rfl (lv_at hl 1 rfl) ?_
        refine lv_if_eq (tgt := 106) hx hb dX2_nextAsk_22 (by decide) (fun c_8 => ?_) (fun c_8 => ?_)
        · have h := h.1 c_8
          refine lv_iload_n hx hb dX2_nextAsk_106 rfl (lv_at hl 2 rfl) ?_
          exact hret _ (s_outcome_5) _ _ _ _ h hP hD hS dX2_nextAsk_107
        · have h := h.2 c_8
          refine lv_iconst (v := 0) hx hb dX2_nextAsk_25 (by decide) ?_
          refine lv_istore (lv' := [(6, .int 0), (0, .ref a_this), (2, .int r_1), (3, .int x3_2), (4, .int x4_3), (5, .int x5_4)]) hx hb dX2_nextAsk_26 hl (by decide) rfl (fun ls hl => ?_)
          obtain ⟨T28_12, hz28_12, hs28_12, n28_12, h⟩ := lpw4_use h
          have kT28_12 : ∀ (n : Nat) (x3_9 : Int32) (x4_10 : Int32) (x6_11 : Int32) (s_outcome_12 : Nat → Int32) (H : Heap) (locs : List Loc) (ls : Array Slot), T28_12 n x3_9 x4_10 x6_11 s_outcome_12 → va_P D vwCl (Wd_Gs_nextAsk cy a_this a_outcome a_parish a_parish_marks a_parish_marks_numbers a_parish_flitchKind a_parish_flitchCell a_parish_flitchStrength a_parish_familyKind a_parish_familySide a_parish_familyCell a_parish_familyWill a_parish_past a_parish_sightings a_parish_notes s_outcome_12 s_parish_flitchCount s_parish_familyCount s_parish_hung s_parish_day s_parish_marks_width s_parish_marks_limit s_parish_marks_size s_parish_marks_numbers) H → va_D A (Wd_Gs_nextAsk cy a_this a_outcome a_parish a_parish_marks a_parish_marks_numbers a_parish_flitchKind a_parish_flitchCell a_parish_flitchStrength a_parish_familyKind a_parish_familySide a_parish_familyCell a_parish_familyWill a_parish_past a_parish_sightings a_parish_notes s_outcome_12 s_parish_flitchCount s_parish_familyCount s_parish_hung s_parish_day s_parish_marks_width s_parish_marks_limit s_parish_marks_size s_parish_marks_numbers) → va_S A s.heap H locs → lv_has ls 8 [(0, .ref a_this), (2, .int r_1), (3, .int x3_9), (4, .int x4_10), (5, .int x5_4), (6, .int x6_11)] → W p l e rm_Gs_nextAsk s m args below meth c H locs 0 0 QQ (F0 m 28 ls []) := by
            intro n
            induction n with
            | zero => intro x3_9 x4_10 x6_11 s_outcome_12 H locs ls h; exact absurd h (hz28_12 _ _ _ _)
            | succ n ih28_12 =>
              intro x3_9 x4_10 x6_11 s_outcome_12 H locs ls h hP hD hS hl
              have h := hs28_12 _ _ _ _ _ h
              refine lv_iload hx hb dX2_nextAsk_28 (lv_at hl 5 rfl) ?_
              refine lv_bipush (v := 60) hx hb dX2_nextAsk_30 (by decide) ?_
              refine lv_icmp_gt (tgt := 100) hx hb dX2_nextAsk_32 (by decide) (fun c_14 => ?_) (fun c_14 => ?_)
              · have h := h.1 c_14
                obtain ⟨x5_15, ex5_15⟩ : ∃ y : Int32, y = x5_4 + 1 := ⟨_, rfl⟩
                have h := h x5_15 ex5_15
                refine lv_iinc (v := x5_15) (lv' := [(5, .int x5_15), (0, .ref a_this), (2, .int r_1), (3, .int x3_9), (4, .int x4_10), (6, .int x6_11)]) hx hb dX2_nextAsk_100 hl (k := 4) rfl (by rw [ex5_15]; rfl) (by decide) rfl (fun ls hl => ?_)
                refine lv_goto (tgt := 15) hx hb dX2_nextAsk_103 (by decide) ?_
                exact ih15_5 _ _ _ _ _ _ _ h hP hD hS (lv_sub hl [1, 2, 3, 4, 0] rfl)
              · have h := h.2 c_14
                refine lv_iconst (v := 0) hx hb dX2_nextAsk_35 (by decide) ?_
                refine lv_istore (lv' := [(7, .int 0), (0, .ref a_this), (2, .int r_1), (3, .int x3_9), (4, .int x4_10), (5, .int x5_4), (6, .int x6_11)]) hx hb dX2_nextAsk_36 hl (by decide) rfl (fun ls hl => ?_)
                obtain ⟨T38_17, hz38_17, hs38_17, n38_17, h⟩ := lpw2_use h
                have kT38_17 : ∀ (n : Nat) (x7_16 : Int32) (s_outcome_17 : Nat → Int32) (H : Heap) (locs : List Loc) (ls : Array Slot), T38_17 n x7_16 s_outcome_17 → va_P D vwCl (Wd_Gs_nextAsk cy a_this a_outcome a_parish a_parish_marks a_parish_marks_numbers a_parish_flitchKind a_parish_flitchCell a_parish_flitchStrength a_parish_familyKind a_parish_familySide a_parish_familyCell a_parish_familyWill a_parish_past a_parish_sightings a_parish_notes s_outcome_17 s_parish_flitchCount s_parish_familyCount s_parish_hung s_parish_day s_parish_marks_width s_parish_marks_limit s_parish_marks_size s_parish_marks_numbers) H → va_D A (Wd_Gs_nextAsk cy a_this a_outcome a_parish a_parish_marks a_parish_marks_numbers a_parish_flitchKind a_parish_flitchCell a_parish_flitchStrength a_parish_familyKind a_parish_familySide a_parish_familyCell a_parish_familyWill a_parish_past a_parish_sightings a_parish_notes s_outcome_17 s_parish_flitchCount s_parish_familyCount s_parish_hung s_parish_day s_parish_marks_width s_parish_marks_limit s_parish_marks_size s_parish_marks_numbers) → va_S A s.heap H locs → lv_has ls 8 [(0, .ref a_this), (2, .int r_1), (3, .int x3_9), (4, .int x4_10), (5, .int x5_4), (6, .int x6_11), (7, .int x7_16)] → W p l e rm_Gs_nextAsk s m args below meth c H locs 0 0 QQ (F0 m 38 ls []) := by
                  intro n
                  induction n with
                  | zero => intro x7_16 s_outcome_17 H locs ls h; exact absurd h (hz38_17 _ _)
                  | succ n ih38_17 =>
                    intro x7_16 s_outcome_17 H locs ls h hP hD hS hl
                    have h := hs38_17 _ _ _ h
                    refine lv_iload hx hb dX2_nextAsk_38 (lv_at hl 6 rfl) ?_
                    refine lv_bipush (v := 6) hx hb dX2_nextAsk_40 (by decide) ?_
                    refine lv_icmp_ge (tgt := 67) hx hb dX2_nextAsk_42 (by decide) (fun c_19 => ?_) (fun c_19 => ?_)
                    · have h := h.1 c_19
                      refine lv_aload_n hx hb dX2_nextAsk_67 rfl (lv_at hl 0 rfl) ?_
                      refine lv_iload_n hx hb dX2_nextAsk_68 rfl (lv_at hl 1 rfl) ?_
                      refine st_callRI (st_runVR (n := 1) (As := [.int r_1]) (rest := []) (q0 := 0) F (co_Gs_mostAlike l D cy a_this a_outcome a_parish s_outcome_17 r_1 _ h) gX2_nextAsk_X2_mostAlike rfl (by decide +kernel) rfl hKK hP [0, 1] rfl rfl rfl rfl hl.1 rfl (Nat.le_of_ble_eq_true rfl) dX2_nextAsk_69) (fun r_20 h => ?_)
                      refine lv_istore (lv' := [(7, .int r_20), (0, .ref a_this), (2, .int r_1), (3, .int x3_9), (4, .int x4_10), (5, .int x5_4), (6, .int x6_11)]) hx hb dX2_nextAsk_72 hl (by decide) rfl (fun ls hl => ?_)
                      refine lv_iload hx hb dX2_nextAsk_74 (lv_at hl 0 rfl) ?_
                      refine lv_iload hx hb dX2_nextAsk_76 (lv_at hl 4 rfl) ?_
                      obtain ⟨J94, hJ94, h⟩ := jn2_ex h
                      have kJ94_22 : ∀ (x3_21 : Int32) (x4_22 : Int32) (H : Heap) (locs : List Loc) (ls : Array Slot), J94 x3_21 x4_22 → va_P D vwCl (Wd_Gs_nextAsk cy a_this a_outcome a_parish a_parish_marks a_parish_marks_numbers a_parish_flitchKind a_parish_flitchCell a_parish_flitchStrength a_parish_familyKind a_parish_familySide a_parish_familyCell a_parish_familyWill a_parish_past a_parish_sightings a_parish_notes s_outcome_17 s_parish_flitchCount s_parish_familyCount s_parish_hung s_parish_day s_parish_marks_width s_parish_marks_limit s_parish_marks_size s_parish_marks_numbers) H → va_D A (Wd_Gs_nextAsk cy a_this a_outcome a_parish a_parish_marks a_parish_marks_numbers a_parish_flitchKind a_parish_flitchCell a_parish_flitchStrength a_parish_familyKind a_parish_familySide a_parish_familyCell a_parish_familyWill a_parish_past a_parish_sightings a_parish_notes s_outcome_17 s_parish_flitchCount s_parish_familyCount s_parish_hung s_parish_day s_parish_marks_width s_parish_marks_limit s_parish_marks_size s_parish_marks_numbers) → va_S A s.heap H locs → lv_has ls 8 [(0, .ref a_this), (2, .int r_1), (3, .int x3_21), (4, .int x4_22), (5, .int x5_4), (6, .int x6_11)] → W p l e rm_Gs_nextAsk s m args below meth c H locs 0 0 QQ (F0 m 94 ls []) := by
                        intro x3_21 x4_22 H locs ls h hP hD hS hl
                        have h := hJ94 _ _ h
                        obtain ⟨x6_24, ex6_24⟩ : ∃ y : Int32, y = x6_11 + 1 := ⟨_, rfl⟩
                        have h := h x6_24 ex6_24
                        refine lv_iinc (v := x6_24) (lv' := [(6, .int x6_24), (0, .ref a_this), (2, .int r_1), (3, .int x3_21), (4, .int x4_22), (5, .int x5_4)]) hx hb dX2_nextAsk_94 hl (k := 5) rfl (by rw [ex6_24]; rfl) (by decide) rfl (fun ls hl => ?_)
                        refine lv_goto (tgt := 28) hx hb dX2_nextAsk_97 (by decide) ?_
                        exact ih28_12 _ _ _ _ _ _ _ h hP hD hS (lv_sub hl [1, 2, 3, 4, 5, 0] rfl)
                      refine lv_icmp_ge (tgt := 94) hx hb dX2_nextAsk_78 (by decide) (fun c_25 => ?_) (fun c_25 => ?_)
                      · have h := h.1 c_25
                        exact kJ94_22 _ _ _ _ _ h hP hD hS (lv_sub hl [1, 2, 3, 4, 5, 6] rfl)
                      · have h := h.2 c_25
                        refine lv_iload hx hb dX2_nextAsk_81 (lv_at hl 0 rfl) ?_
                        refine lv_istore (lv' := [(4, .int r_20), (7, .int r_20), (0, .ref a_this), (2, .int r_1), (3, .int x3_9), (5, .int x5_4), (6, .int x6_11)]) hx hb dX2_nextAsk_83 hl (by decide) rfl (fun ls hl => ?_)
                        refine lv_bipush (v := 100) hx hb dX2_nextAsk_85 (by decide) ?_
                        refine lv_iload hx hb dX2_nextAsk_87 (lv_at hl 5 rfl) ?_
                        refine lv_imul hx hb dX2_nextAsk_89 ?_
                        refine lv_iload hx hb dX2_nextAsk_90 (lv_at hl 6 rfl) ?_
                        refine lv_iadd hx hb dX2_nextAsk_92 ?_
                        refine lv_topi (fun x3_26 ex3_26 => ?_)
                        have h := h x3_26 ex3_26
                        refine lv_istore_n (lv' := [(3, .int x3_26), (4, .int r_20), (7, .int r_20), (0, .ref a_this), (2, .int r_1), (5, .int x5_4), (6, .int x6_11)]) hx hb dX2_nextAsk_93 rfl hl (by decide) rfl (fun ls hl => ?_)
                        exact kJ94_22 _ _ _ _ _ h hP hD hS (lv_sub hl [3, 4, 0, 1, 5, 6] rfl)
                    · have h := h.2 c_19
                      refine lv_aload_n hx hb dX2_nextAsk_45 rfl (lv_at hl 0 rfl) ?_
                      refine va_get (D := D) (ci := 2) (v := .ref a_outcome) (C := RX2) (T := TX2) (N := 2) hx hb hts in_X2 hown hK hP 0 rfl rfl 1 (by decide) fl_9 (fun _ h9 => h9) rfl dX2_nextAsk_46 ?_
                      refine lv_iload hx hb dX2_nextAsk_49 (lv_at hl 6 rfl) ?_
                      refine lv_iload hx hb dX2_nextAsk_51 (lv_at hl 6 rfl) ?_
                      refine lv_iload hx hb dX2_nextAsk_53 (lv_at hl 5 rfl) ?_
                      refine lv_iload hx hb dX2_nextAsk_55 (lv_at hl 4 rfl) ?_
                      refine st_callRI (st_runSR (n := 3) (As := [.int x7_16, .int x6_11, .int x5_4]) (rest := [.int x7_16, .ref a_outcome]) F (co_Nt_loss l D cy x7_16 x6_11 x5_4 _ h) gX2_nextAsk_X3_loss rfl (by decide +kernel) rfl hKK hP [] rfl rfl hl.1 rfl (Nat.le_of_ble_eq_true rfl) dX2_nextAsk_57) (fun r_27 h => ?_)
                      obtain ⟨hi_28, h⟩ := h
                      refine va_iast hx hb hK hP hD hS 1 1 rfl rfl hi_28 dX2_nextAsk_60 (fun H locs hP hD hS => ?_)
                      obtain ⟨s_outcome_29, es_outcome_29⟩ : ∃ f : Nat → Int32, f = upd s_outcome_17 (Int32.toNatClampNeg x7_16) r_27 := ⟨_, rfl⟩
                      have hP : va_P D vwCl (Wd_Gs_nextAsk cy a_this a_outcome a_parish a_parish_marks a_parish_marks_numbers a_parish_flitchKind a_parish_flitchCell a_parish_flitchStrength a_parish_familyKind a_parish_familySide a_parish_familyCell a_parish_familyWill a_parish_past a_parish_sightings a_parish_notes s_outcome_29 s_parish_flitchCount s_parish_familyCount s_parish_hung s_parish_day s_parish_marks_width s_parish_marks_limit s_parish_marks_size s_parish_marks_numbers) H := by rw [es_outcome_29]; exact hP
                      have hD : va_D A (Wd_Gs_nextAsk cy a_this a_outcome a_parish a_parish_marks a_parish_marks_numbers a_parish_flitchKind a_parish_flitchCell a_parish_flitchStrength a_parish_familyKind a_parish_familySide a_parish_familyCell a_parish_familyWill a_parish_past a_parish_sightings a_parish_notes s_outcome_29 s_parish_flitchCount s_parish_familyCount s_parish_hung s_parish_day s_parish_marks_width s_parish_marks_limit s_parish_marks_size s_parish_marks_numbers) := by rw [es_outcome_29]; exact hD
                      have h := h s_outcome_29 es_outcome_29
                      obtain ⟨x7_30, ex7_30⟩ : ∃ y : Int32, y = x7_16 + 1 := ⟨_, rfl⟩
                      have h := h x7_30 ex7_30
                      refine lv_iinc (v := x7_30) (lv' := [(7, .int x7_30), (0, .ref a_this), (2, .int r_1), (3, .int x3_9), (4, .int x4_10), (5, .int x5_4), (6, .int x6_11)]) hx hb dX2_nextAsk_61 hl (k := 6) rfl (by rw [ex7_30]; rfl) (by decide) rfl (fun ls hl => ?_)
                      refine lv_goto (tgt := 38) hx hb dX2_nextAsk_64 (by decide) ?_
                      exact ih38_17 _ _ _ _ _ h hP hD hS (lv_sub hl [1, 2, 3, 4, 5, 6, 0] rfl)
                exact kT38_17 n38_17 _ _ _ _ _ h hP hD hS (lv_sub hl [1, 2, 3, 4, 5, 6, 0] rfl)
          exact kT28_12 n28_12 _ _ _ _ _ _ _ h hP hD hS (lv_sub hl [1, 2, 3, 4, 5, 0] rfl)
  exact kT15_5 n15_5 _ _ _ _ _ _ _ h hP hD hS (lv_sub hl [4, 3, 2, 1, 0] rfl)
abbrev Wd_Pa_empty (cy : ClassId × ClassId × ClassId × ClassId) (a_this a_marks a_notes a_past a_sightings a_flitchKind a_flitchCell a_flitchStrength a_familyKind a_familySide a_familyCell a_familyWill a_marks_numbers a_notes_numbers a_past_numbers a_sightings_numbers : Nat) (s_flitchCount : Int32) (s_familyCount : Int32) (s_hung : Int32) (s_day : Int32) (s_marks_width : Int32) (s_marks_limit : Int32) (s_marks_size : Int32) (s_notes_width : Int32) (s_notes_limit : Int32) (s_notes_size : Int32) (s_past_width : Int32) (s_past_limit : Int32) (s_past_size : Int32) (s_sightings_width : Int32) (s_sightings_limit : Int32) (s_sightings_size : Int32) : va_W := [(a_this, .inr (3, [.ref a_flitchKind, .ref a_flitchCell, .ref a_flitchStrength, .ref a_familyKind, .ref a_familySide, .ref a_familyCell, .ref a_familyWill, .ref a_past, .ref a_sightings, .ref a_notes, .ref a_marks, .int s_flitchCount, .int s_familyCount, .int s_hung, .int s_day])), (a_marks, .inr (5, [.int s_marks_width, .int s_marks_limit, .ref a_marks_numbers, .int s_marks_size])), (a_notes, .inr (5, [.int s_notes_width, .int s_notes_limit, .ref a_notes_numbers, .int s_notes_size])), (a_past, .inr (5, [.int s_past_width, .int s_past_limit, .ref a_past_numbers, .int s_past_size])), (a_sightings, .inr (5, [.int s_sightings_width, .int s_sightings_limit, .ref a_sightings_numbers, .int s_sightings_size]))]
abbrev rm_Pa_empty : Room := { frames := 0, cells := 0, slots := 0, locals := 0 }
def wp_Pa_empty (s_flitchCount : Int32) (s_familyCount : Int32) (s_hung : Int32) (s_day : Int32) (s_marks_size : Int32) (s_notes_size : Int32) (s_past_size : Int32) (s_sightings_size : Int32) (Q : Int32 → Int32 → Int32 → Int32 → Int32 → Int32 → Int32 → Int32 → Prop) : Prop := Q 0 0 0 0 0 0 0 0
set_option maxHeartbeats 4000000 in
set_option maxRecDepth 100000 in
theorem co_Pa_empty (l : Launch) (D : va_G) (cy : ClassId × ClassId × ClassId × ClassId) (a_this a_marks a_notes a_past a_sightings a_flitchKind a_flitchCell a_flitchStrength a_familyKind a_familySide a_familyCell a_familyWill a_marks_numbers a_notes_numbers a_past_numbers a_sightings_numbers : Nat) (s_flitchCount : Int32) (s_familyCount : Int32) (s_hung : Int32) (s_day : Int32) (s_marks_width : Int32) (s_marks_limit : Int32) (s_marks_size : Int32) (s_notes_width : Int32) (s_notes_limit : Int32) (s_notes_size : Int32) (s_past_width : Int32) (s_past_limit : Int32) (s_past_size : Int32) (s_sightings_width : Int32) (s_sightings_limit : Int32) (s_sightings_size : Int32) (Q : Int32 → Int32 → Int32 → Int32 → Int32 → Int32 → Int32 → Int32 → Prop) (h : wp_Pa_empty s_flitchCount s_familyCount s_hung s_day s_marks_size s_notes_size s_past_size s_sightings_size Q) : CoV l yX4_empty wsX4_empty rm_Pa_empty D cy [.ref a_this] (Wd_Pa_empty cy a_this a_marks a_notes a_past a_sightings a_flitchKind a_flitchCell a_flitchStrength a_familyKind a_familySide a_familyCell a_familyWill a_marks_numbers a_notes_numbers a_past_numbers a_sightings_numbers s_flitchCount s_familyCount s_hung s_day s_marks_width s_marks_limit s_marks_size s_notes_width s_notes_limit s_notes_size s_past_width s_past_limit s_past_size s_sightings_width s_sightings_limit s_sightings_size) (fun u : Int32 × Int32 × Int32 × Int32 × Int32 × Int32 × Int32 × Int32 => (Wd_Pa_empty cy a_this a_marks a_notes a_past a_sightings a_flitchKind a_flitchCell a_flitchStrength a_familyKind a_familySide a_familyCell a_familyWill a_marks_numbers a_notes_numbers a_past_numbers a_sightings_numbers u.1 u.2.1 u.2.2.1 u.2.2.2.1 s_marks_width s_marks_limit u.2.2.2.2.1 s_notes_width s_notes_limit u.2.2.2.2.2.1 s_past_width s_past_limit u.2.2.2.2.2.2.1 s_sightings_width s_sightings_limit u.2.2.2.2.2.2.2)) (fun (u : Int32 × Int32 × Int32 × Int32 × Int32 × Int32 × Int32 × Int32) => Q u.1 u.2.1 u.2.2.1 u.2.2.2.1 u.2.2.2.2.1 u.2.2.2.2.2.1 u.2.2.2.2.2.2.1 u.2.2.2.2.2.2.2) := by
  refine st_metV (cc := cX4_empty) (maxL := 1) RX4 (by decide) rfl rfl (Nat.le_of_ble_eq_true rfl) ?_
  intro p e s m args below meth c A QQ ls F hA hKK hP hD hS hl hret
  have hK := hKK.1
  have hnest := hKK.2.1
  have hx := F.1
  have hb := F.2.1
  have hown := F.2.2.2.1
  have hts := F.2.2.2.2
  have in_X4 : ∀ w ∈ u_ws RX4 TX4 15, w ∈ wsX4_empty := (fun _ h => List.mem_cons_of_mem _ (List.mem_append_left _ (List.mem_append_right _ h)))
  have in_X6 : ∀ w ∈ u_ws RX6 TX6 4, w ∈ wsX4_empty := (fun _ h => List.mem_cons_of_mem _ (List.mem_append_right _ h))
  have fl_38 := (hts (.fieldLink RX4 38 "RasherCase$Parish" "past" "LRasherCase$Rows;") (List.mem_of_getElem? (i := 5) rfl))
  have fl_42 := (hts (.fieldLink RX4 42 "RasherCase$Parish" "sightings" "LRasherCase$Rows;") (List.mem_of_getElem? (i := 7) rfl))
  have fl_45 := (hts (.fieldLink RX4 45 "RasherCase$Parish" "notes" "LRasherCase$Rows;") (List.mem_of_getElem? (i := 8) rfl))
  have fl_48 := (hts (.fieldLink RX4 48 "RasherCase$Parish" "marks" "LRasherCase$Rows;") (List.mem_of_getElem? (i := 9) rfl))
  have fl_51 := (hts (.fieldLink RX4 51 "RasherCase$Parish" "flitchCount" "I") (List.mem_of_getElem? (i := 1) rfl))
  have fl_55 := (hts (.fieldLink RX4 55 "RasherCase$Parish" "familyCount" "I") (List.mem_of_getElem? (i := 2) rfl))
  have fl_58 := (hts (.fieldLink RX4 58 "RasherCase$Parish" "hung" "I") (List.mem_of_getElem? (i := 3) rfl))
  have fl_61 := (hts (.fieldLink RX4 61 "RasherCase$Parish" "day" "I") (List.mem_of_getElem? (i := 4) rfl))
  have fl_64 := (hts (.fieldLink RX4 64 "RasherCase$Rows" "size" "I") (List.mem_of_getElem? (i := 6) rfl))
  have hl : lv_has ls 1 [(0, .ref a_this)] := hl
  unfold wp_Pa_empty at h
  refine lv_aload_n hx hb dX4_empty_0 rfl (lv_at hl 0 rfl) ?_
  refine lv_iconst (v := 0) hx hb dX4_empty_1 (by decide) ?_
  refine va_put (D := D) (ci := 3) (v := .int 0) (ty := .int) (C := RX4) (T := TX4) (N := 15) hx hb hts in_X4 tyX4 tyX4_ok nmX4 hown hK hP hD hS 0 rfl rfl 11 (by decide) fl_51 (fun _ h9 => h9) rfl (tyX4_ok 11 (by decide)) rfl rfl (Nat.le_of_ble_eq_true rfl) dX4_empty_2 (fun H locs hP hD hS => ?_)
  have hP : va_P D vwCl (Wd_Pa_empty cy a_this a_marks a_notes a_past a_sightings a_flitchKind a_flitchCell a_flitchStrength a_familyKind a_familySide a_familyCell a_familyWill a_marks_numbers a_notes_numbers a_past_numbers a_sightings_numbers 0 s_familyCount s_hung s_day s_marks_width s_marks_limit s_marks_size s_notes_width s_notes_limit s_notes_size s_past_width s_past_limit s_past_size s_sightings_width s_sightings_limit s_sightings_size) H := hP
  have hD : va_D A (Wd_Pa_empty cy a_this a_marks a_notes a_past a_sightings a_flitchKind a_flitchCell a_flitchStrength a_familyKind a_familySide a_familyCell a_familyWill a_marks_numbers a_notes_numbers a_past_numbers a_sightings_numbers 0 s_familyCount s_hung s_day s_marks_width s_marks_limit s_marks_size s_notes_width s_notes_limit s_notes_size s_past_width s_past_limit s_past_size s_sightings_width s_sightings_limit s_sightings_size) := hD
  refine lv_aload_n hx hb dX4_empty_5 rfl (lv_at hl 0 rfl) ?_
  refine lv_iconst (v := 0) hx hb dX4_empty_6 (by decide) ?_
  refine va_put (D := D) (ci := 3) (v := .int 0) (ty := .int) (C := RX4) (T := TX4) (N := 15) hx hb hts in_X4 tyX4 tyX4_ok nmX4 hown hK hP hD hS 0 rfl rfl 12 (by decide) fl_55 (fun _ h9 => h9) rfl (tyX4_ok 12 (by decide)) rfl rfl (Nat.le_of_ble_eq_true rfl) dX4_empty_7 (fun H locs hP hD hS => ?_)
  have hP : va_P D vwCl (Wd_Pa_empty cy a_this a_marks a_notes a_past a_sightings a_flitchKind a_flitchCell a_flitchStrength a_familyKind a_familySide a_familyCell a_familyWill a_marks_numbers a_notes_numbers a_past_numbers a_sightings_numbers 0 0 s_hung s_day s_marks_width s_marks_limit s_marks_size s_notes_width s_notes_limit s_notes_size s_past_width s_past_limit s_past_size s_sightings_width s_sightings_limit s_sightings_size) H := hP
  have hD : va_D A (Wd_Pa_empty cy a_this a_marks a_notes a_past a_sightings a_flitchKind a_flitchCell a_flitchStrength a_familyKind a_familySide a_familyCell a_familyWill a_marks_numbers a_notes_numbers a_past_numbers a_sightings_numbers 0 0 s_hung s_day s_marks_width s_marks_limit s_marks_size s_notes_width s_notes_limit s_notes_size s_past_width s_past_limit s_past_size s_sightings_width s_sightings_limit s_sightings_size) := hD
  refine lv_aload_n hx hb dX4_empty_10 rfl (lv_at hl 0 rfl) ?_
  refine lv_iconst (v := 0) hx hb dX4_empty_11 (by decide) ?_
  refine va_put (D := D) (ci := 3) (v := .int 0) (ty := .int) (C := RX4) (T := TX4) (N := 15) hx hb hts in_X4 tyX4 tyX4_ok nmX4 hown hK hP hD hS 0 rfl rfl 13 (by decide) fl_58 (fun _ h9 => h9) rfl (tyX4_ok 13 (by decide)) rfl rfl (Nat.le_of_ble_eq_true rfl) dX4_empty_12 (fun H locs hP hD hS => ?_)
  have hP : va_P D vwCl (Wd_Pa_empty cy a_this a_marks a_notes a_past a_sightings a_flitchKind a_flitchCell a_flitchStrength a_familyKind a_familySide a_familyCell a_familyWill a_marks_numbers a_notes_numbers a_past_numbers a_sightings_numbers 0 0 0 s_day s_marks_width s_marks_limit s_marks_size s_notes_width s_notes_limit s_notes_size s_past_width s_past_limit s_past_size s_sightings_width s_sightings_limit s_sightings_size) H := hP
  have hD : va_D A (Wd_Pa_empty cy a_this a_marks a_notes a_past a_sightings a_flitchKind a_flitchCell a_flitchStrength a_familyKind a_familySide a_familyCell a_familyWill a_marks_numbers a_notes_numbers a_past_numbers a_sightings_numbers 0 0 0 s_day s_marks_width s_marks_limit s_marks_size s_notes_width s_notes_limit s_notes_size s_past_width s_past_limit s_past_size s_sightings_width s_sightings_limit s_sightings_size) := hD
  refine lv_aload_n hx hb dX4_empty_15 rfl (lv_at hl 0 rfl) ?_
  refine lv_iconst (v := 0) hx hb dX4_empty_16 (by decide) ?_
  refine va_put (D := D) (ci := 3) (v := .int 0) (ty := .int) (C := RX4) (T := TX4) (N := 15) hx hb hts in_X4 tyX4 tyX4_ok nmX4 hown hK hP hD hS 0 rfl rfl 14 (by decide) fl_61 (fun _ h9 => h9) rfl (tyX4_ok 14 (by decide)) rfl rfl (Nat.le_of_ble_eq_true rfl) dX4_empty_17 (fun H locs hP hD hS => ?_)
  have hP : va_P D vwCl (Wd_Pa_empty cy a_this a_marks a_notes a_past a_sightings a_flitchKind a_flitchCell a_flitchStrength a_familyKind a_familySide a_familyCell a_familyWill a_marks_numbers a_notes_numbers a_past_numbers a_sightings_numbers 0 0 0 0 s_marks_width s_marks_limit s_marks_size s_notes_width s_notes_limit s_notes_size s_past_width s_past_limit s_past_size s_sightings_width s_sightings_limit s_sightings_size) H := hP
  have hD : va_D A (Wd_Pa_empty cy a_this a_marks a_notes a_past a_sightings a_flitchKind a_flitchCell a_flitchStrength a_familyKind a_familySide a_familyCell a_familyWill a_marks_numbers a_notes_numbers a_past_numbers a_sightings_numbers 0 0 0 0 s_marks_width s_marks_limit s_marks_size s_notes_width s_notes_limit s_notes_size s_past_width s_past_limit s_past_size s_sightings_width s_sightings_limit s_sightings_size) := hD
  refine lv_aload_n hx hb dX4_empty_20 rfl (lv_at hl 0 rfl) ?_
  refine va_get (D := D) (ci := 3) (v := .ref a_past) (C := RX4) (T := TX4) (N := 15) hx hb hts in_X4 hown hK hP 0 rfl rfl 7 (by decide) fl_38 (fun _ h9 => h9) rfl dX4_empty_21 ?_
  refine lv_iconst (v := 0) hx hb dX4_empty_24 (by decide) ?_
  refine va_put (D := D) (ci := 5) (v := .int 0) (ty := .int) (C := RX6) (T := TX6) (N := 4) hx hb hts in_X6 tyX6 tyX6_ok nmX6 hown hK hP hD hS 3 rfl rfl 3 (by decide) fl_64 (fun _ h9 => h9) rfl (tyX6_ok 3 (by decide)) rfl rfl (Nat.le_of_ble_eq_true rfl) dX4_empty_25 (fun H locs hP hD hS => ?_)
  have hP : va_P D vwCl (Wd_Pa_empty cy a_this a_marks a_notes a_past a_sightings a_flitchKind a_flitchCell a_flitchStrength a_familyKind a_familySide a_familyCell a_familyWill a_marks_numbers a_notes_numbers a_past_numbers a_sightings_numbers 0 0 0 0 s_marks_width s_marks_limit s_marks_size s_notes_width s_notes_limit s_notes_size s_past_width s_past_limit 0 s_sightings_width s_sightings_limit s_sightings_size) H := hP
  have hD : va_D A (Wd_Pa_empty cy a_this a_marks a_notes a_past a_sightings a_flitchKind a_flitchCell a_flitchStrength a_familyKind a_familySide a_familyCell a_familyWill a_marks_numbers a_notes_numbers a_past_numbers a_sightings_numbers 0 0 0 0 s_marks_width s_marks_limit s_marks_size s_notes_width s_notes_limit s_notes_size s_past_width s_past_limit 0 s_sightings_width s_sightings_limit s_sightings_size) := hD
  refine lv_aload_n hx hb dX4_empty_28 rfl (lv_at hl 0 rfl) ?_
  refine va_get (D := D) (ci := 3) (v := .ref a_sightings) (C := RX4) (T := TX4) (N := 15) hx hb hts in_X4 hown hK hP 0 rfl rfl 8 (by decide) fl_42 (fun _ h9 => h9) rfl dX4_empty_29 ?_
  refine lv_iconst (v := 0) hx hb dX4_empty_32 (by decide) ?_
  refine va_put (D := D) (ci := 5) (v := .int 0) (ty := .int) (C := RX6) (T := TX6) (N := 4) hx hb hts in_X6 tyX6 tyX6_ok nmX6 hown hK hP hD hS 4 rfl rfl 3 (by decide) fl_64 (fun _ h9 => h9) rfl (tyX6_ok 3 (by decide)) rfl rfl (Nat.le_of_ble_eq_true rfl) dX4_empty_33 (fun H locs hP hD hS => ?_)
  have hP : va_P D vwCl (Wd_Pa_empty cy a_this a_marks a_notes a_past a_sightings a_flitchKind a_flitchCell a_flitchStrength a_familyKind a_familySide a_familyCell a_familyWill a_marks_numbers a_notes_numbers a_past_numbers a_sightings_numbers 0 0 0 0 s_marks_width s_marks_limit s_marks_size s_notes_width s_notes_limit s_notes_size s_past_width s_past_limit 0 s_sightings_width s_sightings_limit 0) H := hP
  have hD : va_D A (Wd_Pa_empty cy a_this a_marks a_notes a_past a_sightings a_flitchKind a_flitchCell a_flitchStrength a_familyKind a_familySide a_familyCell a_familyWill a_marks_numbers a_notes_numbers a_past_numbers a_sightings_numbers 0 0 0 0 s_marks_width s_marks_limit s_marks_size s_notes_width s_notes_limit s_notes_size s_past_width s_past_limit 0 s_sightings_width s_sightings_limit 0) := hD
  refine lv_aload_n hx hb dX4_empty_36 rfl (lv_at hl 0 rfl) ?_
  refine va_get (D := D) (ci := 3) (v := .ref a_notes) (C := RX4) (T := TX4) (N := 15) hx hb hts in_X4 hown hK hP 0 rfl rfl 9 (by decide) fl_45 (fun _ h9 => h9) rfl dX4_empty_37 ?_
  refine lv_iconst (v := 0) hx hb dX4_empty_40 (by decide) ?_
  refine va_put (D := D) (ci := 5) (v := .int 0) (ty := .int) (C := RX6) (T := TX6) (N := 4) hx hb hts in_X6 tyX6 tyX6_ok nmX6 hown hK hP hD hS 2 rfl rfl 3 (by decide) fl_64 (fun _ h9 => h9) rfl (tyX6_ok 3 (by decide)) rfl rfl (Nat.le_of_ble_eq_true rfl) dX4_empty_41 (fun H locs hP hD hS => ?_)
  have hP : va_P D vwCl (Wd_Pa_empty cy a_this a_marks a_notes a_past a_sightings a_flitchKind a_flitchCell a_flitchStrength a_familyKind a_familySide a_familyCell a_familyWill a_marks_numbers a_notes_numbers a_past_numbers a_sightings_numbers 0 0 0 0 s_marks_width s_marks_limit s_marks_size s_notes_width s_notes_limit 0 s_past_width s_past_limit 0 s_sightings_width s_sightings_limit 0) H := hP
  have hD : va_D A (Wd_Pa_empty cy a_this a_marks a_notes a_past a_sightings a_flitchKind a_flitchCell a_flitchStrength a_familyKind a_familySide a_familyCell a_familyWill a_marks_numbers a_notes_numbers a_past_numbers a_sightings_numbers 0 0 0 0 s_marks_width s_marks_limit s_marks_size s_notes_width s_notes_limit 0 s_past_width s_past_limit 0 s_sightings_width s_sightings_limit 0) := hD
  refine lv_aload_n hx hb dX4_empty_44 rfl (lv_at hl 0 rfl) ?_
  refine va_get (D := D) (ci := 3) (v := .ref a_marks) (C := RX4) (T := TX4) (N := 15) hx hb hts in_X4 hown hK hP 0 rfl rfl 10 (by decide) fl_48 (fun _ h9 => h9) rfl dX4_empty_45 ?_
  refine lv_iconst (v := 0) hx hb dX4_empty_48 (by decide) ?_
  refine va_put (D := D) (ci := 5) (v := .int 0) (ty := .int) (C := RX6) (T := TX6) (N := 4) hx hb hts in_X6 tyX6 tyX6_ok nmX6 hown hK hP hD hS 1 rfl rfl 3 (by decide) fl_64 (fun _ h9 => h9) rfl (tyX6_ok 3 (by decide)) rfl rfl (Nat.le_of_ble_eq_true rfl) dX4_empty_49 (fun H locs hP hD hS => ?_)
  have hP : va_P D vwCl (Wd_Pa_empty cy a_this a_marks a_notes a_past a_sightings a_flitchKind a_flitchCell a_flitchStrength a_familyKind a_familySide a_familyCell a_familyWill a_marks_numbers a_notes_numbers a_past_numbers a_sightings_numbers 0 0 0 0 s_marks_width s_marks_limit 0 s_notes_width s_notes_limit 0 s_past_width s_past_limit 0 s_sightings_width s_sightings_limit 0) H := hP
  have hD : va_D A (Wd_Pa_empty cy a_this a_marks a_notes a_past a_sightings a_flitchKind a_flitchCell a_flitchStrength a_familyKind a_familySide a_familyCell a_familyWill a_marks_numbers a_notes_numbers a_past_numbers a_sightings_numbers 0 0 0 0 s_marks_width s_marks_limit 0 s_notes_width s_notes_limit 0 s_past_width s_past_limit 0 s_sightings_width s_sightings_limit 0) := hD
  exact hret (0, 0, 0, 0, 0, 0, 0, 0) _ _ _ _ h hP hD hS dX4_empty_52
abbrev Wd_Rw_become (cy : ClassId × ClassId × ClassId × ClassId) (a_this a_numbers a_r1 a_r1_numbers : Nat) (n_numbers n_r1_numbers : Nat) (s_width : Int32) (s_limit : Int32) (s_size : Int32) (s_numbers : Nat → Int32) (s_r1_width : Int32) (s_r1_limit : Int32) (s_r1_size : Int32) (s_r1_numbers : Nat → Int32) : va_W := [(a_this, .inr (5, [.int s_width, .int s_limit, .ref a_numbers, .int s_size])), (a_numbers, .inl (cy.2.1, n_numbers, .inl s_numbers)), (a_r1, .inr (5, [.int s_r1_width, .int s_r1_limit, .ref a_r1_numbers, .int s_r1_size])), (a_r1_numbers, .inl (cy.2.1, n_r1_numbers, .inl s_r1_numbers))]
abbrev rm_Rw_become : Room := { frames := 1, cells := 0, slots := 0, locals := 48 }
def wp_Rw_become (n_numbers n_r1_numbers : Nat) (s_size : Int32) (s_numbers : Nat → Int32) (s_r1_size : Int32) (s_r1_numbers : Nat → Int32) (Q : Int32 → (Nat → Int32) → Prop) : Prop := cpok 0 0 (Int32.ofNat n_numbers) n_r1_numbers n_numbers ∧ ∀ s_numbers_2 : Nat → Int32, s_numbers_2 = va_cpy s_r1_numbers s_numbers (Int32.toNatClampNeg 0) (Int32.toNatClampNeg 0) (Int32.toNatClampNeg (Int32.ofNat n_numbers)) → Q s_r1_size s_numbers_2
set_option maxHeartbeats 4000000 in
set_option maxRecDepth 100000 in
theorem co_Rw_become (l : Launch) (D : va_G) (cy : ClassId × ClassId × ClassId × ClassId) (a_this a_numbers a_r1 a_r1_numbers : Nat) (n_numbers n_r1_numbers : Nat) (s_width : Int32) (s_limit : Int32) (s_size : Int32) (s_numbers : Nat → Int32) (s_r1_width : Int32) (s_r1_limit : Int32) (s_r1_size : Int32) (s_r1_numbers : Nat → Int32) (Q : Int32 → (Nat → Int32) → Prop) (h : wp_Rw_become n_numbers n_r1_numbers s_size s_numbers s_r1_size s_r1_numbers Q) : CoV l yX6_become wsX6_become rm_Rw_become D cy [.ref a_this, .ref a_r1] (Wd_Rw_become cy a_this a_numbers a_r1 a_r1_numbers n_numbers n_r1_numbers s_width s_limit s_size s_numbers s_r1_width s_r1_limit s_r1_size s_r1_numbers) (fun u : Int32 × (Nat → Int32) => (Wd_Rw_become cy a_this a_numbers a_r1 a_r1_numbers n_numbers n_r1_numbers s_width s_limit u.1 u.2 s_r1_width s_r1_limit s_r1_size s_r1_numbers)) (fun (u : Int32 × (Nat → Int32)) => Q u.1 u.2) := by
  refine st_metV (cc := cX6_become) (maxL := 2) RX6 (by decide) rfl rfl (Nat.le_of_ble_eq_true rfl) ?_
  intro p e s m args below meth c A QQ ls F hA hKK hP hD hS hl hret
  have hK := hKK.1
  have hnest := hKK.2.1
  have hx := F.1
  have hb := F.2.1
  have hown := F.2.2.2.1
  have hts := F.2.2.2.2
  have in_X6 : ∀ w ∈ u_ws RX6 TX6 4, w ∈ wsX6_become := (fun _ h => List.mem_cons_of_mem _ (List.mem_append_right _ h))
  have fl_16 := (hts (.fieldLink RX6 16 "RasherCase$Rows" "numbers" "[I") (List.mem_of_getElem? (i := 1) rfl))
  have fl_20 := (hts (.fieldLink RX6 20 "RasherCase$Rows" "size" "I") (List.mem_of_getElem? (i := 6) rfl))
  have hl : lv_has ls 2 [(0, .ref a_this), (1, .ref a_r1)] := hl
  unfold wp_Rw_become at h
  refine lv_aload_n hx hb dX6_become_0 rfl (lv_at hl 1 rfl) ?_
  refine va_get (D := D) (ci := 5) (v := .ref a_r1_numbers) (C := RX6) (T := TX6) (N := 4) hx hb hts in_X6 hown hK hP 2 rfl rfl 2 (by decide) fl_16 (fun _ h9 => h9) rfl dX6_become_1 ?_
  refine lv_iconst (v := 0) hx hb dX6_become_4 (by decide) ?_
  refine lv_aload_n hx hb dX6_become_5 rfl (lv_at hl 0 rfl) ?_
  refine va_get (D := D) (ci := 5) (v := .ref a_numbers) (C := RX6) (T := TX6) (N := 4) hx hb hts in_X6 hown hK hP 0 rfl rfl 2 (by decide) fl_16 (fun _ h9 => h9) rfl dX6_become_6 ?_
  refine lv_iconst (v := 0) hx hb dX6_become_9 (by decide) ?_
  refine lv_aload_n hx hb dX6_become_10 rfl (lv_at hl 0 rfl) ?_
  refine va_get (D := D) (ci := 5) (v := .ref a_numbers) (C := RX6) (T := TX6) (N := 4) hx hb hts in_X6 hown hK hP 0 rfl rfl 2 (by decide) fl_16 (fun _ h9 => h9) rfl dX6_become_11 ?_
  refine va_alen (v := Int32.ofNat n_numbers) hx hb hK hP 1 1 rfl rfl rfl dX6_become_14 ?_
  obtain ⟨hc_1, h⟩ := h
  refine va_copyi hx hb (F.2.2.1.trans hl.1.symm) hown (hts (.methodLink RX6 27 arraycopyName) (List.mem_of_getElem? (i := 2) rfl)) (hts (.native arraycopyName) (List.mem_of_getElem? (i := 3) rfl)) (hts (.static arraycopyName) (List.mem_of_getElem? (i := 4) rfl)) (hts (.initialized "java/lang/System") (List.mem_of_getElem? (i := 5) rfl)) hK hP hD hS 3 1 1 1 rfl rfl rfl rfl rfl hc_1.1 hc_1.2.1 hc_1.2.2.1 hc_1.2.2.2.1 hc_1.2.2.2.2 (fun _ _ => rfl) (Nat.le_of_ble_eq_true rfl) (Nat.le_of_ble_eq_true rfl) dX6_become_15 (fun H locs hP hD hS => ?_)
  obtain ⟨s_numbers_2, es_numbers_2⟩ : ∃ f : Nat → Int32, f = va_cpy s_r1_numbers s_numbers (Int32.toNatClampNeg 0) (Int32.toNatClampNeg 0) (Int32.toNatClampNeg (Int32.ofNat n_numbers)) := ⟨_, rfl⟩
  have hP : va_P D vwCl (Wd_Rw_become cy a_this a_numbers a_r1 a_r1_numbers n_numbers n_r1_numbers s_width s_limit s_size s_numbers_2 s_r1_width s_r1_limit s_r1_size s_r1_numbers) H := by rw [es_numbers_2]; exact hP
  have hD : va_D A (Wd_Rw_become cy a_this a_numbers a_r1 a_r1_numbers n_numbers n_r1_numbers s_width s_limit s_size s_numbers_2 s_r1_width s_r1_limit s_r1_size s_r1_numbers) := by rw [es_numbers_2]; exact hD
  have h := h s_numbers_2 es_numbers_2
  refine lv_aload_n hx hb dX6_become_18 rfl (lv_at hl 0 rfl) ?_
  refine lv_aload_n hx hb dX6_become_19 rfl (lv_at hl 1 rfl) ?_
  refine va_get (D := D) (ci := 5) (v := .int s_r1_size) (C := RX6) (T := TX6) (N := 4) hx hb hts in_X6 hown hK hP 2 rfl rfl 3 (by decide) fl_20 (fun _ h9 => h9) rfl dX6_become_20 ?_
  refine va_put (D := D) (ci := 5) (v := .int s_r1_size) (ty := .int) (C := RX6) (T := TX6) (N := 4) hx hb hts in_X6 tyX6 tyX6_ok nmX6 hown hK hP hD hS 0 rfl rfl 3 (by decide) fl_20 (fun _ h9 => h9) rfl (tyX6_ok 3 (by decide)) rfl rfl (Nat.le_of_ble_eq_true rfl) dX6_become_23 (fun H locs hP hD hS => ?_)
  have hP : va_P D vwCl (Wd_Rw_become cy a_this a_numbers a_r1 a_r1_numbers n_numbers n_r1_numbers s_width s_limit s_r1_size s_numbers_2 s_r1_width s_r1_limit s_r1_size s_r1_numbers) H := hP
  have hD : va_D A (Wd_Rw_become cy a_this a_numbers a_r1 a_r1_numbers n_numbers n_r1_numbers s_width s_limit s_r1_size s_numbers_2 s_r1_width s_r1_limit s_r1_size s_r1_numbers) := hD
  exact hret (s_r1_size, s_numbers_2) _ _ _ _ h hP hD hS dX6_become_26
