abbrev Wd_Ph_leadTo (cy : ClassId × ClassId × ClassId × ClassId) (a_this a_cost a_entering a_parish a_parish_flitchCell a_parish_flitchKind a_parish_flitchStrength a_parish_familyKind a_parish_familySide a_parish_familyCell a_parish_familyWill a_parish_past a_parish_sightings a_parish_notes a_parish_marks : Nat) (s_goal : Int32) (s_cost : Nat → Int32) (s_entering : Nat → Int32) (s_parish_flitchCount : Int32) (s_parish_familyCount : Int32) (s_parish_hung : Int32) (s_parish_day : Int32) (s_parish_flitchCell : Nat → Int32) (s_parish_flitchKind : Nat → Int32) (s_parish_flitchStrength : Nat → Int32) : va_W := [(a_this, .inr (4, [.ref a_parish, .ref a_entering, .ref a_cost, .int s_goal])), (a_cost, .inl (cy.2.1, 25, .inl s_cost)), (a_entering, .inl (cy.2.1, 25, .inl s_entering)), (a_parish, .inr (3, [.ref a_parish_flitchKind, .ref a_parish_flitchCell, .ref a_parish_flitchStrength, .ref a_parish_familyKind, .ref a_parish_familySide, .ref a_parish_familyCell, .ref a_parish_familyWill, .ref a_parish_past, .ref a_parish_sightings, .ref a_parish_notes, .ref a_parish_marks, .int s_parish_flitchCount, .int s_parish_familyCount, .int s_parish_hung, .int s_parish_day])), (a_parish_flitchCell, .inl (cy.2.1, 3, .inl s_parish_flitchCell)), (a_parish_flitchKind, .inl (cy.2.1, 3, .inl s_parish_flitchKind)), (a_parish_flitchStrength, .inl (cy.2.1, 3, .inl s_parish_flitchStrength))]
abbrev rm_Ph_leadTo : Room := { frames := 2, cells := 0, slots := 0, locals := 75 }
def wp_Ph_leadTo (x1 : Int32) (s_goal : Int32) (s_cost : Nat → Int32) (s_entering : Nat → Int32) (s_parish_flitchCount : Int32) (s_parish_hung : Int32) (s_parish_day : Int32) (s_parish_flitchCell : Nat → Int32) (s_parish_flitchKind : Nat → Int32) (s_parish_flitchStrength : Nat → Int32) (Q : Int32 → (Nat → Int32) → (Nat → Int32) → Prop) : Prop := ∃ n : Nat, lpw3 (fun (B7 : Int32 → (Nat → Int32) → (Nat → Int32) → Prop) (x2_1 : Int32) (s_cost_2 : Nat → Int32) (s_entering_3 : Nat → Int32) => ((25 ≤ x2_1 → vp_in x1 25 ∧ ∀ s_cost_7 : Nat → Int32, s_cost_7 = upd s_cost_2 (Int32.toNatClampNeg x1) 0 → ∃ n : Nat, lpw3 (fun (B71 : Int32 → Int32 → (Nat → Int32) → Prop) (x2_8 : Int32) (x3_9 : Int32) (s_cost_10 : Nat → Int32) => ((25 ≤ x3_9 → Q x1 s_cost_10 s_entering_3) ∧ (¬ 25 ≤ x3_9 → ((x2_8 = 0 → Q x1 s_cost_10 s_entering_3) ∧ (¬ x2_8 = 0 → ∃ n : Nat, lpw3 (fun (B86 : Int32 → Int32 → (Nat → Int32) → Prop) (x2_14 : Int32) (x4_15 : Int32) (s_cost_16 : Nat → Int32) => ((25 ≤ x4_15 → ∀ x3_19 : Int32, x3_19 = x3_9 + 1 → B71 x2_14 x3_19 s_cost_16) ∧ (¬ 25 ≤ x4_15 → wp_Ph_improve x4_15 s_cost_16 s_entering_3 (fun (r_20 : Int32) (s_cost_21 : Nat → Int32) => jn1 (fun (J111 : Int32 → Prop) => jn0 (fun (J106 : Prop) => ((¬ r_20 = 0 → J106) ∧ (r_20 = 0 → ((x2_14 = 0 → J111 0) ∧ (¬ x2_14 = 0 → J106))))) (J111 1)) (fun (v_22 : Int32) => ∀ x4_24 : Int32, x4_24 = x4_15 + 1 → B86 v_22 x4_24 s_cost_21))))) n 0 0 s_cost_10))))) n 1 0 s_cost_7) ∧ (¬ 25 ≤ x2_1 → wp_Pa_scentAt x2_1 s_parish_day s_parish_hung s_parish_flitchCount s_parish_flitchCell s_parish_flitchKind s_parish_flitchStrength (fun (r_28 : Int32) => vp_in x2_1 25 ∧ ∀ s_entering_30 : Nat → Int32, s_entering_30 = upd s_entering_3 (Int32.toNatClampNeg x2_1) ((r_28 * 64) + 1) → vp_in x2_1 25 ∧ ∀ s_cost_32 : Nat → Int32, s_cost_32 = upd s_cost_2 (Int32.toNatClampNeg x2_1) 1000000000 → ∀ x2_33 : Int32, x2_33 = x2_1 + 1 → B7 x2_33 s_cost_32 s_entering_30)))) n 0 s_cost s_entering
set_option maxHeartbeats 4000000 in
set_option maxRecDepth 100000 in
theorem co_Ph_leadTo (l : Launch) (D : va_G) (cy : ClassId × ClassId × ClassId × ClassId) (a_this a_cost a_entering a_parish a_parish_flitchCell a_parish_flitchKind a_parish_flitchStrength a_parish_familyKind a_parish_familySide a_parish_familyCell a_parish_familyWill a_parish_past a_parish_sightings a_parish_notes a_parish_marks : Nat) (s_goal : Int32) (s_cost : Nat → Int32) (s_entering : Nat → Int32) (s_parish_flitchCount : Int32) (s_parish_familyCount : Int32) (s_parish_hung : Int32) (s_parish_day : Int32) (s_parish_flitchCell : Nat → Int32) (s_parish_flitchKind : Nat → Int32) (s_parish_flitchStrength : Nat → Int32) (x1 : Int32) (Q : Int32 → (Nat → Int32) → (Nat → Int32) → Prop) (h : wp_Ph_leadTo x1 s_goal s_cost s_entering s_parish_flitchCount s_parish_hung s_parish_day s_parish_flitchCell s_parish_flitchKind s_parish_flitchStrength Q) : CoV l yX5_leadTo wsX5_leadTo rm_Ph_leadTo D cy [.ref a_this, .int x1] (Wd_Ph_leadTo cy a_this a_cost a_entering a_parish a_parish_flitchCell a_parish_flitchKind a_parish_flitchStrength a_parish_familyKind a_parish_familySide a_parish_familyCell a_parish_familyWill a_parish_past a_parish_sightings a_parish_notes a_parish_marks s_goal s_cost s_entering s_parish_flitchCount s_parish_familyCount s_parish_hung s_parish_day s_parish_flitchCell s_parish_flitchKind s_parish_flitchStrength) (fun u : Int32 × (Nat → Int32) × (Nat → Int32) => (Wd_Ph_leadTo cy a_this a_cost a_entering a_parish a_parish_flitchCell a_parish_flitchKind a_parish_flitchStrength a_parish_familyKind a_parish_familySide a_parish_familyCell a_parish_familyWill a_parish_past a_parish_sightings a_parish_notes a_parish_marks u.1 u.2.1 u.2.2 s_parish_flitchCount s_parish_familyCount s_parish_hung s_parish_day s_parish_flitchCell s_parish_flitchKind s_parish_flitchStrength)) (fun (u : Int32 × (Nat → Int32) × (Nat → Int32)) => Q u.1 u.2.1 u.2.2) := by
  refine st_metV (cc := cX5_leadTo) (maxL := 5) RX5 (by decide) rfl rfl (Nat.le_of_ble_eq_true rfl) ?_
  intro p e s m args below meth c A QQ ls F hA hKK hP hD hS hl hret
  have hK := hKK.1
  have hnest := hKK.2.1
  have hx := F.1
  have hb := F.2.1
  have hown := F.2.2.2.1
  have hts := F.2.2.2.2
  have in_X5 : ∀ w ∈ u_ws RX5 TX5 4, w ∈ wsX5_leadTo := (fun _ h => List.mem_cons_of_mem _ (List.mem_append_left _ (List.mem_append_right _ h)))
  have in_X4 : ∀ w ∈ u_ws RX4 TX4 15, w ∈ wsX5_leadTo := (fun _ h => List.mem_cons_of_mem _ (List.mem_append_right _ h))
  have fl_9 := (hts (.fieldLink RX5 9 "RasherCase$Paths" "entering" "[I") (List.mem_of_getElem? (i := 2) rfl))
  have fl_15 := (hts (.fieldLink RX5 15 "RasherCase$Paths" "cost" "[I") (List.mem_of_getElem? (i := 6) rfl))
  have fl_18 := (hts (.fieldLink RX5 18 "RasherCase$Paths" "parish" "LRasherCase$Parish;") (List.mem_of_getElem? (i := 3) rfl))
  have fl_22 := (hts (.fieldLink RX5 22 "RasherCase$Paths" "goal" "I") (List.mem_of_getElem? (i := 1) rfl))
  have fl_26 := (hts (.fieldLink RX5 26 "RasherCase$Parish" "day" "I") (List.mem_of_getElem? (i := 4) rfl))
  have fl_31 := (hts (.fieldLink RX5 31 "RasherCase$Parish" "hung" "I") (List.mem_of_getElem? (i := 5) rfl))
  have hl : lv_has ls 5 [(0, .ref a_this), (1, .int x1)] := hl
  unfold wp_Ph_leadTo at h
  refine lv_aload_n hx hb dX5_leadTo_0 rfl (lv_at hl 0 rfl) ?_
  refine lv_iload_n hx hb dX5_leadTo_1 rfl (lv_at hl 1 rfl) ?_
  refine va_put (D := D) (ci := 4) (v := .int x1) (ty := .int) (C := RX5) (T := TX5) (N := 4) hx hb hts in_X5 tyX5 tyX5_ok nmX5 hown hK hP hD hS 0 rfl rfl 3 (by decide) fl_22 (fun _ h9 => h9) rfl (tyX5_ok 3 (by decide)) rfl rfl (Nat.le_of_ble_eq_true rfl) dX5_leadTo_2 (fun H locs hP hD hS => ?_)
  have hP : va_P D vwCl (Wd_Ph_leadTo cy a_this a_cost a_entering a_parish a_parish_flitchCell a_parish_flitchKind a_parish_flitchStrength a_parish_familyKind a_parish_familySide a_parish_familyCell a_parish_familyWill a_parish_past a_parish_sightings a_parish_notes a_parish_marks x1 s_cost s_entering s_parish_flitchCount s_parish_familyCount s_parish_hung s_parish_day s_parish_flitchCell s_parish_flitchKind s_parish_flitchStrength) H := hP
  have hD : va_D A (Wd_Ph_leadTo cy a_this a_cost a_entering a_parish a_parish_flitchCell a_parish_flitchKind a_parish_flitchStrength a_parish_familyKind a_parish_familySide a_parish_familyCell a_parish_familyWill a_parish_past a_parish_sightings a_parish_notes a_parish_marks x1 s_cost s_entering s_parish_flitchCount s_parish_familyCount s_parish_hung s_parish_day s_parish_flitchCell s_parish_flitchKind s_parish_flitchStrength) := hD
  refine lv_iconst (v := 0) hx hb dX5_leadTo_5 (by decide) ?_
  refine lv_istore_n (lv' := [(2, .int 0), (0, .ref a_this), (1, .int x1)]) hx hb dX5_leadTo_6 rfl hl (by decide) rfl (fun ls hl => ?_)
  obtain ⟨T7_3, hz7_3, hs7_3, n7_3, h⟩ := lpw3_use h
  have kT7_3 : ∀ (n : Nat) (x2_1 : Int32) (s_cost_2 : Nat → Int32) (s_entering_3 : Nat → Int32) (H : Heap) (locs : List Loc) (ls : Array Slot), T7_3 n x2_1 s_cost_2 s_entering_3 → va_P D vwCl (Wd_Ph_leadTo cy a_this a_cost a_entering a_parish a_parish_flitchCell a_parish_flitchKind a_parish_flitchStrength a_parish_familyKind a_parish_familySide a_parish_familyCell a_parish_familyWill a_parish_past a_parish_sightings a_parish_notes a_parish_marks x1 s_cost_2 s_entering_3 s_parish_flitchCount s_parish_familyCount s_parish_hung s_parish_day s_parish_flitchCell s_parish_flitchKind s_parish_flitchStrength) H → va_D A (Wd_Ph_leadTo cy a_this a_cost a_entering a_parish a_parish_flitchCell a_parish_flitchKind a_parish_flitchStrength a_parish_familyKind a_parish_familySide a_parish_familyCell a_parish_familyWill a_parish_past a_parish_sightings a_parish_notes a_parish_marks x1 s_cost_2 s_entering_3 s_parish_flitchCount s_parish_familyCount s_parish_hung s_parish_day s_parish_flitchCell s_parish_flitchKind s_parish_flitchStrength) → va_S A s.heap H locs → lv_has ls 5 [(0, .ref a_this), (1, .int x1), (2, .int x2_1)] → W p l e rm_Ph_leadTo s m args below meth c H locs 0 0 QQ (F0 m 7 ls []) := by
    intro n
    induction n with
    | zero => intro x2_1 s_cost_2 s_entering_3 H locs ls h; exact absurd h (hz7_3 _ _ _)
    | succ n ih7_3 =>
      intro x2_1 s_cost_2 s_entering_3 H locs ls h hP hD hS hl
      have h := hs7_3 _ _ _ _ h
      refine lv_iload_n hx hb dX5_leadTo_7 rfl (lv_at hl 2 rfl) ?_
      refine lv_bipush (v := 25) hx hb dX5_leadTo_8 (by decide) ?_
      refine lv_icmp_ge (tgt := 60) hx hb dX5_leadTo_10 (by decide) (fun c_5 => ?_) (fun c_5 => ?_)
      · have h := h.1 c_5
        refine lv_aload_n hx hb dX5_leadTo_60 rfl (lv_at hl 0 rfl) ?_
        refine va_get (D := D) (ci := 4) (v := .ref a_cost) (C := RX5) (T := TX5) (N := 4) hx hb hts in_X5 hown hK hP 0 rfl rfl 2 (by decide) fl_15 (fun _ h9 => h9) rfl dX5_leadTo_61 ?_
        refine lv_iload_n hx hb dX5_leadTo_64 rfl (lv_at hl 1 rfl) ?_
        refine lv_iconst (v := 0) hx hb dX5_leadTo_65 (by decide) ?_
        obtain ⟨hi_6, h⟩ := h
        refine va_iast hx hb hK hP hD hS 1 1 rfl rfl hi_6 dX5_leadTo_66 (fun H locs hP hD hS => ?_)
        obtain ⟨s_cost_7, es_cost_7⟩ : ∃ f : Nat → Int32, f = upd s_cost_2 (Int32.toNatClampNeg x1) 0 := ⟨_, rfl⟩
        have hP : va_P D vwCl (Wd_Ph_leadTo cy a_this a_cost a_entering a_parish a_parish_flitchCell a_parish_flitchKind a_parish_flitchStrength a_parish_familyKind a_parish_familySide a_parish_familyCell a_parish_familyWill a_parish_past a_parish_sightings a_parish_notes a_parish_marks x1 s_cost_7 s_entering_3 s_parish_flitchCount s_parish_familyCount s_parish_hung s_parish_day s_parish_flitchCell s_parish_flitchKind s_parish_flitchStrength) H := by rw [es_cost_7]; exact hP
        have hD : va_D A (Wd_Ph_leadTo cy a_this a_cost a_entering a_parish a_parish_flitchCell a_parish_flitchKind a_parish_flitchStrength a_parish_familyKind a_parish_familySide a_parish_familyCell a_parish_familyWill a_parish_past a_parish_sightings a_parish_notes a_parish_marks x1 s_cost_7 s_entering_3 s_parish_flitchCount s_parish_familyCount s_parish_hung s_parish_day s_parish_flitchCell s_parish_flitchKind s_parish_flitchStrength) := by rw [es_cost_7]; exact hD
        have h := h s_cost_7 es_cost_7
        refine lv_iconst (v := 1) hx hb dX5_leadTo_67 (by decide) ?_
        refine lv_istore_n (lv' := [(2, .int 1), (0, .ref a_this), (1, .int x1)]) hx hb dX5_leadTo_68 rfl hl (by decide) rfl (fun ls hl => ?_)
        refine lv_iconst (v := 0) hx hb dX5_leadTo_69 (by decide) ?_
        refine lv_istore_n (lv' := [(3, .int 0), (2, .int 1), (0, .ref a_this), (1, .int x1)]) hx hb dX5_leadTo_70 rfl hl (by decide) rfl (fun ls hl => ?_)
        obtain ⟨T71_10, hz71_10, hs71_10, n71_10, h⟩ := lpw3_use h
        have kT71_10 : ∀ (n : Nat) (x2_8 : Int32) (x3_9 : Int32) (s_cost_10 : Nat → Int32) (H : Heap) (locs : List Loc) (ls : Array Slot), T71_10 n x2_8 x3_9 s_cost_10 → va_P D vwCl (Wd_Ph_leadTo cy a_this a_cost a_entering a_parish a_parish_flitchCell a_parish_flitchKind a_parish_flitchStrength a_parish_familyKind a_parish_familySide a_parish_familyCell a_parish_familyWill a_parish_past a_parish_sightings a_parish_notes a_parish_marks x1 s_cost_10 s_entering_3 s_parish_flitchCount s_parish_familyCount s_parish_hung s_parish_day s_parish_flitchCell s_parish_flitchKind s_parish_flitchStrength) H → va_D A (Wd_Ph_leadTo cy a_this a_cost a_entering a_parish a_parish_flitchCell a_parish_flitchKind a_parish_flitchStrength a_parish_familyKind a_parish_familySide a_parish_familyCell a_parish_familyWill a_parish_past a_parish_sightings a_parish_notes a_parish_marks x1 s_cost_10 s_entering_3 s_parish_flitchCount s_parish_familyCount s_parish_hung s_parish_day s_parish_flitchCell s_parish_flitchKind s_parish_flitchStrength) → va_S A s.heap H locs → lv_has ls 5 [(0, .ref a_this), (2, .int x2_8), (3, .int x3_9)] → W p l e rm_Ph_leadTo s m args below meth c H locs 0 0 QQ (F0 m 71 ls []) := by
          intro n
          induction n with
          | zero => intro x2_8 x3_9 s_cost_10 H locs ls h; exact absurd h (hz71_10 _ _ _)
          | succ n ih71_10 =>
            intro x2_8 x3_9 s_cost_10 H locs ls h hP hD hS hl
            have h := hs71_10 _ _ _ _ h
            refine lv_iload_n hx hb dX5_leadTo_71 rfl (lv_at hl 2 rfl) ?_
            refine lv_bipush (v := 25) hx hb dX5_leadTo_72 (by decide) ?_
            refine lv_icmp_ge (tgt := 124) hx hb dX5_leadTo_74 (by decide) (fun c_12 => ?_) (fun c_12 => ?_)
            · have h := h.1 c_12
              exact hret (x1, s_cost_10, s_entering_3) _ _ _ _ h hP hD hS dX5_leadTo_124
            · have h := h.2 c_12
              refine lv_iload_n hx hb dX5_leadTo_77 rfl (lv_at hl 1 rfl) ?_
              refine lv_if_eq (tgt := 124) hx hb dX5_leadTo_78 (by decide) (fun c_13 => ?_) (fun c_13 => ?_)
              · have h := h.1 c_13
                exact hret (x1, s_cost_10, s_entering_3) _ _ _ _ h hP hD hS dX5_leadTo_124
              · have h := h.2 c_13
                refine lv_iconst (v := 0) hx hb dX5_leadTo_81 (by decide) ?_
                refine lv_istore_n (lv' := [(2, .int 0), (0, .ref a_this), (3, .int x3_9)]) hx hb dX5_leadTo_82 rfl hl (by decide) rfl (fun ls hl => ?_)
                refine lv_iconst (v := 0) hx hb dX5_leadTo_83 (by decide) ?_
                refine lv_istore (lv' := [(4, .int 0), (2, .int 0), (0, .ref a_this), (3, .int x3_9)]) hx hb dX5_leadTo_84 hl (by decide) rfl (fun ls hl => ?_)
                obtain ⟨T86_16, hz86_16, hs86_16, n86_16, h⟩ := lpw3_use h
                have kT86_16 : ∀ (n : Nat) (x2_14 : Int32) (x4_15 : Int32) (s_cost_16 : Nat → Int32) (H : Heap) (locs : List Loc) (ls : Array Slot), T86_16 n x2_14 x4_15 s_cost_16 → va_P D vwCl (Wd_Ph_leadTo cy a_this a_cost a_entering a_parish a_parish_flitchCell a_parish_flitchKind a_parish_flitchStrength a_parish_familyKind a_parish_familySide a_parish_familyCell a_parish_familyWill a_parish_past a_parish_sightings a_parish_notes a_parish_marks x1 s_cost_16 s_entering_3 s_parish_flitchCount s_parish_familyCount s_parish_hung s_parish_day s_parish_flitchCell s_parish_flitchKind s_parish_flitchStrength) H → va_D A (Wd_Ph_leadTo cy a_this a_cost a_entering a_parish a_parish_flitchCell a_parish_flitchKind a_parish_flitchStrength a_parish_familyKind a_parish_familySide a_parish_familyCell a_parish_familyWill a_parish_past a_parish_sightings a_parish_notes a_parish_marks x1 s_cost_16 s_entering_3 s_parish_flitchCount s_parish_familyCount s_parish_hung s_parish_day s_parish_flitchCell s_parish_flitchKind s_parish_flitchStrength) → va_S A s.heap H locs → lv_has ls 5 [(0, .ref a_this), (2, .int x2_14), (3, .int x3_9), (4, .int x4_15)] → W p l e rm_Ph_leadTo s m args below meth c H locs 0 0 QQ (F0 m 86 ls []) := by
                  intro n
                  induction n with
                  | zero => intro x2_14 x4_15 s_cost_16 H locs ls h; exact absurd h (hz86_16 _ _ _)
                  | succ n ih86_16 =>
                    intro x2_14 x4_15 s_cost_16 H locs ls h hP hD hS hl
                    have h := hs86_16 _ _ _ _ h
                    refine lv_iload hx hb dX5_leadTo_86 (lv_at hl 3 rfl) ?_
                    refine lv_bipush (v := 25) hx hb dX5_leadTo_88 (by decide) ?_
                    refine lv_icmp_ge (tgt := 118) hx hb dX5_leadTo_90 (by decide) (fun c_18 => ?_) (fun c_18 => ?_)
                    · have h := h.1 c_18
                      obtain ⟨x3_19, ex3_19⟩ : ∃ y : Int32, y = x3_9 + 1 := ⟨_, rfl⟩
                      have h := h x3_19 ex3_19
                      refine lv_iinc (v := x3_19) (lv' := [(3, .int x3_19), (0, .ref a_this), (2, .int x2_14), (4, .int x4_15)]) hx hb dX5_leadTo_118 hl (k := 2) rfl (by rw [ex3_19]; rfl) (by decide) rfl (fun ls hl => ?_)
                      refine lv_goto (tgt := 71) hx hb dX5_leadTo_121 (by decide) ?_
                      exact ih71_10 _ _ _ _ _ _ h hP hD hS (lv_sub hl [1, 2, 0] rfl)
                    · have h := h.2 c_18
                      refine lv_aload_n hx hb dX5_leadTo_93 rfl (lv_at hl 0 rfl) ?_
                      refine lv_iload hx hb dX5_leadTo_94 (lv_at hl 3 rfl) ?_
                      refine st_callI (WR := [3, 4, 5, 6].filterMap (fun i => (Wd_Ph_leadTo cy a_this a_cost a_entering a_parish a_parish_flitchCell a_parish_flitchKind a_parish_flitchStrength a_parish_familyKind a_parish_familySide a_parish_familyCell a_parish_familyWill a_parish_past a_parish_sightings a_parish_notes a_parish_marks x1 s_cost_16 s_entering_3 s_parish_flitchCount s_parish_familyCount s_parish_hung s_parish_day s_parish_flitchCell s_parish_flitchKind s_parish_flitchStrength)[i]?)) (WSn := fun u => (Wd_Ph_leadTo cy a_this a_cost a_entering a_parish a_parish_flitchCell a_parish_flitchKind a_parish_flitchStrength a_parish_familyKind a_parish_familySide a_parish_familyCell a_parish_familyWill a_parish_past a_parish_sightings a_parish_notes a_parish_marks x1 u s_entering_3 s_parish_flitchCount s_parish_familyCount s_parish_hung s_parish_day s_parish_flitchCell s_parish_flitchKind s_parish_flitchStrength)) (st_runV (n := 1) (As := [.int x4_15]) (rest := []) (q0 := 0) F ((co_Ph_improve l D cy a_this a_cost a_entering a_parish x1 s_cost_16 s_entering_3 x4_15 _ h) _) rfl gX5_leadTo_X5_improve rfl (by decide +kernel) rfl hKK hP hD [0, 1, 2] rfl rfl rfl rfl rfl hl.1 rfl (Nat.le_of_ble_eq_true rfl) dX5_leadTo_96) hP hD hS hA [0, 1, 2] [3, 4, 5, 6] [4, 5, 6, 0, 1, 2, 3] rfl rfl rfl (fun _ => rfl) (fun r_20 u H locs h hP hD hS => ?_)
                      obtain ⟨s_cost_21, rfl⟩ : ∃ z, z = u := ⟨_, rfl⟩
                      have hP : va_P D vwCl (Wd_Ph_leadTo cy a_this a_cost a_entering a_parish a_parish_flitchCell a_parish_flitchKind a_parish_flitchStrength a_parish_familyKind a_parish_familySide a_parish_familyCell a_parish_familyWill a_parish_past a_parish_sightings a_parish_notes a_parish_marks x1 s_cost_21 s_entering_3 s_parish_flitchCount s_parish_familyCount s_parish_hung s_parish_day s_parish_flitchCell s_parish_flitchKind s_parish_flitchStrength) H := hP
                      have hD : va_D A (Wd_Ph_leadTo cy a_this a_cost a_entering a_parish a_parish_flitchCell a_parish_flitchKind a_parish_flitchStrength a_parish_familyKind a_parish_familySide a_parish_familyCell a_parish_familyWill a_parish_past a_parish_sightings a_parish_notes a_parish_marks x1 s_cost_21 s_entering_3 s_parish_flitchCount s_parish_familyCount s_parish_hung s_parish_day s_parish_flitchCell s_parish_flitchKind s_parish_flitchStrength) := hD
                      obtain ⟨J111, hJ111, h⟩ := jn1_ex h
                      have kJ111_22 : ∀ (v_22 : Int32) (H : Heap) (locs : List Loc) (ls : Array Slot), J111 v_22 → va_P D vwCl (Wd_Ph_leadTo cy a_this a_cost a_entering a_parish a_parish_flitchCell a_parish_flitchKind a_parish_flitchStrength a_parish_familyKind a_parish_familySide a_parish_familyCell a_parish_familyWill a_parish_past a_parish_sightings a_parish_notes a_parish_marks x1 s_cost_21 s_entering_3 s_parish_flitchCount s_parish_familyCount s_parish_hung s_parish_day s_parish_flitchCell s_parish_flitchKind s_parish_flitchStrength) H → va_D A (Wd_Ph_leadTo cy a_this a_cost a_entering a_parish a_parish_flitchCell a_parish_flitchKind a_parish_flitchStrength a_parish_familyKind a_parish_familySide a_parish_familyCell a_parish_familyWill a_parish_past a_parish_sightings a_parish_notes a_parish_marks x1 s_cost_21 s_entering_3 s_parish_flitchCount s_parish_familyCount s_parish_hung s_parish_day s_parish_flitchCell s_parish_flitchKind s_parish_flitchStrength) → va_S A s.heap H locs → lv_has ls 5 [(0, .ref a_this), (3, .int x3_9), (4, .int x4_15)] → W p l e rm_Ph_leadTo s m args below meth c H locs 0 0 QQ (F0 m 111 ls [.int v_22]) := by
                        intro v_22 H locs ls h hP hD hS hl
                        have h := hJ111 _ h
                        refine lv_istore_n (lv' := [(2, .int v_22), (0, .ref a_this), (3, .int x3_9), (4, .int x4_15)]) hx hb dX5_leadTo_111 rfl hl (by decide) rfl (fun ls hl => ?_)
                        obtain ⟨x4_24, ex4_24⟩ : ∃ y : Int32, y = x4_15 + 1 := ⟨_, rfl⟩
                        have h := h x4_24 ex4_24
                        refine lv_iinc (v := x4_24) (lv' := [(4, .int x4_24), (2, .int v_22), (0, .ref a_this), (3, .int x3_9)]) hx hb dX5_leadTo_112 hl (k := 3) rfl (by rw [ex4_24]; rfl) (by decide) rfl (fun ls hl => ?_)
                        refine lv_goto (tgt := 86) hx hb dX5_leadTo_115 (by decide) ?_
                        exact ih86_16 _ _ _ _ _ _ h hP hD hS (lv_sub hl [2, 1, 3, 0] rfl)
                      obtain ⟨J106, hJ106, h⟩ := jn0_ex h
                      have kJ106_24 : ∀  (H : Heap) (locs : List Loc) (ls : Array Slot), J106 → va_P D vwCl (Wd_Ph_leadTo cy a_this a_cost a_entering a_parish a_parish_flitchCell a_parish_flitchKind a_parish_flitchStrength a_parish_familyKind a_parish_familySide a_parish_familyCell a_parish_familyWill a_parish_past a_parish_sightings a_parish_notes a_parish_marks x1 s_cost_21 s_entering_3 s_parish_flitchCount s_parish_familyCount s_parish_hung s_parish_day s_parish_flitchCell s_parish_flitchKind s_parish_flitchStrength) H → va_D A (Wd_Ph_leadTo cy a_this a_cost a_entering a_parish a_parish_flitchCell a_parish_flitchKind a_parish_flitchStrength a_parish_familyKind a_parish_familySide a_parish_familyCell a_parish_familyWill a_parish_past a_parish_sightings a_parish_notes a_parish_marks x1 s_cost_21 s_entering_3 s_parish_flitchCount s_parish_familyCount s_parish_hung s_parish_day s_parish_flitchCell s_parish_flitchKind s_parish_flitchStrength) → va_S A s.heap H locs → lv_has ls 5 [(0, .ref a_this), (3, .int x3_9), (4, .int x4_15)] → W p l e rm_Ph_leadTo s m args below meth c H locs 0 0 QQ (F0 m 106 ls []) := by
                        intro  H locs ls h hP hD hS hl
                        have h := hJ106  h
                        refine lv_iconst (v := 1) hx hb dX5_leadTo_106 (by decide) ?_
                        refine lv_goto (tgt := 111) hx hb dX5_leadTo_107 (by decide) ?_
                        exact kJ111_22 _ _ _ _ h hP hD hS (lv_sub hl [0, 1, 2] rfl)
                      refine lv_if_ne (tgt := 106) hx hb dX5_leadTo_99 (by decide) (fun c_26 => ?_) (fun c_26 => ?_)
                      · have h := h.1 c_26
                        exact kJ106_24  _ _ _ h hP hD hS (lv_sub hl [0, 2, 3] rfl)
                      · have h := h.2 c_26
                        refine lv_iload_n hx hb dX5_leadTo_102 rfl (lv_at hl 1 rfl) ?_
                        refine lv_if_eq (tgt := 110) hx hb dX5_leadTo_103 (by decide) (fun c_27 => ?_) (fun c_27 => ?_)
                        · have h := h.1 c_27
                          refine lv_iconst (v := 0) hx hb dX5_leadTo_110 (by decide) ?_
                          exact kJ111_22 _ _ _ _ h hP hD hS (lv_sub hl [0, 2, 3] rfl)
                        · have h := h.2 c_27
                          exact kJ106_24  _ _ _ h hP hD hS (lv_sub hl [0, 2, 3] rfl)
                exact kT86_16 n86_16 _ _ _ _ _ _ h hP hD hS (lv_sub hl [2, 1, 3, 0] rfl)
        exact kT71_10 n71_10 _ _ _ _ _ _ h hP hD hS (lv_sub hl [2, 1, 0] rfl)
      · have h := h.2 c_5
        refine lv_aload_n hx hb dX5_leadTo_13 rfl (lv_at hl 0 rfl) ?_
        refine va_get (D := D) (ci := 4) (v := .ref a_entering) (C := RX5) (T := TX5) (N := 4) hx hb hts in_X5 hown hK hP 0 rfl rfl 1 (by decide) fl_9 (fun _ h9 => h9) rfl dX5_leadTo_14 ?_
        refine lv_iload_n hx hb dX5_leadTo_17 rfl (lv_at hl 2 rfl) ?_
        refine lv_aload_n hx hb dX5_leadTo_18 rfl (lv_at hl 0 rfl) ?_
        refine va_get (D := D) (ci := 4) (v := .ref a_parish) (C := RX5) (T := TX5) (N := 4) hx hb hts in_X5 hown hK hP 0 rfl rfl 0 (by decide) fl_18 (fun _ h9 => h9) rfl dX5_leadTo_19 ?_
        refine lv_iload_n hx hb dX5_leadTo_22 rfl (lv_at hl 2 rfl) ?_
        refine lv_aload_n hx hb dX5_leadTo_23 rfl (lv_at hl 0 rfl) ?_
        refine va_get (D := D) (ci := 4) (v := .ref a_parish) (C := RX5) (T := TX5) (N := 4) hx hb hts in_X5 hown hK hP 0 rfl rfl 0 (by decide) fl_18 (fun _ h9 => h9) rfl dX5_leadTo_24 ?_
        refine va_get (D := D) (ci := 3) (v := .int s_parish_day) (C := RX4) (T := TX4) (N := 15) hx hb hts in_X4 hown hK hP 3 rfl rfl 14 (by decide) fl_26 (fun _ h9 => h9) rfl dX5_leadTo_27 ?_
        refine lv_aload_n hx hb dX5_leadTo_30 rfl (lv_at hl 0 rfl) ?_
        refine va_get (D := D) (ci := 4) (v := .ref a_parish) (C := RX5) (T := TX5) (N := 4) hx hb hts in_X5 hown hK hP 0 rfl rfl 0 (by decide) fl_18 (fun _ h9 => h9) rfl dX5_leadTo_31 ?_
        refine va_get (D := D) (ci := 3) (v := .int s_parish_hung) (C := RX4) (T := TX4) (N := 15) hx hb hts in_X4 hown hK hP 3 rfl rfl 13 (by decide) fl_31 (fun _ h9 => h9) rfl dX5_leadTo_34 ?_
        refine st_callRI (st_runVR (n := 3) (As := [.int x2_1, .int s_parish_day, .int s_parish_hung]) (rest := [.int x2_1, .ref a_entering]) (q0 := 0) F (co_Pa_scentAt l D cy a_parish a_parish_flitchCell a_parish_flitchKind a_parish_flitchStrength a_parish_familyKind a_parish_familySide a_parish_familyCell a_parish_familyWill a_parish_past a_parish_sightings a_parish_notes a_parish_marks s_parish_flitchCount s_parish_familyCount s_parish_hung s_parish_day s_parish_flitchCell s_parish_flitchKind s_parish_flitchStrength x2_1 s_parish_day s_parish_hung _ h) gX5_leadTo_X4_scentAt rfl (by decide +kernel) rfl hKK hP [3, 4, 5, 6] rfl rfl rfl rfl hl.1 rfl (Nat.le_of_ble_eq_true rfl) dX5_leadTo_37) (fun r_28 h => ?_)
        refine lv_bipush (v := 64) hx hb dX5_leadTo_40 (by decide) ?_
        refine lv_imul hx hb dX5_leadTo_42 ?_
        refine lv_iconst (v := 1) hx hb dX5_leadTo_43 (by decide) ?_
        refine lv_iadd hx hb dX5_leadTo_44 ?_
        obtain ⟨hi_29, h⟩ := h
        refine va_iast hx hb hK hP hD hS 2 1 rfl rfl hi_29 dX5_leadTo_45 (fun H locs hP hD hS => ?_)
        obtain ⟨s_entering_30, es_entering_30⟩ : ∃ f : Nat → Int32, f = upd s_entering_3 (Int32.toNatClampNeg x2_1) ((r_28 * 64) + 1) := ⟨_, rfl⟩
        have hP : va_P D vwCl (Wd_Ph_leadTo cy a_this a_cost a_entering a_parish a_parish_flitchCell a_parish_flitchKind a_parish_flitchStrength a_parish_familyKind a_parish_familySide a_parish_familyCell a_parish_familyWill a_parish_past a_parish_sightings a_parish_notes a_parish_marks x1 s_cost_2 s_entering_30 s_parish_flitchCount s_parish_familyCount s_parish_hung s_parish_day s_parish_flitchCell s_parish_flitchKind s_parish_flitchStrength) H := by rw [es_entering_30]; exact hP
        have hD : va_D A (Wd_Ph_leadTo cy a_this a_cost a_entering a_parish a_parish_flitchCell a_parish_flitchKind a_parish_flitchStrength a_parish_familyKind a_parish_familySide a_parish_familyCell a_parish_familyWill a_parish_past a_parish_sightings a_parish_notes a_parish_marks x1 s_cost_2 s_entering_30 s_parish_flitchCount s_parish_familyCount s_parish_hung s_parish_day s_parish_flitchCell s_parish_flitchKind s_parish_flitchStrength) := by rw [es_entering_30]; exact hD
        have h := h s_entering_30 es_entering_30
        refine lv_aload_n hx hb dX5_leadTo_46 rfl (lv_at hl 0 rfl) ?_
        refine va_get (D := D) (ci := 4) (v := .ref a_cost) (C := RX5) (T := TX5) (N := 4) hx hb hts in_X5 hown hK hP 0 rfl rfl 2 (by decide) fl_15 (fun _ h9 => h9) rfl dX5_leadTo_47 ?_
        refine lv_iload_n hx hb dX5_leadTo_50 rfl (lv_at hl 2 rfl) ?_
        refine lv_ldc (v := 1000000000) hx hb hown (hts (.constant RX5 38 (1000000000)) (List.mem_of_getElem? (i := 7) rfl)) dX5_leadTo_51 ?_
        obtain ⟨hi_31, h⟩ := h
        refine va_iast hx hb hK hP hD hS 1 1 rfl rfl hi_31 dX5_leadTo_53 (fun H locs hP hD hS => ?_)
        obtain ⟨s_cost_32, es_cost_32⟩ : ∃ f : Nat → Int32, f = upd s_cost_2 (Int32.toNatClampNeg x2_1) 1000000000 := ⟨_, rfl⟩
        have hP : va_P D vwCl (Wd_Ph_leadTo cy a_this a_cost a_entering a_parish a_parish_flitchCell a_parish_flitchKind a_parish_flitchStrength a_parish_familyKind a_parish_familySide a_parish_familyCell a_parish_familyWill a_parish_past a_parish_sightings a_parish_notes a_parish_marks x1 s_cost_32 s_entering_30 s_parish_flitchCount s_parish_familyCount s_parish_hung s_parish_day s_parish_flitchCell s_parish_flitchKind s_parish_flitchStrength) H := by rw [es_cost_32]; exact hP
        have hD : va_D A (Wd_Ph_leadTo cy a_this a_cost a_entering a_parish a_parish_flitchCell a_parish_flitchKind a_parish_flitchStrength a_parish_familyKind a_parish_familySide a_parish_familyCell a_parish_familyWill a_parish_past a_parish_sightings a_parish_notes a_parish_marks x1 s_cost_32 s_entering_30 s_parish_flitchCount s_parish_familyCount s_parish_hung s_parish_day s_parish_flitchCell s_parish_flitchKind s_parish_flitchStrength) := by rw [es_cost_32]; exact hD
        have h := h s_cost_32 es_cost_32
        obtain ⟨x2_33, ex2_33⟩ : ∃ y : Int32, y = x2_1 + 1 := ⟨_, rfl⟩
        have h := h x2_33 ex2_33
        refine lv_iinc (v := x2_33) (lv' := [(2, .int x2_33), (0, .ref a_this), (1, .int x1)]) hx hb dX5_leadTo_54 hl (k := 2) rfl (by rw [ex2_33]; rfl) (by decide) rfl (fun ls hl => ?_)
        refine lv_goto (tgt := 7) hx hb dX5_leadTo_57 (by decide) ?_
        exact ih7_3 _ _ _ _ _ _ h hP hD hS (lv_sub hl [1, 2, 0] rfl)
  exact kT7_3 n7_3 _ _ _ _ _ _ h hP hD hS (lv_sub hl [1, 2, 0] rfl)
abbrev Wd_Ph_smellFrom (cy : ClassId × ClassId × ClassId × ClassId) (a_this a_cost a_parish a_entering : Nat) (s_goal : Int32) (s_cost : Nat → Int32) : va_W := [(a_this, .inr (4, [.ref a_parish, .ref a_entering, .ref a_cost, .int s_goal])), (a_cost, .inl (cy.2.1, 25, .inl s_cost))]
abbrev rm_Ph_smellFrom : Room := { frames := 0, cells := 0, slots := 0, locals := 0 }
def wp_Ph_smellFrom (x1 : Int32) (s_cost : Nat → Int32) (Q : Int32 → Prop) : Prop := vp_in x1 25 ∧ Q ((s_cost (Int32.toNatClampNeg x1)) / 64)
set_option maxHeartbeats 4000000 in
set_option maxRecDepth 100000 in
theorem co_Ph_smellFrom (l : Launch) (D : va_G) (cy : ClassId × ClassId × ClassId × ClassId) (a_this a_cost a_parish a_entering : Nat) (s_goal : Int32) (s_cost : Nat → Int32) (x1 : Int32) (Q : Int32 → Prop) (h : wp_Ph_smellFrom x1 s_cost Q) : RoI l yX5_smellFrom wsX5_smellFrom rm_Ph_smellFrom D cy [.ref a_this, .int x1] (Wd_Ph_smellFrom cy a_this a_cost a_parish a_entering s_goal s_cost) Q := by
  refine st_metRI (cc := cX5_smellFrom) (maxL := 2) RX5 (by decide) rfl rfl (Nat.le_of_ble_eq_true rfl) ?_
  intro p e s m args below meth c QQ ls F hKK hP hl hret
  have hK := hKK.1
  have hnest := hKK.2.1
  have hx := F.1
  have hb := F.2.1
  have hown := F.2.2.2.1
  have hts := F.2.2.2.2
  have in_X5 : ∀ w ∈ u_ws RX5 TX5 4, w ∈ wsX5_smellFrom := (fun _ h => List.mem_cons_of_mem _ (List.mem_append_right _ h))
  have fl_15 := (hts (.fieldLink RX5 15 "RasherCase$Paths" "cost" "[I") (List.mem_of_getElem? (i := 1) rfl))
  have hl : lv_has ls 2 [(0, .ref a_this), (1, .int x1)] := hl
  unfold wp_Ph_smellFrom at h
  refine lv_aload_n hx hb dX5_smellFrom_0 rfl (lv_at hl 0 rfl) ?_
  refine va_get (D := D) (ci := 4) (v := .ref a_cost) (C := RX5) (T := TX5) (N := 4) hx hb hts in_X5 hown hK hP 0 rfl rfl 2 (by decide) fl_15 (fun _ h9 => h9) rfl dX5_smellFrom_1 ?_
  refine lv_iload_n hx hb dX5_smellFrom_4 rfl (lv_at hl 1 rfl) ?_
  obtain ⟨hi_1, h⟩ := h
  refine va_iald hx hb hK hP 1 1 rfl rfl hi_1 dX5_smellFrom_5 ?_
  refine lv_bipush (v := 64) hx hb dX5_smellFrom_6 (by decide) ?_
  refine lv_idiv hx hb dX5_smellFrom_8 (by decide) ?_
  exact hret _ _ _ h dX5_smellFrom_9
abbrev Wd_Ph_stepsFrom (cy : ClassId × ClassId × ClassId × ClassId) (a_this a_cost a_parish a_entering : Nat) (s_goal : Int32) (s_cost : Nat → Int32) : va_W := [(a_this, .inr (4, [.ref a_parish, .ref a_entering, .ref a_cost, .int s_goal])), (a_cost, .inl (cy.2.1, 25, .inl s_cost))]
abbrev rm_Ph_stepsFrom : Room := { frames := 0, cells := 0, slots := 0, locals := 0 }
def wp_Ph_stepsFrom (x1 : Int32) (s_cost : Nat → Int32) (Q : Int32 → Prop) : Prop := vp_in x1 25 ∧ Q (irem (s_cost (Int32.toNatClampNeg x1)) 64)
set_option maxHeartbeats 4000000 in
set_option maxRecDepth 100000 in
theorem co_Ph_stepsFrom (l : Launch) (D : va_G) (cy : ClassId × ClassId × ClassId × ClassId) (a_this a_cost a_parish a_entering : Nat) (s_goal : Int32) (s_cost : Nat → Int32) (x1 : Int32) (Q : Int32 → Prop) (h : wp_Ph_stepsFrom x1 s_cost Q) : RoI l yX5_stepsFrom wsX5_stepsFrom rm_Ph_stepsFrom D cy [.ref a_this, .int x1] (Wd_Ph_stepsFrom cy a_this a_cost a_parish a_entering s_goal s_cost) Q := by
  refine st_metRI (cc := cX5_stepsFrom) (maxL := 2) RX5 (by decide) rfl rfl (Nat.le_of_ble_eq_true rfl) ?_
  intro p e s m args below meth c QQ ls F hKK hP hl hret
  have hK := hKK.1
  have hnest := hKK.2.1
  have hx := F.1
  have hb := F.2.1
  have hown := F.2.2.2.1
  have hts := F.2.2.2.2
  have in_X5 : ∀ w ∈ u_ws RX5 TX5 4, w ∈ wsX5_stepsFrom := (fun _ h => List.mem_cons_of_mem _ (List.mem_append_right _ h))
  have fl_15 := (hts (.fieldLink RX5 15 "RasherCase$Paths" "cost" "[I") (List.mem_of_getElem? (i := 1) rfl))
  have hl : lv_has ls 2 [(0, .ref a_this), (1, .int x1)] := hl
  unfold wp_Ph_stepsFrom at h
  refine lv_aload_n hx hb dX5_stepsFrom_0 rfl (lv_at hl 0 rfl) ?_
  refine va_get (D := D) (ci := 4) (v := .ref a_cost) (C := RX5) (T := TX5) (N := 4) hx hb hts in_X5 hown hK hP 0 rfl rfl 2 (by decide) fl_15 (fun _ h9 => h9) rfl dX5_stepsFrom_1 ?_
  refine lv_iload_n hx hb dX5_stepsFrom_4 rfl (lv_at hl 1 rfl) ?_
  obtain ⟨hi_1, h⟩ := h
  refine va_iald hx hb hK hP 1 1 rfl rfl hi_1 dX5_stepsFrom_5 ?_
  refine lv_bipush (v := 64) hx hb dX5_stepsFrom_6 (by decide) ?_
  refine lv_irem hx hb dX5_stepsFrom_8 (by decide) ?_
  exact hret _ _ _ h dX5_stepsFrom_9
abbrev Wd_Ph_stepFrom (cy : ClassId × ClassId × ClassId × ClassId) (a_this a_cost a_entering a_parish : Nat) (s_goal : Int32) (s_cost : Nat → Int32) (s_entering : Nat → Int32) : va_W := [(a_this, .inr (4, [.ref a_parish, .ref a_entering, .ref a_cost, .int s_goal])), (a_cost, .inl (cy.2.1, 25, .inl s_cost)), (a_entering, .inl (cy.2.1, 25, .inl s_entering))]
abbrev rm_Ph_stepFrom : Room := { frames := 1, cells := 0, slots := 0, locals := 21 }
def wp_Ph_stepFrom (x1 : Int32) (s_cost : Nat → Int32) (s_entering : Nat → Int32) (Q : Int32 → Prop) : Prop := ∃ n : Nat, lpw1 (fun (B2 : Int32 → Prop) (x2_1 : Int32) => ((4 ≤ x2_1 → Q x1) ∧ (¬ 4 ≤ x2_1 → wp_Ph_beside x1 x2_1 (fun (r_4 : Int32) => jn0 (fun (J42 : Prop) => ((r_4 = (-1) → J42) ∧ (¬ r_4 = (-1) → vp_in r_4 25 ∧ vp_in r_4 25 ∧ vp_in x1 25 ∧ ((¬ ((s_cost (Int32.toNatClampNeg r_4)) + (s_entering (Int32.toNatClampNeg r_4))) = (s_cost (Int32.toNatClampNeg x1)) → J42) ∧ (((s_cost (Int32.toNatClampNeg r_4)) + (s_entering (Int32.toNatClampNeg r_4))) = (s_cost (Int32.toNatClampNeg x1)) → Q r_4))))) (∀ x2_6 : Int32, x2_6 = x2_1 + 1 → B2 x2_6))))) n 0
set_option maxHeartbeats 4000000 in
set_option maxRecDepth 100000 in
theorem co_Ph_stepFrom (l : Launch) (D : va_G) (cy : ClassId × ClassId × ClassId × ClassId) (a_this a_cost a_entering a_parish : Nat) (s_goal : Int32) (s_cost : Nat → Int32) (s_entering : Nat → Int32) (x1 : Int32) (Q : Int32 → Prop) (h : wp_Ph_stepFrom x1 s_cost s_entering Q) : RoI l yX5_stepFrom wsX5_stepFrom rm_Ph_stepFrom D cy [.ref a_this, .int x1] (Wd_Ph_stepFrom cy a_this a_cost a_entering a_parish s_goal s_cost s_entering) Q := by
  refine st_metRI (cc := cX5_stepFrom) (maxL := 4) RX5 (by decide) rfl rfl (Nat.le_of_ble_eq_true rfl) ?_
  intro p e s m args below meth c QQ ls F hKK hP hl hret
  have hK := hKK.1
  have hnest := hKK.2.1
  have hx := F.1
  have hb := F.2.1
  have hown := F.2.2.2.1
  have hts := F.2.2.2.2
  have in_X5 : ∀ w ∈ u_ws RX5 TX5 4, w ∈ wsX5_stepFrom := (fun _ h => List.mem_cons_of_mem _ (List.mem_append_right _ h))
  have fl_9 := (hts (.fieldLink RX5 9 "RasherCase$Paths" "entering" "[I") (List.mem_of_getElem? (i := 2) rfl))
  have fl_15 := (hts (.fieldLink RX5 15 "RasherCase$Paths" "cost" "[I") (List.mem_of_getElem? (i := 1) rfl))
  have hl : lv_has ls 4 [(0, .ref a_this), (1, .int x1)] := hl
  unfold wp_Ph_stepFrom at h
  refine lv_iconst (v := 0) hx hb dX5_stepFrom_0 (by decide) ?_
  refine lv_istore_n (lv' := [(2, .int 0), (0, .ref a_this), (1, .int x1)]) hx hb dX5_stepFrom_1 rfl hl (by decide) rfl (fun ls hl => ?_)
  obtain ⟨T2_1, hz2_1, hs2_1, n2_1, h⟩ := lpw1_use h
  have kT2_1 : ∀ (n : Nat) (x2_1 : Int32) (ls : Array Slot), T2_1 n x2_1 → lv_has ls 4 [(0, .ref a_this), (1, .int x1), (2, .int x2_1)] → W p l e rm_Ph_stepFrom s m args below meth c s.heap [] 0 0 QQ (F0 m 2 ls []) := by
    intro n
    induction n with
    | zero => intro x2_1 ls h; exact absurd h (hz2_1 _)
    | succ n ih2_1 =>
      intro x2_1 ls h hl
      have h := hs2_1 _ _ h
      refine lv_iload_n hx hb dX5_stepFrom_2 rfl (lv_at hl 2 rfl) ?_
      refine lv_iconst (v := 4) hx hb dX5_stepFrom_3 (by decide) ?_
      refine lv_icmp_ge (tgt := 48) hx hb dX5_stepFrom_4 (by decide) (fun c_3 => ?_) (fun c_3 => ?_)
      · have h := h.1 c_3
        refine lv_iload_n hx hb dX5_stepFrom_48 rfl (lv_at hl 1 rfl) ?_
        exact hret _ _ _ h dX5_stepFrom_49
      · have h := h.2 c_3
        refine lv_iload_n hx hb dX5_stepFrom_7 rfl (lv_at hl 1 rfl) ?_
        refine lv_iload_n hx hb dX5_stepFrom_8 rfl (lv_at hl 2 rfl) ?_
        refine st_callRI (st_runSR (n := 2) (As := [.int x1, .int x2_1]) (rest := []) F (co_Ph_beside l D cy x1 x2_1 _ h) gX5_stepFrom_X5_beside rfl (by decide +kernel) rfl hKK hP [] rfl rfl hl.1 rfl (Nat.le_of_ble_eq_true rfl) dX5_stepFrom_9) (fun r_4 h => ?_)
        refine lv_istore_n (lv' := [(3, .int r_4), (0, .ref a_this), (1, .int x1), (2, .int x2_1)]) hx hb dX5_stepFrom_12 rfl hl (by decide) rfl (fun ls hl => ?_)
        refine lv_iload_n hx hb dX5_stepFrom_13 rfl (lv_at hl 0 rfl) ?_
        refine lv_iconst (v := (-1)) hx hb dX5_stepFrom_14 (by decide) ?_
        obtain ⟨J42, hJ42, h⟩ := jn0_ex h
        have kJ42_4 : ∀  (ls : Array Slot), J42 → lv_has ls 4 [(0, .ref a_this), (1, .int x1), (2, .int x2_1)] → W p l e rm_Ph_stepFrom s m args below meth c s.heap [] 0 0 QQ (F0 m 42 ls []) := by
          intro  ls h hl
          have h := hJ42  h
          obtain ⟨x2_6, ex2_6⟩ : ∃ y : Int32, y = x2_1 + 1 := ⟨_, rfl⟩
          have h := h x2_6 ex2_6
          refine lv_iinc (v := x2_6) (lv' := [(2, .int x2_6), (0, .ref a_this), (1, .int x1)]) hx hb dX5_stepFrom_42 hl (k := 2) rfl (by rw [ex2_6]; rfl) (by decide) rfl (fun ls hl => ?_)
          refine lv_goto (tgt := 2) hx hb dX5_stepFrom_45 (by decide) ?_
          exact ih2_1 _ _ h (lv_sub hl [1, 2, 0] rfl)
        refine lv_icmp_eq (tgt := 42) hx hb dX5_stepFrom_15 (by decide) (fun c_7 => ?_) (fun c_7 => ?_)
        · have h := h.1 c_7
          exact kJ42_4  _ h (lv_sub hl [1, 2, 3] rfl)
        · have h := h.2 c_7
          refine lv_aload_n hx hb dX5_stepFrom_18 rfl (lv_at hl 1 rfl) ?_
          refine va_get (D := D) (ci := 4) (v := .ref a_cost) (C := RX5) (T := TX5) (N := 4) hx hb hts in_X5 hown hK hP 0 rfl rfl 2 (by decide) fl_15 (fun _ h9 => h9) rfl dX5_stepFrom_19 ?_
          refine lv_iload_n hx hb dX5_stepFrom_22 rfl (lv_at hl 0 rfl) ?_
          obtain ⟨hi_8, h⟩ := h
          refine va_iald hx hb hK hP 1 1 rfl rfl hi_8 dX5_stepFrom_23 ?_
          refine lv_aload_n hx hb dX5_stepFrom_24 rfl (lv_at hl 1 rfl) ?_
          refine va_get (D := D) (ci := 4) (v := .ref a_entering) (C := RX5) (T := TX5) (N := 4) hx hb hts in_X5 hown hK hP 0 rfl rfl 1 (by decide) fl_9 (fun _ h9 => h9) rfl dX5_stepFrom_25 ?_
          refine lv_iload_n hx hb dX5_stepFrom_28 rfl (lv_at hl 0 rfl) ?_
          obtain ⟨hi_9, h⟩ := h
          refine va_iald hx hb hK hP 2 1 rfl rfl hi_9 dX5_stepFrom_29 ?_
          refine lv_iadd hx hb dX5_stepFrom_30 ?_
          refine lv_aload_n hx hb dX5_stepFrom_31 rfl (lv_at hl 1 rfl) ?_
          refine va_get (D := D) (ci := 4) (v := .ref a_cost) (C := RX5) (T := TX5) (N := 4) hx hb hts in_X5 hown hK hP 0 rfl rfl 2 (by decide) fl_15 (fun _ h9 => h9) rfl dX5_stepFrom_32 ?_
          refine lv_iload_n hx hb dX5_stepFrom_35 rfl (lv_at hl 2 rfl) ?_
          obtain ⟨hi_10, h⟩ := h
          refine va_iald hx hb hK hP 1 1 rfl rfl hi_10 dX5_stepFrom_36 ?_
          refine lv_icmp_ne (tgt := 42) hx hb dX5_stepFrom_37 (by decide) (fun c_11 => ?_) (fun c_11 => ?_)
          · have h := h.1 c_11
            exact kJ42_4  _ h (lv_sub hl [1, 2, 3] rfl)
          · have h := h.2 c_11
            refine lv_iload_n hx hb dX5_stepFrom_40 rfl (lv_at hl 0 rfl) ?_
            exact hret _ _ _ h dX5_stepFrom_41
  exact kT2_1 n2_1 _ _ h (lv_sub hl [1, 2, 0] rfl)
abbrev Wd_Ph_cellOfStep (cy : ClassId × ClassId × ClassId × ClassId) (a_this a_cost a_entering a_parish : Nat) (s_goal : Int32) (s_cost : Nat → Int32) (s_entering : Nat → Int32) : va_W := [(a_this, .inr (4, [.ref a_parish, .ref a_entering, .ref a_cost, .int s_goal])), (a_cost, .inl (cy.2.1, 25, .inl s_cost)), (a_entering, .inl (cy.2.1, 25, .inl s_entering))]
abbrev rm_Ph_cellOfStep : Room := { frames := 2, cells := 0, slots := 0, locals := 44 }
def wp_Ph_cellOfStep (x1 : Int32) (x2 : Int32) (s_goal : Int32) (s_cost : Nat → Int32) (s_entering : Nat → Int32) (Q : Int32 → Prop) : Prop := ∃ n : Nat, lpw2 (fun (B5 : Int32 → Int32 → Prop) (x3_1 : Int32) (x4_2 : Int32) => ((x2 < x4_2 → Q x3_1) ∧ (¬ x2 < x4_2 → ((25 ≤ x4_2 → Q x3_1) ∧ (¬ 25 ≤ x4_2 → ((x3_1 = s_goal → Q x3_1) ∧ (¬ x3_1 = s_goal → wp_Ph_stepFrom x3_1 s_cost s_entering (fun (r_7 : Int32) => ∀ x4_8 : Int32, x4_8 = x4_2 + 1 → B5 r_7 x4_8)))))))) n x1 0
set_option maxHeartbeats 4000000 in
set_option maxRecDepth 100000 in
theorem co_Ph_cellOfStep (l : Launch) (D : va_G) (cy : ClassId × ClassId × ClassId × ClassId) (a_this a_cost a_entering a_parish : Nat) (s_goal : Int32) (s_cost : Nat → Int32) (s_entering : Nat → Int32) (x1 : Int32) (x2 : Int32) (Q : Int32 → Prop) (h : wp_Ph_cellOfStep x1 x2 s_goal s_cost s_entering Q) : RoI l yX5_cellOfStep wsX5_cellOfStep rm_Ph_cellOfStep D cy [.ref a_this, .int x1, .int x2] (Wd_Ph_cellOfStep cy a_this a_cost a_entering a_parish s_goal s_cost s_entering) Q := by
  refine st_metRI (cc := cX5_cellOfStep) (maxL := 5) RX5 (by decide) rfl rfl (Nat.le_of_ble_eq_true rfl) ?_
  intro p e s m args below meth c QQ ls F hKK hP hl hret
  have hK := hKK.1
  have hnest := hKK.2.1
  have hx := F.1
  have hb := F.2.1
  have hown := F.2.2.2.1
  have hts := F.2.2.2.2
  have in_X5 : ∀ w ∈ u_ws RX5 TX5 4, w ∈ wsX5_cellOfStep := (fun _ h => List.mem_cons_of_mem _ (List.mem_append_right _ h))
  have fl_22 := (hts (.fieldLink RX5 22 "RasherCase$Paths" "goal" "I") (List.mem_of_getElem? (i := 1) rfl))
  have hl : lv_has ls 5 [(0, .ref a_this), (1, .int x1), (2, .int x2)] := hl
  unfold wp_Ph_cellOfStep at h
  refine lv_iload_n hx hb dX5_cellOfStep_0 rfl (lv_at hl 1 rfl) ?_
  refine lv_istore_n (lv' := [(3, .int x1), (0, .ref a_this), (1, .int x1), (2, .int x2)]) hx hb dX5_cellOfStep_1 rfl hl (by decide) rfl (fun ls hl => ?_)
  refine lv_iconst (v := 0) hx hb dX5_cellOfStep_2 (by decide) ?_
  refine lv_istore (lv' := [(4, .int 0), (3, .int x1), (0, .ref a_this), (1, .int x1), (2, .int x2)]) hx hb dX5_cellOfStep_3 hl (by decide) rfl (fun ls hl => ?_)
  obtain ⟨T5_2, hz5_2, hs5_2, n5_2, h⟩ := lpw2_use h
  have kT5_2 : ∀ (n : Nat) (x3_1 : Int32) (x4_2 : Int32) (ls : Array Slot), T5_2 n x3_1 x4_2 → lv_has ls 5 [(0, .ref a_this), (2, .int x2), (3, .int x3_1), (4, .int x4_2)] → W p l e rm_Ph_cellOfStep s m args below meth c s.heap [] 0 0 QQ (F0 m 5 ls []) := by
    intro n
    induction n with
    | zero => intro x3_1 x4_2 ls h; exact absurd h (hz5_2 _ _)
    | succ n ih5_2 =>
      intro x3_1 x4_2 ls h hl
      have h := hs5_2 _ _ _ h
      refine lv_iload hx hb dX5_cellOfStep_5 (lv_at hl 3 rfl) ?_
      refine lv_iload_n hx hb dX5_cellOfStep_7 rfl (lv_at hl 1 rfl) ?_
      refine lv_icmp_gt (tgt := 38) hx hb dX5_cellOfStep_8 (by decide) (fun c_4 => ?_) (fun c_4 => ?_)
      · have h := h.1 c_4
        refine lv_iload_n hx hb dX5_cellOfStep_38 rfl (lv_at hl 2 rfl) ?_
        exact hret _ _ _ h dX5_cellOfStep_39
      · have h := h.2 c_4
        refine lv_iload hx hb dX5_cellOfStep_11 (lv_at hl 3 rfl) ?_
        refine lv_bipush (v := 25) hx hb dX5_cellOfStep_13 (by decide) ?_
        refine lv_icmp_ge (tgt := 38) hx hb dX5_cellOfStep_15 (by decide) (fun c_5 => ?_) (fun c_5 => ?_)
        · have h := h.1 c_5
          refine lv_iload_n hx hb dX5_cellOfStep_38 rfl (lv_at hl 2 rfl) ?_
          exact hret _ _ _ h dX5_cellOfStep_39
        · have h := h.2 c_5
          refine lv_iload_n hx hb dX5_cellOfStep_18 rfl (lv_at hl 2 rfl) ?_
          refine lv_aload_n hx hb dX5_cellOfStep_19 rfl (lv_at hl 0 rfl) ?_
          refine va_get (D := D) (ci := 4) (v := .int s_goal) (C := RX5) (T := TX5) (N := 4) hx hb hts in_X5 hown hK hP 0 rfl rfl 3 (by decide) fl_22 (fun _ h9 => h9) rfl dX5_cellOfStep_20 ?_
          refine lv_icmp_eq (tgt := 38) hx hb dX5_cellOfStep_23 (by decide) (fun c_6 => ?_) (fun c_6 => ?_)
          · have h := h.1 c_6
            refine lv_iload_n hx hb dX5_cellOfStep_38 rfl (lv_at hl 2 rfl) ?_
            exact hret _ _ _ h dX5_cellOfStep_39
          · have h := h.2 c_6
            refine lv_aload_n hx hb dX5_cellOfStep_26 rfl (lv_at hl 0 rfl) ?_
            refine lv_iload_n hx hb dX5_cellOfStep_27 rfl (lv_at hl 2 rfl) ?_
            refine st_callRI (st_runVR (n := 1) (As := [.int x3_1]) (rest := []) (q0 := 0) F (co_Ph_stepFrom l D cy a_this a_cost a_entering a_parish s_goal s_cost s_entering x3_1 _ h) gX5_cellOfStep_X5_stepFrom rfl (by decide +kernel) rfl hKK hP [0, 1, 2] rfl rfl rfl rfl hl.1 rfl (Nat.le_of_ble_eq_true rfl) dX5_cellOfStep_28) (fun r_7 h => ?_)
            refine lv_istore_n (lv' := [(3, .int r_7), (0, .ref a_this), (2, .int x2), (4, .int x4_2)]) hx hb dX5_cellOfStep_31 rfl hl (by decide) rfl (fun ls hl => ?_)
            obtain ⟨x4_8, ex4_8⟩ : ∃ y : Int32, y = x4_2 + 1 := ⟨_, rfl⟩
            have h := h x4_8 ex4_8
            refine lv_iinc (v := x4_8) (lv' := [(4, .int x4_8), (3, .int r_7), (0, .ref a_this), (2, .int x2)]) hx hb dX5_cellOfStep_32 hl (k := 3) rfl (by rw [ex4_8]; rfl) (by decide) rfl (fun ls hl => ?_)
            refine lv_goto (tgt := 5) hx hb dX5_cellOfStep_35 (by decide) ?_
            exact ih5_2 _ _ _ h (lv_sub hl [2, 3, 1, 0] rfl)
  exact kT5_2 n5_2 _ _ _ h (lv_sub hl [2, 4, 1, 0] rfl)
abbrev Wd_Rw_enter (cy : ClassId × ClassId × ClassId × ClassId) (a_this a_numbers : Nat) (n_numbers : Nat) (s_width : Int32) (s_limit : Int32) (s_size : Int32) (s_numbers : Nat → Int32) : va_W := [(a_this, .inr (5, [.int s_width, .int s_limit, .ref a_numbers, .int s_size])), (a_numbers, .inl (cy.2.1, n_numbers, .inl s_numbers))]
abbrev rm_Rw_enter : Room := { frames := 1, cells := 0, slots := 0, locals := 23 }
def wp_Rw_enter (x1 : Int32) (x2 : Int32) (x3 : Int32) (x4 : Int32) (x5 : Int32) (n_numbers : Nat) (s_width : Int32) (s_size : Int32) (s_numbers : Nat → Int32) (Q : Int32 → (Nat → Int32) → Prop) : Prop := wp_Rw_put s_size 0 x1 n_numbers s_width s_numbers (fun (s_numbers_2 : Nat → Int32) => wp_Rw_put s_size 1 x2 n_numbers s_width s_numbers_2 (fun (s_numbers_4 : Nat → Int32) => wp_Rw_put s_size 2 x3 n_numbers s_width s_numbers_4 (fun (s_numbers_6 : Nat → Int32) => jn1 (fun (J47 : (Nat → Int32) → Prop) => ((s_width ≤ 3 → J47 s_numbers_6) ∧ (¬ s_width ≤ 3 → wp_Rw_put s_size 3 x4 n_numbers s_width s_numbers_6 (fun (s_numbers_17 : Nat → Int32) => J47 s_numbers_17)))) (fun (s_numbers_7 : Nat → Int32) => jn1 (fun (J64 : (Nat → Int32) → Prop) => ((s_width ≤ 4 → J64 s_numbers_7) ∧ (¬ s_width ≤ 4 → wp_Rw_put s_size 4 x5 n_numbers s_width s_numbers_7 (fun (s_numbers_14 : Nat → Int32) => J64 s_numbers_14)))) (fun (s_numbers_9 : Nat → Int32) => ∀ s_size_11 : Int32, s_size_11 = (s_size + 1) → Q s_size_11 s_numbers_9)))))
set_option maxHeartbeats 4000000 in
set_option maxRecDepth 100000 in
theorem co_Rw_enter (l : Launch) (D : va_G) (cy : ClassId × ClassId × ClassId × ClassId) (a_this a_numbers : Nat) (n_numbers : Nat) (s_width : Int32) (s_limit : Int32) (s_size : Int32) (s_numbers : Nat → Int32) (x1 : Int32) (x2 : Int32) (x3 : Int32) (x4 : Int32) (x5 : Int32) (Q : Int32 → (Nat → Int32) → Prop) (h : wp_Rw_enter x1 x2 x3 x4 x5 n_numbers s_width s_size s_numbers Q) : CoV l yX6_enter wsX6_enter rm_Rw_enter D cy [.ref a_this, .int x1, .int x2, .int x3, .int x4, .int x5] (Wd_Rw_enter cy a_this a_numbers n_numbers s_width s_limit s_size s_numbers) (fun u : Int32 × (Nat → Int32) => (Wd_Rw_enter cy a_this a_numbers n_numbers s_width s_limit u.1 u.2)) (fun (u : Int32 × (Nat → Int32)) => Q u.1 u.2) := by
  refine st_metV (cc := cX6_enter) (maxL := 7) RX6 (by decide) rfl rfl (Nat.le_of_ble_eq_true rfl) ?_
  intro p e s m args below meth c A QQ ls F hA hKK hP hD hS hl hret
  have hK := hKK.1
  have hnest := hKK.2.1
  have hx := F.1
  have hb := F.2.1
  have hown := F.2.2.2.1
  have hts := F.2.2.2.2
  have in_X6 : ∀ w ∈ u_ws RX6 TX6 4, w ∈ wsX6_enter := (fun _ h => List.mem_cons_of_mem _ (List.mem_append_right _ h))
  have fl_7 := (hts (.fieldLink RX6 7 "RasherCase$Rows" "width" "I") (List.mem_of_getElem? (i := 2) rfl))
  have fl_20 := (hts (.fieldLink RX6 20 "RasherCase$Rows" "size" "I") (List.mem_of_getElem? (i := 1) rfl))
  have hl : lv_has ls 7 [(0, .ref a_this), (1, .int x1), (2, .int x2), (3, .int x3), (4, .int x4), (5, .int x5)] := hl
  unfold wp_Rw_enter at h
  refine lv_aload_n hx hb dX6_enter_0 rfl (lv_at hl 0 rfl) ?_
  refine va_get (D := D) (ci := 5) (v := .int s_size) (C := RX6) (T := TX6) (N := 4) hx hb hts in_X6 hown hK hP 0 rfl rfl 3 (by decide) fl_20 (fun _ h9 => h9) rfl dX6_enter_1 ?_
  refine lv_istore (lv' := [(6, .int s_size), (0, .ref a_this), (1, .int x1), (2, .int x2), (3, .int x3), (4, .int x4), (5, .int x5)]) hx hb dX6_enter_4 hl (by decide) rfl (fun ls hl => ?_)
  refine lv_aload_n hx hb dX6_enter_6 rfl (lv_at hl 1 rfl) ?_
  refine lv_iload hx hb dX6_enter_7 (lv_at hl 0 rfl) ?_
  refine lv_iconst (v := 0) hx hb dX6_enter_9 (by decide) ?_
  refine lv_iload_n hx hb dX6_enter_10 rfl (lv_at hl 2 rfl) ?_
  refine st_callV (WR := []) (WSn := fun u => (Wd_Rw_enter cy a_this a_numbers n_numbers s_width s_limit s_size u)) (st_runV (n := 3) (As := [.int s_size, .int 0, .int x1]) (rest := []) (q0 := 0) F ((co_Rw_put l D cy a_this a_numbers n_numbers s_width s_limit s_size s_numbers s_size 0 x1 _ h) _) rfl gX6_enter_X6_put rfl (by decide +kernel) rfl hKK hP hD [0, 1] rfl rfl rfl rfl rfl hl.1 rfl (Nat.le_of_ble_eq_true rfl) dX6_enter_11) hP hD hS hA [0, 1] [] [0, 1] rfl rfl rfl (fun _ => rfl) (fun u H locs h hP hD hS => ?_)
  obtain ⟨s_numbers_2, rfl⟩ : ∃ z, z = u := ⟨_, rfl⟩
  have hP : va_P D vwCl (Wd_Rw_enter cy a_this a_numbers n_numbers s_width s_limit s_size s_numbers_2) H := hP
  have hD : va_D A (Wd_Rw_enter cy a_this a_numbers n_numbers s_width s_limit s_size s_numbers_2) := hD
  refine lv_aload_n hx hb dX6_enter_14 rfl (lv_at hl 1 rfl) ?_
  refine lv_iload hx hb dX6_enter_15 (lv_at hl 0 rfl) ?_
  refine lv_iconst (v := 1) hx hb dX6_enter_17 (by decide) ?_
  refine lv_iload_n hx hb dX6_enter_18 rfl (lv_at hl 3 rfl) ?_
  refine st_callV (WR := []) (WSn := fun u => (Wd_Rw_enter cy a_this a_numbers n_numbers s_width s_limit s_size u)) (st_runV (n := 3) (As := [.int s_size, .int 1, .int x2]) (rest := []) (q0 := 0) F ((co_Rw_put l D cy a_this a_numbers n_numbers s_width s_limit s_size s_numbers_2 s_size 1 x2 _ h) _) rfl gX6_enter_X6_put rfl (by decide +kernel) rfl hKK hP hD [0, 1] rfl rfl rfl rfl rfl hl.1 rfl (Nat.le_of_ble_eq_true rfl) dX6_enter_19) hP hD hS hA [0, 1] [] [0, 1] rfl rfl rfl (fun _ => rfl) (fun u H locs h hP hD hS => ?_)
  obtain ⟨s_numbers_4, rfl⟩ : ∃ z, z = u := ⟨_, rfl⟩
  have hP : va_P D vwCl (Wd_Rw_enter cy a_this a_numbers n_numbers s_width s_limit s_size s_numbers_4) H := hP
  have hD : va_D A (Wd_Rw_enter cy a_this a_numbers n_numbers s_width s_limit s_size s_numbers_4) := hD
  refine lv_aload_n hx hb dX6_enter_22 rfl (lv_at hl 1 rfl) ?_
  refine lv_iload hx hb dX6_enter_23 (lv_at hl 0 rfl) ?_
  refine lv_iconst (v := 2) hx hb dX6_enter_25 (by decide) ?_
  refine lv_iload_n hx hb dX6_enter_26 rfl (lv_at hl 4 rfl) ?_
  refine st_callV (WR := []) (WSn := fun u => (Wd_Rw_enter cy a_this a_numbers n_numbers s_width s_limit s_size u)) (st_runV (n := 3) (As := [.int s_size, .int 2, .int x3]) (rest := []) (q0 := 0) F ((co_Rw_put l D cy a_this a_numbers n_numbers s_width s_limit s_size s_numbers_4 s_size 2 x3 _ h) _) rfl gX6_enter_X6_put rfl (by decide +kernel) rfl hKK hP hD [0, 1] rfl rfl rfl rfl rfl hl.1 rfl (Nat.le_of_ble_eq_true rfl) dX6_enter_27) hP hD hS hA [0, 1] [] [0, 1] rfl rfl rfl (fun _ => rfl) (fun u H locs h hP hD hS => ?_)
  obtain ⟨s_numbers_6, rfl⟩ : ∃ z, z = u := ⟨_, rfl⟩
  have hP : va_P D vwCl (Wd_Rw_enter cy a_this a_numbers n_numbers s_width s_limit s_size s_numbers_6) H := hP
  have hD : va_D A (Wd_Rw_enter cy a_this a_numbers n_numbers s_width s_limit s_size s_numbers_6) := hD
  refine lv_aload_n hx hb dX6_enter_30 rfl (lv_at hl 1 rfl) ?_
  refine va_get (D := D) (ci := 5) (v := .int s_width) (C := RX6) (T := TX6) (N := 4) hx hb hts in_X6 hown hK hP 0 rfl rfl 0 (by decide) fl_7 (fun _ h9 => h9) rfl dX6_enter_31 ?_
  refine lv_iconst (v := 3) hx hb dX6_enter_34 (by decide) ?_
  obtain ⟨J47, hJ47, h⟩ := jn1_ex h
  have kJ47_7 : ∀ (s_numbers_7 : Nat → Int32) (H : Heap) (locs : List Loc) (ls : Array Slot), J47 s_numbers_7 → va_P D vwCl (Wd_Rw_enter cy a_this a_numbers n_numbers s_width s_limit s_size s_numbers_7) H → va_D A (Wd_Rw_enter cy a_this a_numbers n_numbers s_width s_limit s_size s_numbers_7) → va_S A s.heap H locs → lv_has ls 7 [(0, .ref a_this), (5, .int x5), (6, .int s_size)] → W p l e rm_Rw_enter s m args below meth c H locs 0 0 QQ (F0 m 47 ls []) := by
    intro s_numbers_7 H locs ls h hP hD hS hl
    have h := hJ47 _ h
    refine lv_aload_n hx hb dX6_enter_47 rfl (lv_at hl 0 rfl) ?_
    refine va_get (D := D) (ci := 5) (v := .int s_width) (C := RX6) (T := TX6) (N := 4) hx hb hts in_X6 hown hK hP 0 rfl rfl 0 (by decide) fl_7 (fun _ h9 => h9) rfl dX6_enter_48 ?_
    refine lv_iconst (v := 4) hx hb dX6_enter_51 (by decide) ?_
    obtain ⟨J64, hJ64, h⟩ := jn1_ex h
    have kJ64_9 : ∀ (s_numbers_9 : Nat → Int32) (H : Heap) (locs : List Loc) (ls : Array Slot), J64 s_numbers_9 → va_P D vwCl (Wd_Rw_enter cy a_this a_numbers n_numbers s_width s_limit s_size s_numbers_9) H → va_D A (Wd_Rw_enter cy a_this a_numbers n_numbers s_width s_limit s_size s_numbers_9) → va_S A s.heap H locs → lv_has ls 7 [(0, .ref a_this)] → W p l e rm_Rw_enter s m args below meth c H locs 0 0 QQ (F0 m 64 ls []) := by
      intro s_numbers_9 H locs ls h hP hD hS hl
      have h := hJ64 _ h
      refine lv_aload_n hx hb dX6_enter_64 rfl (lv_at hl 0 rfl) ?_
      refine lv_dup hx hb dX6_enter_65 rfl ?_
      refine va_get (D := D) (ci := 5) (v := .int s_size) (C := RX6) (T := TX6) (N := 4) hx hb hts in_X6 hown hK hP 0 rfl rfl 3 (by decide) fl_20 (fun _ h9 => h9) rfl dX6_enter_66 ?_
      refine lv_iconst (v := 1) hx hb dX6_enter_69 (by decide) ?_
      refine lv_iadd hx hb dX6_enter_70 ?_
      refine lv_topi (fun s_size_11 es_size_11 => ?_)
      have h := h s_size_11 es_size_11
      refine va_put (D := D) (ci := 5) (v := .int s_size_11) (ty := .int) (C := RX6) (T := TX6) (N := 4) hx hb hts in_X6 tyX6 tyX6_ok nmX6 hown hK hP hD hS 0 rfl rfl 3 (by decide) fl_20 (fun _ h9 => h9) rfl (tyX6_ok 3 (by decide)) rfl rfl (Nat.le_of_ble_eq_true rfl) dX6_enter_71 (fun H locs hP hD hS => ?_)
      have hP : va_P D vwCl (Wd_Rw_enter cy a_this a_numbers n_numbers s_width s_limit s_size_11 s_numbers_9) H := hP
      have hD : va_D A (Wd_Rw_enter cy a_this a_numbers n_numbers s_width s_limit s_size_11 s_numbers_9) := hD
      exact hret (s_size_11, s_numbers_9) _ _ _ _ h hP hD hS dX6_enter_74
    refine lv_icmp_le (tgt := 64) hx hb dX6_enter_52 (by decide) (fun c_12 => ?_) (fun c_12 => ?_)
    · have h := h.1 c_12
      exact kJ64_9 _ _ _ _ h hP hD hS (lv_sub hl [0] rfl)
    · have h := h.2 c_12
      refine lv_aload_n hx hb dX6_enter_55 rfl (lv_at hl 0 rfl) ?_
      refine lv_iload hx hb dX6_enter_56 (lv_at hl 2 rfl) ?_
      refine lv_iconst (v := 4) hx hb dX6_enter_58 (by decide) ?_
      refine lv_iload hx hb dX6_enter_59 (lv_at hl 1 rfl) ?_
      refine st_callV (WR := []) (WSn := fun u => (Wd_Rw_enter cy a_this a_numbers n_numbers s_width s_limit s_size u)) (st_runV (n := 3) (As := [.int s_size, .int 4, .int x5]) (rest := []) (q0 := 0) F ((co_Rw_put l D cy a_this a_numbers n_numbers s_width s_limit s_size s_numbers_7 s_size 4 x5 _ h) _) rfl gX6_enter_X6_put rfl (by decide +kernel) rfl hKK hP hD [0, 1] rfl rfl rfl rfl rfl hl.1 rfl (Nat.le_of_ble_eq_true rfl) dX6_enter_61) hP hD hS hA [0, 1] [] [0, 1] rfl rfl rfl (fun _ => rfl) (fun u H locs h hP hD hS => ?_)
      obtain ⟨s_numbers_14, rfl⟩ : ∃ z, z = u := ⟨_, rfl⟩
      have hP : va_P D vwCl (Wd_Rw_enter cy a_this a_numbers n_numbers s_width s_limit s_size s_numbers_14) H := hP
      have hD : va_D A (Wd_Rw_enter cy a_this a_numbers n_numbers s_width s_limit s_size s_numbers_14) := hD
      exact kJ64_9 _ _ _ _ h hP hD hS (lv_sub hl [0] rfl)
  refine lv_icmp_le (tgt := 47) hx hb dX6_enter_35 (by decide) (fun c_15 => ?_) (fun c_15 => ?_)
  · have h := h.1 c_15
    exact kJ47_7 _ _ _ _ h hP hD hS (lv_sub hl [1, 6, 0] rfl)
  · have h := h.2 c_15
    refine lv_aload_n hx hb dX6_enter_38 rfl (lv_at hl 1 rfl) ?_
    refine lv_iload hx hb dX6_enter_39 (lv_at hl 0 rfl) ?_
    refine lv_iconst (v := 3) hx hb dX6_enter_41 (by decide) ?_
    refine lv_iload hx hb dX6_enter_42 (lv_at hl 5 rfl) ?_
    refine st_callV (WR := []) (WSn := fun u => (Wd_Rw_enter cy a_this a_numbers n_numbers s_width s_limit s_size u)) (st_runV (n := 3) (As := [.int s_size, .int 3, .int x4]) (rest := []) (q0 := 0) F ((co_Rw_put l D cy a_this a_numbers n_numbers s_width s_limit s_size s_numbers_6 s_size 3 x4 _ h) _) rfl gX6_enter_X6_put rfl (by decide +kernel) rfl hKK hP hD [0, 1] rfl rfl rfl rfl rfl hl.1 rfl (Nat.le_of_ble_eq_true rfl) dX6_enter_44) hP hD hS hA [0, 1] [] [0, 1] rfl rfl rfl (fun _ => rfl) (fun u H locs h hP hD hS => ?_)
    obtain ⟨s_numbers_17, rfl⟩ : ∃ z, z = u := ⟨_, rfl⟩
    have hP : va_P D vwCl (Wd_Rw_enter cy a_this a_numbers n_numbers s_width s_limit s_size s_numbers_17) H := hP
    have hD : va_D A (Wd_Rw_enter cy a_this a_numbers n_numbers s_width s_limit s_size s_numbers_17) := hD
    exact kJ47_7 _ _ _ _ h hP hD hS (lv_sub hl [1, 6, 0] rfl)
abbrev Wd_Tl_isLetter (cy : ClassId × ClassId × ClassId × ClassId) : va_W := []
abbrev rm_Tl_isLetter : Room := { frames := 0, cells := 0, slots := 0, locals := 0 }
def wp_Tl_isLetter (x0 : Int32) (Q : Int32 → Prop) : Prop := ((x0 < 97 → Q 0) ∧ (¬ x0 < 97 → ((122 < x0 → Q 0) ∧ (¬ 122 < x0 → Q 1))))
set_option maxHeartbeats 4000000 in
set_option maxRecDepth 100000 in
theorem co_Tl_isLetter (l : Launch) (D : va_G) (cy : ClassId × ClassId × ClassId × ClassId) (x0 : Int32) (Q : Int32 → Prop) (h : wp_Tl_isLetter x0 Q) : RoI l yX7_isLetter wsX7_isLetter rm_Tl_isLetter D cy [.int x0] (Wd_Tl_isLetter cy) Q := by
  refine st_metRZ (cc := cX7_isLetter) (maxL := 1) RX7 (by decide) rfl rfl (Nat.le_of_ble_eq_true rfl) ?_
  intro p e s m args below meth c QQ ls F hKK hP hl hret
  have hK := hKK.1
  have hnest := hKK.2.1
  have hx := F.1
  have hb := F.2.1
  have hown := F.2.2.2.1
  have hts := F.2.2.2.2
  have hl : lv_has ls 1 [(0, .int x0)] := hl
  unfold wp_Tl_isLetter at h
  refine lv_iload_n hx hb dX7_isLetter_0 rfl (lv_at hl 0 rfl) ?_
  refine lv_bipush (v := 97) hx hb dX7_isLetter_1 (by decide) ?_
  refine lv_icmp_lt (tgt := 16) hx hb dX7_isLetter_3 (by decide) (fun c_1 => ?_) (fun c_1 => ?_)
  · have h := h.1 c_1
    refine lv_iconst (v := 0) hx hb dX7_isLetter_16 (by decide) ?_
    exact hret _ _ _ bz0 h dX7_isLetter_17
  · have h := h.2 c_1
    refine lv_iload_n hx hb dX7_isLetter_6 rfl (lv_at hl 0 rfl) ?_
    refine lv_bipush (v := 122) hx hb dX7_isLetter_7 (by decide) ?_
    refine lv_icmp_gt (tgt := 16) hx hb dX7_isLetter_9 (by decide) (fun c_2 => ?_) (fun c_2 => ?_)
    · have h := h.1 c_2
      refine lv_iconst (v := 0) hx hb dX7_isLetter_16 (by decide) ?_
      exact hret _ _ _ bz0 h dX7_isLetter_17
    · have h := h.2 c_2
      refine lv_iconst (v := 1) hx hb dX7_isLetter_12 (by decide) ?_
      refine lv_goto (tgt := 17) hx hb dX7_isLetter_13 (by decide) ?_
      exact hret _ _ _ bz1 h dX7_isLetter_17
abbrev Wd_Tl_takeLetters (cy : ClassId × ClassId × ClassId × ClassId) (a_this a_bytes a_draft a_numbers : Nat) (s_length : Int32) (s_place : Int32) (s_start : Int32) (s_token : Int32) (s_value : Int32) (s_bytes : Nat → Int32) : va_W := [(a_this, .inr (6, [.ref a_draft, .ref a_bytes, .ref a_numbers, .int s_length, .int s_place, .int s_start, .int s_token, .int s_value])), (a_bytes, .inl (cy.1, 150, .inl s_bytes))]
abbrev rm_Tl_takeLetters : Room := { frames := 1, cells := 0, slots := 0, locals := 20 }
def wp_Tl_takeLetters (s_length : Int32) (s_place : Int32) (s_token : Int32) (s_bytes : Nat → Int32) (Q : Int32 → Int32 → Prop) : Prop := ∃ n : Nat, lpw1 (fun (B0 : Int32 → Prop) (s_place_1 : Int32) => jn0 (fun (J39 : Prop) => ((s_length ≤ s_place_1 → J39) ∧ (¬ s_length ≤ s_place_1 → vp_in s_place_1 150 ∧ wp_Tl_isLetter (s_bytes (Int32.toNatClampNeg s_place_1)) (fun (r_6 : Int32) => ((r_6 = 0 → J39) ∧ (¬ r_6 = 0 → ∀ s_place_8 : Int32, s_place_8 = (s_place_1 + 1) → B0 s_place_8)))))) (Q s_place_1 3)) n s_place
set_option maxHeartbeats 4000000 in
set_option maxRecDepth 100000 in
theorem co_Tl_takeLetters (l : Launch) (D : va_G) (cy : ClassId × ClassId × ClassId × ClassId) (a_this a_bytes a_draft a_numbers : Nat) (s_length : Int32) (s_place : Int32) (s_start : Int32) (s_token : Int32) (s_value : Int32) (s_bytes : Nat → Int32) (Q : Int32 → Int32 → Prop) (h : wp_Tl_takeLetters s_length s_place s_token s_bytes Q) : CoV l yX7_takeLetters wsX7_takeLetters rm_Tl_takeLetters D cy [.ref a_this] (Wd_Tl_takeLetters cy a_this a_bytes a_draft a_numbers s_length s_place s_start s_token s_value s_bytes) (fun u : Int32 × Int32 => (Wd_Tl_takeLetters cy a_this a_bytes a_draft a_numbers s_length u.1 s_start u.2 s_value s_bytes)) (fun (u : Int32 × Int32) => Q u.1 u.2) := by
  refine st_metV (cc := cX7_takeLetters) (maxL := 1) RX7 (by decide) rfl rfl (Nat.le_of_ble_eq_true rfl) ?_
  intro p e s m args below meth c A QQ ls F hA hKK hP hD hS hl hret
  have hK := hKK.1
  have hnest := hKK.2.1
  have hx := F.1
  have hb := F.2.1
  have hown := F.2.2.2.1
  have hts := F.2.2.2.2
  have in_X7 : ∀ w ∈ u_ws RX7 TX7 8, w ∈ wsX7_takeLetters := (fun _ h => List.mem_cons_of_mem _ (List.mem_append_right _ h))
  have fl_22 := (hts (.fieldLink RX7 22 "RasherCase$Teller" "bytes" "[B") (List.mem_of_getElem? (i := 3) rfl))
  have fl_35 := (hts (.fieldLink RX7 35 "RasherCase$Teller" "length" "I") (List.mem_of_getElem? (i := 2) rfl))
  have fl_39 := (hts (.fieldLink RX7 39 "RasherCase$Teller" "place" "I") (List.mem_of_getElem? (i := 1) rfl))
  have fl_56 := (hts (.fieldLink RX7 56 "RasherCase$Teller" "token" "I") (List.mem_of_getElem? (i := 4) rfl))
  have hl : lv_has ls 1 [(0, .ref a_this)] := hl
  unfold wp_Tl_takeLetters at h
  obtain ⟨T0_1, hz0_1, hs0_1, n0_1, h⟩ := lpw1_use h
  have kT0_1 : ∀ (n : Nat) (s_place_1 : Int32) (H : Heap) (locs : List Loc) (ls : Array Slot), T0_1 n s_place_1 → va_P D vwCl (Wd_Tl_takeLetters cy a_this a_bytes a_draft a_numbers s_length s_place_1 s_start s_token s_value s_bytes) H → va_D A (Wd_Tl_takeLetters cy a_this a_bytes a_draft a_numbers s_length s_place_1 s_start s_token s_value s_bytes) → va_S A s.heap H locs → lv_has ls 1 [(0, .ref a_this)] → W p l e rm_Tl_takeLetters s m args below meth c H locs 0 0 QQ (F0 m 0 ls []) := by
    intro n
    induction n with
    | zero => intro s_place_1 H locs ls h; exact absurd h (hz0_1 _)
    | succ n ih0_1 =>
      intro s_place_1 H locs ls h hP hD hS hl
      have h := hs0_1 _ _ h
      refine lv_aload_n hx hb dX7_takeLetters_0 rfl (lv_at hl 0 rfl) ?_
      refine va_get (D := D) (ci := 6) (v := .int s_place_1) (C := RX7) (T := TX7) (N := 8) hx hb hts in_X7 hown hK hP 0 rfl rfl 4 (by decide) fl_39 (fun _ h9 => h9) rfl dX7_takeLetters_1 ?_
      refine lv_aload_n hx hb dX7_takeLetters_4 rfl (lv_at hl 0 rfl) ?_
      refine va_get (D := D) (ci := 6) (v := .int s_length) (C := RX7) (T := TX7) (N := 8) hx hb hts in_X7 hown hK hP 0 rfl rfl 3 (by decide) fl_35 (fun _ h9 => h9) rfl dX7_takeLetters_5 ?_
      obtain ⟨J39, hJ39, h⟩ := jn0_ex h
      have kJ39_2 : ∀  (H : Heap) (locs : List Loc) (ls : Array Slot), J39 → va_P D vwCl (Wd_Tl_takeLetters cy a_this a_bytes a_draft a_numbers s_length s_place_1 s_start s_token s_value s_bytes) H → va_D A (Wd_Tl_takeLetters cy a_this a_bytes a_draft a_numbers s_length s_place_1 s_start s_token s_value s_bytes) → va_S A s.heap H locs → lv_has ls 1 [(0, .ref a_this)] → W p l e rm_Tl_takeLetters s m args below meth c H locs 0 0 QQ (F0 m 39 ls []) := by
        intro  H locs ls h hP hD hS hl
        have h := hJ39  h
        refine lv_aload_n hx hb dX7_takeLetters_39 rfl (lv_at hl 0 rfl) ?_
        refine lv_iconst (v := 3) hx hb dX7_takeLetters_40 (by decide) ?_
        refine va_put (D := D) (ci := 6) (v := .int 3) (ty := .int) (C := RX7) (T := TX7) (N := 8) hx hb hts in_X7 tyX7 tyX7_ok nmX7 hown hK hP hD hS 0 rfl rfl 6 (by decide) fl_56 (fun _ h9 => h9) rfl (tyX7_ok 6 (by decide)) rfl rfl (Nat.le_of_ble_eq_true rfl) dX7_takeLetters_41 (fun H locs hP hD hS => ?_)
        have hP : va_P D vwCl (Wd_Tl_takeLetters cy a_this a_bytes a_draft a_numbers s_length s_place_1 s_start 3 s_value s_bytes) H := hP
        have hD : va_D A (Wd_Tl_takeLetters cy a_this a_bytes a_draft a_numbers s_length s_place_1 s_start 3 s_value s_bytes) := hD
        exact hret (s_place_1, 3) _ _ _ _ h hP hD hS dX7_takeLetters_44
      refine lv_icmp_ge (tgt := 39) hx hb dX7_takeLetters_8 (by decide) (fun c_4 => ?_) (fun c_4 => ?_)
      · have h := h.1 c_4
        exact kJ39_2  _ _ _ h hP hD hS (lv_sub hl [0] rfl)
      · have h := h.2 c_4
        refine lv_aload_n hx hb dX7_takeLetters_11 rfl (lv_at hl 0 rfl) ?_
        refine va_get (D := D) (ci := 6) (v := .ref a_bytes) (C := RX7) (T := TX7) (N := 8) hx hb hts in_X7 hown hK hP 0 rfl rfl 1 (by decide) fl_22 (fun _ h9 => h9) rfl dX7_takeLetters_12 ?_
        refine lv_aload_n hx hb dX7_takeLetters_15 rfl (lv_at hl 0 rfl) ?_
        refine va_get (D := D) (ci := 6) (v := .int s_place_1) (C := RX7) (T := TX7) (N := 8) hx hb hts in_X7 hown hK hP 0 rfl rfl 4 (by decide) fl_39 (fun _ h9 => h9) rfl dX7_takeLetters_16 ?_
        obtain ⟨hi_5, h⟩ := h
        refine va_bald hx hb hK hP 1 0 rfl rfl hi_5 dX7_takeLetters_19 ?_
        refine st_callRI (st_runSR (n := 1) (As := [.int (s_bytes (Int32.toNatClampNeg s_place_1))]) (rest := []) F (co_Tl_isLetter l D cy (s_bytes (Int32.toNatClampNeg s_place_1)) _ h) gX7_takeLetters_X7_isLetter rfl (by decide +kernel) rfl hKK hP [] rfl rfl hl.1 rfl (Nat.le_of_ble_eq_true rfl) dX7_takeLetters_20) (fun r_6 h => ?_)
        refine lv_if_eq (tgt := 39) hx hb dX7_takeLetters_23 (by decide) (fun c_7 => ?_) (fun c_7 => ?_)
        · have h := h.1 c_7
          exact kJ39_2  _ _ _ h hP hD hS (lv_sub hl [0] rfl)
        · have h := h.2 c_7
          refine lv_aload_n hx hb dX7_takeLetters_26 rfl (lv_at hl 0 rfl) ?_
          refine lv_dup hx hb dX7_takeLetters_27 rfl ?_
          refine va_get (D := D) (ci := 6) (v := .int s_place_1) (C := RX7) (T := TX7) (N := 8) hx hb hts in_X7 hown hK hP 0 rfl rfl 4 (by decide) fl_39 (fun _ h9 => h9) rfl dX7_takeLetters_28 ?_
          refine lv_iconst (v := 1) hx hb dX7_takeLetters_31 (by decide) ?_
          refine lv_iadd hx hb dX7_takeLetters_32 ?_
          refine lv_topi (fun s_place_8 es_place_8 => ?_)
          have h := h s_place_8 es_place_8
          refine va_put (D := D) (ci := 6) (v := .int s_place_8) (ty := .int) (C := RX7) (T := TX7) (N := 8) hx hb hts in_X7 tyX7 tyX7_ok nmX7 hown hK hP hD hS 0 rfl rfl 4 (by decide) fl_39 (fun _ h9 => h9) rfl (tyX7_ok 4 (by decide)) rfl rfl (Nat.le_of_ble_eq_true rfl) dX7_takeLetters_33 (fun H locs hP hD hS => ?_)
          have hP : va_P D vwCl (Wd_Tl_takeLetters cy a_this a_bytes a_draft a_numbers s_length s_place_8 s_start s_token s_value s_bytes) H := hP
          have hD : va_D A (Wd_Tl_takeLetters cy a_this a_bytes a_draft a_numbers s_length s_place_8 s_start s_token s_value s_bytes) := hD
          refine lv_goto (tgt := 0) hx hb dX7_takeLetters_36 (by decide) ?_
          exact ih0_1 _ _ _ _ h hP hD hS (lv_sub hl [0] rfl)
  exact kT0_1 n0_1 _ _ _ _ h hP hD hS (lv_sub hl [0] rfl)
abbrev Wd_Tl_isFigure (cy : ClassId × ClassId × ClassId × ClassId) : va_W := []
abbrev rm_Tl_isFigure : Room := { frames := 0, cells := 0, slots := 0, locals := 0 }
def wp_Tl_isFigure (x0 : Int32) (Q : Int32 → Prop) : Prop := ((x0 < 48 → Q 0) ∧ (¬ x0 < 48 → ((57 < x0 → Q 0) ∧ (¬ 57 < x0 → Q 1))))
set_option maxHeartbeats 4000000 in
set_option maxRecDepth 100000 in
theorem co_Tl_isFigure (l : Launch) (D : va_G) (cy : ClassId × ClassId × ClassId × ClassId) (x0 : Int32) (Q : Int32 → Prop) (h : wp_Tl_isFigure x0 Q) : RoI l yX7_isFigure wsX7_isFigure rm_Tl_isFigure D cy [.int x0] (Wd_Tl_isFigure cy) Q := by
  refine st_metRZ (cc := cX7_isFigure) (maxL := 1) RX7 (by decide) rfl rfl (Nat.le_of_ble_eq_true rfl) ?_
  intro p e s m args below meth c QQ ls F hKK hP hl hret
  have hK := hKK.1
  have hnest := hKK.2.1
  have hx := F.1
  have hb := F.2.1
  have hown := F.2.2.2.1
  have hts := F.2.2.2.2
  have hl : lv_has ls 1 [(0, .int x0)] := hl
  unfold wp_Tl_isFigure at h
  refine lv_iload_n hx hb dX7_isFigure_0 rfl (lv_at hl 0 rfl) ?_
  refine lv_bipush (v := 48) hx hb dX7_isFigure_1 (by decide) ?_
  refine lv_icmp_lt (tgt := 16) hx hb dX7_isFigure_3 (by decide) (fun c_1 => ?_) (fun c_1 => ?_)
  · have h := h.1 c_1
    refine lv_iconst (v := 0) hx hb dX7_isFigure_16 (by decide) ?_
    exact hret _ _ _ bz0 h dX7_isFigure_17
  · have h := h.2 c_1
    refine lv_iload_n hx hb dX7_isFigure_6 rfl (lv_at hl 0 rfl) ?_
    refine lv_bipush (v := 57) hx hb dX7_isFigure_7 (by decide) ?_
    refine lv_icmp_gt (tgt := 16) hx hb dX7_isFigure_9 (by decide) (fun c_2 => ?_) (fun c_2 => ?_)
    · have h := h.1 c_2
      refine lv_iconst (v := 0) hx hb dX7_isFigure_16 (by decide) ?_
      exact hret _ _ _ bz0 h dX7_isFigure_17
    · have h := h.2 c_2
      refine lv_iconst (v := 1) hx hb dX7_isFigure_12 (by decide) ?_
      refine lv_goto (tgt := 17) hx hb dX7_isFigure_13 (by decide) ?_
      exact hret _ _ _ bz1 h dX7_isFigure_17
abbrev Wd_Tl_takeFigures (cy : ClassId × ClassId × ClassId × ClassId) (a_this a_bytes a_draft a_numbers : Nat) (s_length : Int32) (s_place : Int32) (s_start : Int32) (s_token : Int32) (s_value : Int32) (s_bytes : Nat → Int32) : va_W := [(a_this, .inr (6, [.ref a_draft, .ref a_bytes, .ref a_numbers, .int s_length, .int s_place, .int s_start, .int s_token, .int s_value])), (a_bytes, .inl (cy.1, 150, .inl s_bytes))]
abbrev rm_Tl_takeFigures : Room := { frames := 1, cells := 0, slots := 0, locals := 20 }
def wp_Tl_takeFigures (s_length : Int32) (s_place : Int32) (s_start : Int32) (s_token : Int32) (s_value : Int32) (s_bytes : Nat → Int32) (Q : Int32 → Int32 → Int32 → Prop) : Prop := ∃ n : Nat, lpw2 (fun (B0 : Int32 → Int32 → Prop) (s_place_1 : Int32) (s_value_2 : Int32) => jn0 (fun (J67 : Prop) => ((s_length ≤ s_place_1 → J67) ∧ (¬ s_length ≤ s_place_1 → vp_in s_place_1 150 ∧ wp_Tl_isFigure (s_bytes (Int32.toNatClampNeg s_place_1)) (fun (r_10 : Int32) => ((r_10 = 0 → J67) ∧ (¬ r_10 = 0 → vp_in s_place_1 150 ∧ ∀ s_value_13 : Int32, s_value_13 = (irem (((10 * s_value_2) + (s_bytes (Int32.toNatClampNeg s_place_1))) - 48) 1000) → ∀ s_place_14 : Int32, s_place_14 = (s_place_1 + 1) → B0 s_place_14 s_value_13)))))) (jn1 (fun (J86 : Int32 → Prop) => ((2 < (s_place_1 - s_start) → J86 4) ∧ (¬ 2 < (s_place_1 - s_start) → J86 2))) (fun (v_5 : Int32) => Q s_place_1 v_5 s_value_2))) n s_place s_value
set_option maxHeartbeats 4000000 in
set_option maxRecDepth 100000 in
theorem co_Tl_takeFigures (l : Launch) (D : va_G) (cy : ClassId × ClassId × ClassId × ClassId) (a_this a_bytes a_draft a_numbers : Nat) (s_length : Int32) (s_place : Int32) (s_start : Int32) (s_token : Int32) (s_value : Int32) (s_bytes : Nat → Int32) (Q : Int32 → Int32 → Int32 → Prop) (h : wp_Tl_takeFigures s_length s_place s_start s_token s_value s_bytes Q) : CoV l yX7_takeFigures wsX7_takeFigures rm_Tl_takeFigures D cy [.ref a_this] (Wd_Tl_takeFigures cy a_this a_bytes a_draft a_numbers s_length s_place s_start s_token s_value s_bytes) (fun u : Int32 × Int32 × Int32 => (Wd_Tl_takeFigures cy a_this a_bytes a_draft a_numbers s_length u.1 s_start u.2.1 u.2.2 s_bytes)) (fun (u : Int32 × Int32 × Int32) => Q u.1 u.2.1 u.2.2) := by
  refine st_metV (cc := cX7_takeFigures) (maxL := 1) RX7 (by decide) rfl rfl (Nat.le_of_ble_eq_true rfl) ?_
  intro p e s m args below meth c A QQ ls F hA hKK hP hD hS hl hret
  have hK := hKK.1
  have hnest := hKK.2.1
  have hx := F.1
  have hb := F.2.1
  have hown := F.2.2.2.1
  have hts := F.2.2.2.2
  have in_X7 : ∀ w ∈ u_ws RX7 TX7 8, w ∈ wsX7_takeFigures := (fun _ h => List.mem_cons_of_mem _ (List.mem_append_right _ h))
  have fl_22 := (hts (.fieldLink RX7 22 "RasherCase$Teller" "bytes" "[B") (List.mem_of_getElem? (i := 3) rfl))
  have fl_35 := (hts (.fieldLink RX7 35 "RasherCase$Teller" "length" "I") (List.mem_of_getElem? (i := 2) rfl))
  have fl_39 := (hts (.fieldLink RX7 39 "RasherCase$Teller" "place" "I") (List.mem_of_getElem? (i := 1) rfl))
  have fl_53 := (hts (.fieldLink RX7 53 "RasherCase$Teller" "start" "I") (List.mem_of_getElem? (i := 5) rfl))
  have fl_56 := (hts (.fieldLink RX7 56 "RasherCase$Teller" "token" "I") (List.mem_of_getElem? (i := 6) rfl))
  have fl_91 := (hts (.fieldLink RX7 91 "RasherCase$Teller" "value" "I") (List.mem_of_getElem? (i := 4) rfl))
  have hl : lv_has ls 1 [(0, .ref a_this)] := hl
  unfold wp_Tl_takeFigures at h
  obtain ⟨T0_2, hz0_2, hs0_2, n0_2, h⟩ := lpw2_use h
  have kT0_2 : ∀ (n : Nat) (s_place_1 : Int32) (s_value_2 : Int32) (H : Heap) (locs : List Loc) (ls : Array Slot), T0_2 n s_place_1 s_value_2 → va_P D vwCl (Wd_Tl_takeFigures cy a_this a_bytes a_draft a_numbers s_length s_place_1 s_start s_token s_value_2 s_bytes) H → va_D A (Wd_Tl_takeFigures cy a_this a_bytes a_draft a_numbers s_length s_place_1 s_start s_token s_value_2 s_bytes) → va_S A s.heap H locs → lv_has ls 1 [(0, .ref a_this)] → W p l e rm_Tl_takeFigures s m args below meth c H locs 0 0 QQ (F0 m 0 ls []) := by
    intro n
    induction n with
    | zero => intro s_place_1 s_value_2 H locs ls h; exact absurd h (hz0_2 _ _)
    | succ n ih0_2 =>
      intro s_place_1 s_value_2 H locs ls h hP hD hS hl
      have h := hs0_2 _ _ _ h
      refine lv_aload_n hx hb dX7_takeFigures_0 rfl (lv_at hl 0 rfl) ?_
      refine va_get (D := D) (ci := 6) (v := .int s_place_1) (C := RX7) (T := TX7) (N := 8) hx hb hts in_X7 hown hK hP 0 rfl rfl 4 (by decide) fl_39 (fun _ h9 => h9) rfl dX7_takeFigures_1 ?_
      refine lv_aload_n hx hb dX7_takeFigures_4 rfl (lv_at hl 0 rfl) ?_
      refine va_get (D := D) (ci := 6) (v := .int s_length) (C := RX7) (T := TX7) (N := 8) hx hb hts in_X7 hown hK hP 0 rfl rfl 3 (by decide) fl_35 (fun _ h9 => h9) rfl dX7_takeFigures_5 ?_
      obtain ⟨J67, hJ67, h⟩ := jn0_ex h
      have kJ67_3 : ∀  (H : Heap) (locs : List Loc) (ls : Array Slot), J67 → va_P D vwCl (Wd_Tl_takeFigures cy a_this a_bytes a_draft a_numbers s_length s_place_1 s_start s_token s_value_2 s_bytes) H → va_D A (Wd_Tl_takeFigures cy a_this a_bytes a_draft a_numbers s_length s_place_1 s_start s_token s_value_2 s_bytes) → va_S A s.heap H locs → lv_has ls 1 [(0, .ref a_this)] → W p l e rm_Tl_takeFigures s m args below meth c H locs 0 0 QQ (F0 m 67 ls []) := by
        intro  H locs ls h hP hD hS hl
        have h := hJ67  h
        refine lv_aload_n hx hb dX7_takeFigures_67 rfl (lv_at hl 0 rfl) ?_
        refine lv_aload_n hx hb dX7_takeFigures_68 rfl (lv_at hl 0 rfl) ?_
        refine va_get (D := D) (ci := 6) (v := .int s_place_1) (C := RX7) (T := TX7) (N := 8) hx hb hts in_X7 hown hK hP 0 rfl rfl 4 (by decide) fl_39 (fun _ h9 => h9) rfl dX7_takeFigures_69 ?_
        refine lv_aload_n hx hb dX7_takeFigures_72 rfl (lv_at hl 0 rfl) ?_
        refine va_get (D := D) (ci := 6) (v := .int s_start) (C := RX7) (T := TX7) (N := 8) hx hb hts in_X7 hown hK hP 0 rfl rfl 5 (by decide) fl_53 (fun _ h9 => h9) rfl dX7_takeFigures_73 ?_
        refine lv_isub hx hb dX7_takeFigures_76 ?_
        refine lv_iconst (v := 2) hx hb dX7_takeFigures_77 (by decide) ?_
        obtain ⟨J86, hJ86, h⟩ := jn1_ex h
        have kJ86_5 : ∀ (v_5 : Int32) (H : Heap) (locs : List Loc) (ls : Array Slot), J86 v_5 → va_P D vwCl (Wd_Tl_takeFigures cy a_this a_bytes a_draft a_numbers s_length s_place_1 s_start s_token s_value_2 s_bytes) H → va_D A (Wd_Tl_takeFigures cy a_this a_bytes a_draft a_numbers s_length s_place_1 s_start s_token s_value_2 s_bytes) → va_S A s.heap H locs → lv_has ls 1 [] → W p l e rm_Tl_takeFigures s m args below meth c H locs 0 0 QQ (F0 m 86 ls [.int v_5, .ref a_this]) := by
          intro v_5 H locs ls h hP hD hS hl
          have h := hJ86 _ h
          refine va_put (D := D) (ci := 6) (v := .int v_5) (ty := .int) (C := RX7) (T := TX7) (N := 8) hx hb hts in_X7 tyX7 tyX7_ok nmX7 hown hK hP hD hS 0 rfl rfl 6 (by decide) fl_56 (fun _ h9 => h9) rfl (tyX7_ok 6 (by decide)) rfl rfl (Nat.le_of_ble_eq_true rfl) dX7_takeFigures_86 (fun H locs hP hD hS => ?_)
          have hP : va_P D vwCl (Wd_Tl_takeFigures cy a_this a_bytes a_draft a_numbers s_length s_place_1 s_start v_5 s_value_2 s_bytes) H := hP
          have hD : va_D A (Wd_Tl_takeFigures cy a_this a_bytes a_draft a_numbers s_length s_place_1 s_start v_5 s_value_2 s_bytes) := hD
          exact hret (s_place_1, v_5, s_value_2) _ _ _ _ h hP hD hS dX7_takeFigures_89
        refine lv_icmp_gt (tgt := 85) hx hb dX7_takeFigures_78 (by decide) (fun c_7 => ?_) (fun c_7 => ?_)
        · have h := h.1 c_7
          refine lv_iconst (v := 4) hx hb dX7_takeFigures_85 (by decide) ?_
          exact kJ86_5 _ _ _ _ h hP hD hS (lv_sub hl [] rfl)
        · have h := h.2 c_7
          refine lv_iconst (v := 2) hx hb dX7_takeFigures_81 (by decide) ?_
          refine lv_goto (tgt := 86) hx hb dX7_takeFigures_82 (by decide) ?_
          exact kJ86_5 _ _ _ _ h hP hD hS (lv_sub hl [] rfl)
      refine lv_icmp_ge (tgt := 67) hx hb dX7_takeFigures_8 (by decide) (fun c_8 => ?_) (fun c_8 => ?_)
      · have h := h.1 c_8
        exact kJ67_3  _ _ _ h hP hD hS (lv_sub hl [0] rfl)
      · have h := h.2 c_8
        refine lv_aload_n hx hb dX7_takeFigures_11 rfl (lv_at hl 0 rfl) ?_
        refine va_get (D := D) (ci := 6) (v := .ref a_bytes) (C := RX7) (T := TX7) (N := 8) hx hb hts in_X7 hown hK hP 0 rfl rfl 1 (by decide) fl_22 (fun _ h9 => h9) rfl dX7_takeFigures_12 ?_
        refine lv_aload_n hx hb dX7_takeFigures_15 rfl (lv_at hl 0 rfl) ?_
        refine va_get (D := D) (ci := 6) (v := .int s_place_1) (C := RX7) (T := TX7) (N := 8) hx hb hts in_X7 hown hK hP 0 rfl rfl 4 (by decide) fl_39 (fun _ h9 => h9) rfl dX7_takeFigures_16 ?_
        obtain ⟨hi_9, h⟩ := h
        refine va_bald hx hb hK hP 1 0 rfl rfl hi_9 dX7_takeFigures_19 ?_
        refine st_callRI (st_runSR (n := 1) (As := [.int (s_bytes (Int32.toNatClampNeg s_place_1))]) (rest := []) F (co_Tl_isFigure l D cy (s_bytes (Int32.toNatClampNeg s_place_1)) _ h) gX7_takeFigures_X7_isFigure rfl (by decide +kernel) rfl hKK hP [] rfl rfl hl.1 rfl (Nat.le_of_ble_eq_true rfl) dX7_takeFigures_20) (fun r_10 h => ?_)
        refine lv_if_eq (tgt := 67) hx hb dX7_takeFigures_23 (by decide) (fun c_11 => ?_) (fun c_11 => ?_)
        · have h := h.1 c_11
          exact kJ67_3  _ _ _ h hP hD hS (lv_sub hl [0] rfl)
        · have h := h.2 c_11
          refine lv_aload_n hx hb dX7_takeFigures_26 rfl (lv_at hl 0 rfl) ?_
          refine lv_bipush (v := 10) hx hb dX7_takeFigures_27 (by decide) ?_
          refine lv_aload_n hx hb dX7_takeFigures_29 rfl (lv_at hl 0 rfl) ?_
          refine va_get (D := D) (ci := 6) (v := .int s_value_2) (C := RX7) (T := TX7) (N := 8) hx hb hts in_X7 hown hK hP 0 rfl rfl 7 (by decide) fl_91 (fun _ h9 => h9) rfl dX7_takeFigures_30 ?_
          refine lv_imul hx hb dX7_takeFigures_33 ?_
          refine lv_aload_n hx hb dX7_takeFigures_34 rfl (lv_at hl 0 rfl) ?_
          refine va_get (D := D) (ci := 6) (v := .ref a_bytes) (C := RX7) (T := TX7) (N := 8) hx hb hts in_X7 hown hK hP 0 rfl rfl 1 (by decide) fl_22 (fun _ h9 => h9) rfl dX7_takeFigures_35 ?_
          refine lv_aload_n hx hb dX7_takeFigures_38 rfl (lv_at hl 0 rfl) ?_
          refine va_get (D := D) (ci := 6) (v := .int s_place_1) (C := RX7) (T := TX7) (N := 8) hx hb hts in_X7 hown hK hP 0 rfl rfl 4 (by decide) fl_39 (fun _ h9 => h9) rfl dX7_takeFigures_39 ?_
          obtain ⟨hi_12, h⟩ := h
          refine va_bald hx hb hK hP 1 0 rfl rfl hi_12 dX7_takeFigures_42 ?_
          refine lv_iadd hx hb dX7_takeFigures_43 ?_
          refine lv_bipush (v := 48) hx hb dX7_takeFigures_44 (by decide) ?_
          refine lv_isub hx hb dX7_takeFigures_46 ?_
          refine lv_sipush (v := 1000) hx hb dX7_takeFigures_47 (by decide) ?_
          refine lv_irem hx hb dX7_takeFigures_50 (by decide) ?_
          refine lv_topi (fun s_value_13 es_value_13 => ?_)
          have h := h s_value_13 es_value_13
          refine va_put (D := D) (ci := 6) (v := .int s_value_13) (ty := .int) (C := RX7) (T := TX7) (N := 8) hx hb hts in_X7 tyX7 tyX7_ok nmX7 hown hK hP hD hS 0 rfl rfl 7 (by decide) fl_91 (fun _ h9 => h9) rfl (tyX7_ok 7 (by decide)) rfl rfl (Nat.le_of_ble_eq_true rfl) dX7_takeFigures_51 (fun H locs hP hD hS => ?_)
          have hP : va_P D vwCl (Wd_Tl_takeFigures cy a_this a_bytes a_draft a_numbers s_length s_place_1 s_start s_token s_value_13 s_bytes) H := hP
          have hD : va_D A (Wd_Tl_takeFigures cy a_this a_bytes a_draft a_numbers s_length s_place_1 s_start s_token s_value_13 s_bytes) := hD
          refine lv_aload_n hx hb dX7_takeFigures_54 rfl (lv_at hl 0 rfl) ?_
          refine lv_dup hx hb dX7_takeFigures_55 rfl ?_
          refine va_get (D := D) (ci := 6) (v := .int s_place_1) (C := RX7) (T := TX7) (N := 8) hx hb hts in_X7 hown hK hP 0 rfl rfl 4 (by decide) fl_39 (fun _ h9 => h9) rfl dX7_takeFigures_56 ?_
          refine lv_iconst (v := 1) hx hb dX7_takeFigures_59 (by decide) ?_
          refine lv_iadd hx hb dX7_takeFigures_60 ?_
          refine lv_topi (fun s_place_14 es_place_14 => ?_)
          have h := h s_place_14 es_place_14
          refine va_put (D := D) (ci := 6) (v := .int s_place_14) (ty := .int) (C := RX7) (T := TX7) (N := 8) hx hb hts in_X7 tyX7 tyX7_ok nmX7 hown hK hP hD hS 0 rfl rfl 4 (by decide) fl_39 (fun _ h9 => h9) rfl (tyX7_ok 4 (by decide)) rfl rfl (Nat.le_of_ble_eq_true rfl) dX7_takeFigures_61 (fun H locs hP hD hS => ?_)
          have hP : va_P D vwCl (Wd_Tl_takeFigures cy a_this a_bytes a_draft a_numbers s_length s_place_14 s_start s_token s_value_13 s_bytes) H := hP
          have hD : va_D A (Wd_Tl_takeFigures cy a_this a_bytes a_draft a_numbers s_length s_place_14 s_start s_token s_value_13 s_bytes) := hD
          refine lv_goto (tgt := 0) hx hb dX7_takeFigures_64 (by decide) ?_
          exact ih0_2 _ _ _ _ _ h hP hD hS (lv_sub hl [0] rfl)
  exact kT0_2 n0_2 _ _ _ _ _ h hP hD hS (lv_sub hl [0] rfl)
abbrev Wd_Tl_advance (cy : ClassId × ClassId × ClassId × ClassId) (a_this a_bytes a_draft a_numbers : Nat) (s_length : Int32) (s_place : Int32) (s_start : Int32) (s_token : Int32) (s_value : Int32) (s_bytes : Nat → Int32) : va_W := [(a_this, .inr (6, [.ref a_draft, .ref a_bytes, .ref a_numbers, .int s_length, .int s_place, .int s_start, .int s_token, .int s_value])), (a_bytes, .inl (cy.1, 150, .inl s_bytes))]
abbrev rm_Tl_advance : Room := { frames := 2, cells := 0, slots := 0, locals := 40 }
def wp_Tl_advance (s_length : Int32) (s_place : Int32) (s_start : Int32) (s_token : Int32) (s_value : Int32) (s_bytes : Nat → Int32) (Q : Int32 → Int32 → Int32 → Int32 → Prop) : Prop := ∃ n : Nat, lpw1 (fun (B0 : Int32 → Prop) (s_place_1 : Int32) => jn0 (fun (J38 : Prop) => ((s_length ≤ s_place_1 → J38) ∧ (¬ s_length ≤ s_place_1 → vp_in s_place_1 150 ∧ ((¬ (s_bytes (Int32.toNatClampNeg s_place_1)) = 32 → J38) ∧ ((s_bytes (Int32.toNatClampNeg s_place_1)) = 32 → ∀ s_place_26 : Int32, s_place_26 = (s_place_1 + 1) → B0 s_place_26))))) (((s_place_1 < s_length → vp_in s_place_1 150 ∧ wp_Tl_isLetter (s_bytes (Int32.toNatClampNeg s_place_1)) (fun (r_6 : Int32) => ((r_6 = 0 → vp_in s_place_1 150 ∧ wp_Tl_isFigure (s_bytes (Int32.toNatClampNeg s_place_1)) (fun (r_9 : Int32) => ((r_9 = 0 → vp_in s_place_1 150 ∧ jn1 (fun (J134 : Int32 → Prop) => ((¬ (s_bytes (Int32.toNatClampNeg s_place_1)) = 59 → J134 4) ∧ ((s_bytes (Int32.toNatClampNeg s_place_1)) = 59 → J134 1))) (fun (v_12 : Int32) => ∀ s_place_14 : Int32, s_place_14 = (s_place_1 + 1) → Q s_place_14 s_place_1 v_12 0)) ∧ (¬ r_9 = 0 → wp_Tl_takeFigures s_length s_place_1 s_place_1 s_token 0 s_bytes (fun (s_place_17 : Int32) (s_token_18 : Int32) (s_value_19 : Int32) => Q s_place_17 s_place_1 s_token_18 s_value_19))))) ∧ (¬ r_6 = 0 → wp_Tl_takeLetters s_length s_place_1 s_token s_bytes (fun (s_place_21 : Int32) (s_token_22 : Int32) => Q s_place_21 s_place_1 s_token_22 0))))) ∧ (¬ s_place_1 < s_length → Q s_place_1 s_place_1 0 0)))) n s_place
set_option maxHeartbeats 4000000 in
set_option maxRecDepth 100000 in
theorem co_Tl_advance (l : Launch) (D : va_G) (cy : ClassId × ClassId × ClassId × ClassId) (a_this a_bytes a_draft a_numbers : Nat) (s_length : Int32) (s_place : Int32) (s_start : Int32) (s_token : Int32) (s_value : Int32) (s_bytes : Nat → Int32) (Q : Int32 → Int32 → Int32 → Int32 → Prop) (h : wp_Tl_advance s_length s_place s_start s_token s_value s_bytes Q) : CoV l yX7_advance wsX7_advance rm_Tl_advance D cy [.ref a_this] (Wd_Tl_advance cy a_this a_bytes a_draft a_numbers s_length s_place s_start s_token s_value s_bytes) (fun u : Int32 × Int32 × Int32 × Int32 => (Wd_Tl_advance cy a_this a_bytes a_draft a_numbers s_length u.1 u.2.1 u.2.2.1 u.2.2.2 s_bytes)) (fun (u : Int32 × Int32 × Int32 × Int32) => Q u.1 u.2.1 u.2.2.1 u.2.2.2) := by
  refine st_metV (cc := cX7_advance) (maxL := 1) RX7 (by decide) rfl rfl (Nat.le_of_ble_eq_true rfl) ?_
  intro p e s m args below meth c A QQ ls F hA hKK hP hD hS hl hret
  have hK := hKK.1
  have hnest := hKK.2.1
  have hx := F.1
  have hb := F.2.1
  have hown := F.2.2.2.1
  have hts := F.2.2.2.2
  have in_X7 : ∀ w ∈ u_ws RX7 TX7 8, w ∈ wsX7_advance := (fun _ h => List.mem_cons_of_mem _ (List.mem_append_right _ h))
  have fl_22 := (hts (.fieldLink RX7 22 "RasherCase$Teller" "bytes" "[B") (List.mem_of_getElem? (i := 3) rfl))
  have fl_35 := (hts (.fieldLink RX7 35 "RasherCase$Teller" "length" "I") (List.mem_of_getElem? (i := 2) rfl))
  have fl_39 := (hts (.fieldLink RX7 39 "RasherCase$Teller" "place" "I") (List.mem_of_getElem? (i := 1) rfl))
  have fl_53 := (hts (.fieldLink RX7 53 "RasherCase$Teller" "start" "I") (List.mem_of_getElem? (i := 4) rfl))
  have fl_56 := (hts (.fieldLink RX7 56 "RasherCase$Teller" "token" "I") (List.mem_of_getElem? (i := 6) rfl))
  have fl_91 := (hts (.fieldLink RX7 91 "RasherCase$Teller" "value" "I") (List.mem_of_getElem? (i := 5) rfl))
  have hl : lv_has ls 1 [(0, .ref a_this)] := hl
  unfold wp_Tl_advance at h
  obtain ⟨T0_1, hz0_1, hs0_1, n0_1, h⟩ := lpw1_use h
  have kT0_1 : ∀ (n : Nat) (s_place_1 : Int32) (H : Heap) (locs : List Loc) (ls : Array Slot), T0_1 n s_place_1 → va_P D vwCl (Wd_Tl_advance cy a_this a_bytes a_draft a_numbers s_length s_place_1 s_start s_token s_value s_bytes) H → va_D A (Wd_Tl_advance cy a_this a_bytes a_draft a_numbers s_length s_place_1 s_start s_token s_value s_bytes) → va_S A s.heap H locs → lv_has ls 1 [(0, .ref a_this)] → W p l e rm_Tl_advance s m args below meth c H locs 0 0 QQ (F0 m 0 ls []) := by
    intro n
    induction n with
    | zero => intro s_place_1 H locs ls h; exact absurd h (hz0_1 _)
    | succ n ih0_1 =>
      intro s_place_1 H locs ls h hP hD hS hl
      have h := hs0_1 _ _ h
      refine lv_aload_n hx hb dX7_advance_0 rfl (lv_at hl 0 rfl) ?_
      refine va_get (D := D) (ci := 6) (v := .int s_place_1) (C := RX7) (T := TX7) (N := 8) hx hb hts in_X7 hown hK hP 0 rfl rfl 4 (by decide) fl_39 (fun _ h9 => h9) rfl dX7_advance_1 ?_
      refine lv_aload_n hx hb dX7_advance_4 rfl (lv_at hl 0 rfl) ?_
      refine va_get (D := D) (ci := 6) (v := .int s_length) (C := RX7) (T := TX7) (N := 8) hx hb hts in_X7 hown hK hP 0 rfl rfl 3 (by decide) fl_35 (fun _ h9 => h9) rfl dX7_advance_5 ?_
      obtain ⟨J38, hJ38, h⟩ := jn0_ex h
      have kJ38_2 : ∀  (H : Heap) (locs : List Loc) (ls : Array Slot), J38 → va_P D vwCl (Wd_Tl_advance cy a_this a_bytes a_draft a_numbers s_length s_place_1 s_start s_token s_value s_bytes) H → va_D A (Wd_Tl_advance cy a_this a_bytes a_draft a_numbers s_length s_place_1 s_start s_token s_value s_bytes) → va_S A s.heap H locs → lv_has ls 1 [(0, .ref a_this)] → W p l e rm_Tl_advance s m args below meth c H locs 0 0 QQ (F0 m 38 ls []) := by
        intro  H locs ls h hP hD hS hl
        have h := hJ38  h
        refine lv_aload_n hx hb dX7_advance_38 rfl (lv_at hl 0 rfl) ?_
        refine lv_aload_n hx hb dX7_advance_39 rfl (lv_at hl 0 rfl) ?_
        refine va_get (D := D) (ci := 6) (v := .int s_place_1) (C := RX7) (T := TX7) (N := 8) hx hb hts in_X7 hown hK hP 0 rfl rfl 4 (by decide) fl_39 (fun _ h9 => h9) rfl dX7_advance_40 ?_
        refine va_put (D := D) (ci := 6) (v := .int s_place_1) (ty := .int) (C := RX7) (T := TX7) (N := 8) hx hb hts in_X7 tyX7 tyX7_ok nmX7 hown hK hP hD hS 0 rfl rfl 5 (by decide) fl_53 (fun _ h9 => h9) rfl (tyX7_ok 5 (by decide)) rfl rfl (Nat.le_of_ble_eq_true rfl) dX7_advance_43 (fun H locs hP hD hS => ?_)
        have hP : va_P D vwCl (Wd_Tl_advance cy a_this a_bytes a_draft a_numbers s_length s_place_1 s_place_1 s_token s_value s_bytes) H := hP
        have hD : va_D A (Wd_Tl_advance cy a_this a_bytes a_draft a_numbers s_length s_place_1 s_place_1 s_token s_value s_bytes) := hD
        refine lv_aload_n hx hb dX7_advance_46 rfl (lv_at hl 0 rfl) ?_
        refine lv_iconst (v := 0) hx hb dX7_advance_47 (by decide) ?_
        refine va_put (D := D) (ci := 6) (v := .int 0) (ty := .int) (C := RX7) (T := TX7) (N := 8) hx hb hts in_X7 tyX7 tyX7_ok nmX7 hown hK hP hD hS 0 rfl rfl 7 (by decide) fl_91 (fun _ h9 => h9) rfl (tyX7_ok 7 (by decide)) rfl rfl (Nat.le_of_ble_eq_true rfl) dX7_advance_48 (fun H locs hP hD hS => ?_)
        have hP : va_P D vwCl (Wd_Tl_advance cy a_this a_bytes a_draft a_numbers s_length s_place_1 s_place_1 s_token 0 s_bytes) H := hP
        have hD : va_D A (Wd_Tl_advance cy a_this a_bytes a_draft a_numbers s_length s_place_1 s_place_1 s_token 0 s_bytes) := hD
        refine lv_aload_n hx hb dX7_advance_51 rfl (lv_at hl 0 rfl) ?_
        refine va_get (D := D) (ci := 6) (v := .int s_place_1) (C := RX7) (T := TX7) (N := 8) hx hb hts in_X7 hown hK hP 0 rfl rfl 4 (by decide) fl_39 (fun _ h9 => h9) rfl dX7_advance_52 ?_
        refine lv_aload_n hx hb dX7_advance_55 rfl (lv_at hl 0 rfl) ?_
        refine va_get (D := D) (ci := 6) (v := .int s_length) (C := RX7) (T := TX7) (N := 8) hx hb hts in_X7 hown hK hP 0 rfl rfl 3 (by decide) fl_35 (fun _ h9 => h9) rfl dX7_advance_56 ?_
        refine lv_icmp_lt (tgt := 70) hx hb dX7_advance_59 (by decide) (fun c_4 => ?_) (fun c_4 => ?_)
        · have h := h.1 c_4
          refine lv_aload_n hx hb dX7_advance_70 rfl (lv_at hl 0 rfl) ?_
          refine va_get (D := D) (ci := 6) (v := .ref a_bytes) (C := RX7) (T := TX7) (N := 8) hx hb hts in_X7 hown hK hP 0 rfl rfl 1 (by decide) fl_22 (fun _ h9 => h9) rfl dX7_advance_71 ?_
          refine lv_aload_n hx hb dX7_advance_74 rfl (lv_at hl 0 rfl) ?_
          refine va_get (D := D) (ci := 6) (v := .int s_place_1) (C := RX7) (T := TX7) (N := 8) hx hb hts in_X7 hown hK hP 0 rfl rfl 4 (by decide) fl_39 (fun _ h9 => h9) rfl dX7_advance_75 ?_
          obtain ⟨hi_5, h⟩ := h
          refine va_bald hx hb hK hP 1 0 rfl rfl hi_5 dX7_advance_78 ?_
          refine st_callRI (st_runSR (n := 1) (As := [.int (s_bytes (Int32.toNatClampNeg s_place_1))]) (rest := []) F (co_Tl_isLetter l D cy (s_bytes (Int32.toNatClampNeg s_place_1)) _ h) gX7_advance_X7_isLetter rfl (by decide +kernel) rfl hKK hP [] rfl rfl hl.1 rfl (Nat.le_of_ble_eq_true rfl) dX7_advance_79) (fun r_6 h => ?_)
          refine lv_if_eq (tgt := 92) hx hb dX7_advance_82 (by decide) (fun c_7 => ?_) (fun c_7 => ?_)
          · have h := h.1 c_7
            refine lv_aload_n hx hb dX7_advance_92 rfl (lv_at hl 0 rfl) ?_
            refine va_get (D := D) (ci := 6) (v := .ref a_bytes) (C := RX7) (T := TX7) (N := 8) hx hb hts in_X7 hown hK hP 0 rfl rfl 1 (by decide) fl_22 (fun _ h9 => h9) rfl dX7_advance_93 ?_
            refine lv_aload_n hx hb dX7_advance_96 rfl (lv_at hl 0 rfl) ?_
            refine va_get (D := D) (ci := 6) (v := .int s_place_1) (C := RX7) (T := TX7) (N := 8) hx hb hts in_X7 hown hK hP 0 rfl rfl 4 (by decide) fl_39 (fun _ h9 => h9) rfl dX7_advance_97 ?_
            obtain ⟨hi_8, h⟩ := h
            refine va_bald hx hb hK hP 1 0 rfl rfl hi_8 dX7_advance_100 ?_
            refine st_callRI (st_runSR (n := 1) (As := [.int (s_bytes (Int32.toNatClampNeg s_place_1))]) (rest := []) F (co_Tl_isFigure l D cy (s_bytes (Int32.toNatClampNeg s_place_1)) _ h) gX7_advance_X7_isFigure rfl (by decide +kernel) rfl hKK hP [] rfl rfl hl.1 rfl (Nat.le_of_ble_eq_true rfl) dX7_advance_101) (fun r_9 h => ?_)
            refine lv_if_eq (tgt := 114) hx hb dX7_advance_104 (by decide) (fun c_10 => ?_) (fun c_10 => ?_)
            · have h := h.1 c_10
              refine lv_aload_n hx hb dX7_advance_114 rfl (lv_at hl 0 rfl) ?_
              refine lv_aload_n hx hb dX7_advance_115 rfl (lv_at hl 0 rfl) ?_
              refine va_get (D := D) (ci := 6) (v := .ref a_bytes) (C := RX7) (T := TX7) (N := 8) hx hb hts in_X7 hown hK hP 0 rfl rfl 1 (by decide) fl_22 (fun _ h9 => h9) rfl dX7_advance_116 ?_
              refine lv_aload_n hx hb dX7_advance_119 rfl (lv_at hl 0 rfl) ?_
              refine va_get (D := D) (ci := 6) (v := .int s_place_1) (C := RX7) (T := TX7) (N := 8) hx hb hts in_X7 hown hK hP 0 rfl rfl 4 (by decide) fl_39 (fun _ h9 => h9) rfl dX7_advance_120 ?_
              obtain ⟨hi_11, h⟩ := h
              refine va_bald hx hb hK hP 1 0 rfl rfl hi_11 dX7_advance_123 ?_
              refine lv_bipush (v := 59) hx hb dX7_advance_124 (by decide) ?_
              obtain ⟨J134, hJ134, h⟩ := jn1_ex h
              have kJ134_12 : ∀ (v_12 : Int32) (H : Heap) (locs : List Loc) (ls : Array Slot), J134 v_12 → va_P D vwCl (Wd_Tl_advance cy a_this a_bytes a_draft a_numbers s_length s_place_1 s_place_1 s_token 0 s_bytes) H → va_D A (Wd_Tl_advance cy a_this a_bytes a_draft a_numbers s_length s_place_1 s_place_1 s_token 0 s_bytes) → va_S A s.heap H locs → lv_has ls 1 [(0, .ref a_this)] → W p l e rm_Tl_advance s m args below meth c H locs 0 0 QQ (F0 m 134 ls [.int v_12, .ref a_this]) := by
                intro v_12 H locs ls h hP hD hS hl
                have h := hJ134 _ h
                refine va_put (D := D) (ci := 6) (v := .int v_12) (ty := .int) (C := RX7) (T := TX7) (N := 8) hx hb hts in_X7 tyX7 tyX7_ok nmX7 hown hK hP hD hS 0 rfl rfl 6 (by decide) fl_56 (fun _ h9 => h9) rfl (tyX7_ok 6 (by decide)) rfl rfl (Nat.le_of_ble_eq_true rfl) dX7_advance_134 (fun H locs hP hD hS => ?_)
                have hP : va_P D vwCl (Wd_Tl_advance cy a_this a_bytes a_draft a_numbers s_length s_place_1 s_place_1 v_12 0 s_bytes) H := hP
                have hD : va_D A (Wd_Tl_advance cy a_this a_bytes a_draft a_numbers s_length s_place_1 s_place_1 v_12 0 s_bytes) := hD
                refine lv_aload_n hx hb dX7_advance_137 rfl (lv_at hl 0 rfl) ?_
                refine lv_dup hx hb dX7_advance_138 rfl ?_
                refine va_get (D := D) (ci := 6) (v := .int s_place_1) (C := RX7) (T := TX7) (N := 8) hx hb hts in_X7 hown hK hP 0 rfl rfl 4 (by decide) fl_39 (fun _ h9 => h9) rfl dX7_advance_139 ?_
                refine lv_iconst (v := 1) hx hb dX7_advance_142 (by decide) ?_
                refine lv_iadd hx hb dX7_advance_143 ?_
                refine lv_topi (fun s_place_14 es_place_14 => ?_)
                have h := h s_place_14 es_place_14
                refine va_put (D := D) (ci := 6) (v := .int s_place_14) (ty := .int) (C := RX7) (T := TX7) (N := 8) hx hb hts in_X7 tyX7 tyX7_ok nmX7 hown hK hP hD hS 0 rfl rfl 4 (by decide) fl_39 (fun _ h9 => h9) rfl (tyX7_ok 4 (by decide)) rfl rfl (Nat.le_of_ble_eq_true rfl) dX7_advance_144 (fun H locs hP hD hS => ?_)
                have hP : va_P D vwCl (Wd_Tl_advance cy a_this a_bytes a_draft a_numbers s_length s_place_14 s_place_1 v_12 0 s_bytes) H := hP
                have hD : va_D A (Wd_Tl_advance cy a_this a_bytes a_draft a_numbers s_length s_place_14 s_place_1 v_12 0 s_bytes) := hD
                exact hret (s_place_14, s_place_1, v_12, 0) _ _ _ _ h hP hD hS dX7_advance_147
              refine lv_icmp_ne (tgt := 133) hx hb dX7_advance_126 (by decide) (fun c_15 => ?_) (fun c_15 => ?_)
              · have h := h.1 c_15
                refine lv_iconst (v := 4) hx hb dX7_advance_133 (by decide) ?_
                exact kJ134_12 _ _ _ _ h hP hD hS (lv_sub hl [0] rfl)
              · have h := h.2 c_15
                refine lv_iconst (v := 1) hx hb dX7_advance_129 (by decide) ?_
                refine lv_goto (tgt := 134) hx hb dX7_advance_130 (by decide) ?_
                exact kJ134_12 _ _ _ _ h hP hD hS (lv_sub hl [0] rfl)
            · have h := h.2 c_10
              refine lv_aload_n hx hb dX7_advance_107 rfl (lv_at hl 0 rfl) ?_
              refine st_callV (WR := []) (WSn := fun u => (Wd_Tl_advance cy a_this a_bytes a_draft a_numbers s_length u.1 s_place_1 u.2.1 u.2.2 s_bytes)) (st_runV (n := 0) (As := []) (rest := []) (q0 := 0) F ((co_Tl_takeFigures l D cy a_this a_bytes a_draft a_numbers s_length s_place_1 s_place_1 s_token 0 s_bytes _ h) _) rfl gX7_advance_X7_takeFigures rfl (by decide +kernel) rfl hKK hP hD [0, 1] rfl rfl rfl rfl rfl hl.1 rfl (Nat.le_of_ble_eq_true rfl) dX7_advance_108) hP hD hS hA [0, 1] [] [0, 1] rfl rfl rfl (fun _ => rfl) (fun u H locs h hP hD hS => ?_)
              obtain ⟨s_place_17, s_token_18, s_value_19⟩ := u
              dsimp only at h hP hD
              have hP : va_P D vwCl (Wd_Tl_advance cy a_this a_bytes a_draft a_numbers s_length s_place_17 s_place_1 s_token_18 s_value_19 s_bytes) H := hP
              have hD : va_D A (Wd_Tl_advance cy a_this a_bytes a_draft a_numbers s_length s_place_17 s_place_1 s_token_18 s_value_19 s_bytes) := hD
              refine lv_goto (tgt := 147) hx hb dX7_advance_111 (by decide) ?_
              exact hret (s_place_17, s_place_1, s_token_18, s_value_19) _ _ _ _ h hP hD hS dX7_advance_147
          · have h := h.2 c_7
            refine lv_aload_n hx hb dX7_advance_85 rfl (lv_at hl 0 rfl) ?_
            refine st_callV (WR := []) (WSn := fun u => (Wd_Tl_advance cy a_this a_bytes a_draft a_numbers s_length u.1 s_place_1 u.2 0 s_bytes)) (st_runV (n := 0) (As := []) (rest := []) (q0 := 0) F ((co_Tl_takeLetters l D cy a_this a_bytes a_draft a_numbers s_length s_place_1 s_place_1 s_token 0 s_bytes _ h) _) rfl gX7_advance_X7_takeLetters rfl (by decide +kernel) rfl hKK hP hD [0, 1] rfl rfl rfl rfl rfl hl.1 rfl (Nat.le_of_ble_eq_true rfl) dX7_advance_86) hP hD hS hA [0, 1] [] [0, 1] rfl rfl rfl (fun _ => rfl) (fun u H locs h hP hD hS => ?_)
            obtain ⟨s_place_21, s_token_22⟩ := u
            dsimp only at h hP hD
            have hP : va_P D vwCl (Wd_Tl_advance cy a_this a_bytes a_draft a_numbers s_length s_place_21 s_place_1 s_token_22 0 s_bytes) H := hP
            have hD : va_D A (Wd_Tl_advance cy a_this a_bytes a_draft a_numbers s_length s_place_21 s_place_1 s_token_22 0 s_bytes) := hD
            refine lv_goto (tgt := 147) hx hb dX7_advance_89 (by decide) ?_
            exact hret (s_place_21, s_place_1, s_token_22, 0) _ _ _ _ h hP hD hS dX7_advance_147
        · have h := h.2 c_4
          refine lv_aload_n hx hb dX7_advance_62 rfl (lv_at hl 0 rfl) ?_
          refine lv_iconst (v := 0) hx hb dX7_advance_63 (by decide) ?_
          refine va_put (D := D) (ci := 6) (v := .int 0) (ty := .int) (C := RX7) (T := TX7) (N := 8) hx hb hts in_X7 tyX7 tyX7_ok nmX7 hown hK hP hD hS 0 rfl rfl 6 (by decide) fl_56 (fun _ h9 => h9) rfl (tyX7_ok 6 (by decide)) rfl rfl (Nat.le_of_ble_eq_true rfl) dX7_advance_64 (fun H locs hP hD hS => ?_)
          have hP : va_P D vwCl (Wd_Tl_advance cy a_this a_bytes a_draft a_numbers s_length s_place_1 s_place_1 0 0 s_bytes) H := hP
          have hD : va_D A (Wd_Tl_advance cy a_this a_bytes a_draft a_numbers s_length s_place_1 s_place_1 0 0 s_bytes) := hD
          refine lv_goto (tgt := 147) hx hb dX7_advance_67 (by decide) ?_
          exact hret (s_place_1, s_place_1, 0, 0) _ _ _ _ h hP hD hS dX7_advance_147
      refine lv_icmp_ge (tgt := 38) hx hb dX7_advance_8 (by decide) (fun c_23 => ?_) (fun c_23 => ?_)
      · have h := h.1 c_23
        exact kJ38_2  _ _ _ h hP hD hS (lv_sub hl [0] rfl)
      · have h := h.2 c_23
        refine lv_aload_n hx hb dX7_advance_11 rfl (lv_at hl 0 rfl) ?_
        refine va_get (D := D) (ci := 6) (v := .ref a_bytes) (C := RX7) (T := TX7) (N := 8) hx hb hts in_X7 hown hK hP 0 rfl rfl 1 (by decide) fl_22 (fun _ h9 => h9) rfl dX7_advance_12 ?_
        refine lv_aload_n hx hb dX7_advance_15 rfl (lv_at hl 0 rfl) ?_
        refine va_get (D := D) (ci := 6) (v := .int s_place_1) (C := RX7) (T := TX7) (N := 8) hx hb hts in_X7 hown hK hP 0 rfl rfl 4 (by decide) fl_39 (fun _ h9 => h9) rfl dX7_advance_16 ?_
        obtain ⟨hi_24, h⟩ := h
        refine va_bald hx hb hK hP 1 0 rfl rfl hi_24 dX7_advance_19 ?_
        refine lv_bipush (v := 32) hx hb dX7_advance_20 (by decide) ?_
        refine lv_icmp_ne (tgt := 38) hx hb dX7_advance_22 (by decide) (fun c_25 => ?_) (fun c_25 => ?_)
        · have h := h.1 c_25
          exact kJ38_2  _ _ _ h hP hD hS (lv_sub hl [0] rfl)
        · have h := h.2 c_25
          refine lv_aload_n hx hb dX7_advance_25 rfl (lv_at hl 0 rfl) ?_
          refine lv_dup hx hb dX7_advance_26 rfl ?_
          refine va_get (D := D) (ci := 6) (v := .int s_place_1) (C := RX7) (T := TX7) (N := 8) hx hb hts in_X7 hown hK hP 0 rfl rfl 4 (by decide) fl_39 (fun _ h9 => h9) rfl dX7_advance_27 ?_
          refine lv_iconst (v := 1) hx hb dX7_advance_30 (by decide) ?_
          refine lv_iadd hx hb dX7_advance_31 ?_
          refine lv_topi (fun s_place_26 es_place_26 => ?_)
          have h := h s_place_26 es_place_26
          refine va_put (D := D) (ci := 6) (v := .int s_place_26) (ty := .int) (C := RX7) (T := TX7) (N := 8) hx hb hts in_X7 tyX7 tyX7_ok nmX7 hown hK hP hD hS 0 rfl rfl 4 (by decide) fl_39 (fun _ h9 => h9) rfl (tyX7_ok 4 (by decide)) rfl rfl (Nat.le_of_ble_eq_true rfl) dX7_advance_32 (fun H locs hP hD hS => ?_)
          have hP : va_P D vwCl (Wd_Tl_advance cy a_this a_bytes a_draft a_numbers s_length s_place_26 s_start s_token s_value s_bytes) H := hP
          have hD : va_D A (Wd_Tl_advance cy a_this a_bytes a_draft a_numbers s_length s_place_26 s_start s_token s_value s_bytes) := hD
          refine lv_goto (tgt := 0) hx hb dX7_advance_35 (by decide) ?_
          exact ih0_1 _ _ _ _ h hP hD hS (lv_sub hl [0] rfl)
  exact kT0_1 n0_1 _ _ _ _ h hP hD hS (lv_sub hl [0] rfl)
abbrev Wd_Tl_wordIs (cy : ClassId × ClassId × ClassId × ClassId) (a_this a_bytes a_draft a_numbers : Nat) (s_length : Int32) (s_place : Int32) (s_start : Int32) (s_token : Int32) (s_value : Int32) (s_bytes : Nat → Int32) : va_W := [(a_this, .inr (6, [.ref a_draft, .ref a_bytes, .ref a_numbers, .int s_length, .int s_place, .int s_start, .int s_token, .int s_value])), (a_bytes, .inl (cy.1, 150, .inl s_bytes))]
abbrev rm_Tl_wordIs : Room := { frames := 4, cells := 0, slots := 0, locals := 201 }
def wp_Tl_wordIs (k1 : Nat) (s_place : Int32) (s_start : Int32) (s_bytes : Nat → Int32) (Q : Int32 → Prop) : Prop := k1 < 5 ∧ (((s_place - s_start) = (ishr (strL k1) 0) → ∃ n : Nat, lpw1 (fun (B20 : Int32 → Prop) (x2_3 : Int32) => (((ishr (strL k1) 0) ≤ x2_3 → Q 1) ∧ (¬ (ishr (strL k1) 0) ≤ x2_3 → vp_in (s_start + x2_3) 150 ∧ vp_in x2_3 (lenJ.getD k1 0) ∧ (((s_bytes (Int32.toNatClampNeg (s_start + x2_3))) = (strC k1 x2_3) → ∀ x2_11 : Int32, x2_11 = x2_3 + 1 → B20 x2_11) ∧ (¬ (s_bytes (Int32.toNatClampNeg (s_start + x2_3))) = (strC k1 x2_3) → Q 0))))) n 0) ∧ (¬ (s_place - s_start) = (ishr (strL k1) 0) → Q 0))
set_option maxHeartbeats 4000000 in
set_option maxRecDepth 100000 in
theorem co_Tl_wordIs (l : Launch) (D : va_G) (cy : ClassId × ClassId × ClassId × ClassId) (adK adV : Nat → Nat) (a_this a_bytes a_draft a_numbers : Nat) (s_length : Int32) (s_place : Int32) (s_start : Int32) (s_token : Int32) (s_value : Int32) (s_bytes : Nat → Int32) (k1 : Nat) (Q : Int32 → Prop) (h : wp_Tl_wordIs k1 s_place s_start s_bytes Q) : RoG l yX7_wordIs wsX7_wordIs rm_Tl_wordIs [.ref a_this, .ref (adK k1)] (KXs D cy adK adV (Wd_Tl_wordIs cy a_this a_bytes a_draft a_numbers s_length s_place s_start s_token s_value s_bytes)) Q := by
  refine st_metG (cc := cX7_wordIs) (maxL := 3) (ty := .boolean) RX7 (by decide) rfl rfl (Nat.le_of_ble_eq_true rfl) ?_
  intro p e s m args below meth c QQ ls F hKX hl hret
  have hP := hKX.1
  have hKK := hKX.2.1
  have hSP := hKX.2.2
  have hK := hKK.1
  have hnest := hKK.2.1
  have hx := F.1
  have hb := F.2.1
  have hown := F.2.2.2.1
  have hts := F.2.2.2.2
  have in_X7 : ∀ w ∈ u_ws RX7 TX7 8, w ∈ wsX7_wordIs := (fun _ h => List.mem_cons_of_mem _ (List.mem_append_right _ h))
  have fl_22 := (hts (.fieldLink RX7 22 "RasherCase$Teller" "bytes" "[B") (List.mem_of_getElem? (i := 3) rfl))
  have fl_39 := (hts (.fieldLink RX7 39 "RasherCase$Teller" "place" "I") (List.mem_of_getElem? (i := 1) rfl))
  have fl_53 := (hts (.fieldLink RX7 53 "RasherCase$Teller" "start" "I") (List.mem_of_getElem? (i := 2) rfl))
  have hl : lv_has ls 3 [(0, .ref a_this), (1, .ref (adK k1))] := hl
  unfold wp_Tl_wordIs at h
  obtain ⟨hk, h⟩ := h
  refine lv_aload_n hx hb dX7_wordIs_0 rfl (lv_at hl 0 rfl) ?_
  refine va_get (D := D) (ci := 6) (v := .int s_place) (C := RX7) (T := TX7) (N := 8) hx hb hts in_X7 hown hK hP 0 rfl rfl 4 (by decide) fl_39 (fun _ h9 => h9) rfl dX7_wordIs_1 ?_
  refine lv_aload_n hx hb dX7_wordIs_4 rfl (lv_at hl 0 rfl) ?_
  refine va_get (D := D) (ci := 6) (v := .int s_start) (C := RX7) (T := TX7) (N := 8) hx hb hts in_X7 hown hK hP 0 rfl rfl 5 (by decide) fl_53 (fun _ h9 => h9) rfl dX7_wordIs_5 ?_
  refine lv_isub hx hb dX7_wordIs_8 ?_
  refine lv_aload_n hx hb dX7_wordIs_9 rfl (lv_at hl 1 rfl) ?_
  refine st_callRI (st_runGV (n := 0) (As := []) (rest := [.int (s_place - s_start)]) F (co_Str_length l adK adV k1 hk) KS.bl (vk_recv hSP.1 hk va_S.rf) (KS.pre hSP) gX7_wordIs_J0_length_8abf5 rfl (by decide +kernel) rfl rfl hl.1 rfl (Nat.le_of_ble_eq_true rfl) dX7_wordIs_10) (fun r_1 hr_1 => ?_)
  subst hr_1
  refine lv_icmp_eq (tgt := 18) hx hb dX7_wordIs_13 (by decide) (fun c_2 => ?_) (fun c_2 => ?_)
  · have h := h.1 c_2
    refine lv_iconst (v := 0) hx hb dX7_wordIs_18 (by decide) ?_
    refine lv_istore_n (lv' := [(2, .int 0), (0, .ref a_this), (1, .ref (adK k1))]) hx hb dX7_wordIs_19 rfl hl (by decide) rfl (fun ls hl => ?_)
    obtain ⟨T20_3, hz20_3, hs20_3, n20_3, h⟩ := lpw1_use h
    have kT20_3 : ∀ (n : Nat) (x2_3 : Int32) (ls : Array Slot), T20_3 n x2_3 → lv_has ls 3 [(0, .ref a_this), (1, .ref (adK k1)), (2, .int x2_3)] → W p l e rm_Tl_wordIs s m args below meth c s.heap [] 0 0 QQ (F0 m 20 ls []) := by
      intro n
      induction n with
      | zero => intro x2_3 ls h; exact absurd h (hz20_3 _)
      | succ n ih20_3 =>
        intro x2_3 ls h hl
        have h := hs20_3 _ _ h
        refine lv_iload_n hx hb dX7_wordIs_20 rfl (lv_at hl 2 rfl) ?_
        refine lv_aload_n hx hb dX7_wordIs_21 rfl (lv_at hl 1 rfl) ?_
        refine st_callRI (st_runGV (n := 0) (As := []) (rest := [.int x2_3]) F (co_Str_length l adK adV k1 hk) KS.bl (vk_recv hSP.1 hk va_S.rf) (KS.pre hSP) gX7_wordIs_J0_length_8abf5 rfl (by decide +kernel) rfl rfl hl.1 rfl (Nat.le_of_ble_eq_true rfl) dX7_wordIs_22) (fun r_5 hr_5 => ?_)
        subst hr_5
        refine lv_icmp_ge (tgt := 55) hx hb dX7_wordIs_25 (by decide) (fun c_6 => ?_) (fun c_6 => ?_)
        · have h := h.1 c_6
          refine lv_iconst (v := 1) hx hb dX7_wordIs_55 (by decide) ?_
          exact hret _ _ _ rfl h dX7_wordIs_56
        · have h := h.2 c_6
          refine lv_aload_n hx hb dX7_wordIs_28 rfl (lv_at hl 0 rfl) ?_
          refine va_get (D := D) (ci := 6) (v := .ref a_bytes) (C := RX7) (T := TX7) (N := 8) hx hb hts in_X7 hown hK hP 0 rfl rfl 1 (by decide) fl_22 (fun _ h9 => h9) rfl dX7_wordIs_29 ?_
          refine lv_aload_n hx hb dX7_wordIs_32 rfl (lv_at hl 0 rfl) ?_
          refine va_get (D := D) (ci := 6) (v := .int s_start) (C := RX7) (T := TX7) (N := 8) hx hb hts in_X7 hown hK hP 0 rfl rfl 5 (by decide) fl_53 (fun _ h9 => h9) rfl dX7_wordIs_33 ?_
          refine lv_iload_n hx hb dX7_wordIs_36 rfl (lv_at hl 2 rfl) ?_
          refine lv_iadd hx hb dX7_wordIs_37 ?_
          obtain ⟨hi_7, h⟩ := h
          refine va_bald hx hb hK hP 1 0 rfl rfl hi_7 dX7_wordIs_38 ?_
          refine lv_aload_n hx hb dX7_wordIs_39 rfl (lv_at hl 1 rfl) ?_
          refine lv_iload_n hx hb dX7_wordIs_40 rfl (lv_at hl 2 rfl) ?_
          obtain ⟨hi_8, h⟩ := h
          refine st_callRI (st_runGV (n := 1) (As := [.int x2_3]) (rest := [.int (s_bytes (Int32.toNatClampNeg (s_start + x2_3)))]) F (co_Str_charAt l adK adV k1 hk x2_3 hi_8) KS.bl (vk_recv hSP.1 hk va_S.rf) (KS.pre hSP) gX7_wordIs_J0_charAt_5068e rfl (by decide +kernel) rfl rfl hl.1 rfl (Nat.le_of_ble_eq_true rfl) dX7_wordIs_41) (fun r_9 hr_9 => ?_)
          subst hr_9
          refine lv_icmp_eq (tgt := 49) hx hb dX7_wordIs_44 (by decide) (fun c_10 => ?_) (fun c_10 => ?_)
          · have h := h.1 c_10
            obtain ⟨x2_11, ex2_11⟩ : ∃ y : Int32, y = x2_3 + 1 := ⟨_, rfl⟩
            have h := h x2_11 ex2_11
            refine lv_iinc (v := x2_11) (lv' := [(2, .int x2_11), (0, .ref a_this), (1, .ref (adK k1))]) hx hb dX7_wordIs_49 hl (k := 2) rfl (by rw [ex2_11]; rfl) (by decide) rfl (fun ls hl => ?_)
            refine lv_goto (tgt := 20) hx hb dX7_wordIs_52 (by decide) ?_
            exact ih20_3 _ _ h (lv_sub hl [1, 2, 0] rfl)
          · have h := h.2 c_10
            refine lv_iconst (v := 0) hx hb dX7_wordIs_47 (by decide) ?_
            exact hret _ _ _ rfl h dX7_wordIs_48
    exact kT20_3 n20_3 _ _ h (lv_sub hl [1, 2, 0] rfl)
  · have h := h.2 c_2
    refine lv_iconst (v := 0) hx hb dX7_wordIs_16 (by decide) ?_
    exact hret _ _ _ rfl h dX7_wordIs_17
abbrev Wd_Tl_wordHere (cy : ClassId × ClassId × ClassId × ClassId) (a_this a_bytes a_draft a_numbers : Nat) (s_length : Int32) (s_place : Int32) (s_start : Int32) (s_token : Int32) (s_value : Int32) (s_bytes : Nat → Int32) : va_W := [(a_this, .inr (6, [.ref a_draft, .ref a_bytes, .ref a_numbers, .int s_length, .int s_place, .int s_start, .int s_token, .int s_value])), (a_bytes, .inl (cy.1, 150, .inl s_bytes))]
abbrev rm_Tl_wordHere : Room := { frames := 5, cells := 0, slots := 0, locals := 223 }
def wp_Tl_wordHere (s_place : Int32) (s_start : Int32) (s_token : Int32) (s_bytes : Nat → Int32) (Q : Int32 → Prop) : Prop := ((s_token = 3 → wp_Tl_wordIs 0 s_place s_start s_bytes (fun (r_2 : Int32) => ((r_2 = 0 → wp_Tl_wordIs 1 s_place s_start s_bytes (fun (r_4 : Int32) => ((r_4 = 0 → wp_Tl_wordIs 2 s_place s_start s_bytes (fun (r_6 : Int32) => ((r_6 = 0 → wp_Tl_wordIs 3 s_place s_start s_bytes (fun (r_8 : Int32) => ((r_8 = 0 → wp_Tl_wordIs 4 s_place s_start s_bytes (fun (r_10 : Int32) => ((r_10 = 0 → Q 0) ∧ (¬ r_10 = 0 → Q 5)))) ∧ (¬ r_8 = 0 → Q 4)))) ∧ (¬ r_6 = 0 → Q 3)))) ∧ (¬ r_4 = 0 → Q 2)))) ∧ (¬ r_2 = 0 → Q 1)))) ∧ (¬ s_token = 3 → Q 0))
set_option maxHeartbeats 4000000 in
set_option maxRecDepth 100000 in
theorem co_Tl_wordHere (l : Launch) (D : va_G) (cy : ClassId × ClassId × ClassId × ClassId) (adK adV : Nat → Nat) (a_this a_bytes a_draft a_numbers : Nat) (s_length : Int32) (s_place : Int32) (s_start : Int32) (s_token : Int32) (s_value : Int32) (s_bytes : Nat → Int32) (Q : Int32 → Prop) (h : wp_Tl_wordHere s_place s_start s_token s_bytes Q) : RoG l yX7_wordHere wsX7_wordHere rm_Tl_wordHere [.ref a_this] (KXs D cy adK adV (Wd_Tl_wordHere cy a_this a_bytes a_draft a_numbers s_length s_place s_start s_token s_value s_bytes)) Q := by
  refine st_metG (cc := cX7_wordHere) (maxL := 1) (ty := .int) RX7 (by decide) rfl rfl (Nat.le_of_ble_eq_true rfl) ?_
  intro p e s m args below meth c QQ ls F hKX hl hret
  have hP := hKX.1
  have hKK := hKX.2.1
  have hSP := hKX.2.2
  have hK := hKK.1
  have hnest := hKK.2.1
  have hx := F.1
  have hb := F.2.1
  have hown := F.2.2.2.1
  have hts := F.2.2.2.2
  have in_X7 : ∀ w ∈ u_ws RX7 TX7 8, w ∈ wsX7_wordHere := (fun _ h => List.mem_cons_of_mem _ (List.mem_append_right _ h))
  have fl_56 := (hts (.fieldLink RX7 56 "RasherCase$Teller" "token" "I") (List.mem_of_getElem? (i := 1) rfl))
  have hl : lv_has ls 1 [(0, .ref a_this)] := hl
  unfold wp_Tl_wordHere at h
  refine lv_aload_n hx hb dX7_wordHere_0 rfl (lv_at hl 0 rfl) ?_
  refine va_get (D := D) (ci := 6) (v := .int s_token) (C := RX7) (T := TX7) (N := 8) hx hb hts in_X7 hown hK hP 0 rfl rfl 6 (by decide) fl_56 (fun _ h9 => h9) rfl dX7_wordHere_1 ?_
  refine lv_iconst (v := 3) hx hb dX7_wordHere_4 (by decide) ?_
  refine lv_icmp_eq (tgt := 10) hx hb dX7_wordHere_5 (by decide) (fun c_1 => ?_) (fun c_1 => ?_)
  · have h := h.1 c_1
    refine lv_aload_n hx hb dX7_wordHere_10 rfl (lv_at hl 0 rfl) ?_
    refine va_ldcS hx hb hown hSP.2.2.2.1 dX7_wordHere_11 ?_
    have hPs : va_P D vwCl (Wd_Tl_wordIs cy a_this a_bytes a_draft a_numbers s_length s_place s_start s_token s_value s_bytes) s.heap := hP.sub [0, 1] (st_sub rfl)
    refine st_callRI (st_runGV (n := 1) (As := [.ref (adK 0)]) (rest := []) F (co_Tl_wordIs l D cy adK adV a_this a_bytes a_draft a_numbers s_length s_place s_start s_token s_value s_bytes 0 _ h) KXs.bl (va_recv (ci := 6) (q0 := 0) hKK.1 hPs rfl rfl) (KXs.pre hPs hKK hSP) gX7_wordHere_X7_wordIs rfl (by decide +kernel) rfl rfl hl.1 rfl (Nat.le_of_ble_eq_true rfl) dX7_wordHere_13) (fun r_2 h => ?_)
    refine lv_if_eq (tgt := 21) hx hb dX7_wordHere_16 (by decide) (fun c_3 => ?_) (fun c_3 => ?_)
    · have h := h.1 c_3
      refine lv_aload_n hx hb dX7_wordHere_21 rfl (lv_at hl 0 rfl) ?_
      refine va_ldcS hx hb hown hSP.2.2.2.2.1 dX7_wordHere_22 ?_
      have hPs : va_P D vwCl (Wd_Tl_wordIs cy a_this a_bytes a_draft a_numbers s_length s_place s_start s_token s_value s_bytes) s.heap := hP.sub [0, 1] (st_sub rfl)
      refine st_callRI (st_runGV (n := 1) (As := [.ref (adK 1)]) (rest := []) F (co_Tl_wordIs l D cy adK adV a_this a_bytes a_draft a_numbers s_length s_place s_start s_token s_value s_bytes 1 _ h) KXs.bl (va_recv (ci := 6) (q0 := 0) hKK.1 hPs rfl rfl) (KXs.pre hPs hKK hSP) gX7_wordHere_X7_wordIs rfl (by decide +kernel) rfl rfl hl.1 rfl (Nat.le_of_ble_eq_true rfl) dX7_wordHere_24) (fun r_4 h => ?_)
      refine lv_if_eq (tgt := 32) hx hb dX7_wordHere_27 (by decide) (fun c_5 => ?_) (fun c_5 => ?_)
      · have h := h.1 c_5
        refine lv_aload_n hx hb dX7_wordHere_32 rfl (lv_at hl 0 rfl) ?_
        refine va_ldcS hx hb hown hSP.2.2.2.2.2.1 dX7_wordHere_33 ?_
        have hPs : va_P D vwCl (Wd_Tl_wordIs cy a_this a_bytes a_draft a_numbers s_length s_place s_start s_token s_value s_bytes) s.heap := hP.sub [0, 1] (st_sub rfl)
        refine st_callRI (st_runGV (n := 1) (As := [.ref (adK 2)]) (rest := []) F (co_Tl_wordIs l D cy adK adV a_this a_bytes a_draft a_numbers s_length s_place s_start s_token s_value s_bytes 2 _ h) KXs.bl (va_recv (ci := 6) (q0 := 0) hKK.1 hPs rfl rfl) (KXs.pre hPs hKK hSP) gX7_wordHere_X7_wordIs rfl (by decide +kernel) rfl rfl hl.1 rfl (Nat.le_of_ble_eq_true rfl) dX7_wordHere_35) (fun r_6 h => ?_)
        refine lv_if_eq (tgt := 43) hx hb dX7_wordHere_38 (by decide) (fun c_7 => ?_) (fun c_7 => ?_)
        · have h := h.1 c_7
          refine lv_aload_n hx hb dX7_wordHere_43 rfl (lv_at hl 0 rfl) ?_
          refine va_ldcS hx hb hown hSP.2.2.2.2.2.2.1 dX7_wordHere_44 ?_
          have hPs : va_P D vwCl (Wd_Tl_wordIs cy a_this a_bytes a_draft a_numbers s_length s_place s_start s_token s_value s_bytes) s.heap := hP.sub [0, 1] (st_sub rfl)
          refine st_callRI (st_runGV (n := 1) (As := [.ref (adK 3)]) (rest := []) F (co_Tl_wordIs l D cy adK adV a_this a_bytes a_draft a_numbers s_length s_place s_start s_token s_value s_bytes 3 _ h) KXs.bl (va_recv (ci := 6) (q0 := 0) hKK.1 hPs rfl rfl) (KXs.pre hPs hKK hSP) gX7_wordHere_X7_wordIs rfl (by decide +kernel) rfl rfl hl.1 rfl (Nat.le_of_ble_eq_true rfl) dX7_wordHere_46) (fun r_8 h => ?_)
          refine lv_if_eq (tgt := 54) hx hb dX7_wordHere_49 (by decide) (fun c_9 => ?_) (fun c_9 => ?_)
          · have h := h.1 c_9
            refine lv_aload_n hx hb dX7_wordHere_54 rfl (lv_at hl 0 rfl) ?_
            refine va_ldcS hx hb hown hSP.2.2.2.2.2.2.2 dX7_wordHere_55 ?_
            have hPs : va_P D vwCl (Wd_Tl_wordIs cy a_this a_bytes a_draft a_numbers s_length s_place s_start s_token s_value s_bytes) s.heap := hP.sub [0, 1] (st_sub rfl)
            refine st_callRI (st_runGV (n := 1) (As := [.ref (adK 4)]) (rest := []) F (co_Tl_wordIs l D cy adK adV a_this a_bytes a_draft a_numbers s_length s_place s_start s_token s_value s_bytes 4 _ h) KXs.bl (va_recv (ci := 6) (q0 := 0) hKK.1 hPs rfl rfl) (KXs.pre hPs hKK hSP) gX7_wordHere_X7_wordIs rfl (by decide +kernel) rfl rfl hl.1 rfl (Nat.le_of_ble_eq_true rfl) dX7_wordHere_57) (fun r_10 h => ?_)
            refine lv_if_eq (tgt := 67) hx hb dX7_wordHere_60 (by decide) (fun c_11 => ?_) (fun c_11 => ?_)
            · have h := h.1 c_11
              refine lv_iconst (v := 0) hx hb dX7_wordHere_67 (by decide) ?_
              exact hret _ _ _ rfl h dX7_wordHere_68
            · have h := h.2 c_11
              refine lv_iconst (v := 5) hx hb dX7_wordHere_63 (by decide) ?_
              refine lv_goto (tgt := 68) hx hb dX7_wordHere_64 (by decide) ?_
              exact hret _ _ _ rfl h dX7_wordHere_68
          · have h := h.2 c_9
            refine lv_iconst (v := 4) hx hb dX7_wordHere_52 (by decide) ?_
            exact hret _ _ _ rfl h dX7_wordHere_53
        · have h := h.2 c_7
          refine lv_iconst (v := 3) hx hb dX7_wordHere_41 (by decide) ?_
          exact hret _ _ _ rfl h dX7_wordHere_42
      · have h := h.2 c_5
        refine lv_iconst (v := 2) hx hb dX7_wordHere_30 (by decide) ?_
        exact hret _ _ _ rfl h dX7_wordHere_31
    · have h := h.2 c_3
      refine lv_iconst (v := 1) hx hb dX7_wordHere_19 (by decide) ?_
      exact hret _ _ _ rfl h dX7_wordHere_20
  · have h := h.2 c_1
    refine lv_iconst (v := 0) hx hb dX7_wordHere_8 (by decide) ?_
    exact hret _ _ _ rfl h dX7_wordHere_9
abbrev Wd_Tl_endsItem (cy : ClassId × ClassId × ClassId × ClassId) (a_this a_bytes a_draft a_numbers : Nat) (s_length : Int32) (s_place : Int32) (s_start : Int32) (s_token : Int32) (s_value : Int32) (s_bytes : Nat → Int32) : va_W := [(a_this, .inr (6, [.ref a_draft, .ref a_bytes, .ref a_numbers, .int s_length, .int s_place, .int s_start, .int s_token, .int s_value])), (a_bytes, .inl (cy.1, 150, .inl s_bytes))]
abbrev rm_Tl_endsItem : Room := { frames := 3, cells := 0, slots := 0, locals := 60 }
def wp_Tl_endsItem (s_length : Int32) (s_place : Int32) (s_start : Int32) (s_token : Int32) (s_value : Int32) (s_bytes : Nat → Int32) (Q : Int32 → Int32 → Int32 → Int32 → Int32 → Prop) : Prop := wp_Tl_advance s_length s_place s_start s_token s_value s_bytes (fun (s_place_2 : Int32) (s_start_3 : Int32) (s_token_4 : Int32) (s_value_5 : Int32) => ((¬ s_token_4 = 1 → Q 0 s_place_2 s_start_3 s_token_4 s_value_5) ∧ (s_token_4 = 1 → Q 1 s_place_2 s_start_3 s_token_4 s_value_5)))
set_option maxHeartbeats 4000000 in
set_option maxRecDepth 100000 in
theorem co_Tl_endsItem (l : Launch) (D : va_G) (cy : ClassId × ClassId × ClassId × ClassId) (a_this a_bytes a_draft a_numbers : Nat) (s_length : Int32) (s_place : Int32) (s_start : Int32) (s_token : Int32) (s_value : Int32) (s_bytes : Nat → Int32) (Q : Int32 → Int32 → Int32 → Int32 → Int32 → Prop) (h : wp_Tl_endsItem s_length s_place s_start s_token s_value s_bytes Q) : CoI l yX7_endsItem wsX7_endsItem rm_Tl_endsItem D cy [.ref a_this] (Wd_Tl_endsItem cy a_this a_bytes a_draft a_numbers s_length s_place s_start s_token s_value s_bytes) (fun u : Int32 × Int32 × Int32 × Int32 => (Wd_Tl_endsItem cy a_this a_bytes a_draft a_numbers s_length u.1 u.2.1 u.2.2.1 u.2.2.2 s_bytes)) (fun (r : Int32) (u : Int32 × Int32 × Int32 × Int32) => Q r u.1 u.2.1 u.2.2.1 u.2.2.2) := by
  refine st_metZ (cc := cX7_endsItem) (maxL := 1) RX7 (by decide) rfl rfl (Nat.le_of_ble_eq_true rfl) ?_
  intro p e s m args below meth c A QQ ls F hA hKK hP hD hS hl hret
  have hK := hKK.1
  have hnest := hKK.2.1
  have hx := F.1
  have hb := F.2.1
  have hown := F.2.2.2.1
  have hts := F.2.2.2.2
  have in_X7 : ∀ w ∈ u_ws RX7 TX7 8, w ∈ wsX7_endsItem := (fun _ h => List.mem_cons_of_mem _ (List.mem_append_right _ h))
  have fl_56 := (hts (.fieldLink RX7 56 "RasherCase$Teller" "token" "I") (List.mem_of_getElem? (i := 1) rfl))
  have hl : lv_has ls 1 [(0, .ref a_this)] := hl
  unfold wp_Tl_endsItem at h
  refine lv_aload_n hx hb dX7_endsItem_0 rfl (lv_at hl 0 rfl) ?_
  refine st_callV (WR := []) (WSn := fun u => (Wd_Tl_endsItem cy a_this a_bytes a_draft a_numbers s_length u.1 u.2.1 u.2.2.1 u.2.2.2 s_bytes)) (st_runV (n := 0) (As := []) (rest := []) (q0 := 0) F ((co_Tl_advance l D cy a_this a_bytes a_draft a_numbers s_length s_place s_start s_token s_value s_bytes _ h) _) rfl gX7_endsItem_X7_advance rfl (by decide +kernel) rfl hKK hP hD [0, 1] rfl rfl rfl rfl rfl hl.1 rfl (Nat.le_of_ble_eq_true rfl) dX7_endsItem_1) hP hD hS hA [0, 1] [] [0, 1] rfl rfl rfl (fun _ => rfl) (fun u H locs h hP hD hS => ?_)
  obtain ⟨s_place_2, s_start_3, s_token_4, s_value_5⟩ := u
  dsimp only at h hP hD
  have hP : va_P D vwCl (Wd_Tl_endsItem cy a_this a_bytes a_draft a_numbers s_length s_place_2 s_start_3 s_token_4 s_value_5 s_bytes) H := hP
  have hD : va_D A (Wd_Tl_endsItem cy a_this a_bytes a_draft a_numbers s_length s_place_2 s_start_3 s_token_4 s_value_5 s_bytes) := hD
  refine lv_aload_n hx hb dX7_endsItem_4 rfl (lv_at hl 0 rfl) ?_
  refine va_get (D := D) (ci := 6) (v := .int s_token_4) (C := RX7) (T := TX7) (N := 8) hx hb hts in_X7 hown hK hP 0 rfl rfl 6 (by decide) fl_56 (fun _ h9 => h9) rfl dX7_endsItem_5 ?_
  refine lv_iconst (v := 1) hx hb dX7_endsItem_8 (by decide) ?_
  refine lv_icmp_ne (tgt := 16) hx hb dX7_endsItem_9 (by decide) (fun c_6 => ?_) (fun c_6 => ?_)
  · have h := h.1 c_6
    refine lv_iconst (v := 0) hx hb dX7_endsItem_16 (by decide) ?_
    exact hret _ (s_place_2, s_start_3, s_token_4, s_value_5) _ _ _ _ bz0 h hP hD hS dX7_endsItem_17
  · have h := h.2 c_6
    refine lv_iconst (v := 1) hx hb dX7_endsItem_12 (by decide) ?_
    refine lv_goto (tgt := 17) hx hb dX7_endsItem_13 (by decide) ?_
    exact hret _ (s_place_2, s_start_3, s_token_4, s_value_5) _ _ _ _ bz1 h hP hD hS dX7_endsItem_17
abbrev Wd_Rc_within (cy : ClassId × ClassId × ClassId × ClassId) : va_W := []
abbrev rm_Rc_within : Room := { frames := 0, cells := 0, slots := 0, locals := 0 }
def wp_Rc_within (x0 : Int32) (x1 : Int32) (x2 : Int32) (Q : Int32 → Prop) : Prop := ((x0 < x1 → Q 0) ∧ (¬ x0 < x1 → ((x2 < x0 → Q 0) ∧ (¬ x2 < x0 → Q 1))))
set_option maxHeartbeats 4000000 in
set_option maxRecDepth 100000 in
theorem co_Rc_within (l : Launch) (D : va_G) (cy : ClassId × ClassId × ClassId × ClassId) (x0 : Int32) (x1 : Int32) (x2 : Int32) (Q : Int32 → Prop) (h : wp_Rc_within x0 x1 x2 Q) : RoI l yX8_within wsX8_within rm_Rc_within D cy [.int x0, .int x1, .int x2] (Wd_Rc_within cy) Q := by
  refine st_metRZ (cc := cX8_within) (maxL := 3) RX8 (by decide) rfl rfl (Nat.le_of_ble_eq_true rfl) ?_
  intro p e s m args below meth c QQ ls F hKK hP hl hret
  have hK := hKK.1
  have hnest := hKK.2.1
  have hx := F.1
  have hb := F.2.1
  have hown := F.2.2.2.1
  have hts := F.2.2.2.2
  have hl : lv_has ls 3 [(0, .int x0), (1, .int x1), (2, .int x2)] := hl
  unfold wp_Rc_within at h
  refine lv_iload_n hx hb dX8_within_0 rfl (lv_at hl 0 rfl) ?_
  refine lv_iload_n hx hb dX8_within_1 rfl (lv_at hl 1 rfl) ?_
  refine lv_icmp_lt (tgt := 14) hx hb dX8_within_2 (by decide) (fun c_1 => ?_) (fun c_1 => ?_)
  · have h := h.1 c_1
    refine lv_iconst (v := 0) hx hb dX8_within_14 (by decide) ?_
    exact hret _ _ _ bz0 h dX8_within_15
  · have h := h.2 c_1
    refine lv_iload_n hx hb dX8_within_5 rfl (lv_at hl 0 rfl) ?_
    refine lv_iload_n hx hb dX8_within_6 rfl (lv_at hl 2 rfl) ?_
    refine lv_icmp_gt (tgt := 14) hx hb dX8_within_7 (by decide) (fun c_2 => ?_) (fun c_2 => ?_)
    · have h := h.1 c_2
      refine lv_iconst (v := 0) hx hb dX8_within_14 (by decide) ?_
      exact hret _ _ _ bz0 h dX8_within_15
    · have h := h.2 c_2
      refine lv_iconst (v := 1) hx hb dX8_within_10 (by decide) ?_
      refine lv_goto (tgt := 15) hx hb dX8_within_11 (by decide) ?_
      exact hret _ _ _ bz1 h dX8_within_15
abbrev Wd_Tl_takesNumber (cy : ClassId × ClassId × ClassId × ClassId) (a_this a_bytes a_numbers a_draft : Nat) (s_length : Int32) (s_place : Int32) (s_start : Int32) (s_token : Int32) (s_value : Int32) (s_bytes : Nat → Int32) (s_numbers : Nat → Int32) : va_W := [(a_this, .inr (6, [.ref a_draft, .ref a_bytes, .ref a_numbers, .int s_length, .int s_place, .int s_start, .int s_token, .int s_value])), (a_bytes, .inl (cy.1, 150, .inl s_bytes)), (a_numbers, .inl (cy.2.1, 4, .inl s_numbers))]
abbrev rm_Tl_takesNumber : Room := { frames := 3, cells := 0, slots := 0, locals := 60 }
def wp_Tl_takesNumber (x1 : Int32) (x2 : Int32) (x3 : Int32) (s_length : Int32) (s_place : Int32) (s_start : Int32) (s_token : Int32) (s_value : Int32) (s_bytes : Nat → Int32) (s_numbers : Nat → Int32) (Q : Int32 → Int32 → Int32 → Int32 → Int32 → (Nat → Int32) → Prop) : Prop := wp_Tl_advance s_length s_place s_start s_token s_value s_bytes (fun (s_place_2 : Int32) (s_start_3 : Int32) (s_token_4 : Int32) (s_value_5 : Int32) => vp_in x1 4 ∧ ∀ s_numbers_7 : Nat → Int32, s_numbers_7 = upd s_numbers (Int32.toNatClampNeg x1) s_value_5 → ((¬ s_token_4 = 2 → Q 0 s_place_2 s_start_3 s_token_4 s_value_5 s_numbers_7) ∧ (s_token_4 = 2 → wp_Rc_within s_value_5 x2 x3 (fun (r_9 : Int32) => ((r_9 = 0 → Q 0 s_place_2 s_start_3 s_token_4 s_value_5 s_numbers_7) ∧ (¬ r_9 = 0 → Q 1 s_place_2 s_start_3 s_token_4 s_value_5 s_numbers_7))))))
set_option maxHeartbeats 4000000 in
set_option maxRecDepth 100000 in
theorem co_Tl_takesNumber (l : Launch) (D : va_G) (cy : ClassId × ClassId × ClassId × ClassId) (a_this a_bytes a_numbers a_draft : Nat) (s_length : Int32) (s_place : Int32) (s_start : Int32) (s_token : Int32) (s_value : Int32) (s_bytes : Nat → Int32) (s_numbers : Nat → Int32) (x1 : Int32) (x2 : Int32) (x3 : Int32) (Q : Int32 → Int32 → Int32 → Int32 → Int32 → (Nat → Int32) → Prop) (h : wp_Tl_takesNumber x1 x2 x3 s_length s_place s_start s_token s_value s_bytes s_numbers Q) : CoI l yX7_takesNumber wsX7_takesNumber rm_Tl_takesNumber D cy [.ref a_this, .int x1, .int x2, .int x3] (Wd_Tl_takesNumber cy a_this a_bytes a_numbers a_draft s_length s_place s_start s_token s_value s_bytes s_numbers) (fun u : Int32 × Int32 × Int32 × Int32 × (Nat → Int32) => (Wd_Tl_takesNumber cy a_this a_bytes a_numbers a_draft s_length u.1 u.2.1 u.2.2.1 u.2.2.2.1 s_bytes u.2.2.2.2)) (fun (r : Int32) (u : Int32 × Int32 × Int32 × Int32 × (Nat → Int32)) => Q r u.1 u.2.1 u.2.2.1 u.2.2.2.1 u.2.2.2.2) := by
  refine st_metZ (cc := cX7_takesNumber) (maxL := 4) RX7 (by decide) rfl rfl (Nat.le_of_ble_eq_true rfl) ?_
  intro p e s m args below meth c A QQ ls F hA hKK hP hD hS hl hret
  have hK := hKK.1
  have hnest := hKK.2.1
  have hx := F.1
  have hb := F.2.1
  have hown := F.2.2.2.1
  have hts := F.2.2.2.2
  have in_X7 : ∀ w ∈ u_ws RX7 TX7 8, w ∈ wsX7_takesNumber := (fun _ h => List.mem_cons_of_mem _ (List.mem_append_right _ h))
  have fl_18 := (hts (.fieldLink RX7 18 "RasherCase$Teller" "numbers" "[I") (List.mem_of_getElem? (i := 1) rfl))
  have fl_56 := (hts (.fieldLink RX7 56 "RasherCase$Teller" "token" "I") (List.mem_of_getElem? (i := 3) rfl))
  have fl_91 := (hts (.fieldLink RX7 91 "RasherCase$Teller" "value" "I") (List.mem_of_getElem? (i := 2) rfl))
  have hl : lv_has ls 4 [(0, .ref a_this), (1, .int x1), (2, .int x2), (3, .int x3)] := hl
  unfold wp_Tl_takesNumber at h
  refine lv_aload_n hx hb dX7_takesNumber_0 rfl (lv_at hl 0 rfl) ?_
  refine st_callV (WR := [2].filterMap (fun i => (Wd_Tl_takesNumber cy a_this a_bytes a_numbers a_draft s_length s_place s_start s_token s_value s_bytes s_numbers)[i]?)) (WSn := fun u => (Wd_Tl_takesNumber cy a_this a_bytes a_numbers a_draft s_length u.1 u.2.1 u.2.2.1 u.2.2.2 s_bytes s_numbers)) (st_runV (n := 0) (As := []) (rest := []) (q0 := 0) F ((co_Tl_advance l D cy a_this a_bytes a_draft a_numbers s_length s_place s_start s_token s_value s_bytes _ h) _) rfl gX7_takesNumber_X7_advance rfl (by decide +kernel) rfl hKK hP hD [0, 1] rfl rfl rfl rfl rfl hl.1 rfl (Nat.le_of_ble_eq_true rfl) dX7_takesNumber_1) hP hD hS hA [0, 1] [2] [1, 2, 0] rfl rfl rfl (fun _ => rfl) (fun u H locs h hP hD hS => ?_)
  obtain ⟨s_place_2, s_start_3, s_token_4, s_value_5⟩ := u
  dsimp only at h hP hD
  have hP : va_P D vwCl (Wd_Tl_takesNumber cy a_this a_bytes a_numbers a_draft s_length s_place_2 s_start_3 s_token_4 s_value_5 s_bytes s_numbers) H := hP
  have hD : va_D A (Wd_Tl_takesNumber cy a_this a_bytes a_numbers a_draft s_length s_place_2 s_start_3 s_token_4 s_value_5 s_bytes s_numbers) := hD
  refine lv_aload_n hx hb dX7_takesNumber_4 rfl (lv_at hl 0 rfl) ?_
  refine va_get (D := D) (ci := 6) (v := .ref a_numbers) (C := RX7) (T := TX7) (N := 8) hx hb hts in_X7 hown hK hP 0 rfl rfl 2 (by decide) fl_18 (fun _ h9 => h9) rfl dX7_takesNumber_5 ?_
  refine lv_iload_n hx hb dX7_takesNumber_8 rfl (lv_at hl 1 rfl) ?_
  refine lv_aload_n hx hb dX7_takesNumber_9 rfl (lv_at hl 0 rfl) ?_
  refine va_get (D := D) (ci := 6) (v := .int s_value_5) (C := RX7) (T := TX7) (N := 8) hx hb hts in_X7 hown hK hP 0 rfl rfl 7 (by decide) fl_91 (fun _ h9 => h9) rfl dX7_takesNumber_10 ?_
  obtain ⟨hi_6, h⟩ := h
  refine va_iast hx hb hK hP hD hS 2 1 rfl rfl hi_6 dX7_takesNumber_13 (fun H locs hP hD hS => ?_)
  obtain ⟨s_numbers_7, es_numbers_7⟩ : ∃ f : Nat → Int32, f = upd s_numbers (Int32.toNatClampNeg x1) s_value_5 := ⟨_, rfl⟩
  have hP : va_P D vwCl (Wd_Tl_takesNumber cy a_this a_bytes a_numbers a_draft s_length s_place_2 s_start_3 s_token_4 s_value_5 s_bytes s_numbers_7) H := by rw [es_numbers_7]; exact hP
  have hD : va_D A (Wd_Tl_takesNumber cy a_this a_bytes a_numbers a_draft s_length s_place_2 s_start_3 s_token_4 s_value_5 s_bytes s_numbers_7) := by rw [es_numbers_7]; exact hD
  have h := h s_numbers_7 es_numbers_7
  refine lv_aload_n hx hb dX7_takesNumber_14 rfl (lv_at hl 0 rfl) ?_
  refine va_get (D := D) (ci := 6) (v := .int s_token_4) (C := RX7) (T := TX7) (N := 8) hx hb hts in_X7 hown hK hP 0 rfl rfl 6 (by decide) fl_56 (fun _ h9 => h9) rfl dX7_takesNumber_15 ?_
  refine lv_iconst (v := 2) hx hb dX7_takesNumber_18 (by decide) ?_
  refine lv_icmp_ne (tgt := 38) hx hb dX7_takesNumber_19 (by decide) (fun c_8 => ?_) (fun c_8 => ?_)
  · have h := h.1 c_8
    refine lv_iconst (v := 0) hx hb dX7_takesNumber_38 (by decide) ?_
    exact hret _ (s_place_2, s_start_3, s_token_4, s_value_5, s_numbers_7) _ _ _ _ bz0 h hP hD hS dX7_takesNumber_39
  · have h := h.2 c_8
    refine lv_aload_n hx hb dX7_takesNumber_22 rfl (lv_at hl 0 rfl) ?_
    refine va_get (D := D) (ci := 6) (v := .int s_value_5) (C := RX7) (T := TX7) (N := 8) hx hb hts in_X7 hown hK hP 0 rfl rfl 7 (by decide) fl_91 (fun _ h9 => h9) rfl dX7_takesNumber_23 ?_
    refine lv_iload_n hx hb dX7_takesNumber_26 rfl (lv_at hl 2 rfl) ?_
    refine lv_iload_n hx hb dX7_takesNumber_27 rfl (lv_at hl 3 rfl) ?_
    refine st_callRI (st_runSNR (n := 3) (As := [.int s_value_5, .int x2, .int x3]) (rest := []) F (co_Rc_within l D cy s_value_5 x2 x3 _ h) gX7_takesNumber_X8_within_n94 rfl hnest (hts (.initialized RX8) (List.mem_of_getElem? (i := 28) rfl)) (hts (.static yX8_within) (List.mem_of_getElem? (i := 27) rfl)) (by decide +kernel) rfl hKK hP [] rfl rfl hl.1 rfl (Nat.le_of_ble_eq_true rfl) dX7_takesNumber_28) (fun r_9 h => ?_)
    refine lv_if_eq (tgt := 38) hx hb dX7_takesNumber_31 (by decide) (fun c_10 => ?_) (fun c_10 => ?_)
    · have h := h.1 c_10
      refine lv_iconst (v := 0) hx hb dX7_takesNumber_38 (by decide) ?_
      exact hret _ (s_place_2, s_start_3, s_token_4, s_value_5, s_numbers_7) _ _ _ _ bz0 h hP hD hS dX7_takesNumber_39
    · have h := h.2 c_10
      refine lv_iconst (v := 1) hx hb dX7_takesNumber_34 (by decide) ?_
      refine lv_goto (tgt := 39) hx hb dX7_takesNumber_35 (by decide) ?_
      exact hret _ (s_place_2, s_start_3, s_token_4, s_value_5, s_numbers_7) _ _ _ _ bz1 h hP hD hS dX7_takesNumber_39
