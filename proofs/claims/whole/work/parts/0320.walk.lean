abbrev Wd_Mo_way (cy : ClassId × ClassId × ClassId × ClassId) (a_this a_cost a_refused a_row a_steps a_isKept a_text a_words a_mates a_bestMates a_comes : Nat) (s_above : Int64) (s_below : Int64) (s_length : Int32) (s_at : Int32) (s_behind : Int32) (s_readFlitches : Int32) (s_readFamilies : Int32) (s_doing : Int32) (s_cost : Nat → Int32) (s_refused : Nat → Int32) (s_row : Nat → Int32) (s_steps : Nat → Int32) : va_W := [(a_this, .inr (8, [.ref a_row, .ref a_isKept, .ref a_refused, .long s_above, .long s_below, .ref a_text, .int s_length, .ref a_words, .int s_at, .int s_behind, .int s_readFlitches, .int s_readFamilies, .int s_doing, .ref a_cost, .ref a_steps, .ref a_mates, .ref a_bestMates, .ref a_comes])), (a_cost, .inl (cy.2.1, 25, .inl s_cost)), (a_refused, .inl (cy.2.1, 3, .inl s_refused)), (a_row, .inl (cy.2.1, 770, .inl s_row)), (a_steps, .inl (cy.2.1, 25, .inl s_steps))]
abbrev rm_Mo_way : Room := { frames := 5, cells := 0, slots := 0, locals := 115 }
def wp_Mo_way (x1 : Int32) (x2 : Int32) (x3 : Int32) (s_cost : Nat → Int32) (s_refused : Nat → Int32) (s_row : Nat → Int32) (s_steps : Nat → Int32) (Q : Int32 → (Nat → Int32) → (Nat → Int32) → (Nat → Int32) → Prop) : Prop := wp_Mo_in x1 0 24 (fun (r_1 : Int32) => jn0 (fun (J31 : Prop) => ((r_1 = 0 → J31) ∧ (¬ r_1 = 0 → wp_Mo_in x2 0 24 (fun (r_6 : Int32) => ((r_6 = 0 → J31) ∧ (¬ r_6 = 0 → ((x3 < (-3) → J31) ∧ (¬ x3 < (-3) → ((¬ x3 = (-1) → wp_Mo_layCosts x2 s_cost s_row s_steps (fun (s_cost_11 : Nat → Int32) (s_steps_12 : Nat → Int32) => ((0 ≤ x3 → vp_in x1 25 ∧ ((x3 < (s_steps_12 (Int32.toNatClampNeg x1)) → ∃ n : Nat, lpw2 (fun (B88 : Int32 → Int32 → Prop) (x4_16 : Int32) (x5_17 : Int32) => ((x3 < x5_17 → Q x4_16 s_cost_11 s_refused s_steps_12) ∧ (¬ x3 < x5_17 → wp_Mo_nextOnWay x4_16 s_cost_11 s_row s_steps_12 (fun (r_20 : Int32) => ∀ x5_21 : Int32, x5_21 = x5_17 + 1 → B88 r_20 x5_21)))) n x1 0) ∧ (¬ x3 < (s_steps_12 (Int32.toNatClampNeg x1)) → Q (-5) s_cost_11 s_refused s_steps_12))) ∧ (¬ 0 ≤ x3 → ((¬ x3 = (-2) → vp_in x1 25 ∧ Q (s_steps_12 (Int32.toNatClampNeg x1)) s_cost_11 s_refused s_steps_12) ∧ (x3 = (-2) → vp_in x1 25 ∧ Q (s_cost_11 (Int32.toNatClampNeg x1)) s_cost_11 s_refused s_steps_12)))))) ∧ (x3 = (-1) → J31)))))))))) (wp_Mo_badAs (-10) s_refused (fun (r_3 : Int32) (s_refused_4 : Nat → Int32) => Q r_3 s_cost s_refused_4 s_steps)))
set_option maxHeartbeats 4000000 in
set_option maxRecDepth 100000 in
theorem co_Mo_way (l : Launch) (D : va_G) (cy : ClassId × ClassId × ClassId × ClassId) (a_this a_cost a_refused a_row a_steps a_isKept a_text a_words a_mates a_bestMates a_comes : Nat) (s_above : Int64) (s_below : Int64) (s_length : Int32) (s_at : Int32) (s_behind : Int32) (s_readFlitches : Int32) (s_readFamilies : Int32) (s_doing : Int32) (s_cost : Nat → Int32) (s_refused : Nat → Int32) (s_row : Nat → Int32) (s_steps : Nat → Int32) (x1 : Int32) (x2 : Int32) (x3 : Int32) (Q : Int32 → (Nat → Int32) → (Nat → Int32) → (Nat → Int32) → Prop) (h : wp_Mo_way x1 x2 x3 s_cost s_refused s_row s_steps Q) : CoI l yX9_way wsX9_way rm_Mo_way D cy [.ref a_this, .int x1, .int x2, .int x3] (Wd_Mo_way cy a_this a_cost a_refused a_row a_steps a_isKept a_text a_words a_mates a_bestMates a_comes s_above s_below s_length s_at s_behind s_readFlitches s_readFamilies s_doing s_cost s_refused s_row s_steps) (fun u : (Nat → Int32) × (Nat → Int32) × (Nat → Int32) => (Wd_Mo_way cy a_this a_cost a_refused a_row a_steps a_isKept a_text a_words a_mates a_bestMates a_comes s_above s_below s_length s_at s_behind s_readFlitches s_readFamilies s_doing u.1 u.2.1 s_row u.2.2)) (fun (r : Int32) (u : (Nat → Int32) × (Nat → Int32) × (Nat → Int32)) => Q r u.1 u.2.1 u.2.2) := by
  refine st_metI (cc := cX9_way) (maxL := 6) RX9 (by decide) rfl rfl (Nat.le_of_ble_eq_true rfl) ?_
  intro p e s m args below meth c A QQ ls F hA hKK hP hD hS hl hret
  have hK := hKK.1
  have hnest := hKK.2.1
  have hx := F.1
  have hb := F.2.1
  have hown := F.2.2.2.1
  have hts := F.2.2.2.2
  have in_X9 : ∀ w ∈ u_ws RX9 TX9 18, w ∈ wsX9_way := (fun _ h => List.mem_cons_of_mem _ (List.mem_append_right _ h))
  have fl_30 := (hts (.fieldLink RX9 30 "RasherCaseModel" "cost" "[I") (List.mem_of_getElem? (i := 1) rfl))
  have fl_33 := (hts (.fieldLink RX9 33 "RasherCaseModel" "steps" "[I") (List.mem_of_getElem? (i := 2) rfl))
  have hl : lv_has ls 6 [(0, .ref a_this), (1, .int x1), (2, .int x2), (3, .int x3)] := hl
  unfold wp_Mo_way at h
  refine lv_iload_n hx hb dX9_way_0 rfl (lv_at hl 1 rfl) ?_
  refine lv_iconst (v := 0) hx hb dX9_way_1 (by decide) ?_
  refine lv_bipush (v := 24) hx hb dX9_way_2 (by decide) ?_
  refine st_callRI (st_runSR (n := 3) (As := [.int x1, .int 0, .int 24]) (rest := []) F (co_Mo_in l D cy x1 0 24 _ h) gX9_way_X9_in rfl (by decide +kernel) rfl hKK hP [] rfl rfl hl.1 rfl (Nat.le_of_ble_eq_true rfl) dX9_way_4) (fun r_1 h => ?_)
  obtain ⟨J31, hJ31, h⟩ := jn0_ex h
  have kJ31_1 : ∀  (H : Heap) (locs : List Loc) (ls : Array Slot), J31 → va_P D vwCl (Wd_Mo_way cy a_this a_cost a_refused a_row a_steps a_isKept a_text a_words a_mates a_bestMates a_comes s_above s_below s_length s_at s_behind s_readFlitches s_readFamilies s_doing s_cost s_refused s_row s_steps) H → va_D A (Wd_Mo_way cy a_this a_cost a_refused a_row a_steps a_isKept a_text a_words a_mates a_bestMates a_comes s_above s_below s_length s_at s_behind s_readFlitches s_readFamilies s_doing s_cost s_refused s_row s_steps) → va_S A s.heap H locs → lv_has ls 6 [(0, .ref a_this)] → W p l e rm_Mo_way s m args below meth c H locs 0 0 QQ (F0 m 31 ls []) := by
    intro  H locs ls h hP hD hS hl
    have h := hJ31  h
    refine lv_aload_n hx hb dX9_way_31 rfl (lv_at hl 0 rfl) ?_
    refine lv_bipush (v := (-10)) hx hb dX9_way_32 (by decide) ?_
    refine st_callI (WR := [1, 3, 4].filterMap (fun i => (Wd_Mo_way cy a_this a_cost a_refused a_row a_steps a_isKept a_text a_words a_mates a_bestMates a_comes s_above s_below s_length s_at s_behind s_readFlitches s_readFamilies s_doing s_cost s_refused s_row s_steps)[i]?)) (WSn := fun u => (Wd_Mo_way cy a_this a_cost a_refused a_row a_steps a_isKept a_text a_words a_mates a_bestMates a_comes s_above s_below s_length s_at s_behind s_readFlitches s_readFamilies s_doing s_cost u s_row s_steps)) (st_runV (n := 1) (As := [.int (-10)]) (rest := []) (q0 := 0) F ((co_Mo_badAs l D cy a_this a_refused a_row a_isKept a_text a_words a_cost a_steps a_mates a_bestMates a_comes s_above s_below s_length s_at s_behind s_readFlitches s_readFamilies s_doing s_refused (-10) _ h) _) rfl gX9_way_X9_badAs rfl (by decide +kernel) rfl hKK hP hD [0, 2] rfl rfl rfl rfl rfl hl.1 rfl (Nat.le_of_ble_eq_true rfl) dX9_way_34) hP hD hS hA [0, 2] [1, 3, 4] [3, 0, 4, 1, 2] rfl rfl rfl (fun _ => rfl) (fun r_3 u H locs h hP hD hS => ?_)
    obtain ⟨s_refused_4, rfl⟩ : ∃ z, z = u := ⟨_, rfl⟩
    have hP : va_P D vwCl (Wd_Mo_way cy a_this a_cost a_refused a_row a_steps a_isKept a_text a_words a_mates a_bestMates a_comes s_above s_below s_length s_at s_behind s_readFlitches s_readFamilies s_doing s_cost s_refused_4 s_row s_steps) H := hP
    have hD : va_D A (Wd_Mo_way cy a_this a_cost a_refused a_row a_steps a_isKept a_text a_words a_mates a_bestMates a_comes s_above s_below s_length s_at s_behind s_readFlitches s_readFamilies s_doing s_cost s_refused_4 s_row s_steps) := hD
    exact hret _ (s_cost, s_refused_4, s_steps) _ _ _ _ h hP hD hS dX9_way_37
  refine lv_if_eq (tgt := 31) hx hb dX9_way_7 (by decide) (fun c_5 => ?_) (fun c_5 => ?_)
  · have h := h.1 c_5
    exact kJ31_1  _ _ _ h hP hD hS (lv_sub hl [0] rfl)
  · have h := h.2 c_5
    refine lv_iload_n hx hb dX9_way_10 rfl (lv_at hl 2 rfl) ?_
    refine lv_iconst (v := 0) hx hb dX9_way_11 (by decide) ?_
    refine lv_bipush (v := 24) hx hb dX9_way_12 (by decide) ?_
    refine st_callRI (st_runSR (n := 3) (As := [.int x2, .int 0, .int 24]) (rest := []) F (co_Mo_in l D cy x2 0 24 _ h) gX9_way_X9_in rfl (by decide +kernel) rfl hKK hP [] rfl rfl hl.1 rfl (Nat.le_of_ble_eq_true rfl) dX9_way_14) (fun r_6 h => ?_)
    refine lv_if_eq (tgt := 31) hx hb dX9_way_17 (by decide) (fun c_7 => ?_) (fun c_7 => ?_)
    · have h := h.1 c_7
      exact kJ31_1  _ _ _ h hP hD hS (lv_sub hl [0] rfl)
    · have h := h.2 c_7
      refine lv_iload_n hx hb dX9_way_20 rfl (lv_at hl 3 rfl) ?_
      refine lv_bipush (v := (-3)) hx hb dX9_way_21 (by decide) ?_
      refine lv_icmp_lt (tgt := 31) hx hb dX9_way_23 (by decide) (fun c_8 => ?_) (fun c_8 => ?_)
      · have h := h.1 c_8
        exact kJ31_1  _ _ _ h hP hD hS (lv_sub hl [0] rfl)
      · have h := h.2 c_8
        refine lv_iload_n hx hb dX9_way_26 rfl (lv_at hl 3 rfl) ?_
        refine lv_iconst (v := (-1)) hx hb dX9_way_27 (by decide) ?_
        refine lv_icmp_ne (tgt := 38) hx hb dX9_way_28 (by decide) (fun c_9 => ?_) (fun c_9 => ?_)
        · have h := h.1 c_9
          refine lv_aload_n hx hb dX9_way_38 rfl (lv_at hl 0 rfl) ?_
          refine lv_iload_n hx hb dX9_way_39 rfl (lv_at hl 2 rfl) ?_
          refine st_callV (WR := [2].filterMap (fun i => (Wd_Mo_way cy a_this a_cost a_refused a_row a_steps a_isKept a_text a_words a_mates a_bestMates a_comes s_above s_below s_length s_at s_behind s_readFlitches s_readFamilies s_doing s_cost s_refused s_row s_steps)[i]?)) (WSn := fun u => (Wd_Mo_way cy a_this a_cost a_refused a_row a_steps a_isKept a_text a_words a_mates a_bestMates a_comes s_above s_below s_length s_at s_behind s_readFlitches s_readFamilies s_doing u.1 s_refused s_row u.2)) (st_runV (n := 1) (As := [.int x2]) (rest := []) (q0 := 0) F ((co_Mo_layCosts l D cy a_this a_cost a_row a_steps a_isKept a_refused a_text a_words a_mates a_bestMates a_comes s_above s_below s_length s_at s_behind s_readFlitches s_readFamilies s_doing s_cost s_row s_steps x2 _ h) _) rfl gX9_way_X9_layCosts rfl (by decide +kernel) rfl hKK hP hD [0, 1, 3, 4] rfl rfl rfl rfl rfl hl.1 rfl (Nat.le_of_ble_eq_true rfl) dX9_way_40) hP hD hS hA [0, 1, 3, 4] [2] [1, 2, 0, 3, 4] rfl rfl rfl (fun _ => rfl) (fun u H locs h hP hD hS => ?_)
          obtain ⟨s_cost_11, s_steps_12⟩ := u
          dsimp only at h hP hD
          have hP : va_P D vwCl (Wd_Mo_way cy a_this a_cost a_refused a_row a_steps a_isKept a_text a_words a_mates a_bestMates a_comes s_above s_below s_length s_at s_behind s_readFlitches s_readFamilies s_doing s_cost_11 s_refused s_row s_steps_12) H := hP
          have hD : va_D A (Wd_Mo_way cy a_this a_cost a_refused a_row a_steps a_isKept a_text a_words a_mates a_bestMates a_comes s_above s_below s_length s_at s_behind s_readFlitches s_readFamilies s_doing s_cost_11 s_refused s_row s_steps_12) := hD
          refine lv_iload_n hx hb dX9_way_43 rfl (lv_at hl 3 rfl) ?_
          refine lv_if_ge (tgt := 69) hx hb dX9_way_44 (by decide) (fun c_13 => ?_) (fun c_13 => ?_)
          · have h := h.1 c_13
            refine lv_iload_n hx hb dX9_way_69 rfl (lv_at hl 3 rfl) ?_
            refine lv_aload_n hx hb dX9_way_70 rfl (lv_at hl 0 rfl) ?_
            refine va_get (D := D) (ci := 8) (v := .ref a_steps) (C := RX9) (T := TX9) (N := 18) hx hb hts in_X9 hown hK hP 0 rfl rfl 14 (by decide) fl_33 (fun _ h9 => h9) rfl dX9_way_71 ?_
            refine lv_iload_n hx hb dX9_way_74 rfl (lv_at hl 1 rfl) ?_
            obtain ⟨hi_14, h⟩ := h
            refine va_iald hx hb hK hP 4 1 rfl rfl hi_14 dX9_way_75 ?_
            refine lv_icmp_lt (tgt := 82) hx hb dX9_way_76 (by decide) (fun c_15 => ?_) (fun c_15 => ?_)
            · have h := h.1 c_15
              refine lv_iload_n hx hb dX9_way_82 rfl (lv_at hl 1 rfl) ?_
              refine lv_istore (lv' := [(4, .int x1), (0, .ref a_this), (1, .int x1), (2, .int x2), (3, .int x3)]) hx hb dX9_way_83 hl (by decide) rfl (fun ls hl => ?_)
              refine lv_iconst (v := 0) hx hb dX9_way_85 (by decide) ?_
              refine lv_istore (lv' := [(5, .int 0), (4, .int x1), (0, .ref a_this), (1, .int x1), (2, .int x2), (3, .int x3)]) hx hb dX9_way_86 hl (by decide) rfl (fun ls hl => ?_)
              obtain ⟨T88_17, hz88_17, hs88_17, n88_17, h⟩ := lpw2_use h
              have kT88_17 : ∀ (n : Nat) (x4_16 : Int32) (x5_17 : Int32) (H : Heap) (locs : List Loc) (ls : Array Slot), T88_17 n x4_16 x5_17 → va_P D vwCl (Wd_Mo_way cy a_this a_cost a_refused a_row a_steps a_isKept a_text a_words a_mates a_bestMates a_comes s_above s_below s_length s_at s_behind s_readFlitches s_readFamilies s_doing s_cost_11 s_refused s_row s_steps_12) H → va_D A (Wd_Mo_way cy a_this a_cost a_refused a_row a_steps a_isKept a_text a_words a_mates a_bestMates a_comes s_above s_below s_length s_at s_behind s_readFlitches s_readFamilies s_doing s_cost_11 s_refused s_row s_steps_12) → va_S A s.heap H locs → lv_has ls 6 [(0, .ref a_this), (3, .int x3), (4, .int x4_16), (5, .int x5_17)] → W p l e rm_Mo_way s m args below meth c H locs 0 0 QQ (F0 m 88 ls []) := by
                intro n
                induction n with
                | zero => intro x4_16 x5_17 H locs ls h; exact absurd h (hz88_17 _ _)
                | succ n ih88_17 =>
                  intro x4_16 x5_17 H locs ls h hP hD hS hl
                  have h := hs88_17 _ _ _ h
                  refine lv_iload hx hb dX9_way_88 (lv_at hl 3 rfl) ?_
                  refine lv_iload_n hx hb dX9_way_90 rfl (lv_at hl 1 rfl) ?_
                  refine lv_icmp_gt (tgt := 108) hx hb dX9_way_91 (by decide) (fun c_19 => ?_) (fun c_19 => ?_)
                  · have h := h.1 c_19
                    refine lv_iload hx hb dX9_way_108 (lv_at hl 2 rfl) ?_
                    exact hret _ (s_cost_11, s_refused, s_steps_12) _ _ _ _ h hP hD hS dX9_way_110
                  · have h := h.2 c_19
                    refine lv_aload_n hx hb dX9_way_94 rfl (lv_at hl 0 rfl) ?_
                    refine lv_iload hx hb dX9_way_95 (lv_at hl 2 rfl) ?_
                    refine st_callRI (st_runVR (n := 1) (As := [.int x4_16]) (rest := []) (q0 := 0) F (co_Mo_nextOnWay l D cy a_this a_cost a_row a_steps a_isKept a_refused a_text a_words a_mates a_bestMates a_comes s_above s_below s_length s_at s_behind s_readFlitches s_readFamilies s_doing s_cost_11 s_row s_steps_12 x4_16 _ h) gX9_way_X9_nextOnWay rfl (by decide +kernel) rfl hKK hP [0, 1, 3, 4] rfl rfl rfl rfl hl.1 rfl (Nat.le_of_ble_eq_true rfl) dX9_way_97) (fun r_20 h => ?_)
                    refine lv_istore (lv' := [(4, .int r_20), (0, .ref a_this), (3, .int x3), (5, .int x5_17)]) hx hb dX9_way_100 hl (by decide) rfl (fun ls hl => ?_)
                    obtain ⟨x5_21, ex5_21⟩ : ∃ y : Int32, y = x5_17 + 1 := ⟨_, rfl⟩
                    have h := h x5_21 ex5_21
                    refine lv_iinc (v := x5_21) (lv' := [(5, .int x5_21), (4, .int r_20), (0, .ref a_this), (3, .int x3)]) hx hb dX9_way_102 hl (k := 3) rfl (by rw [ex5_21]; rfl) (by decide) rfl (fun ls hl => ?_)
                    refine lv_goto (tgt := 88) hx hb dX9_way_105 (by decide) ?_
                    exact ih88_17 _ _ _ _ _ h hP hD hS (lv_sub hl [2, 3, 1, 0] rfl)
              exact kT88_17 n88_17 _ _ _ _ _ h hP hD hS (lv_sub hl [2, 5, 1, 0] rfl)
            · have h := h.2 c_15
              refine lv_bipush (v := (-5)) hx hb dX9_way_79 (by decide) ?_
              exact hret _ (s_cost_11, s_refused, s_steps_12) _ _ _ _ h hP hD hS dX9_way_81
          · have h := h.2 c_13
            refine lv_iload_n hx hb dX9_way_47 rfl (lv_at hl 3 rfl) ?_
            refine lv_bipush (v := (-2)) hx hb dX9_way_48 (by decide) ?_
            refine lv_icmp_ne (tgt := 62) hx hb dX9_way_50 (by decide) (fun c_22 => ?_) (fun c_22 => ?_)
            · have h := h.1 c_22
              refine lv_aload_n hx hb dX9_way_62 rfl (lv_at hl 0 rfl) ?_
              refine va_get (D := D) (ci := 8) (v := .ref a_steps) (C := RX9) (T := TX9) (N := 18) hx hb hts in_X9 hown hK hP 0 rfl rfl 14 (by decide) fl_33 (fun _ h9 => h9) rfl dX9_way_63 ?_
              refine lv_iload_n hx hb dX9_way_66 rfl (lv_at hl 1 rfl) ?_
              obtain ⟨hi_23, h⟩ := h
              refine va_iald hx hb hK hP 4 1 rfl rfl hi_23 dX9_way_67 ?_
              exact hret _ (s_cost_11, s_refused, s_steps_12) _ _ _ _ h hP hD hS dX9_way_68
            · have h := h.2 c_22
              refine lv_aload_n hx hb dX9_way_53 rfl (lv_at hl 0 rfl) ?_
              refine va_get (D := D) (ci := 8) (v := .ref a_cost) (C := RX9) (T := TX9) (N := 18) hx hb hts in_X9 hown hK hP 0 rfl rfl 13 (by decide) fl_30 (fun _ h9 => h9) rfl dX9_way_54 ?_
              refine lv_iload_n hx hb dX9_way_57 rfl (lv_at hl 1 rfl) ?_
              obtain ⟨hi_24, h⟩ := h
              refine va_iald hx hb hK hP 1 1 rfl rfl hi_24 dX9_way_58 ?_
              refine lv_goto (tgt := 68) hx hb dX9_way_59 (by decide) ?_
              exact hret _ (s_cost_11, s_refused, s_steps_12) _ _ _ _ h hP hD hS dX9_way_68
        · have h := h.2 c_9
          exact kJ31_1  _ _ _ h hP hD hS (lv_sub hl [0] rfl)
abbrev Wd_Mo_home (cy : ClassId × ClassId × ClassId × ClassId) (a_this a_refused a_row a_isKept a_text a_words a_cost a_steps a_mates a_bestMates a_comes : Nat) (s_above : Int64) (s_below : Int64) (s_length : Int32) (s_at : Int32) (s_behind : Int32) (s_readFlitches : Int32) (s_readFamilies : Int32) (s_doing : Int32) (s_refused : Nat → Int32) (s_row : Nat → Int32) : va_W := [(a_this, .inr (8, [.ref a_row, .ref a_isKept, .ref a_refused, .long s_above, .long s_below, .ref a_text, .int s_length, .ref a_words, .int s_at, .int s_behind, .int s_readFlitches, .int s_readFamilies, .int s_doing, .ref a_cost, .ref a_steps, .ref a_mates, .ref a_bestMates, .ref a_comes])), (a_refused, .inl (cy.2.1, 3, .inl s_refused)), (a_row, .inl (cy.2.1, 770, .inl s_row))]
abbrev rm_Mo_home : Room := { frames := 6, cells := 0, slots := 0, locals := 136 }
def wp_Mo_home (x1 : Int32) (s_refused : Nat → Int32) (s_row : Nat → Int32) (Q : Int32 → (Nat → Int32) → (Nat → Int32) → Prop) : Prop := wp_Mo_isFamily x1 s_row (fun (r_1 : Int32) => ((¬ r_1 = 0 → ∃ n : Nat, lpw4 (fun (B22 : Int32 → Int32 → Int32 → (Nat → Int32) → Prop) (x2_3 : Int32) (x3_4 : Int32) (x4_5 : Int32) (s_row_6 : Nat → Int32) => ((25 ≤ x4_5 → Q x2_3 s_refused s_row_6) ∧ (¬ 25 ≤ x4_5 → wp_Mo_layTried s_row_6 (fun (s_row_10 : Nat → Int32) => vp_in (761 + x1) 770 ∧ ∀ s_row_12 : Nat → Int32, s_row_12 = upd s_row_10 (Int32.toNatClampNeg (761 + x1)) x4_5 → wp_Mo_whenTried x1 s_row_12 (fun (r_13 : Int32) (s_row_14 : Nat → Int32) => jn1 (fun (J64 : Int32 → Prop) => ((r_13 ≤ x3_4 → J64 x2_3) ∧ (¬ r_13 ≤ x3_4 → J64 x4_5))) (fun (v_15 : Int32) => jn1 (fun (J77 : Int32 → Prop) => ((r_13 ≤ x3_4 → J77 x3_4) ∧ (¬ r_13 ≤ x3_4 → J77 r_13))) (fun (v_17 : Int32) => ∀ x4_19 : Int32, x4_19 = x4_5 + 1 → B22 v_15 v_17 x4_19 s_row_14))))))) n (-1) (-1) 0 s_row) ∧ (r_1 = 0 → wp_Mo_refuse (-2) s_refused (fun (r_22 : Int32) (s_refused_23 : Nat → Int32) => Q r_22 s_refused_23 s_row))))
set_option maxHeartbeats 4000000 in
set_option maxRecDepth 100000 in
theorem co_Mo_home (l : Launch) (D : va_G) (cy : ClassId × ClassId × ClassId × ClassId) (a_this a_refused a_row a_isKept a_text a_words a_cost a_steps a_mates a_bestMates a_comes : Nat) (s_above : Int64) (s_below : Int64) (s_length : Int32) (s_at : Int32) (s_behind : Int32) (s_readFlitches : Int32) (s_readFamilies : Int32) (s_doing : Int32) (s_refused : Nat → Int32) (s_row : Nat → Int32) (x1 : Int32) (Q : Int32 → (Nat → Int32) → (Nat → Int32) → Prop) (h : wp_Mo_home x1 s_refused s_row Q) : CoI l yX9_home wsX9_home rm_Mo_home D cy [.ref a_this, .int x1] (Wd_Mo_home cy a_this a_refused a_row a_isKept a_text a_words a_cost a_steps a_mates a_bestMates a_comes s_above s_below s_length s_at s_behind s_readFlitches s_readFamilies s_doing s_refused s_row) (fun u : (Nat → Int32) × (Nat → Int32) => (Wd_Mo_home cy a_this a_refused a_row a_isKept a_text a_words a_cost a_steps a_mates a_bestMates a_comes s_above s_below s_length s_at s_behind s_readFlitches s_readFamilies s_doing u.1 u.2)) (fun (r : Int32) (u : (Nat → Int32) × (Nat → Int32)) => Q r u.1 u.2) := by
  refine st_metI (cc := cX9_home) (maxL := 6) RX9 (by decide) rfl rfl (Nat.le_of_ble_eq_true rfl) ?_
  intro p e s m args below meth c A QQ ls F hA hKK hP hD hS hl hret
  have hK := hKK.1
  have hnest := hKK.2.1
  have hx := F.1
  have hb := F.2.1
  have hown := F.2.2.2.1
  have hts := F.2.2.2.2
  have in_X9 : ∀ w ∈ u_ws RX9 TX9 18, w ∈ wsX9_home := (fun _ h => List.mem_cons_of_mem _ (List.mem_append_right _ h))
  have fl_7 := (hts (.fieldLink RX9 7 "RasherCaseModel" "row" "[I") (List.mem_of_getElem? (i := 1) rfl))
  have hl : lv_has ls 6 [(0, .ref a_this), (1, .int x1)] := hl
  unfold wp_Mo_home at h
  refine lv_aload_n hx hb dX9_home_0 rfl (lv_at hl 0 rfl) ?_
  refine lv_iload_n hx hb dX9_home_1 rfl (lv_at hl 1 rfl) ?_
  refine st_callRI (st_runVR (n := 1) (As := [.int x1]) (rest := []) (q0 := 0) F (co_Mo_isFamily l D cy a_this a_row a_isKept a_refused a_text a_words a_cost a_steps a_mates a_bestMates a_comes s_above s_below s_length s_at s_behind s_readFlitches s_readFamilies s_doing s_row x1 _ h) gX9_home_X9_isFamily rfl (by decide +kernel) rfl hKK hP [0, 2] rfl rfl rfl rfl hl.1 rfl (Nat.le_of_ble_eq_true rfl) dX9_home_2) (fun r_1 h => ?_)
  refine lv_if_ne (tgt := 15) hx hb dX9_home_5 (by decide) (fun c_2 => ?_) (fun c_2 => ?_)
  · have h := h.1 c_2
    refine lv_iconst (v := (-1)) hx hb dX9_home_15 (by decide) ?_
    refine lv_istore_n (lv' := [(2, .int (-1)), (0, .ref a_this), (1, .int x1)]) hx hb dX9_home_16 rfl hl (by decide) rfl (fun ls hl => ?_)
    refine lv_iconst (v := (-1)) hx hb dX9_home_17 (by decide) ?_
    refine lv_istore_n (lv' := [(3, .int (-1)), (2, .int (-1)), (0, .ref a_this), (1, .int x1)]) hx hb dX9_home_18 rfl hl (by decide) rfl (fun ls hl => ?_)
    refine lv_iconst (v := 0) hx hb dX9_home_19 (by decide) ?_
    refine lv_istore (lv' := [(4, .int 0), (3, .int (-1)), (2, .int (-1)), (0, .ref a_this), (1, .int x1)]) hx hb dX9_home_20 hl (by decide) rfl (fun ls hl => ?_)
    obtain ⟨T22_6, hz22_6, hs22_6, n22_6, h⟩ := lpw4_use h
    have kT22_6 : ∀ (n : Nat) (x2_3 : Int32) (x3_4 : Int32) (x4_5 : Int32) (s_row_6 : Nat → Int32) (H : Heap) (locs : List Loc) (ls : Array Slot), T22_6 n x2_3 x3_4 x4_5 s_row_6 → va_P D vwCl (Wd_Mo_home cy a_this a_refused a_row a_isKept a_text a_words a_cost a_steps a_mates a_bestMates a_comes s_above s_below s_length s_at s_behind s_readFlitches s_readFamilies s_doing s_refused s_row_6) H → va_D A (Wd_Mo_home cy a_this a_refused a_row a_isKept a_text a_words a_cost a_steps a_mates a_bestMates a_comes s_above s_below s_length s_at s_behind s_readFlitches s_readFamilies s_doing s_refused s_row_6) → va_S A s.heap H locs → lv_has ls 6 [(0, .ref a_this), (1, .int x1), (2, .int x2_3), (3, .int x3_4), (4, .int x4_5)] → W p l e rm_Mo_home s m args below meth c H locs 0 0 QQ (F0 m 22 ls []) := by
      intro n
      induction n with
      | zero => intro x2_3 x3_4 x4_5 s_row_6 H locs ls h; exact absurd h (hz22_6 _ _ _ _)
      | succ n ih22_6 =>
        intro x2_3 x3_4 x4_5 s_row_6 H locs ls h hP hD hS hl
        have h := hs22_6 _ _ _ _ _ h
        refine lv_iload hx hb dX9_home_22 (lv_at hl 4 rfl) ?_
        refine lv_bipush (v := 25) hx hb dX9_home_24 (by decide) ?_
        refine lv_icmp_ge (tgt := 84) hx hb dX9_home_26 (by decide) (fun c_8 => ?_) (fun c_8 => ?_)
        · have h := h.1 c_8
          refine lv_iload_n hx hb dX9_home_84 rfl (lv_at hl 2 rfl) ?_
          exact hret _ (s_refused, s_row_6) _ _ _ _ h hP hD hS dX9_home_85
        · have h := h.2 c_8
          refine lv_aload_n hx hb dX9_home_29 rfl (lv_at hl 0 rfl) ?_
          refine st_callV (WR := [1].filterMap (fun i => (Wd_Mo_home cy a_this a_refused a_row a_isKept a_text a_words a_cost a_steps a_mates a_bestMates a_comes s_above s_below s_length s_at s_behind s_readFlitches s_readFamilies s_doing s_refused s_row_6)[i]?)) (WSn := fun u => (Wd_Mo_home cy a_this a_refused a_row a_isKept a_text a_words a_cost a_steps a_mates a_bestMates a_comes s_above s_below s_length s_at s_behind s_readFlitches s_readFamilies s_doing s_refused u)) (st_runV (n := 0) (As := []) (rest := []) (q0 := 0) F ((co_Mo_layTried l D cy a_this a_row a_isKept a_refused a_text a_words a_cost a_steps a_mates a_bestMates a_comes s_above s_below s_length s_at s_behind s_readFlitches s_readFamilies s_doing s_row_6 _ h) _) rfl gX9_home_X9_layTried rfl (by decide +kernel) rfl hKK hP hD [0, 2] rfl rfl rfl rfl rfl hl.1 rfl (Nat.le_of_ble_eq_true rfl) dX9_home_30) hP hD hS hA [0, 2] [1] [1, 0, 2] rfl rfl rfl (fun _ => rfl) (fun u H locs h hP hD hS => ?_)
          obtain ⟨s_row_10, rfl⟩ : ∃ z, z = u := ⟨_, rfl⟩
          have hP : va_P D vwCl (Wd_Mo_home cy a_this a_refused a_row a_isKept a_text a_words a_cost a_steps a_mates a_bestMates a_comes s_above s_below s_length s_at s_behind s_readFlitches s_readFamilies s_doing s_refused s_row_10) H := hP
          have hD : va_D A (Wd_Mo_home cy a_this a_refused a_row a_isKept a_text a_words a_cost a_steps a_mates a_bestMates a_comes s_above s_below s_length s_at s_behind s_readFlitches s_readFamilies s_doing s_refused s_row_10) := hD
          refine lv_aload_n hx hb dX9_home_33 rfl (lv_at hl 0 rfl) ?_
          refine va_get (D := D) (ci := 8) (v := .ref a_row) (C := RX9) (T := TX9) (N := 18) hx hb hts in_X9 hown hK hP 0 rfl rfl 0 (by decide) fl_7 (fun _ h9 => h9) rfl dX9_home_34 ?_
          refine lv_sipush (v := 761) hx hb dX9_home_37 (by decide) ?_
          refine lv_iload_n hx hb dX9_home_40 rfl (lv_at hl 1 rfl) ?_
          refine lv_iadd hx hb dX9_home_41 ?_
          refine lv_iload hx hb dX9_home_42 (lv_at hl 4 rfl) ?_
          obtain ⟨hi_11, h⟩ := h
          refine va_iast hx hb hK hP hD hS 2 1 rfl rfl hi_11 dX9_home_44 (fun H locs hP hD hS => ?_)
          obtain ⟨s_row_12, es_row_12⟩ : ∃ f : Nat → Int32, f = upd s_row_10 (Int32.toNatClampNeg (761 + x1)) x4_5 := ⟨_, rfl⟩
          have hP : va_P D vwCl (Wd_Mo_home cy a_this a_refused a_row a_isKept a_text a_words a_cost a_steps a_mates a_bestMates a_comes s_above s_below s_length s_at s_behind s_readFlitches s_readFamilies s_doing s_refused s_row_12) H := by rw [es_row_12]; exact hP
          have hD : va_D A (Wd_Mo_home cy a_this a_refused a_row a_isKept a_text a_words a_cost a_steps a_mates a_bestMates a_comes s_above s_below s_length s_at s_behind s_readFlitches s_readFamilies s_doing s_refused s_row_12) := by rw [es_row_12]; exact hD
          have h := h s_row_12 es_row_12
          refine lv_aload_n hx hb dX9_home_45 rfl (lv_at hl 0 rfl) ?_
          refine lv_iload_n hx hb dX9_home_46 rfl (lv_at hl 1 rfl) ?_
          refine st_callI (WR := [1].filterMap (fun i => (Wd_Mo_home cy a_this a_refused a_row a_isKept a_text a_words a_cost a_steps a_mates a_bestMates a_comes s_above s_below s_length s_at s_behind s_readFlitches s_readFamilies s_doing s_refused s_row_12)[i]?)) (WSn := fun u => (Wd_Mo_home cy a_this a_refused a_row a_isKept a_text a_words a_cost a_steps a_mates a_bestMates a_comes s_above s_below s_length s_at s_behind s_readFlitches s_readFamilies s_doing s_refused u)) (st_runV (n := 1) (As := [.int x1]) (rest := []) (q0 := 0) F ((co_Mo_whenTried l D cy a_this a_row a_isKept a_refused a_text a_words a_cost a_steps a_mates a_bestMates a_comes s_above s_below s_length s_at s_behind s_readFlitches s_readFamilies s_doing s_row_12 x1 _ h) _) rfl gX9_home_X9_whenTried rfl (by decide +kernel) rfl hKK hP hD [0, 2] rfl rfl rfl rfl rfl hl.1 rfl (Nat.le_of_ble_eq_true rfl) dX9_home_47) hP hD hS hA [0, 2] [1] [1, 0, 2] rfl rfl rfl (fun _ => rfl) (fun r_13 u H locs h hP hD hS => ?_)
          obtain ⟨s_row_14, rfl⟩ : ∃ z, z = u := ⟨_, rfl⟩
          have hP : va_P D vwCl (Wd_Mo_home cy a_this a_refused a_row a_isKept a_text a_words a_cost a_steps a_mates a_bestMates a_comes s_above s_below s_length s_at s_behind s_readFlitches s_readFamilies s_doing s_refused s_row_14) H := hP
          have hD : va_D A (Wd_Mo_home cy a_this a_refused a_row a_isKept a_text a_words a_cost a_steps a_mates a_bestMates a_comes s_above s_below s_length s_at s_behind s_readFlitches s_readFamilies s_doing s_refused s_row_14) := hD
          refine lv_istore (lv' := [(5, .int r_13), (0, .ref a_this), (1, .int x1), (2, .int x2_3), (3, .int x3_4), (4, .int x4_5)]) hx hb dX9_home_50 hl (by decide) rfl (fun ls hl => ?_)
          refine lv_iload hx hb dX9_home_52 (lv_at hl 0 rfl) ?_
          refine lv_iload_n hx hb dX9_home_54 rfl (lv_at hl 4 rfl) ?_
          obtain ⟨J64, hJ64, h⟩ := jn1_ex h
          have kJ64_15 : ∀ (v_15 : Int32) (H : Heap) (locs : List Loc) (ls : Array Slot), J64 v_15 → va_P D vwCl (Wd_Mo_home cy a_this a_refused a_row a_isKept a_text a_words a_cost a_steps a_mates a_bestMates a_comes s_above s_below s_length s_at s_behind s_readFlitches s_readFamilies s_doing s_refused s_row_14) H → va_D A (Wd_Mo_home cy a_this a_refused a_row a_isKept a_text a_words a_cost a_steps a_mates a_bestMates a_comes s_above s_below s_length s_at s_behind s_readFlitches s_readFamilies s_doing s_refused s_row_14) → va_S A s.heap H locs → lv_has ls 6 [(0, .ref a_this), (1, .int x1), (3, .int x3_4), (4, .int x4_5), (5, .int r_13)] → W p l e rm_Mo_home s m args below meth c H locs 0 0 QQ (F0 m 64 ls [.int v_15]) := by
            intro v_15 H locs ls h hP hD hS hl
            have h := hJ64 _ h
            refine lv_istore_n (lv' := [(2, .int v_15), (0, .ref a_this), (1, .int x1), (3, .int x3_4), (4, .int x4_5), (5, .int r_13)]) hx hb dX9_home_64 rfl hl (by decide) rfl (fun ls hl => ?_)
            refine lv_iload hx hb dX9_home_65 (lv_at hl 5 rfl) ?_
            refine lv_iload_n hx hb dX9_home_67 rfl (lv_at hl 3 rfl) ?_
            obtain ⟨J77, hJ77, h⟩ := jn1_ex h
            have kJ77_17 : ∀ (v_17 : Int32) (H : Heap) (locs : List Loc) (ls : Array Slot), J77 v_17 → va_P D vwCl (Wd_Mo_home cy a_this a_refused a_row a_isKept a_text a_words a_cost a_steps a_mates a_bestMates a_comes s_above s_below s_length s_at s_behind s_readFlitches s_readFamilies s_doing s_refused s_row_14) H → va_D A (Wd_Mo_home cy a_this a_refused a_row a_isKept a_text a_words a_cost a_steps a_mates a_bestMates a_comes s_above s_below s_length s_at s_behind s_readFlitches s_readFamilies s_doing s_refused s_row_14) → va_S A s.heap H locs → lv_has ls 6 [(0, .ref a_this), (1, .int x1), (2, .int v_15), (4, .int x4_5)] → W p l e rm_Mo_home s m args below meth c H locs 0 0 QQ (F0 m 77 ls [.int v_17]) := by
              intro v_17 H locs ls h hP hD hS hl
              have h := hJ77 _ h
              refine lv_istore_n (lv' := [(3, .int v_17), (0, .ref a_this), (1, .int x1), (2, .int v_15), (4, .int x4_5)]) hx hb dX9_home_77 rfl hl (by decide) rfl (fun ls hl => ?_)
              obtain ⟨x4_19, ex4_19⟩ : ∃ y : Int32, y = x4_5 + 1 := ⟨_, rfl⟩
              have h := h x4_19 ex4_19
              refine lv_iinc (v := x4_19) (lv' := [(4, .int x4_19), (3, .int v_17), (0, .ref a_this), (1, .int x1), (2, .int v_15)]) hx hb dX9_home_78 hl (k := 4) rfl (by rw [ex4_19]; rfl) (by decide) rfl (fun ls hl => ?_)
              refine lv_goto (tgt := 22) hx hb dX9_home_81 (by decide) ?_
              exact ih22_6 _ _ _ _ _ _ _ h hP hD hS (lv_sub hl [2, 3, 4, 1, 0] rfl)
            refine lv_icmp_le (tgt := 76) hx hb dX9_home_68 (by decide) (fun c_20 => ?_) (fun c_20 => ?_)
            · have h := h.1 c_20
              refine lv_iload_n hx hb dX9_home_76 rfl (lv_at hl 3 rfl) ?_
              exact kJ77_17 _ _ _ _ h hP hD hS (lv_sub hl [1, 2, 0, 4] rfl)
            · have h := h.2 c_20
              refine lv_iload hx hb dX9_home_71 (lv_at hl 5 rfl) ?_
              refine lv_goto (tgt := 77) hx hb dX9_home_73 (by decide) ?_
              exact kJ77_17 _ _ _ _ h hP hD hS (lv_sub hl [1, 2, 0, 4] rfl)
          refine lv_icmp_le (tgt := 63) hx hb dX9_home_55 (by decide) (fun c_21 => ?_) (fun c_21 => ?_)
          · have h := h.1 c_21
            refine lv_iload_n hx hb dX9_home_63 rfl (lv_at hl 3 rfl) ?_
            exact kJ64_15 _ _ _ _ h hP hD hS (lv_sub hl [1, 2, 4, 5, 0] rfl)
          · have h := h.2 c_21
            refine lv_iload hx hb dX9_home_58 (lv_at hl 5 rfl) ?_
            refine lv_goto (tgt := 64) hx hb dX9_home_60 (by decide) ?_
            exact kJ64_15 _ _ _ _ h hP hD hS (lv_sub hl [1, 2, 4, 5, 0] rfl)
    exact kT22_6 n22_6 _ _ _ _ _ _ _ h hP hD hS (lv_sub hl [3, 4, 2, 1, 0] rfl)
  · have h := h.2 c_2
    refine lv_aload_n hx hb dX9_home_8 rfl (lv_at hl 0 rfl) ?_
    refine lv_bipush (v := (-2)) hx hb dX9_home_9 (by decide) ?_
    refine st_callI (WR := [2].filterMap (fun i => (Wd_Mo_home cy a_this a_refused a_row a_isKept a_text a_words a_cost a_steps a_mates a_bestMates a_comes s_above s_below s_length s_at s_behind s_readFlitches s_readFamilies s_doing s_refused s_row)[i]?)) (WSn := fun u => (Wd_Mo_home cy a_this a_refused a_row a_isKept a_text a_words a_cost a_steps a_mates a_bestMates a_comes s_above s_below s_length s_at s_behind s_readFlitches s_readFamilies s_doing u s_row)) (st_runV (n := 1) (As := [.int (-2)]) (rest := []) (q0 := 0) F ((co_Mo_refuse l D cy a_this a_refused a_row a_isKept a_text a_words a_cost a_steps a_mates a_bestMates a_comes s_above s_below s_length s_at s_behind s_readFlitches s_readFamilies s_doing s_refused (-2) _ h) _) rfl gX9_home_X9_refuse rfl (by decide +kernel) rfl hKK hP hD [0, 1] rfl rfl rfl rfl rfl hl.1 rfl (Nat.le_of_ble_eq_true rfl) dX9_home_11) hP hD hS hA [0, 1] [2] [1, 2, 0] rfl rfl rfl (fun _ => rfl) (fun r_22 u H locs h hP hD hS => ?_)
    obtain ⟨s_refused_23, rfl⟩ : ∃ z, z = u := ⟨_, rfl⟩
    have hP : va_P D vwCl (Wd_Mo_home cy a_this a_refused a_row a_isKept a_text a_words a_cost a_steps a_mates a_bestMates a_comes s_above s_below s_length s_at s_behind s_readFlitches s_readFamilies s_doing s_refused_23 s_row) H := hP
    have hD : va_D A (Wd_Mo_home cy a_this a_refused a_row a_isKept a_text a_words a_cost a_steps a_mates a_bestMates a_comes s_above s_below s_length s_at s_behind s_readFlitches s_readFamilies s_doing s_refused_23 s_row) := hD
    exact hret _ (s_refused_23, s_row) _ _ _ _ h hP hD hS dX9_home_14
abbrev Wd_Mo_quiet (cy : ClassId × ClassId × ClassId × ClassId) (a_this a_refused a_row a_isKept a_text a_words a_cost a_steps a_mates a_bestMates a_comes : Nat) (s_above : Int64) (s_below : Int64) (s_length : Int32) (s_at : Int32) (s_behind : Int32) (s_readFlitches : Int32) (s_readFamilies : Int32) (s_doing : Int32) (s_refused : Nat → Int32) (s_row : Nat → Int32) : va_W := [(a_this, .inr (8, [.ref a_row, .ref a_isKept, .ref a_refused, .long s_above, .long s_below, .ref a_text, .int s_length, .ref a_words, .int s_at, .int s_behind, .int s_readFlitches, .int s_readFamilies, .int s_doing, .ref a_cost, .ref a_steps, .ref a_mates, .ref a_bestMates, .ref a_comes])), (a_refused, .inl (cy.2.1, 3, .inl s_refused)), (a_row, .inl (cy.2.1, 770, .inl s_row))]
abbrev rm_Mo_quiet : Room := { frames := 5, cells := 0, slots := 0, locals := 114 }
def wp_Mo_quiet (x1 : Int32) (s_refused : Nat → Int32) (s_row : Nat → Int32) (Q : Int32 → (Nat → Int32) → (Nat → Int32) → Prop) : Prop := wp_Mo_in x1 1 60 (fun (r_1 : Int32) => ((¬ r_1 = 0 → ∀ x2_3 : Int32, x2_3 = ((ishl 1 (s_row (Int32.toNatClampNeg 17))) - 1) → ∃ n : Nat, lpw3 (fun (B34 : Int32 → Int32 → (Nat → Int32) → Prop) (x3_4 : Int32) (x4_5 : Int32) (s_row_6 : Nat → Int32) => ((x2_3 < x4_5 → Q x3_4 s_refused s_row_6) ∧ (¬ x2_3 < x4_5 → wp_Mo_layTried s_row_6 (fun (s_row_10 : Nat → Int32) => ∀ s_row_11 : Nat → Int32, s_row_11 = upd s_row_10 (Int32.toNatClampNeg 768) (x2_3 &&& (x4_5 ^^^ (-1))) → wp_Mo_passTried x1 s_row_11 (fun (s_row_13 : Nat → Int32) => jn1 (fun (J86 : Int32 → Prop) => ((¬ (s_row_13 (Int32.toNatClampNeg 760)) = (s_row_13 (Int32.toNatClampNeg 7)) → J86 0) ∧ ((s_row_13 (Int32.toNatClampNeg 760)) = (s_row_13 (Int32.toNatClampNeg 7)) → J86 1))) (fun (v_14 : Int32) => jn1 (fun (J116 : Int32 → Prop) => jn0 (fun (J115 : Prop) => ((v_14 = 0 → J115) ∧ (¬ v_14 = 0 → jn0 (fun (J110 : Prop) => ((x3_4 = (-1) → J110) ∧ (¬ x3_4 = (-1) → wp_Mo_bits x4_5 (fun (r_23 : Int32) => wp_Mo_bits x3_4 (fun (r_24 : Int32) => ((r_24 ≤ r_23 → J115) ∧ (¬ r_24 ≤ r_23 → J110))))))) (J116 x4_5)))) (J116 x3_4)) (fun (v_16 : Int32) => ∀ x4_18 : Int32, x4_18 = x4_5 + 1 → B34 v_16 x4_18 s_row_13))))))) n (-1) 0 s_row) ∧ (r_1 = 0 → wp_Mo_refuse (-2) s_refused (fun (r_27 : Int32) (s_refused_28 : Nat → Int32) => Q r_27 s_refused_28 s_row))))
set_option maxHeartbeats 4000000 in
set_option maxRecDepth 100000 in
theorem co_Mo_quiet (l : Launch) (D : va_G) (cy : ClassId × ClassId × ClassId × ClassId) (a_this a_refused a_row a_isKept a_text a_words a_cost a_steps a_mates a_bestMates a_comes : Nat) (s_above : Int64) (s_below : Int64) (s_length : Int32) (s_at : Int32) (s_behind : Int32) (s_readFlitches : Int32) (s_readFamilies : Int32) (s_doing : Int32) (s_refused : Nat → Int32) (s_row : Nat → Int32) (x1 : Int32) (Q : Int32 → (Nat → Int32) → (Nat → Int32) → Prop) (h : wp_Mo_quiet x1 s_refused s_row Q) : CoI l yX9_quiet wsX9_quiet rm_Mo_quiet D cy [.ref a_this, .int x1] (Wd_Mo_quiet cy a_this a_refused a_row a_isKept a_text a_words a_cost a_steps a_mates a_bestMates a_comes s_above s_below s_length s_at s_behind s_readFlitches s_readFamilies s_doing s_refused s_row) (fun u : (Nat → Int32) × (Nat → Int32) => (Wd_Mo_quiet cy a_this a_refused a_row a_isKept a_text a_words a_cost a_steps a_mates a_bestMates a_comes s_above s_below s_length s_at s_behind s_readFlitches s_readFamilies s_doing u.1 u.2)) (fun (r : Int32) (u : (Nat → Int32) × (Nat → Int32)) => Q r u.1 u.2) := by
  refine st_metI (cc := cX9_quiet) (maxL := 6) RX9 (by decide) rfl rfl (Nat.le_of_ble_eq_true rfl) ?_
  intro p e s m args below meth c A QQ ls F hA hKK hP hD hS hl hret
  have hK := hKK.1
  have hnest := hKK.2.1
  have hx := F.1
  have hb := F.2.1
  have hown := F.2.2.2.1
  have hts := F.2.2.2.2
  have in_X9 : ∀ w ∈ u_ws RX9 TX9 18, w ∈ wsX9_quiet := (fun _ h => List.mem_cons_of_mem _ (List.mem_append_right _ h))
  have fl_7 := (hts (.fieldLink RX9 7 "RasherCaseModel" "row" "[I") (List.mem_of_getElem? (i := 1) rfl))
  have hl : lv_has ls 6 [(0, .ref a_this), (1, .int x1)] := hl
  unfold wp_Mo_quiet at h
  refine lv_iload_n hx hb dX9_quiet_0 rfl (lv_at hl 1 rfl) ?_
  refine lv_iconst (v := 1) hx hb dX9_quiet_1 (by decide) ?_
  refine lv_bipush (v := 60) hx hb dX9_quiet_2 (by decide) ?_
  refine st_callRI (st_runSR (n := 3) (As := [.int x1, .int 1, .int 60]) (rest := []) F (co_Mo_in l D cy x1 1 60 _ h) gX9_quiet_X9_in rfl (by decide +kernel) rfl hKK hP [] rfl rfl hl.1 rfl (Nat.le_of_ble_eq_true rfl) dX9_quiet_4) (fun r_1 h => ?_)
  refine lv_if_ne (tgt := 17) hx hb dX9_quiet_7 (by decide) (fun c_2 => ?_) (fun c_2 => ?_)
  · have h := h.1 c_2
    refine lv_iconst (v := 1) hx hb dX9_quiet_17 (by decide) ?_
    refine lv_aload_n hx hb dX9_quiet_18 rfl (lv_at hl 0 rfl) ?_
    refine va_get (D := D) (ci := 8) (v := .ref a_row) (C := RX9) (T := TX9) (N := 18) hx hb hts in_X9 hown hK hP 0 rfl rfl 0 (by decide) fl_7 (fun _ h9 => h9) rfl dX9_quiet_19 ?_
    refine lv_bipush (v := 17) hx hb dX9_quiet_22 (by decide) ?_
    refine va_iald hx hb hK hP 2 1 rfl rfl (by unfold vp_in; decide) dX9_quiet_24 ?_
    refine lv_ishl hx hb dX9_quiet_25 ?_
    refine lv_iconst (v := 1) hx hb dX9_quiet_26 (by decide) ?_
    refine lv_isub hx hb dX9_quiet_27 ?_
    refine lv_topi (fun x2_3 ex2_3 => ?_)
    have h := h x2_3 ex2_3
    refine lv_istore_n (lv' := [(2, .int x2_3), (0, .ref a_this), (1, .int x1)]) hx hb dX9_quiet_28 rfl hl (by decide) rfl (fun ls hl => ?_)
    refine lv_iconst (v := (-1)) hx hb dX9_quiet_29 (by decide) ?_
    refine lv_istore_n (lv' := [(3, .int (-1)), (2, .int x2_3), (0, .ref a_this), (1, .int x1)]) hx hb dX9_quiet_30 rfl hl (by decide) rfl (fun ls hl => ?_)
    refine lv_iconst (v := 0) hx hb dX9_quiet_31 (by decide) ?_
    refine lv_istore (lv' := [(4, .int 0), (3, .int (-1)), (2, .int x2_3), (0, .ref a_this), (1, .int x1)]) hx hb dX9_quiet_32 hl (by decide) rfl (fun ls hl => ?_)
    obtain ⟨T34_6, hz34_6, hs34_6, n34_6, h⟩ := lpw3_use h
    have kT34_6 : ∀ (n : Nat) (x3_4 : Int32) (x4_5 : Int32) (s_row_6 : Nat → Int32) (H : Heap) (locs : List Loc) (ls : Array Slot), T34_6 n x3_4 x4_5 s_row_6 → va_P D vwCl (Wd_Mo_quiet cy a_this a_refused a_row a_isKept a_text a_words a_cost a_steps a_mates a_bestMates a_comes s_above s_below s_length s_at s_behind s_readFlitches s_readFamilies s_doing s_refused s_row_6) H → va_D A (Wd_Mo_quiet cy a_this a_refused a_row a_isKept a_text a_words a_cost a_steps a_mates a_bestMates a_comes s_above s_below s_length s_at s_behind s_readFlitches s_readFamilies s_doing s_refused s_row_6) → va_S A s.heap H locs → lv_has ls 6 [(0, .ref a_this), (1, .int x1), (2, .int x2_3), (3, .int x3_4), (4, .int x4_5)] → W p l e rm_Mo_quiet s m args below meth c H locs 0 0 QQ (F0 m 34 ls []) := by
      intro n
      induction n with
      | zero => intro x3_4 x4_5 s_row_6 H locs ls h; exact absurd h (hz34_6 _ _ _)
      | succ n ih34_6 =>
        intro x3_4 x4_5 s_row_6 H locs ls h hP hD hS hl
        have h := hs34_6 _ _ _ _ h
        refine lv_iload hx hb dX9_quiet_34 (lv_at hl 4 rfl) ?_
        refine lv_iload_n hx hb dX9_quiet_36 rfl (lv_at hl 2 rfl) ?_
        refine lv_icmp_gt (tgt := 123) hx hb dX9_quiet_37 (by decide) (fun c_8 => ?_) (fun c_8 => ?_)
        · have h := h.1 c_8
          refine lv_iload_n hx hb dX9_quiet_123 rfl (lv_at hl 3 rfl) ?_
          exact hret _ (s_refused, s_row_6) _ _ _ _ h hP hD hS dX9_quiet_124
        · have h := h.2 c_8
          refine lv_aload_n hx hb dX9_quiet_40 rfl (lv_at hl 0 rfl) ?_
          refine st_callV (WR := [1].filterMap (fun i => (Wd_Mo_quiet cy a_this a_refused a_row a_isKept a_text a_words a_cost a_steps a_mates a_bestMates a_comes s_above s_below s_length s_at s_behind s_readFlitches s_readFamilies s_doing s_refused s_row_6)[i]?)) (WSn := fun u => (Wd_Mo_quiet cy a_this a_refused a_row a_isKept a_text a_words a_cost a_steps a_mates a_bestMates a_comes s_above s_below s_length s_at s_behind s_readFlitches s_readFamilies s_doing s_refused u)) (st_runV (n := 0) (As := []) (rest := []) (q0 := 0) F ((co_Mo_layTried l D cy a_this a_row a_isKept a_refused a_text a_words a_cost a_steps a_mates a_bestMates a_comes s_above s_below s_length s_at s_behind s_readFlitches s_readFamilies s_doing s_row_6 _ h) _) rfl gX9_quiet_X9_layTried rfl (by decide +kernel) rfl hKK hP hD [0, 2] rfl rfl rfl rfl rfl hl.1 rfl (Nat.le_of_ble_eq_true rfl) dX9_quiet_41) hP hD hS hA [0, 2] [1] [1, 0, 2] rfl rfl rfl (fun _ => rfl) (fun u H locs h hP hD hS => ?_)
          obtain ⟨s_row_10, rfl⟩ : ∃ z, z = u := ⟨_, rfl⟩
          have hP : va_P D vwCl (Wd_Mo_quiet cy a_this a_refused a_row a_isKept a_text a_words a_cost a_steps a_mates a_bestMates a_comes s_above s_below s_length s_at s_behind s_readFlitches s_readFamilies s_doing s_refused s_row_10) H := hP
          have hD : va_D A (Wd_Mo_quiet cy a_this a_refused a_row a_isKept a_text a_words a_cost a_steps a_mates a_bestMates a_comes s_above s_below s_length s_at s_behind s_readFlitches s_readFamilies s_doing s_refused s_row_10) := hD
          refine lv_aload_n hx hb dX9_quiet_44 rfl (lv_at hl 0 rfl) ?_
          refine va_get (D := D) (ci := 8) (v := .ref a_row) (C := RX9) (T := TX9) (N := 18) hx hb hts in_X9 hown hK hP 0 rfl rfl 0 (by decide) fl_7 (fun _ h9 => h9) rfl dX9_quiet_45 ?_
          refine lv_sipush (v := 768) hx hb dX9_quiet_48 (by decide) ?_
          refine lv_iload_n hx hb dX9_quiet_51 rfl (lv_at hl 2 rfl) ?_
          refine lv_iload hx hb dX9_quiet_52 (lv_at hl 4 rfl) ?_
          refine lv_iconst (v := (-1)) hx hb dX9_quiet_54 (by decide) ?_
          refine lv_ixor hx hb dX9_quiet_55 ?_
          refine lv_iand hx hb dX9_quiet_56 ?_
          refine va_iast hx hb hK hP hD hS 2 1 rfl rfl (by unfold vp_in; decide) dX9_quiet_57 (fun H locs hP hD hS => ?_)
          obtain ⟨s_row_11, es_row_11⟩ : ∃ f : Nat → Int32, f = upd s_row_10 (Int32.toNatClampNeg 768) (x2_3 &&& (x4_5 ^^^ (-1))) := ⟨_, rfl⟩
          have hP : va_P D vwCl (Wd_Mo_quiet cy a_this a_refused a_row a_isKept a_text a_words a_cost a_steps a_mates a_bestMates a_comes s_above s_below s_length s_at s_behind s_readFlitches s_readFamilies s_doing s_refused s_row_11) H := by rw [es_row_11]; exact hP
          have hD : va_D A (Wd_Mo_quiet cy a_this a_refused a_row a_isKept a_text a_words a_cost a_steps a_mates a_bestMates a_comes s_above s_below s_length s_at s_behind s_readFlitches s_readFamilies s_doing s_refused s_row_11) := by rw [es_row_11]; exact hD
          have h := h s_row_11 es_row_11
          refine lv_aload_n hx hb dX9_quiet_58 rfl (lv_at hl 0 rfl) ?_
          refine lv_iload_n hx hb dX9_quiet_59 rfl (lv_at hl 1 rfl) ?_
          refine st_callV (WR := [1].filterMap (fun i => (Wd_Mo_quiet cy a_this a_refused a_row a_isKept a_text a_words a_cost a_steps a_mates a_bestMates a_comes s_above s_below s_length s_at s_behind s_readFlitches s_readFamilies s_doing s_refused s_row_11)[i]?)) (WSn := fun u => (Wd_Mo_quiet cy a_this a_refused a_row a_isKept a_text a_words a_cost a_steps a_mates a_bestMates a_comes s_above s_below s_length s_at s_behind s_readFlitches s_readFamilies s_doing s_refused u)) (st_runV (n := 1) (As := [.int x1]) (rest := []) (q0 := 0) F ((co_Mo_passTried l D cy a_this a_row a_isKept a_refused a_text a_words a_cost a_steps a_mates a_bestMates a_comes s_above s_below s_length s_at s_behind s_readFlitches s_readFamilies s_doing s_row_11 x1 _ h) _) rfl gX9_quiet_X9_passTried rfl (by decide +kernel) rfl hKK hP hD [0, 2] rfl rfl rfl rfl rfl hl.1 rfl (Nat.le_of_ble_eq_true rfl) dX9_quiet_60) hP hD hS hA [0, 2] [1] [1, 0, 2] rfl rfl rfl (fun _ => rfl) (fun u H locs h hP hD hS => ?_)
          obtain ⟨s_row_13, rfl⟩ : ∃ z, z = u := ⟨_, rfl⟩
          have hP : va_P D vwCl (Wd_Mo_quiet cy a_this a_refused a_row a_isKept a_text a_words a_cost a_steps a_mates a_bestMates a_comes s_above s_below s_length s_at s_behind s_readFlitches s_readFamilies s_doing s_refused s_row_13) H := hP
          have hD : va_D A (Wd_Mo_quiet cy a_this a_refused a_row a_isKept a_text a_words a_cost a_steps a_mates a_bestMates a_comes s_above s_below s_length s_at s_behind s_readFlitches s_readFamilies s_doing s_refused s_row_13) := hD
          refine lv_aload_n hx hb dX9_quiet_63 rfl (lv_at hl 0 rfl) ?_
          refine va_get (D := D) (ci := 8) (v := .ref a_row) (C := RX9) (T := TX9) (N := 18) hx hb hts in_X9 hown hK hP 0 rfl rfl 0 (by decide) fl_7 (fun _ h9 => h9) rfl dX9_quiet_64 ?_
          refine lv_sipush (v := 760) hx hb dX9_quiet_67 (by decide) ?_
          refine va_iald hx hb hK hP 2 1 rfl rfl (by unfold vp_in; decide) dX9_quiet_70 ?_
          refine lv_aload_n hx hb dX9_quiet_71 rfl (lv_at hl 0 rfl) ?_
          refine va_get (D := D) (ci := 8) (v := .ref a_row) (C := RX9) (T := TX9) (N := 18) hx hb hts in_X9 hown hK hP 0 rfl rfl 0 (by decide) fl_7 (fun _ h9 => h9) rfl dX9_quiet_72 ?_
          refine lv_bipush (v := 7) hx hb dX9_quiet_75 (by decide) ?_
          refine va_iald hx hb hK hP 2 1 rfl rfl (by unfold vp_in; decide) dX9_quiet_77 ?_
          obtain ⟨J86, hJ86, h⟩ := jn1_ex h
          have kJ86_14 : ∀ (v_14 : Int32) (H : Heap) (locs : List Loc) (ls : Array Slot), J86 v_14 → va_P D vwCl (Wd_Mo_quiet cy a_this a_refused a_row a_isKept a_text a_words a_cost a_steps a_mates a_bestMates a_comes s_above s_below s_length s_at s_behind s_readFlitches s_readFamilies s_doing s_refused s_row_13) H → va_D A (Wd_Mo_quiet cy a_this a_refused a_row a_isKept a_text a_words a_cost a_steps a_mates a_bestMates a_comes s_above s_below s_length s_at s_behind s_readFlitches s_readFamilies s_doing s_refused s_row_13) → va_S A s.heap H locs → lv_has ls 6 [(0, .ref a_this), (1, .int x1), (2, .int x2_3), (3, .int x3_4), (4, .int x4_5)] → W p l e rm_Mo_quiet s m args below meth c H locs 0 0 QQ (F0 m 86 ls [.int v_14]) := by
            intro v_14 H locs ls h hP hD hS hl
            have h := hJ86 _ h
            refine lv_istore (lv' := [(5, .int v_14), (0, .ref a_this), (1, .int x1), (2, .int x2_3), (3, .int x3_4), (4, .int x4_5)]) hx hb dX9_quiet_86 hl (by decide) rfl (fun ls hl => ?_)
            refine lv_iload hx hb dX9_quiet_88 (lv_at hl 0 rfl) ?_
            obtain ⟨J116, hJ116, h⟩ := jn1_ex h
            have kJ116_16 : ∀ (v_16 : Int32) (H : Heap) (locs : List Loc) (ls : Array Slot), J116 v_16 → va_P D vwCl (Wd_Mo_quiet cy a_this a_refused a_row a_isKept a_text a_words a_cost a_steps a_mates a_bestMates a_comes s_above s_below s_length s_at s_behind s_readFlitches s_readFamilies s_doing s_refused s_row_13) H → va_D A (Wd_Mo_quiet cy a_this a_refused a_row a_isKept a_text a_words a_cost a_steps a_mates a_bestMates a_comes s_above s_below s_length s_at s_behind s_readFlitches s_readFamilies s_doing s_refused s_row_13) → va_S A s.heap H locs → lv_has ls 6 [(0, .ref a_this), (1, .int x1), (2, .int x2_3), (4, .int x4_5)] → W p l e rm_Mo_quiet s m args below meth c H locs 0 0 QQ (F0 m 116 ls [.int v_16]) := by
              intro v_16 H locs ls h hP hD hS hl
              have h := hJ116 _ h
              refine lv_istore_n (lv' := [(3, .int v_16), (0, .ref a_this), (1, .int x1), (2, .int x2_3), (4, .int x4_5)]) hx hb dX9_quiet_116 rfl hl (by decide) rfl (fun ls hl => ?_)
              obtain ⟨x4_18, ex4_18⟩ : ∃ y : Int32, y = x4_5 + 1 := ⟨_, rfl⟩
              have h := h x4_18 ex4_18
              refine lv_iinc (v := x4_18) (lv' := [(4, .int x4_18), (3, .int v_16), (0, .ref a_this), (1, .int x1), (2, .int x2_3)]) hx hb dX9_quiet_117 hl (k := 4) rfl (by rw [ex4_18]; rfl) (by decide) rfl (fun ls hl => ?_)
              refine lv_goto (tgt := 34) hx hb dX9_quiet_120 (by decide) ?_
              exact ih34_6 _ _ _ _ _ _ h hP hD hS (lv_sub hl [2, 3, 4, 1, 0] rfl)
            obtain ⟨J115, hJ115, h⟩ := jn0_ex h
            have kJ115_18 : ∀  (H : Heap) (locs : List Loc) (ls : Array Slot), J115 → va_P D vwCl (Wd_Mo_quiet cy a_this a_refused a_row a_isKept a_text a_words a_cost a_steps a_mates a_bestMates a_comes s_above s_below s_length s_at s_behind s_readFlitches s_readFamilies s_doing s_refused s_row_13) H → va_D A (Wd_Mo_quiet cy a_this a_refused a_row a_isKept a_text a_words a_cost a_steps a_mates a_bestMates a_comes s_above s_below s_length s_at s_behind s_readFlitches s_readFamilies s_doing s_refused s_row_13) → va_S A s.heap H locs → lv_has ls 6 [(0, .ref a_this), (1, .int x1), (2, .int x2_3), (3, .int x3_4), (4, .int x4_5)] → W p l e rm_Mo_quiet s m args below meth c H locs 0 0 QQ (F0 m 115 ls []) := by
              intro  H locs ls h hP hD hS hl
              have h := hJ115  h
              refine lv_iload_n hx hb dX9_quiet_115 rfl (lv_at hl 3 rfl) ?_
              exact kJ116_16 _ _ _ _ h hP hD hS (lv_sub hl [0, 1, 2, 4] rfl)
            refine lv_if_eq (tgt := 115) hx hb dX9_quiet_90 (by decide) (fun c_20 => ?_) (fun c_20 => ?_)
            · have h := h.1 c_20
              exact kJ115_18  _ _ _ h hP hD hS (lv_sub hl [1, 2, 3, 4, 5] rfl)
            · have h := h.2 c_20
              refine lv_iload_n hx hb dX9_quiet_93 rfl (lv_at hl 4 rfl) ?_
              refine lv_iconst (v := (-1)) hx hb dX9_quiet_94 (by decide) ?_
              obtain ⟨J110, hJ110, h⟩ := jn0_ex h
              have kJ110_20 : ∀  (H : Heap) (locs : List Loc) (ls : Array Slot), J110 → va_P D vwCl (Wd_Mo_quiet cy a_this a_refused a_row a_isKept a_text a_words a_cost a_steps a_mates a_bestMates a_comes s_above s_below s_length s_at s_behind s_readFlitches s_readFamilies s_doing s_refused s_row_13) H → va_D A (Wd_Mo_quiet cy a_this a_refused a_row a_isKept a_text a_words a_cost a_steps a_mates a_bestMates a_comes s_above s_below s_length s_at s_behind s_readFlitches s_readFamilies s_doing s_refused s_row_13) → va_S A s.heap H locs → lv_has ls 6 [(0, .ref a_this), (1, .int x1), (2, .int x2_3), (4, .int x4_5)] → W p l e rm_Mo_quiet s m args below meth c H locs 0 0 QQ (F0 m 110 ls []) := by
                intro  H locs ls h hP hD hS hl
                have h := hJ110  h
                refine lv_iload hx hb dX9_quiet_110 (lv_at hl 3 rfl) ?_
                refine lv_goto (tgt := 116) hx hb dX9_quiet_112 (by decide) ?_
                exact kJ116_16 _ _ _ _ h hP hD hS (lv_sub hl [0, 1, 2, 3] rfl)
              refine lv_icmp_eq (tgt := 110) hx hb dX9_quiet_95 (by decide) (fun c_22 => ?_) (fun c_22 => ?_)
              · have h := h.1 c_22
                exact kJ110_20  _ _ _ h hP hD hS (lv_sub hl [1, 2, 3, 5] rfl)
              · have h := h.2 c_22
                refine lv_iload hx hb dX9_quiet_98 (lv_at hl 5 rfl) ?_
                refine st_callRI (st_runSR (n := 1) (As := [.int x4_5]) (rest := []) F (co_Mo_bits l D cy x4_5 _ h) gX9_quiet_X9_bits rfl (by decide +kernel) rfl hKK hP [] rfl rfl hl.1 rfl (Nat.le_of_ble_eq_true rfl) dX9_quiet_100) (fun r_23 h => ?_)
                refine lv_iload_n hx hb dX9_quiet_103 rfl (lv_at hl 4 rfl) ?_
                refine st_callRI (st_runSR (n := 1) (As := [.int x3_4]) (rest := [.int r_23]) F (co_Mo_bits l D cy x3_4 _ h) gX9_quiet_X9_bits rfl (by decide +kernel) rfl hKK hP [] rfl rfl hl.1 rfl (Nat.le_of_ble_eq_true rfl) dX9_quiet_104) (fun r_24 h => ?_)
                refine lv_icmp_ge (tgt := 115) hx hb dX9_quiet_107 (by decide) (fun c_25 => ?_) (fun c_25 => ?_)
                · have h := h.1 c_25
                  exact kJ115_18  _ _ _ h hP hD hS (lv_sub hl [1, 2, 3, 4, 5] rfl)
                · have h := h.2 c_25
                  exact kJ110_20  _ _ _ h hP hD hS (lv_sub hl [1, 2, 3, 5] rfl)
          refine lv_icmp_ne (tgt := 85) hx hb dX9_quiet_78 (by decide) (fun c_26 => ?_) (fun c_26 => ?_)
          · have h := h.1 c_26
            refine lv_iconst (v := 0) hx hb dX9_quiet_85 (by decide) ?_
            exact kJ86_14 _ _ _ _ h hP hD hS (lv_sub hl [0, 1, 2, 3, 4] rfl)
          · have h := h.2 c_26
            refine lv_iconst (v := 1) hx hb dX9_quiet_81 (by decide) ?_
            refine lv_goto (tgt := 86) hx hb dX9_quiet_82 (by decide) ?_
            exact kJ86_14 _ _ _ _ h hP hD hS (lv_sub hl [0, 1, 2, 3, 4] rfl)
    exact kT34_6 n34_6 _ _ _ _ _ _ h hP hD hS (lv_sub hl [3, 4, 2, 1, 0] rfl)
  · have h := h.2 c_2
    refine lv_aload_n hx hb dX9_quiet_10 rfl (lv_at hl 0 rfl) ?_
    refine lv_bipush (v := (-2)) hx hb dX9_quiet_11 (by decide) ?_
    refine st_callI (WR := [2].filterMap (fun i => (Wd_Mo_quiet cy a_this a_refused a_row a_isKept a_text a_words a_cost a_steps a_mates a_bestMates a_comes s_above s_below s_length s_at s_behind s_readFlitches s_readFamilies s_doing s_refused s_row)[i]?)) (WSn := fun u => (Wd_Mo_quiet cy a_this a_refused a_row a_isKept a_text a_words a_cost a_steps a_mates a_bestMates a_comes s_above s_below s_length s_at s_behind s_readFlitches s_readFamilies s_doing u s_row)) (st_runV (n := 1) (As := [.int (-2)]) (rest := []) (q0 := 0) F ((co_Mo_refuse l D cy a_this a_refused a_row a_isKept a_text a_words a_cost a_steps a_mates a_bestMates a_comes s_above s_below s_length s_at s_behind s_readFlitches s_readFamilies s_doing s_refused (-2) _ h) _) rfl gX9_quiet_X9_refuse rfl (by decide +kernel) rfl hKK hP hD [0, 1] rfl rfl rfl rfl rfl hl.1 rfl (Nat.le_of_ble_eq_true rfl) dX9_quiet_13) hP hD hS hA [0, 1] [2] [1, 2, 0] rfl rfl rfl (fun _ => rfl) (fun r_27 u H locs h hP hD hS => ?_)
    obtain ⟨s_refused_28, rfl⟩ : ∃ z, z = u := ⟨_, rfl⟩
    have hP : va_P D vwCl (Wd_Mo_quiet cy a_this a_refused a_row a_isKept a_text a_words a_cost a_steps a_mates a_bestMates a_comes s_above s_below s_length s_at s_behind s_readFlitches s_readFamilies s_doing s_refused_28 s_row) H := hP
    have hD : va_D A (Wd_Mo_quiet cy a_this a_refused a_row a_isKept a_text a_words a_cost a_steps a_mates a_bestMates a_comes s_above s_below s_length s_at s_behind s_readFlitches s_readFamilies s_doing s_refused_28 s_row) := hD
    exact hret _ (s_refused_28, s_row) _ _ _ _ h hP hD hS dX9_quiet_16
abbrev Wd_Mo_mayMarry (cy : ClassId × ClassId × ClassId × ClassId) (a_this a_mates a_row a_isKept a_refused a_text a_words a_cost a_steps a_bestMates a_comes : Nat) (s_above : Int64) (s_below : Int64) (s_length : Int32) (s_at : Int32) (s_behind : Int32) (s_readFlitches : Int32) (s_readFamilies : Int32) (s_doing : Int32) (s_mates : Nat → Int32) (s_row : Nat → Int32) : va_W := [(a_this, .inr (8, [.ref a_row, .ref a_isKept, .ref a_refused, .long s_above, .long s_below, .ref a_text, .int s_length, .ref a_words, .int s_at, .int s_behind, .int s_readFlitches, .int s_readFamilies, .int s_doing, .ref a_cost, .ref a_steps, .ref a_mates, .ref a_bestMates, .ref a_comes])), (a_mates, .inl (cy.2.1, 7, .inl s_mates)), (a_row, .inl (cy.2.1, 770, .inl s_row))]
abbrev rm_Mo_mayMarry : Room := { frames := 1, cells := 0, slots := 0, locals := 21 }
def wp_Mo_mayMarry (x1 : Int32) (x2 : Int32) (s_mates : Nat → Int32) (s_row : Nat → Int32) (Q : Int32 → Prop) : Prop := vp_in (35 + x1) 770 ∧ vp_in (35 + x2) 770 ∧ jn1 (fun (J49 : Int32 → Prop) => jn0 (fun (J48 : Prop) => (((s_row (Int32.toNatClampNeg (35 + x1))) = (s_row (Int32.toNatClampNeg (35 + x2))) → J48) ∧ (¬ (s_row (Int32.toNatClampNeg (35 + x1))) = (s_row (Int32.toNatClampNeg (35 + x2))) → vp_in (0 + x1) 770 ∧ vp_in (0 + x2) 770 ∧ wp_Mo_apart (s_row (Int32.toNatClampNeg (0 + x1))) (s_row (Int32.toNatClampNeg (0 + x2))) (fun (r_24 : Int32) => ((5 < r_24 → J48) ∧ (¬ 5 < r_24 → J49 1)))))) (J49 0)) (fun (v_3 : Int32) => ∃ n : Nat, lpw2 (fun (B53 : Int32 → Int32 → Prop) (x3_5 : Int32) (x4_6 : Int32) => ((x1 ≤ x4_6 → bz x3_5 ∧ Q x3_5) ∧ (¬ x1 ≤ x4_6 → ((x3_5 = 0 → bz x3_5 ∧ Q x3_5) ∧ (¬ x3_5 = 0 → vp_in x4_6 7 ∧ jn1 (fun (J90 : Int32 → Prop) => jn0 (fun (J89 : Prop) => (((s_mates (Int32.toNatClampNeg x4_6)) = x2 → J89) ∧ (¬ (s_mates (Int32.toNatClampNeg x4_6)) = x2 → vp_in x4_6 7 ∧ (((s_mates (Int32.toNatClampNeg x4_6)) = x1 → J89) ∧ (¬ (s_mates (Int32.toNatClampNeg x4_6)) = x1 → J90 1))))) (J90 0)) (fun (v_13 : Int32) => ∀ x4_15 : Int32, x4_15 = x4_6 + 1 → B53 v_13 x4_15)))))) n v_3 0)
set_option maxHeartbeats 4000000 in
set_option maxRecDepth 100000 in
theorem co_Mo_mayMarry (l : Launch) (D : va_G) (cy : ClassId × ClassId × ClassId × ClassId) (a_this a_mates a_row a_isKept a_refused a_text a_words a_cost a_steps a_bestMates a_comes : Nat) (s_above : Int64) (s_below : Int64) (s_length : Int32) (s_at : Int32) (s_behind : Int32) (s_readFlitches : Int32) (s_readFamilies : Int32) (s_doing : Int32) (s_mates : Nat → Int32) (s_row : Nat → Int32) (x1 : Int32) (x2 : Int32) (Q : Int32 → Prop) (h : wp_Mo_mayMarry x1 x2 s_mates s_row Q) : RoI l yX9_mayMarry wsX9_mayMarry rm_Mo_mayMarry D cy [.ref a_this, .int x1, .int x2] (Wd_Mo_mayMarry cy a_this a_mates a_row a_isKept a_refused a_text a_words a_cost a_steps a_bestMates a_comes s_above s_below s_length s_at s_behind s_readFlitches s_readFamilies s_doing s_mates s_row) Q := by
  refine st_metRZ (cc := cX9_mayMarry) (maxL := 5) RX9 (by decide) rfl rfl (Nat.le_of_ble_eq_true rfl) ?_
  intro p e s m args below meth c QQ ls F hKK hP hl hret
  have hK := hKK.1
  have hnest := hKK.2.1
  have hx := F.1
  have hb := F.2.1
  have hown := F.2.2.2.1
  have hts := F.2.2.2.2
  have in_X9 : ∀ w ∈ u_ws RX9 TX9 18, w ∈ wsX9_mayMarry := (fun _ h => List.mem_cons_of_mem _ (List.mem_append_right _ h))
  have fl_7 := (hts (.fieldLink RX9 7 "RasherCaseModel" "row" "[I") (List.mem_of_getElem? (i := 1) rfl))
  have fl_36 := (hts (.fieldLink RX9 36 "RasherCaseModel" "mates" "[I") (List.mem_of_getElem? (i := 2) rfl))
  have hl : lv_has ls 5 [(0, .ref a_this), (1, .int x1), (2, .int x2)] := hl
  unfold wp_Mo_mayMarry at h
  refine lv_aload_n hx hb dX9_mayMarry_0 rfl (lv_at hl 0 rfl) ?_
  refine va_get (D := D) (ci := 8) (v := .ref a_row) (C := RX9) (T := TX9) (N := 18) hx hb hts in_X9 hown hK hP 0 rfl rfl 0 (by decide) fl_7 (fun _ h9 => h9) rfl dX9_mayMarry_1 ?_
  refine lv_bipush (v := 35) hx hb dX9_mayMarry_4 (by decide) ?_
  refine lv_iload_n hx hb dX9_mayMarry_6 rfl (lv_at hl 1 rfl) ?_
  refine lv_iadd hx hb dX9_mayMarry_7 ?_
  obtain ⟨hi_1, h⟩ := h
  refine va_iald hx hb hK hP 2 1 rfl rfl hi_1 dX9_mayMarry_8 ?_
  refine lv_aload_n hx hb dX9_mayMarry_9 rfl (lv_at hl 0 rfl) ?_
  refine va_get (D := D) (ci := 8) (v := .ref a_row) (C := RX9) (T := TX9) (N := 18) hx hb hts in_X9 hown hK hP 0 rfl rfl 0 (by decide) fl_7 (fun _ h9 => h9) rfl dX9_mayMarry_10 ?_
  refine lv_bipush (v := 35) hx hb dX9_mayMarry_13 (by decide) ?_
  refine lv_iload_n hx hb dX9_mayMarry_15 rfl (lv_at hl 2 rfl) ?_
  refine lv_iadd hx hb dX9_mayMarry_16 ?_
  obtain ⟨hi_2, h⟩ := h
  refine va_iald hx hb hK hP 2 1 rfl rfl hi_2 dX9_mayMarry_17 ?_
  obtain ⟨J49, hJ49, h⟩ := jn1_ex h
  have kJ49_3 : ∀ (v_3 : Int32) (ls : Array Slot), J49 v_3 → lv_has ls 5 [(0, .ref a_this), (1, .int x1), (2, .int x2)] → W p l e rm_Mo_mayMarry s m args below meth c s.heap [] 0 0 QQ (F0 m 49 ls [.int v_3]) := by
    intro v_3 ls h hl
    have h := hJ49 _ h
    refine lv_istore_n (lv' := [(3, .int v_3), (0, .ref a_this), (1, .int x1), (2, .int x2)]) hx hb dX9_mayMarry_49 rfl hl (by decide) rfl (fun ls hl => ?_)
    refine lv_iconst (v := 0) hx hb dX9_mayMarry_50 (by decide) ?_
    refine lv_istore (lv' := [(4, .int 0), (3, .int v_3), (0, .ref a_this), (1, .int x1), (2, .int x2)]) hx hb dX9_mayMarry_51 hl (by decide) rfl (fun ls hl => ?_)
    obtain ⟨T53_6, hz53_6, hs53_6, n53_6, h⟩ := lpw2_use h
    have kT53_6 : ∀ (n : Nat) (x3_5 : Int32) (x4_6 : Int32) (ls : Array Slot), T53_6 n x3_5 x4_6 → lv_has ls 5 [(0, .ref a_this), (1, .int x1), (2, .int x2), (3, .int x3_5), (4, .int x4_6)] → W p l e rm_Mo_mayMarry s m args below meth c s.heap [] 0 0 QQ (F0 m 53 ls []) := by
      intro n
      induction n with
      | zero => intro x3_5 x4_6 ls h; exact absurd h (hz53_6 _ _)
      | succ n ih53_6 =>
        intro x3_5 x4_6 ls h hl
        have h := hs53_6 _ _ _ h
        refine lv_iload hx hb dX9_mayMarry_53 (lv_at hl 4 rfl) ?_
        refine lv_iload_n hx hb dX9_mayMarry_55 rfl (lv_at hl 1 rfl) ?_
        refine lv_icmp_ge (tgt := 97) hx hb dX9_mayMarry_56 (by decide) (fun c_8 => ?_) (fun c_8 => ?_)
        · have h := h.1 c_8
          refine lv_iload_n hx hb dX9_mayMarry_97 rfl (lv_at hl 3 rfl) ?_
          obtain ⟨hz_9, h⟩ := h
          exact hret _ _ _ hz_9 h dX9_mayMarry_98
        · have h := h.2 c_8
          refine lv_iload_n hx hb dX9_mayMarry_59 rfl (lv_at hl 3 rfl) ?_
          refine lv_if_eq (tgt := 97) hx hb dX9_mayMarry_60 (by decide) (fun c_10 => ?_) (fun c_10 => ?_)
          · have h := h.1 c_10
            refine lv_iload_n hx hb dX9_mayMarry_97 rfl (lv_at hl 3 rfl) ?_
            obtain ⟨hz_11, h⟩ := h
            exact hret _ _ _ hz_11 h dX9_mayMarry_98
          · have h := h.2 c_10
            refine lv_aload_n hx hb dX9_mayMarry_63 rfl (lv_at hl 0 rfl) ?_
            refine va_get (D := D) (ci := 8) (v := .ref a_mates) (C := RX9) (T := TX9) (N := 18) hx hb hts in_X9 hown hK hP 0 rfl rfl 15 (by decide) fl_36 (fun _ h9 => h9) rfl dX9_mayMarry_64 ?_
            refine lv_iload hx hb dX9_mayMarry_67 (lv_at hl 4 rfl) ?_
            obtain ⟨hi_12, h⟩ := h
            refine va_iald hx hb hK hP 1 1 rfl rfl hi_12 dX9_mayMarry_69 ?_
            refine lv_iload_n hx hb dX9_mayMarry_70 rfl (lv_at hl 2 rfl) ?_
            obtain ⟨J90, hJ90, h⟩ := jn1_ex h
            have kJ90_13 : ∀ (v_13 : Int32) (ls : Array Slot), J90 v_13 → lv_has ls 5 [(0, .ref a_this), (1, .int x1), (2, .int x2), (4, .int x4_6)] → W p l e rm_Mo_mayMarry s m args below meth c s.heap [] 0 0 QQ (F0 m 90 ls [.int v_13]) := by
              intro v_13 ls h hl
              have h := hJ90 _ h
              refine lv_istore_n (lv' := [(3, .int v_13), (0, .ref a_this), (1, .int x1), (2, .int x2), (4, .int x4_6)]) hx hb dX9_mayMarry_90 rfl hl (by decide) rfl (fun ls hl => ?_)
              obtain ⟨x4_15, ex4_15⟩ : ∃ y : Int32, y = x4_6 + 1 := ⟨_, rfl⟩
              have h := h x4_15 ex4_15
              refine lv_iinc (v := x4_15) (lv' := [(4, .int x4_15), (3, .int v_13), (0, .ref a_this), (1, .int x1), (2, .int x2)]) hx hb dX9_mayMarry_91 hl (k := 4) rfl (by rw [ex4_15]; rfl) (by decide) rfl (fun ls hl => ?_)
              refine lv_goto (tgt := 53) hx hb dX9_mayMarry_94 (by decide) ?_
              exact ih53_6 _ _ _ h (lv_sub hl [2, 3, 4, 1, 0] rfl)
            obtain ⟨J89, hJ89, h⟩ := jn0_ex h
            have kJ89_15 : ∀  (ls : Array Slot), J89 → lv_has ls 5 [(0, .ref a_this), (1, .int x1), (2, .int x2), (4, .int x4_6)] → W p l e rm_Mo_mayMarry s m args below meth c s.heap [] 0 0 QQ (F0 m 89 ls []) := by
              intro  ls h hl
              have h := hJ89  h
              refine lv_iconst (v := 0) hx hb dX9_mayMarry_89 (by decide) ?_
              exact kJ90_13 _ _ h (lv_sub hl [0, 1, 2, 3] rfl)
            refine lv_icmp_eq (tgt := 89) hx hb dX9_mayMarry_71 (by decide) (fun c_17 => ?_) (fun c_17 => ?_)
            · have h := h.1 c_17
              exact kJ89_15  _ h (lv_sub hl [0, 1, 2, 4] rfl)
            · have h := h.2 c_17
              refine lv_aload_n hx hb dX9_mayMarry_74 rfl (lv_at hl 0 rfl) ?_
              refine va_get (D := D) (ci := 8) (v := .ref a_mates) (C := RX9) (T := TX9) (N := 18) hx hb hts in_X9 hown hK hP 0 rfl rfl 15 (by decide) fl_36 (fun _ h9 => h9) rfl dX9_mayMarry_75 ?_
              refine lv_iload hx hb dX9_mayMarry_78 (lv_at hl 4 rfl) ?_
              obtain ⟨hi_18, h⟩ := h
              refine va_iald hx hb hK hP 1 1 rfl rfl hi_18 dX9_mayMarry_80 ?_
              refine lv_iload_n hx hb dX9_mayMarry_81 rfl (lv_at hl 1 rfl) ?_
              refine lv_icmp_eq (tgt := 89) hx hb dX9_mayMarry_82 (by decide) (fun c_19 => ?_) (fun c_19 => ?_)
              · have h := h.1 c_19
                exact kJ89_15  _ h (lv_sub hl [0, 1, 2, 4] rfl)
              · have h := h.2 c_19
                refine lv_iconst (v := 1) hx hb dX9_mayMarry_85 (by decide) ?_
                refine lv_goto (tgt := 90) hx hb dX9_mayMarry_86 (by decide) ?_
                exact kJ90_13 _ _ h (lv_sub hl [0, 1, 2, 4] rfl)
    exact kT53_6 n53_6 _ _ _ h (lv_sub hl [2, 3, 4, 1, 0] rfl)
  obtain ⟨J48, hJ48, h⟩ := jn0_ex h
  have kJ48_19 : ∀  (ls : Array Slot), J48 → lv_has ls 5 [(0, .ref a_this), (1, .int x1), (2, .int x2)] → W p l e rm_Mo_mayMarry s m args below meth c s.heap [] 0 0 QQ (F0 m 48 ls []) := by
    intro  ls h hl
    have h := hJ48  h
    refine lv_iconst (v := 0) hx hb dX9_mayMarry_48 (by decide) ?_
    exact kJ49_3 _ _ h (lv_sub hl [0, 1, 2] rfl)
  refine lv_icmp_eq (tgt := 48) hx hb dX9_mayMarry_18 (by decide) (fun c_21 => ?_) (fun c_21 => ?_)
  · have h := h.1 c_21
    exact kJ48_19  _ h (lv_sub hl [0, 1, 2] rfl)
  · have h := h.2 c_21
    refine lv_aload_n hx hb dX9_mayMarry_21 rfl (lv_at hl 0 rfl) ?_
    refine va_get (D := D) (ci := 8) (v := .ref a_row) (C := RX9) (T := TX9) (N := 18) hx hb hts in_X9 hown hK hP 0 rfl rfl 0 (by decide) fl_7 (fun _ h9 => h9) rfl dX9_mayMarry_22 ?_
    refine lv_iconst (v := 0) hx hb dX9_mayMarry_25 (by decide) ?_
    refine lv_iload_n hx hb dX9_mayMarry_26 rfl (lv_at hl 1 rfl) ?_
    refine lv_iadd hx hb dX9_mayMarry_27 ?_
    obtain ⟨hi_22, h⟩ := h
    refine va_iald hx hb hK hP 2 1 rfl rfl hi_22 dX9_mayMarry_28 ?_
    refine lv_aload_n hx hb dX9_mayMarry_29 rfl (lv_at hl 0 rfl) ?_
    refine va_get (D := D) (ci := 8) (v := .ref a_row) (C := RX9) (T := TX9) (N := 18) hx hb hts in_X9 hown hK hP 0 rfl rfl 0 (by decide) fl_7 (fun _ h9 => h9) rfl dX9_mayMarry_30 ?_
    refine lv_iconst (v := 0) hx hb dX9_mayMarry_33 (by decide) ?_
    refine lv_iload_n hx hb dX9_mayMarry_34 rfl (lv_at hl 2 rfl) ?_
    refine lv_iadd hx hb dX9_mayMarry_35 ?_
    obtain ⟨hi_23, h⟩ := h
    refine va_iald hx hb hK hP 2 1 rfl rfl hi_23 dX9_mayMarry_36 ?_
    refine st_callRI (st_runSR (n := 2) (As := [.int (s_row (Int32.toNatClampNeg (0 + x1))), .int (s_row (Int32.toNatClampNeg (0 + x2)))]) (rest := []) F (co_Mo_apart l D cy (s_row (Int32.toNatClampNeg (0 + x1))) (s_row (Int32.toNatClampNeg (0 + x2))) _ h) gX9_mayMarry_X9_apart rfl (by decide +kernel) rfl hKK hP [] rfl rfl hl.1 rfl (Nat.le_of_ble_eq_true rfl) dX9_mayMarry_37) (fun r_24 h => ?_)
    refine lv_iconst (v := 5) hx hb dX9_mayMarry_40 (by decide) ?_
    refine lv_icmp_gt (tgt := 48) hx hb dX9_mayMarry_41 (by decide) (fun c_25 => ?_) (fun c_25 => ?_)
    · have h := h.1 c_25
      exact kJ48_19  _ h (lv_sub hl [0, 1, 2] rfl)
    · have h := h.2 c_25
      refine lv_iconst (v := 1) hx hb dX9_mayMarry_44 (by decide) ?_
      refine lv_goto (tgt := 49) hx hb dX9_mayMarry_45 (by decide) ?_
      exact kJ49_3 _ _ h (lv_sub hl [0, 1, 2] rfl)
abbrev Wd_Mo_isTaken (cy : ClassId × ClassId × ClassId × ClassId) (a_this a_mates a_row a_isKept a_refused a_text a_words a_cost a_steps a_bestMates a_comes : Nat) (s_above : Int64) (s_below : Int64) (s_length : Int32) (s_at : Int32) (s_behind : Int32) (s_readFlitches : Int32) (s_readFamilies : Int32) (s_doing : Int32) (s_mates : Nat → Int32) : va_W := [(a_this, .inr (8, [.ref a_row, .ref a_isKept, .ref a_refused, .long s_above, .long s_below, .ref a_text, .int s_length, .ref a_words, .int s_at, .int s_behind, .int s_readFlitches, .int s_readFamilies, .int s_doing, .ref a_cost, .ref a_steps, .ref a_mates, .ref a_bestMates, .ref a_comes])), (a_mates, .inl (cy.2.1, 7, .inl s_mates))]
abbrev rm_Mo_isTaken : Room := { frames := 0, cells := 0, slots := 0, locals := 0 }
def wp_Mo_isTaken (x1 : Int32) (s_mates : Nat → Int32) (Q : Int32 → Prop) : Prop := ∃ n : Nat, lpw2 (fun (B4 : Int32 → Int32 → Prop) (x2_1 : Int32) (x3_2 : Int32) => ((x1 ≤ x3_2 → bz x2_1 ∧ Q x2_1) ∧ (¬ x1 ≤ x3_2 → jn1 (fun (J28 : Int32 → Prop) => jn0 (fun (J23 : Prop) => ((¬ x2_1 = 0 → J23) ∧ (x2_1 = 0 → vp_in x3_2 7 ∧ ((¬ (s_mates (Int32.toNatClampNeg x3_2)) = x1 → J28 0) ∧ ((s_mates (Int32.toNatClampNeg x3_2)) = x1 → J23))))) (J28 1)) (fun (v_6 : Int32) => ∀ x3_8 : Int32, x3_8 = x3_2 + 1 → B4 v_6 x3_8)))) n 0 0
set_option maxHeartbeats 4000000 in
set_option maxRecDepth 100000 in
theorem co_Mo_isTaken (l : Launch) (D : va_G) (cy : ClassId × ClassId × ClassId × ClassId) (a_this a_mates a_row a_isKept a_refused a_text a_words a_cost a_steps a_bestMates a_comes : Nat) (s_above : Int64) (s_below : Int64) (s_length : Int32) (s_at : Int32) (s_behind : Int32) (s_readFlitches : Int32) (s_readFamilies : Int32) (s_doing : Int32) (s_mates : Nat → Int32) (x1 : Int32) (Q : Int32 → Prop) (h : wp_Mo_isTaken x1 s_mates Q) : RoI l yX9_isTaken wsX9_isTaken rm_Mo_isTaken D cy [.ref a_this, .int x1] (Wd_Mo_isTaken cy a_this a_mates a_row a_isKept a_refused a_text a_words a_cost a_steps a_bestMates a_comes s_above s_below s_length s_at s_behind s_readFlitches s_readFamilies s_doing s_mates) Q := by
  refine st_metRZ (cc := cX9_isTaken) (maxL := 4) RX9 (by decide) rfl rfl (Nat.le_of_ble_eq_true rfl) ?_
  intro p e s m args below meth c QQ ls F hKK hP hl hret
  have hK := hKK.1
  have hnest := hKK.2.1
  have hx := F.1
  have hb := F.2.1
  have hown := F.2.2.2.1
  have hts := F.2.2.2.2
  have in_X9 : ∀ w ∈ u_ws RX9 TX9 18, w ∈ wsX9_isTaken := (fun _ h => List.mem_cons_of_mem _ (List.mem_append_right _ h))
  have fl_36 := (hts (.fieldLink RX9 36 "RasherCaseModel" "mates" "[I") (List.mem_of_getElem? (i := 1) rfl))
  have hl : lv_has ls 4 [(0, .ref a_this), (1, .int x1)] := hl
  unfold wp_Mo_isTaken at h
  refine lv_iconst (v := 0) hx hb dX9_isTaken_0 (by decide) ?_
  refine lv_istore_n (lv' := [(2, .int 0), (0, .ref a_this), (1, .int x1)]) hx hb dX9_isTaken_1 rfl hl (by decide) rfl (fun ls hl => ?_)
  refine lv_iconst (v := 0) hx hb dX9_isTaken_2 (by decide) ?_
  refine lv_istore_n (lv' := [(3, .int 0), (2, .int 0), (0, .ref a_this), (1, .int x1)]) hx hb dX9_isTaken_3 rfl hl (by decide) rfl (fun ls hl => ?_)
  obtain ⟨T4_2, hz4_2, hs4_2, n4_2, h⟩ := lpw2_use h
  have kT4_2 : ∀ (n : Nat) (x2_1 : Int32) (x3_2 : Int32) (ls : Array Slot), T4_2 n x2_1 x3_2 → lv_has ls 4 [(0, .ref a_this), (1, .int x1), (2, .int x2_1), (3, .int x3_2)] → W p l e rm_Mo_isTaken s m args below meth c s.heap [] 0 0 QQ (F0 m 4 ls []) := by
    intro n
    induction n with
    | zero => intro x2_1 x3_2 ls h; exact absurd h (hz4_2 _ _)
    | succ n ih4_2 =>
      intro x2_1 x3_2 ls h hl
      have h := hs4_2 _ _ _ h
      refine lv_iload_n hx hb dX9_isTaken_4 rfl (lv_at hl 3 rfl) ?_
      refine lv_iload_n hx hb dX9_isTaken_5 rfl (lv_at hl 1 rfl) ?_
      refine lv_icmp_ge (tgt := 35) hx hb dX9_isTaken_6 (by decide) (fun c_4 => ?_) (fun c_4 => ?_)
      · have h := h.1 c_4
        refine lv_iload_n hx hb dX9_isTaken_35 rfl (lv_at hl 2 rfl) ?_
        obtain ⟨hz_5, h⟩ := h
        exact hret _ _ _ hz_5 h dX9_isTaken_36
      · have h := h.2 c_4
        refine lv_iload_n hx hb dX9_isTaken_9 rfl (lv_at hl 2 rfl) ?_
        obtain ⟨J28, hJ28, h⟩ := jn1_ex h
        have kJ28_6 : ∀ (v_6 : Int32) (ls : Array Slot), J28 v_6 → lv_has ls 4 [(0, .ref a_this), (1, .int x1), (3, .int x3_2)] → W p l e rm_Mo_isTaken s m args below meth c s.heap [] 0 0 QQ (F0 m 28 ls [.int v_6]) := by
          intro v_6 ls h hl
          have h := hJ28 _ h
          refine lv_istore_n (lv' := [(2, .int v_6), (0, .ref a_this), (1, .int x1), (3, .int x3_2)]) hx hb dX9_isTaken_28 rfl hl (by decide) rfl (fun ls hl => ?_)
          obtain ⟨x3_8, ex3_8⟩ : ∃ y : Int32, y = x3_2 + 1 := ⟨_, rfl⟩
          have h := h x3_8 ex3_8
          refine lv_iinc (v := x3_8) (lv' := [(3, .int x3_8), (2, .int v_6), (0, .ref a_this), (1, .int x1)]) hx hb dX9_isTaken_29 hl (k := 3) rfl (by rw [ex3_8]; rfl) (by decide) rfl (fun ls hl => ?_)
          refine lv_goto (tgt := 4) hx hb dX9_isTaken_32 (by decide) ?_
          exact ih4_2 _ _ _ h (lv_sub hl [2, 3, 1, 0] rfl)
        obtain ⟨J23, hJ23, h⟩ := jn0_ex h
        have kJ23_8 : ∀  (ls : Array Slot), J23 → lv_has ls 4 [(0, .ref a_this), (1, .int x1), (3, .int x3_2)] → W p l e rm_Mo_isTaken s m args below meth c s.heap [] 0 0 QQ (F0 m 23 ls []) := by
          intro  ls h hl
          have h := hJ23  h
          refine lv_iconst (v := 1) hx hb dX9_isTaken_23 (by decide) ?_
          refine lv_goto (tgt := 28) hx hb dX9_isTaken_24 (by decide) ?_
          exact kJ28_6 _ _ h (lv_sub hl [0, 1, 2] rfl)
        refine lv_if_ne (tgt := 23) hx hb dX9_isTaken_10 (by decide) (fun c_10 => ?_) (fun c_10 => ?_)
        · have h := h.1 c_10
          exact kJ23_8  _ h (lv_sub hl [0, 1, 3] rfl)
        · have h := h.2 c_10
          refine lv_aload_n hx hb dX9_isTaken_13 rfl (lv_at hl 0 rfl) ?_
          refine va_get (D := D) (ci := 8) (v := .ref a_mates) (C := RX9) (T := TX9) (N := 18) hx hb hts in_X9 hown hK hP 0 rfl rfl 15 (by decide) fl_36 (fun _ h9 => h9) rfl dX9_isTaken_14 ?_
          refine lv_iload_n hx hb dX9_isTaken_17 rfl (lv_at hl 3 rfl) ?_
          obtain ⟨hi_11, h⟩ := h
          refine va_iald hx hb hK hP 1 1 rfl rfl hi_11 dX9_isTaken_18 ?_
          refine lv_iload_n hx hb dX9_isTaken_19 rfl (lv_at hl 1 rfl) ?_
          refine lv_icmp_ne (tgt := 27) hx hb dX9_isTaken_20 (by decide) (fun c_12 => ?_) (fun c_12 => ?_)
          · have h := h.1 c_12
            refine lv_iconst (v := 0) hx hb dX9_isTaken_27 (by decide) ?_
            exact kJ28_6 _ _ h (lv_sub hl [0, 1, 3] rfl)
          · have h := h.2 c_12
            exact kJ23_8  _ h (lv_sub hl [0, 1, 3] rfl)
  exact kT4_2 n4_2 _ _ _ h (lv_sub hl [2, 3, 1, 0] rfl)
abbrev Wd_Mo_pairs (cy : ClassId × ClassId × ClassId × ClassId) (a_this a_mates a_row a_isKept a_refused a_text a_words a_cost a_steps a_bestMates a_comes : Nat) (s_above : Int64) (s_below : Int64) (s_length : Int32) (s_at : Int32) (s_behind : Int32) (s_readFlitches : Int32) (s_readFamilies : Int32) (s_doing : Int32) (s_mates : Nat → Int32) (s_row : Nat → Int32) : va_W := [(a_this, .inr (8, [.ref a_row, .ref a_isKept, .ref a_refused, .long s_above, .long s_below, .ref a_text, .int s_length, .ref a_words, .int s_at, .int s_behind, .int s_readFlitches, .int s_readFamilies, .int s_doing, .ref a_cost, .ref a_steps, .ref a_mates, .ref a_bestMates, .ref a_comes])), (a_mates, .inl (cy.2.1, 7, .inl s_mates)), (a_row, .inl (cy.2.1, 770, .inl s_row))]
abbrev rm_Mo_pairs : Room := { frames := 0, cells := 0, slots := 0, locals := 0 }
def wp_Mo_pairs (s_mates : Nat → Int32) (s_row : Nat → Int32) (Q : Int32 → Prop) : Prop := ∃ n : Nat, lpw2 (fun (B4 : Int32 → Int32 → Prop) (x1_1 : Int32) (x2_2 : Int32) => (((s_row (Int32.toNatClampNeg 27)) ≤ x2_2 → Q x1_1) ∧ (¬ (s_row (Int32.toNatClampNeg 27)) ≤ x2_2 → vp_in x2_2 7 ∧ jn1 (fun (J31 : Int32 → Prop) => (((s_mates (Int32.toNatClampNeg x2_2)) ≤ x2_2 → J31 0) ∧ (¬ (s_mates (Int32.toNatClampNeg x2_2)) ≤ x2_2 → J31 1))) (fun (v_6 : Int32) => ∀ x1_8 : Int32, x1_8 = (x1_1 + v_6) → ∀ x2_9 : Int32, x2_9 = x2_2 + 1 → B4 x1_8 x2_9)))) n 0 0
set_option maxHeartbeats 4000000 in
set_option maxRecDepth 100000 in
theorem co_Mo_pairs (l : Launch) (D : va_G) (cy : ClassId × ClassId × ClassId × ClassId) (a_this a_mates a_row a_isKept a_refused a_text a_words a_cost a_steps a_bestMates a_comes : Nat) (s_above : Int64) (s_below : Int64) (s_length : Int32) (s_at : Int32) (s_behind : Int32) (s_readFlitches : Int32) (s_readFamilies : Int32) (s_doing : Int32) (s_mates : Nat → Int32) (s_row : Nat → Int32) (Q : Int32 → Prop) (h : wp_Mo_pairs s_mates s_row Q) : RoI l yX9_pairs wsX9_pairs rm_Mo_pairs D cy [.ref a_this] (Wd_Mo_pairs cy a_this a_mates a_row a_isKept a_refused a_text a_words a_cost a_steps a_bestMates a_comes s_above s_below s_length s_at s_behind s_readFlitches s_readFamilies s_doing s_mates s_row) Q := by
  refine st_metRI (cc := cX9_pairs) (maxL := 3) RX9 (by decide) rfl rfl (Nat.le_of_ble_eq_true rfl) ?_
  intro p e s m args below meth c QQ ls F hKK hP hl hret
  have hK := hKK.1
  have hnest := hKK.2.1
  have hx := F.1
  have hb := F.2.1
  have hown := F.2.2.2.1
  have hts := F.2.2.2.2
  have in_X9 : ∀ w ∈ u_ws RX9 TX9 18, w ∈ wsX9_pairs := (fun _ h => List.mem_cons_of_mem _ (List.mem_append_right _ h))
  have fl_7 := (hts (.fieldLink RX9 7 "RasherCaseModel" "row" "[I") (List.mem_of_getElem? (i := 1) rfl))
  have fl_36 := (hts (.fieldLink RX9 36 "RasherCaseModel" "mates" "[I") (List.mem_of_getElem? (i := 2) rfl))
  have hl : lv_has ls 3 [(0, .ref a_this)] := hl
  unfold wp_Mo_pairs at h
  refine lv_iconst (v := 0) hx hb dX9_pairs_0 (by decide) ?_
  refine lv_istore_n (lv' := [(1, .int 0), (0, .ref a_this)]) hx hb dX9_pairs_1 rfl hl (by decide) rfl (fun ls hl => ?_)
  refine lv_iconst (v := 0) hx hb dX9_pairs_2 (by decide) ?_
  refine lv_istore_n (lv' := [(2, .int 0), (1, .int 0), (0, .ref a_this)]) hx hb dX9_pairs_3 rfl hl (by decide) rfl (fun ls hl => ?_)
  obtain ⟨T4_2, hz4_2, hs4_2, n4_2, h⟩ := lpw2_use h
  have kT4_2 : ∀ (n : Nat) (x1_1 : Int32) (x2_2 : Int32) (ls : Array Slot), T4_2 n x1_1 x2_2 → lv_has ls 3 [(0, .ref a_this), (1, .int x1_1), (2, .int x2_2)] → W p l e rm_Mo_pairs s m args below meth c s.heap [] 0 0 QQ (F0 m 4 ls []) := by
    intro n
    induction n with
    | zero => intro x1_1 x2_2 ls h; exact absurd h (hz4_2 _ _)
    | succ n ih4_2 =>
      intro x1_1 x2_2 ls h hl
      have h := hs4_2 _ _ _ h
      refine lv_iload_n hx hb dX9_pairs_4 rfl (lv_at hl 2 rfl) ?_
      refine lv_aload_n hx hb dX9_pairs_5 rfl (lv_at hl 0 rfl) ?_
      refine va_get (D := D) (ci := 8) (v := .ref a_row) (C := RX9) (T := TX9) (N := 18) hx hb hts in_X9 hown hK hP 0 rfl rfl 0 (by decide) fl_7 (fun _ h9 => h9) rfl dX9_pairs_6 ?_
      refine lv_bipush (v := 27) hx hb dX9_pairs_9 (by decide) ?_
      refine va_iald hx hb hK hP 2 1 rfl rfl (by unfold vp_in; decide) dX9_pairs_11 ?_
      refine lv_icmp_ge (tgt := 39) hx hb dX9_pairs_12 (by decide) (fun c_4 => ?_) (fun c_4 => ?_)
      · have h := h.1 c_4
        refine lv_iload_n hx hb dX9_pairs_39 rfl (lv_at hl 1 rfl) ?_
        exact hret _ _ _ h dX9_pairs_40
      · have h := h.2 c_4
        refine lv_iload_n hx hb dX9_pairs_15 rfl (lv_at hl 1 rfl) ?_
        refine lv_aload_n hx hb dX9_pairs_16 rfl (lv_at hl 0 rfl) ?_
        refine va_get (D := D) (ci := 8) (v := .ref a_mates) (C := RX9) (T := TX9) (N := 18) hx hb hts in_X9 hown hK hP 0 rfl rfl 15 (by decide) fl_36 (fun _ h9 => h9) rfl dX9_pairs_17 ?_
        refine lv_iload_n hx hb dX9_pairs_20 rfl (lv_at hl 2 rfl) ?_
        obtain ⟨hi_5, h⟩ := h
        refine va_iald hx hb hK hP 1 1 rfl rfl hi_5 dX9_pairs_21 ?_
        refine lv_iload_n hx hb dX9_pairs_22 rfl (lv_at hl 2 rfl) ?_
        obtain ⟨J31, hJ31, h⟩ := jn1_ex h
        have kJ31_6 : ∀ (v_6 : Int32) (ls : Array Slot), J31 v_6 → lv_has ls 3 [(0, .ref a_this), (2, .int x2_2)] → W p l e rm_Mo_pairs s m args below meth c s.heap [] 0 0 QQ (F0 m 31 ls [.int v_6, .int x1_1]) := by
          intro v_6 ls h hl
          have h := hJ31 _ h
          refine lv_iadd hx hb dX9_pairs_31 ?_
          refine lv_topi (fun x1_8 ex1_8 => ?_)
          have h := h x1_8 ex1_8
          refine lv_istore_n (lv' := [(1, .int x1_8), (0, .ref a_this), (2, .int x2_2)]) hx hb dX9_pairs_32 rfl hl (by decide) rfl (fun ls hl => ?_)
          obtain ⟨x2_9, ex2_9⟩ : ∃ y : Int32, y = x2_2 + 1 := ⟨_, rfl⟩
          have h := h x2_9 ex2_9
          refine lv_iinc (v := x2_9) (lv' := [(2, .int x2_9), (1, .int x1_8), (0, .ref a_this)]) hx hb dX9_pairs_33 hl (k := 2) rfl (by rw [ex2_9]; rfl) (by decide) rfl (fun ls hl => ?_)
          refine lv_goto (tgt := 4) hx hb dX9_pairs_36 (by decide) ?_
          exact ih4_2 _ _ _ h (lv_sub hl [2, 1, 0] rfl)
        refine lv_icmp_le (tgt := 30) hx hb dX9_pairs_23 (by decide) (fun c_10 => ?_) (fun c_10 => ?_)
        · have h := h.1 c_10
          refine lv_iconst (v := 0) hx hb dX9_pairs_30 (by decide) ?_
          exact kJ31_6 _ _ h (lv_sub hl [0, 2] rfl)
        · have h := h.2 c_10
          refine lv_iconst (v := 1) hx hb dX9_pairs_26 (by decide) ?_
          refine lv_goto (tgt := 31) hx hb dX9_pairs_27 (by decide) ?_
          exact kJ31_6 _ _ h (lv_sub hl [0, 2] rfl)
  exact kT4_2 n4_2 _ _ _ h (lv_sub hl [2, 1, 0] rfl)
abbrev Wd_Mo_keepMates (cy : ClassId × ClassId × ClassId × ClassId) (a_this a_bestMates a_mates a_row a_isKept a_refused a_text a_words a_cost a_steps a_comes : Nat) (s_above : Int64) (s_below : Int64) (s_length : Int32) (s_at : Int32) (s_behind : Int32) (s_readFlitches : Int32) (s_readFamilies : Int32) (s_doing : Int32) (s_bestMates : Nat → Int32) (s_mates : Nat → Int32) (s_row : Nat → Int32) : va_W := [(a_this, .inr (8, [.ref a_row, .ref a_isKept, .ref a_refused, .long s_above, .long s_below, .ref a_text, .int s_length, .ref a_words, .int s_at, .int s_behind, .int s_readFlitches, .int s_readFamilies, .int s_doing, .ref a_cost, .ref a_steps, .ref a_mates, .ref a_bestMates, .ref a_comes])), (a_bestMates, .inl (cy.2.1, 7, .inl s_bestMates)), (a_mates, .inl (cy.2.1, 7, .inl s_mates)), (a_row, .inl (cy.2.1, 770, .inl s_row))]
abbrev rm_Mo_keepMates : Room := { frames := 0, cells := 0, slots := 0, locals := 0 }
def wp_Mo_keepMates (s_bestMates : Nat → Int32) (s_mates : Nat → Int32) (s_row : Nat → Int32) (Q : (Nat → Int32) → Prop) : Prop := ∃ n : Nat, lpw2 (fun (B2 : Int32 → (Nat → Int32) → Prop) (x1_1 : Int32) (s_bestMates_2 : Nat → Int32) => (((s_row (Int32.toNatClampNeg 27)) ≤ x1_1 → ∃ n : Nat, lpw2 (fun (B28 : Int32 → (Nat → Int32) → Prop) (x1_5 : Int32) (s_bestMates_6 : Nat → Int32) => (((s_row (Int32.toNatClampNeg 27)) ≤ x1_5 → Q s_bestMates_6) ∧ (¬ (s_row (Int32.toNatClampNeg 27)) ≤ x1_5 → vp_in x1_5 7 ∧ jn1 (fun (J73 : (Nat → Int32) → Prop) => (((s_mates (Int32.toNatClampNeg x1_5)) ≤ x1_5 → J73 s_bestMates_6) ∧ (¬ (s_mates (Int32.toNatClampNeg x1_5)) ≤ x1_5 → vp_in x1_5 7 ∧ vp_in x1_5 7 ∧ ∀ s_bestMates_16 : Nat → Int32, s_bestMates_16 = upd s_bestMates_6 (Int32.toNatClampNeg x1_5) (s_mates (Int32.toNatClampNeg x1_5)) → vp_in x1_5 7 ∧ vp_in (s_mates (Int32.toNatClampNeg x1_5)) 7 ∧ ∀ s_bestMates_19 : Nat → Int32, s_bestMates_19 = upd s_bestMates_16 (Int32.toNatClampNeg (s_mates (Int32.toNatClampNeg x1_5))) x1_5 → J73 s_bestMates_19))) (fun (s_bestMates_10 : Nat → Int32) => ∀ x1_12 : Int32, x1_12 = x1_5 + 1 → B28 x1_12 s_bestMates_10)))) n 0 s_bestMates_2) ∧ (¬ (s_row (Int32.toNatClampNeg 27)) ≤ x1_1 → vp_in x1_1 7 ∧ ∀ s_bestMates_21 : Nat → Int32, s_bestMates_21 = upd s_bestMates_2 (Int32.toNatClampNeg x1_1) (-1) → ∀ x1_22 : Int32, x1_22 = x1_1 + 1 → B2 x1_22 s_bestMates_21))) n 0 s_bestMates
set_option maxHeartbeats 4000000 in
set_option maxRecDepth 100000 in
theorem co_Mo_keepMates (l : Launch) (D : va_G) (cy : ClassId × ClassId × ClassId × ClassId) (a_this a_bestMates a_mates a_row a_isKept a_refused a_text a_words a_cost a_steps a_comes : Nat) (s_above : Int64) (s_below : Int64) (s_length : Int32) (s_at : Int32) (s_behind : Int32) (s_readFlitches : Int32) (s_readFamilies : Int32) (s_doing : Int32) (s_bestMates : Nat → Int32) (s_mates : Nat → Int32) (s_row : Nat → Int32) (Q : (Nat → Int32) → Prop) (h : wp_Mo_keepMates s_bestMates s_mates s_row Q) : CoV l yX9_keepMates wsX9_keepMates rm_Mo_keepMates D cy [.ref a_this] (Wd_Mo_keepMates cy a_this a_bestMates a_mates a_row a_isKept a_refused a_text a_words a_cost a_steps a_comes s_above s_below s_length s_at s_behind s_readFlitches s_readFamilies s_doing s_bestMates s_mates s_row) (fun u : (Nat → Int32) => (Wd_Mo_keepMates cy a_this a_bestMates a_mates a_row a_isKept a_refused a_text a_words a_cost a_steps a_comes s_above s_below s_length s_at s_behind s_readFlitches s_readFamilies s_doing u s_mates s_row)) (fun (u : (Nat → Int32)) => Q u) := by
  refine st_metV (cc := cX9_keepMates) (maxL := 2) RX9 (by decide) rfl rfl (Nat.le_of_ble_eq_true rfl) ?_
  intro p e s m args below meth c A QQ ls F hA hKK hP hD hS hl hret
  have hK := hKK.1
  have hnest := hKK.2.1
  have hx := F.1
  have hb := F.2.1
  have hown := F.2.2.2.1
  have hts := F.2.2.2.2
  have in_X9 : ∀ w ∈ u_ws RX9 TX9 18, w ∈ wsX9_keepMates := (fun _ h => List.mem_cons_of_mem _ (List.mem_append_right _ h))
  have fl_7 := (hts (.fieldLink RX9 7 "RasherCaseModel" "row" "[I") (List.mem_of_getElem? (i := 1) rfl))
  have fl_36 := (hts (.fieldLink RX9 36 "RasherCaseModel" "mates" "[I") (List.mem_of_getElem? (i := 3) rfl))
  have fl_39 := (hts (.fieldLink RX9 39 "RasherCaseModel" "bestMates" "[I") (List.mem_of_getElem? (i := 2) rfl))
  have hl : lv_has ls 2 [(0, .ref a_this)] := hl
  unfold wp_Mo_keepMates at h
  refine lv_iconst (v := 0) hx hb dX9_keepMates_0 (by decide) ?_
  refine lv_istore_n (lv' := [(1, .int 0), (0, .ref a_this)]) hx hb dX9_keepMates_1 rfl hl (by decide) rfl (fun ls hl => ?_)
  obtain ⟨T2_2, hz2_2, hs2_2, n2_2, h⟩ := lpw2_use h
  have kT2_2 : ∀ (n : Nat) (x1_1 : Int32) (s_bestMates_2 : Nat → Int32) (H : Heap) (locs : List Loc) (ls : Array Slot), T2_2 n x1_1 s_bestMates_2 → va_P D vwCl (Wd_Mo_keepMates cy a_this a_bestMates a_mates a_row a_isKept a_refused a_text a_words a_cost a_steps a_comes s_above s_below s_length s_at s_behind s_readFlitches s_readFamilies s_doing s_bestMates_2 s_mates s_row) H → va_D A (Wd_Mo_keepMates cy a_this a_bestMates a_mates a_row a_isKept a_refused a_text a_words a_cost a_steps a_comes s_above s_below s_length s_at s_behind s_readFlitches s_readFamilies s_doing s_bestMates_2 s_mates s_row) → va_S A s.heap H locs → lv_has ls 2 [(0, .ref a_this), (1, .int x1_1)] → W p l e rm_Mo_keepMates s m args below meth c H locs 0 0 QQ (F0 m 2 ls []) := by
    intro n
    induction n with
    | zero => intro x1_1 s_bestMates_2 H locs ls h; exact absurd h (hz2_2 _ _)
    | succ n ih2_2 =>
      intro x1_1 s_bestMates_2 H locs ls h hP hD hS hl
      have h := hs2_2 _ _ _ h
      refine lv_iload_n hx hb dX9_keepMates_2 rfl (lv_at hl 1 rfl) ?_
      refine lv_aload_n hx hb dX9_keepMates_3 rfl (lv_at hl 0 rfl) ?_
      refine va_get (D := D) (ci := 8) (v := .ref a_row) (C := RX9) (T := TX9) (N := 18) hx hb hts in_X9 hown hK hP 0 rfl rfl 0 (by decide) fl_7 (fun _ h9 => h9) rfl dX9_keepMates_4 ?_
      refine lv_bipush (v := 27) hx hb dX9_keepMates_7 (by decide) ?_
      refine va_iald hx hb hK hP 3 1 rfl rfl (by unfold vp_in; decide) dX9_keepMates_9 ?_
      refine lv_icmp_ge (tgt := 26) hx hb dX9_keepMates_10 (by decide) (fun c_4 => ?_) (fun c_4 => ?_)
      · have h := h.1 c_4
        refine lv_iconst (v := 0) hx hb dX9_keepMates_26 (by decide) ?_
        refine lv_istore_n (lv' := [(1, .int 0), (0, .ref a_this)]) hx hb dX9_keepMates_27 rfl hl (by decide) rfl (fun ls hl => ?_)
        obtain ⟨T28_6, hz28_6, hs28_6, n28_6, h⟩ := lpw2_use h
        have kT28_6 : ∀ (n : Nat) (x1_5 : Int32) (s_bestMates_6 : Nat → Int32) (H : Heap) (locs : List Loc) (ls : Array Slot), T28_6 n x1_5 s_bestMates_6 → va_P D vwCl (Wd_Mo_keepMates cy a_this a_bestMates a_mates a_row a_isKept a_refused a_text a_words a_cost a_steps a_comes s_above s_below s_length s_at s_behind s_readFlitches s_readFamilies s_doing s_bestMates_6 s_mates s_row) H → va_D A (Wd_Mo_keepMates cy a_this a_bestMates a_mates a_row a_isKept a_refused a_text a_words a_cost a_steps a_comes s_above s_below s_length s_at s_behind s_readFlitches s_readFamilies s_doing s_bestMates_6 s_mates s_row) → va_S A s.heap H locs → lv_has ls 2 [(0, .ref a_this), (1, .int x1_5)] → W p l e rm_Mo_keepMates s m args below meth c H locs 0 0 QQ (F0 m 28 ls []) := by
          intro n
          induction n with
          | zero => intro x1_5 s_bestMates_6 H locs ls h; exact absurd h (hz28_6 _ _)
          | succ n ih28_6 =>
            intro x1_5 s_bestMates_6 H locs ls h hP hD hS hl
            have h := hs28_6 _ _ _ h
            refine lv_iload_n hx hb dX9_keepMates_28 rfl (lv_at hl 1 rfl) ?_
            refine lv_aload_n hx hb dX9_keepMates_29 rfl (lv_at hl 0 rfl) ?_
            refine va_get (D := D) (ci := 8) (v := .ref a_row) (C := RX9) (T := TX9) (N := 18) hx hb hts in_X9 hown hK hP 0 rfl rfl 0 (by decide) fl_7 (fun _ h9 => h9) rfl dX9_keepMates_30 ?_
            refine lv_bipush (v := 27) hx hb dX9_keepMates_33 (by decide) ?_
            refine va_iald hx hb hK hP 3 1 rfl rfl (by unfold vp_in; decide) dX9_keepMates_35 ?_
            refine lv_icmp_ge (tgt := 79) hx hb dX9_keepMates_36 (by decide) (fun c_8 => ?_) (fun c_8 => ?_)
            · have h := h.1 c_8
              exact hret (s_bestMates_6) _ _ _ _ h hP hD hS dX9_keepMates_79
            · have h := h.2 c_8
              refine lv_aload_n hx hb dX9_keepMates_39 rfl (lv_at hl 0 rfl) ?_
              refine va_get (D := D) (ci := 8) (v := .ref a_mates) (C := RX9) (T := TX9) (N := 18) hx hb hts in_X9 hown hK hP 0 rfl rfl 15 (by decide) fl_36 (fun _ h9 => h9) rfl dX9_keepMates_40 ?_
              refine lv_iload_n hx hb dX9_keepMates_43 rfl (lv_at hl 1 rfl) ?_
              obtain ⟨hi_9, h⟩ := h
              refine va_iald hx hb hK hP 2 1 rfl rfl hi_9 dX9_keepMates_44 ?_
              refine lv_iload_n hx hb dX9_keepMates_45 rfl (lv_at hl 1 rfl) ?_
              obtain ⟨J73, hJ73, h⟩ := jn1_ex h
              have kJ73_10 : ∀ (s_bestMates_10 : Nat → Int32) (H : Heap) (locs : List Loc) (ls : Array Slot), J73 s_bestMates_10 → va_P D vwCl (Wd_Mo_keepMates cy a_this a_bestMates a_mates a_row a_isKept a_refused a_text a_words a_cost a_steps a_comes s_above s_below s_length s_at s_behind s_readFlitches s_readFamilies s_doing s_bestMates_10 s_mates s_row) H → va_D A (Wd_Mo_keepMates cy a_this a_bestMates a_mates a_row a_isKept a_refused a_text a_words a_cost a_steps a_comes s_above s_below s_length s_at s_behind s_readFlitches s_readFamilies s_doing s_bestMates_10 s_mates s_row) → va_S A s.heap H locs → lv_has ls 2 [(0, .ref a_this), (1, .int x1_5)] → W p l e rm_Mo_keepMates s m args below meth c H locs 0 0 QQ (F0 m 73 ls []) := by
                intro s_bestMates_10 H locs ls h hP hD hS hl
                have h := hJ73 _ h
                obtain ⟨x1_12, ex1_12⟩ : ∃ y : Int32, y = x1_5 + 1 := ⟨_, rfl⟩
                have h := h x1_12 ex1_12
                refine lv_iinc (v := x1_12) (lv' := [(1, .int x1_12), (0, .ref a_this)]) hx hb dX9_keepMates_73 hl (k := 1) rfl (by rw [ex1_12]; rfl) (by decide) rfl (fun ls hl => ?_)
                refine lv_goto (tgt := 28) hx hb dX9_keepMates_76 (by decide) ?_
                exact ih28_6 _ _ _ _ _ h hP hD hS (lv_sub hl [1, 0] rfl)
              refine lv_icmp_le (tgt := 73) hx hb dX9_keepMates_46 (by decide) (fun c_13 => ?_) (fun c_13 => ?_)
              · have h := h.1 c_13
                exact kJ73_10 _ _ _ _ h hP hD hS (lv_sub hl [0, 1] rfl)
              · have h := h.2 c_13
                refine lv_aload_n hx hb dX9_keepMates_49 rfl (lv_at hl 0 rfl) ?_
                refine va_get (D := D) (ci := 8) (v := .ref a_bestMates) (C := RX9) (T := TX9) (N := 18) hx hb hts in_X9 hown hK hP 0 rfl rfl 16 (by decide) fl_39 (fun _ h9 => h9) rfl dX9_keepMates_50 ?_
                refine lv_iload_n hx hb dX9_keepMates_53 rfl (lv_at hl 1 rfl) ?_
                refine lv_aload_n hx hb dX9_keepMates_54 rfl (lv_at hl 0 rfl) ?_
                refine va_get (D := D) (ci := 8) (v := .ref a_mates) (C := RX9) (T := TX9) (N := 18) hx hb hts in_X9 hown hK hP 0 rfl rfl 15 (by decide) fl_36 (fun _ h9 => h9) rfl dX9_keepMates_55 ?_
                refine lv_iload_n hx hb dX9_keepMates_58 rfl (lv_at hl 1 rfl) ?_
                obtain ⟨hi_14, h⟩ := h
                refine va_iald hx hb hK hP 2 1 rfl rfl hi_14 dX9_keepMates_59 ?_
                obtain ⟨hi_15, h⟩ := h
                refine va_iast hx hb hK hP hD hS 1 1 rfl rfl hi_15 dX9_keepMates_60 (fun H locs hP hD hS => ?_)
                obtain ⟨s_bestMates_16, es_bestMates_16⟩ : ∃ f : Nat → Int32, f = upd s_bestMates_6 (Int32.toNatClampNeg x1_5) (s_mates (Int32.toNatClampNeg x1_5)) := ⟨_, rfl⟩
                have hP : va_P D vwCl (Wd_Mo_keepMates cy a_this a_bestMates a_mates a_row a_isKept a_refused a_text a_words a_cost a_steps a_comes s_above s_below s_length s_at s_behind s_readFlitches s_readFamilies s_doing s_bestMates_16 s_mates s_row) H := by rw [es_bestMates_16]; exact hP
                have hD : va_D A (Wd_Mo_keepMates cy a_this a_bestMates a_mates a_row a_isKept a_refused a_text a_words a_cost a_steps a_comes s_above s_below s_length s_at s_behind s_readFlitches s_readFamilies s_doing s_bestMates_16 s_mates s_row) := by rw [es_bestMates_16]; exact hD
                have h := h s_bestMates_16 es_bestMates_16
                refine lv_aload_n hx hb dX9_keepMates_61 rfl (lv_at hl 0 rfl) ?_
                refine va_get (D := D) (ci := 8) (v := .ref a_bestMates) (C := RX9) (T := TX9) (N := 18) hx hb hts in_X9 hown hK hP 0 rfl rfl 16 (by decide) fl_39 (fun _ h9 => h9) rfl dX9_keepMates_62 ?_
                refine lv_aload_n hx hb dX9_keepMates_65 rfl (lv_at hl 0 rfl) ?_
                refine va_get (D := D) (ci := 8) (v := .ref a_mates) (C := RX9) (T := TX9) (N := 18) hx hb hts in_X9 hown hK hP 0 rfl rfl 15 (by decide) fl_36 (fun _ h9 => h9) rfl dX9_keepMates_66 ?_
                refine lv_iload_n hx hb dX9_keepMates_69 rfl (lv_at hl 1 rfl) ?_
                obtain ⟨hi_17, h⟩ := h
                refine va_iald hx hb hK hP 2 1 rfl rfl hi_17 dX9_keepMates_70 ?_
                refine lv_iload_n hx hb dX9_keepMates_71 rfl (lv_at hl 1 rfl) ?_
                obtain ⟨hi_18, h⟩ := h
                refine va_iast hx hb hK hP hD hS 1 1 rfl rfl hi_18 dX9_keepMates_72 (fun H locs hP hD hS => ?_)
                obtain ⟨s_bestMates_19, es_bestMates_19⟩ : ∃ f : Nat → Int32, f = upd s_bestMates_16 (Int32.toNatClampNeg (s_mates (Int32.toNatClampNeg x1_5))) x1_5 := ⟨_, rfl⟩
                have hP : va_P D vwCl (Wd_Mo_keepMates cy a_this a_bestMates a_mates a_row a_isKept a_refused a_text a_words a_cost a_steps a_comes s_above s_below s_length s_at s_behind s_readFlitches s_readFamilies s_doing s_bestMates_19 s_mates s_row) H := by rw [es_bestMates_19]; exact hP
                have hD : va_D A (Wd_Mo_keepMates cy a_this a_bestMates a_mates a_row a_isKept a_refused a_text a_words a_cost a_steps a_comes s_above s_below s_length s_at s_behind s_readFlitches s_readFamilies s_doing s_bestMates_19 s_mates s_row) := by rw [es_bestMates_19]; exact hD
                have h := h s_bestMates_19 es_bestMates_19
                exact kJ73_10 _ _ _ _ h hP hD hS (lv_sub hl [0, 1] rfl)
        exact kT28_6 n28_6 _ _ _ _ _ h hP hD hS (lv_sub hl [1, 0] rfl)
      · have h := h.2 c_4
        refine lv_aload_n hx hb dX9_keepMates_13 rfl (lv_at hl 0 rfl) ?_
        refine va_get (D := D) (ci := 8) (v := .ref a_bestMates) (C := RX9) (T := TX9) (N := 18) hx hb hts in_X9 hown hK hP 0 rfl rfl 16 (by decide) fl_39 (fun _ h9 => h9) rfl dX9_keepMates_14 ?_
        refine lv_iload_n hx hb dX9_keepMates_17 rfl (lv_at hl 1 rfl) ?_
        refine lv_iconst (v := (-1)) hx hb dX9_keepMates_18 (by decide) ?_
        obtain ⟨hi_20, h⟩ := h
        refine va_iast hx hb hK hP hD hS 1 1 rfl rfl hi_20 dX9_keepMates_19 (fun H locs hP hD hS => ?_)
        obtain ⟨s_bestMates_21, es_bestMates_21⟩ : ∃ f : Nat → Int32, f = upd s_bestMates_2 (Int32.toNatClampNeg x1_1) (-1) := ⟨_, rfl⟩
        have hP : va_P D vwCl (Wd_Mo_keepMates cy a_this a_bestMates a_mates a_row a_isKept a_refused a_text a_words a_cost a_steps a_comes s_above s_below s_length s_at s_behind s_readFlitches s_readFamilies s_doing s_bestMates_21 s_mates s_row) H := by rw [es_bestMates_21]; exact hP
        have hD : va_D A (Wd_Mo_keepMates cy a_this a_bestMates a_mates a_row a_isKept a_refused a_text a_words a_cost a_steps a_comes s_above s_below s_length s_at s_behind s_readFlitches s_readFamilies s_doing s_bestMates_21 s_mates s_row) := by rw [es_bestMates_21]; exact hD
        have h := h s_bestMates_21 es_bestMates_21
        obtain ⟨x1_22, ex1_22⟩ : ∃ y : Int32, y = x1_1 + 1 := ⟨_, rfl⟩
        have h := h x1_22 ex1_22
        refine lv_iinc (v := x1_22) (lv' := [(1, .int x1_22), (0, .ref a_this)]) hx hb dX9_keepMates_20 hl (k := 1) rfl (by rw [ex1_22]; rfl) (by decide) rfl (fun ls hl => ?_)
        refine lv_goto (tgt := 2) hx hb dX9_keepMates_23 (by decide) ?_
        exact ih2_2 _ _ _ _ _ h hP hD hS (lv_sub hl [1, 0] rfl)
  exact kT2_2 n2_2 _ _ _ _ _ h hP hD hS (lv_sub hl [1, 0] rfl)
abbrev Wd_Mo_nextMate (cy : ClassId × ClassId × ClassId × ClassId) (a_this a_mates a_row a_isKept a_refused a_text a_words a_cost a_steps a_bestMates a_comes : Nat) (s_above : Int64) (s_below : Int64) (s_length : Int32) (s_at : Int32) (s_behind : Int32) (s_readFlitches : Int32) (s_readFamilies : Int32) (s_doing : Int32) (s_mates : Nat → Int32) (s_row : Nat → Int32) : va_W := [(a_this, .inr (8, [.ref a_row, .ref a_isKept, .ref a_refused, .long s_above, .long s_below, .ref a_text, .int s_length, .ref a_words, .int s_at, .int s_behind, .int s_readFlitches, .int s_readFamilies, .int s_doing, .ref a_cost, .ref a_steps, .ref a_mates, .ref a_bestMates, .ref a_comes])), (a_mates, .inl (cy.2.1, 7, .inl s_mates)), (a_row, .inl (cy.2.1, 770, .inl s_row))]
abbrev rm_Mo_nextMate : Room := { frames := 2, cells := 0, slots := 0, locals := 45 }
def wp_Mo_nextMate (x1 : Int32) (s_mates : Nat → Int32) (s_row : Nat → Int32) (Q : Int32 → Prop) : Prop := wp_Mo_isTaken x1 s_mates (fun (r_1 : Int32) => ((r_1 = 0 → vp_in x1 7 ∧ jn1 (fun (J34 : Int32 → Prop) => ((¬ (s_mates (Int32.toNatClampNeg x1)) = (-1) → vp_in x1 7 ∧ J34 ((s_mates (Int32.toNatClampNeg x1)) + 1)) ∧ ((s_mates (Int32.toNatClampNeg x1)) = (-1) → J34 (x1 + 1)))) (fun (v_4 : Int32) => ∃ n : Nat, lpw1 (fun (B35 : Int32 → Prop) (x2_6 : Int32) => (((s_row (Int32.toNatClampNeg 27)) ≤ x2_6 → Q x1) ∧ (¬ (s_row (Int32.toNatClampNeg 27)) ≤ x2_6 → wp_Mo_mayMarry x1 x2_6 s_mates s_row (fun (r_9 : Int32) => ((r_9 = 0 → ∀ x2_11 : Int32, x2_11 = x2_6 + 1 → B35 x2_11) ∧ (¬ r_9 = 0 → Q x2_6)))))) n v_4)) ∧ (¬ r_1 = 0 → Q x1)))
set_option maxHeartbeats 4000000 in
set_option maxRecDepth 100000 in
theorem co_Mo_nextMate (l : Launch) (D : va_G) (cy : ClassId × ClassId × ClassId × ClassId) (a_this a_mates a_row a_isKept a_refused a_text a_words a_cost a_steps a_bestMates a_comes : Nat) (s_above : Int64) (s_below : Int64) (s_length : Int32) (s_at : Int32) (s_behind : Int32) (s_readFlitches : Int32) (s_readFamilies : Int32) (s_doing : Int32) (s_mates : Nat → Int32) (s_row : Nat → Int32) (x1 : Int32) (Q : Int32 → Prop) (h : wp_Mo_nextMate x1 s_mates s_row Q) : RoI l yX9_nextMate wsX9_nextMate rm_Mo_nextMate D cy [.ref a_this, .int x1] (Wd_Mo_nextMate cy a_this a_mates a_row a_isKept a_refused a_text a_words a_cost a_steps a_bestMates a_comes s_above s_below s_length s_at s_behind s_readFlitches s_readFamilies s_doing s_mates s_row) Q := by
  refine st_metRI (cc := cX9_nextMate) (maxL := 3) RX9 (by decide) rfl rfl (Nat.le_of_ble_eq_true rfl) ?_
  intro p e s m args below meth c QQ ls F hKK hP hl hret
  have hK := hKK.1
  have hnest := hKK.2.1
  have hx := F.1
  have hb := F.2.1
  have hown := F.2.2.2.1
  have hts := F.2.2.2.2
  have in_X9 : ∀ w ∈ u_ws RX9 TX9 18, w ∈ wsX9_nextMate := (fun _ h => List.mem_cons_of_mem _ (List.mem_append_right _ h))
  have fl_7 := (hts (.fieldLink RX9 7 "RasherCaseModel" "row" "[I") (List.mem_of_getElem? (i := 2) rfl))
  have fl_36 := (hts (.fieldLink RX9 36 "RasherCaseModel" "mates" "[I") (List.mem_of_getElem? (i := 1) rfl))
  have hl : lv_has ls 3 [(0, .ref a_this), (1, .int x1)] := hl
  unfold wp_Mo_nextMate at h
  refine lv_aload_n hx hb dX9_nextMate_0 rfl (lv_at hl 0 rfl) ?_
  refine lv_iload_n hx hb dX9_nextMate_1 rfl (lv_at hl 1 rfl) ?_
  refine st_callRI (st_runVR (n := 1) (As := [.int x1]) (rest := []) (q0 := 0) F (co_Mo_isTaken l D cy a_this a_mates a_row a_isKept a_refused a_text a_words a_cost a_steps a_bestMates a_comes s_above s_below s_length s_at s_behind s_readFlitches s_readFamilies s_doing s_mates x1 _ h) gX9_nextMate_X9_isTaken rfl (by decide +kernel) rfl hKK hP [0, 1] rfl rfl rfl rfl hl.1 rfl (Nat.le_of_ble_eq_true rfl) dX9_nextMate_2) (fun r_1 h => ?_)
  refine lv_if_eq (tgt := 10) hx hb dX9_nextMate_5 (by decide) (fun c_2 => ?_) (fun c_2 => ?_)
  · have h := h.1 c_2
    refine lv_aload_n hx hb dX9_nextMate_10 rfl (lv_at hl 0 rfl) ?_
    refine va_get (D := D) (ci := 8) (v := .ref a_mates) (C := RX9) (T := TX9) (N := 18) hx hb hts in_X9 hown hK hP 0 rfl rfl 15 (by decide) fl_36 (fun _ h9 => h9) rfl dX9_nextMate_11 ?_
    refine lv_iload_n hx hb dX9_nextMate_14 rfl (lv_at hl 1 rfl) ?_
    obtain ⟨hi_3, h⟩ := h
    refine va_iald hx hb hK hP 1 1 rfl rfl hi_3 dX9_nextMate_15 ?_
    refine lv_iconst (v := (-1)) hx hb dX9_nextMate_16 (by decide) ?_
    obtain ⟨J34, hJ34, h⟩ := jn1_ex h
    have kJ34_4 : ∀ (v_4 : Int32) (ls : Array Slot), J34 v_4 → lv_has ls 3 [(0, .ref a_this), (1, .int x1)] → W p l e rm_Mo_nextMate s m args below meth c s.heap [] 0 0 QQ (F0 m 34 ls [.int v_4]) := by
      intro v_4 ls h hl
      have h := hJ34 _ h
      refine lv_istore_n (lv' := [(2, .int v_4), (0, .ref a_this), (1, .int x1)]) hx hb dX9_nextMate_34 rfl hl (by decide) rfl (fun ls hl => ?_)
      obtain ⟨T35_6, hz35_6, hs35_6, n35_6, h⟩ := lpw1_use h
      have kT35_6 : ∀ (n : Nat) (x2_6 : Int32) (ls : Array Slot), T35_6 n x2_6 → lv_has ls 3 [(0, .ref a_this), (1, .int x1), (2, .int x2_6)] → W p l e rm_Mo_nextMate s m args below meth c s.heap [] 0 0 QQ (F0 m 35 ls []) := by
        intro n
        induction n with
        | zero => intro x2_6 ls h; exact absurd h (hz35_6 _)
        | succ n ih35_6 =>
          intro x2_6 ls h hl
          have h := hs35_6 _ _ h
          refine lv_iload_n hx hb dX9_nextMate_35 rfl (lv_at hl 2 rfl) ?_
          refine lv_aload_n hx hb dX9_nextMate_36 rfl (lv_at hl 0 rfl) ?_
          refine va_get (D := D) (ci := 8) (v := .ref a_row) (C := RX9) (T := TX9) (N := 18) hx hb hts in_X9 hown hK hP 0 rfl rfl 0 (by decide) fl_7 (fun _ h9 => h9) rfl dX9_nextMate_37 ?_
          refine lv_bipush (v := 27) hx hb dX9_nextMate_40 (by decide) ?_
          refine va_iald hx hb hK hP 2 1 rfl rfl (by unfold vp_in; decide) dX9_nextMate_42 ?_
          refine lv_icmp_ge (tgt := 63) hx hb dX9_nextMate_43 (by decide) (fun c_8 => ?_) (fun c_8 => ?_)
          · have h := h.1 c_8
            refine lv_iload_n hx hb dX9_nextMate_63 rfl (lv_at hl 1 rfl) ?_
            exact hret _ _ _ h dX9_nextMate_64
          · have h := h.2 c_8
            refine lv_aload_n hx hb dX9_nextMate_46 rfl (lv_at hl 0 rfl) ?_
            refine lv_iload_n hx hb dX9_nextMate_47 rfl (lv_at hl 1 rfl) ?_
            refine lv_iload_n hx hb dX9_nextMate_48 rfl (lv_at hl 2 rfl) ?_
            refine st_callRI (st_runVR (n := 2) (As := [.int x1, .int x2_6]) (rest := []) (q0 := 0) F (co_Mo_mayMarry l D cy a_this a_mates a_row a_isKept a_refused a_text a_words a_cost a_steps a_bestMates a_comes s_above s_below s_length s_at s_behind s_readFlitches s_readFamilies s_doing s_mates s_row x1 x2_6 _ h) gX9_nextMate_X9_mayMarry rfl (by decide +kernel) rfl hKK hP [0, 1, 2] rfl rfl rfl rfl hl.1 rfl (Nat.le_of_ble_eq_true rfl) dX9_nextMate_49) (fun r_9 h => ?_)
            refine lv_if_eq (tgt := 57) hx hb dX9_nextMate_52 (by decide) (fun c_10 => ?_) (fun c_10 => ?_)
            · have h := h.1 c_10
              obtain ⟨x2_11, ex2_11⟩ : ∃ y : Int32, y = x2_6 + 1 := ⟨_, rfl⟩
              have h := h x2_11 ex2_11
              refine lv_iinc (v := x2_11) (lv' := [(2, .int x2_11), (0, .ref a_this), (1, .int x1)]) hx hb dX9_nextMate_57 hl (k := 2) rfl (by rw [ex2_11]; rfl) (by decide) rfl (fun ls hl => ?_)
              refine lv_goto (tgt := 35) hx hb dX9_nextMate_60 (by decide) ?_
              exact ih35_6 _ _ h (lv_sub hl [1, 2, 0] rfl)
            · have h := h.2 c_10
              refine lv_iload_n hx hb dX9_nextMate_55 rfl (lv_at hl 2 rfl) ?_
              exact hret _ _ _ h dX9_nextMate_56
      exact kT35_6 n35_6 _ _ h (lv_sub hl [1, 2, 0] rfl)
    refine lv_icmp_ne (tgt := 26) hx hb dX9_nextMate_17 (by decide) (fun c_12 => ?_) (fun c_12 => ?_)
    · have h := h.1 c_12
      refine lv_aload_n hx hb dX9_nextMate_26 rfl (lv_at hl 0 rfl) ?_
      refine va_get (D := D) (ci := 8) (v := .ref a_mates) (C := RX9) (T := TX9) (N := 18) hx hb hts in_X9 hown hK hP 0 rfl rfl 15 (by decide) fl_36 (fun _ h9 => h9) rfl dX9_nextMate_27 ?_
      refine lv_iload_n hx hb dX9_nextMate_30 rfl (lv_at hl 1 rfl) ?_
      obtain ⟨hi_13, h⟩ := h
      refine va_iald hx hb hK hP 1 1 rfl rfl hi_13 dX9_nextMate_31 ?_
      refine lv_iconst (v := 1) hx hb dX9_nextMate_32 (by decide) ?_
      refine lv_iadd hx hb dX9_nextMate_33 ?_
      exact kJ34_4 _ _ h (lv_sub hl [0, 1] rfl)
    · have h := h.2 c_12
      refine lv_iload_n hx hb dX9_nextMate_20 rfl (lv_at hl 1 rfl) ?_
      refine lv_iconst (v := 1) hx hb dX9_nextMate_21 (by decide) ?_
      refine lv_iadd hx hb dX9_nextMate_22 ?_
      refine lv_goto (tgt := 34) hx hb dX9_nextMate_23 (by decide) ?_
      exact kJ34_4 _ _ h (lv_sub hl [0, 1] rfl)
  · have h := h.2 c_2
    refine lv_iload_n hx hb dX9_nextMate_8 rfl (lv_at hl 1 rfl) ?_
    exact hret _ _ _ h dX9_nextMate_9
abbrev Wd_Mo_mostPairs (cy : ClassId × ClassId × ClassId × ClassId) (a_this a_bestMates a_mates a_row a_isKept a_refused a_text a_words a_cost a_steps a_comes : Nat) (s_above : Int64) (s_below : Int64) (s_length : Int32) (s_at : Int32) (s_behind : Int32) (s_readFlitches : Int32) (s_readFamilies : Int32) (s_doing : Int32) (s_bestMates : Nat → Int32) (s_mates : Nat → Int32) (s_row : Nat → Int32) : va_W := [(a_this, .inr (8, [.ref a_row, .ref a_isKept, .ref a_refused, .long s_above, .long s_below, .ref a_text, .int s_length, .ref a_words, .int s_at, .int s_behind, .int s_readFlitches, .int s_readFamilies, .int s_doing, .ref a_cost, .ref a_steps, .ref a_mates, .ref a_bestMates, .ref a_comes])), (a_bestMates, .inl (cy.2.1, 7, .inl s_bestMates)), (a_mates, .inl (cy.2.1, 7, .inl s_mates)), (a_row, .inl (cy.2.1, 770, .inl s_row))]
abbrev rm_Mo_mostPairs : Room := { frames := 3, cells := 0, slots := 0, locals := 67 }
def wp_Mo_mostPairs (s_bestMates : Nat → Int32) (s_mates : Nat → Int32) (s_row : Nat → Int32) (Q : Int32 → (Nat → Int32) → (Nat → Int32) → Prop) : Prop := ∀ x1_1 : Int32, x1_1 = (s_row (Int32.toNatClampNeg 27)) → ∃ n : Nat, lpw2 (fun (B12 : Int32 → (Nat → Int32) → Prop) (x3_2 : Int32) (s_mates_3 : Nat → Int32) => ((x1_1 ≤ x3_2 → ∃ n : Nat, lpw4 (fun (B32 : Int32 → Int32 → (Nat → Int32) → (Nat → Int32) → Prop) (x2_6 : Int32) (x3_7 : Int32) (s_bestMates_8 : Nat → Int32) (s_mates_9 : Nat → Int32) => ((x3_7 = 0 → Q x2_6 s_bestMates_8 s_mates_9) ∧ (¬ x3_7 = 0 → wp_Mo_pairs s_mates_9 s_row (fun (r_12 : Int32) => jn2 (fun (J53 : Int32 → (Nat → Int32) → Prop) => ((r_12 ≤ x2_6 → J53 x2_6 s_bestMates_8) ∧ (¬ r_12 ≤ x2_6 → wp_Mo_pairs s_mates_9 s_row (fun (r_37 : Int32) => wp_Mo_keepMates s_bestMates_8 s_mates_9 s_row (fun (s_bestMates_39 : Nat → Int32) => J53 r_37 s_bestMates_39))))) (fun (x2_13 : Int32) (s_bestMates_14 : Nat → Int32) => ∀ x4_16 : Int32, x4_16 = (x1_1 - 1) → ∃ n : Nat, lpw2 (fun (B58 : Int32 → (Nat → Int32) → Prop) (x4_17 : Int32) (s_mates_18 : Nat → Int32) => jn0 (fun (J88 : Prop) => ((x4_17 < 0 → J88) ∧ (¬ x4_17 < 0 → wp_Mo_nextMate x4_17 s_mates_18 s_row (fun (r_31 : Int32) => ((¬ r_31 = x4_17 → J88) ∧ (r_31 = x4_17 → vp_in x4_17 7 ∧ ∀ s_mates_34 : Nat → Int32, s_mates_34 = upd s_mates_18 (Int32.toNatClampNeg x4_17) (-1) → ∀ x4_35 : Int32, x4_35 = x4_17 + (-1) → B58 x4_35 s_mates_34)))))) (jn1 (fun (J98 : Int32 → Prop) => ((x4_17 < 0 → J98 0) ∧ (¬ x4_17 < 0 → J98 1))) (fun (v_21 : Int32) => jn1 (fun (J116 : (Nat → Int32) → Prop) => ((v_21 = 0 → J116 s_mates_18) ∧ (¬ v_21 = 0 → wp_Mo_nextMate x4_17 s_mates_18 s_row (fun (r_26 : Int32) => vp_in x4_17 7 ∧ ∀ s_mates_28 : Nat → Int32, s_mates_28 = upd s_mates_18 (Int32.toNatClampNeg x4_17) r_26 → J116 s_mates_28)))) (fun (s_mates_23 : Nat → Int32) => B32 x2_13 v_21 s_bestMates_14 s_mates_23)))) n x4_16 s_mates_9))))) n (-1) 1 s_bestMates s_mates_3) ∧ (¬ x1_1 ≤ x3_2 → vp_in x3_2 7 ∧ ∀ s_mates_41 : Nat → Int32, s_mates_41 = upd s_mates_3 (Int32.toNatClampNeg x3_2) (-1) → ∀ x3_42 : Int32, x3_42 = x3_2 + 1 → B12 x3_42 s_mates_41))) n 0 s_mates
set_option maxHeartbeats 4000000 in
set_option maxRecDepth 100000 in
theorem co_Mo_mostPairs (l : Launch) (D : va_G) (cy : ClassId × ClassId × ClassId × ClassId) (a_this a_bestMates a_mates a_row a_isKept a_refused a_text a_words a_cost a_steps a_comes : Nat) (s_above : Int64) (s_below : Int64) (s_length : Int32) (s_at : Int32) (s_behind : Int32) (s_readFlitches : Int32) (s_readFamilies : Int32) (s_doing : Int32) (s_bestMates : Nat → Int32) (s_mates : Nat → Int32) (s_row : Nat → Int32) (Q : Int32 → (Nat → Int32) → (Nat → Int32) → Prop) (h : wp_Mo_mostPairs s_bestMates s_mates s_row Q) : CoI l yX9_mostPairs wsX9_mostPairs rm_Mo_mostPairs D cy [.ref a_this] (Wd_Mo_mostPairs cy a_this a_bestMates a_mates a_row a_isKept a_refused a_text a_words a_cost a_steps a_comes s_above s_below s_length s_at s_behind s_readFlitches s_readFamilies s_doing s_bestMates s_mates s_row) (fun u : (Nat → Int32) × (Nat → Int32) => (Wd_Mo_mostPairs cy a_this a_bestMates a_mates a_row a_isKept a_refused a_text a_words a_cost a_steps a_comes s_above s_below s_length s_at s_behind s_readFlitches s_readFamilies s_doing u.1 u.2 s_row)) (fun (r : Int32) (u : (Nat → Int32) × (Nat → Int32)) => Q r u.1 u.2) := by
  refine st_metI (cc := cX9_mostPairs) (maxL := 5) RX9 (by decide) rfl rfl (Nat.le_of_ble_eq_true rfl) ?_
  intro p e s m args below meth c A QQ ls F hA hKK hP hD hS hl hret
  have hK := hKK.1
  have hnest := hKK.2.1
  have hx := F.1
  have hb := F.2.1
  have hown := F.2.2.2.1
  have hts := F.2.2.2.2
  have in_X9 : ∀ w ∈ u_ws RX9 TX9 18, w ∈ wsX9_mostPairs := (fun _ h => List.mem_cons_of_mem _ (List.mem_append_right _ h))
  have fl_7 := (hts (.fieldLink RX9 7 "RasherCaseModel" "row" "[I") (List.mem_of_getElem? (i := 1) rfl))
  have fl_36 := (hts (.fieldLink RX9 36 "RasherCaseModel" "mates" "[I") (List.mem_of_getElem? (i := 2) rfl))
  have hl : lv_has ls 5 [(0, .ref a_this)] := hl
  unfold wp_Mo_mostPairs at h
  refine lv_aload_n hx hb dX9_mostPairs_0 rfl (lv_at hl 0 rfl) ?_
  refine va_get (D := D) (ci := 8) (v := .ref a_row) (C := RX9) (T := TX9) (N := 18) hx hb hts in_X9 hown hK hP 0 rfl rfl 0 (by decide) fl_7 (fun _ h9 => h9) rfl dX9_mostPairs_1 ?_
  refine lv_bipush (v := 27) hx hb dX9_mostPairs_4 (by decide) ?_
  refine va_iald hx hb hK hP 3 1 rfl rfl (by unfold vp_in; decide) dX9_mostPairs_6 ?_
  refine lv_topi (fun x1_1 ex1_1 => ?_)
  have h := h x1_1 ex1_1
  refine lv_istore_n (lv' := [(1, .int x1_1), (0, .ref a_this)]) hx hb dX9_mostPairs_7 rfl hl (by decide) rfl (fun ls hl => ?_)
  refine lv_iconst (v := (-1)) hx hb dX9_mostPairs_8 (by decide) ?_
  refine lv_istore_n (lv' := [(2, .int (-1)), (1, .int x1_1), (0, .ref a_this)]) hx hb dX9_mostPairs_9 rfl hl (by decide) rfl (fun ls hl => ?_)
  refine lv_iconst (v := 0) hx hb dX9_mostPairs_10 (by decide) ?_
  refine lv_istore_n (lv' := [(3, .int 0), (2, .int (-1)), (1, .int x1_1), (0, .ref a_this)]) hx hb dX9_mostPairs_11 rfl hl (by decide) rfl (fun ls hl => ?_)
  obtain ⟨T12_3, hz12_3, hs12_3, n12_3, h⟩ := lpw2_use h
  have kT12_3 : ∀ (n : Nat) (x3_2 : Int32) (s_mates_3 : Nat → Int32) (H : Heap) (locs : List Loc) (ls : Array Slot), T12_3 n x3_2 s_mates_3 → va_P D vwCl (Wd_Mo_mostPairs cy a_this a_bestMates a_mates a_row a_isKept a_refused a_text a_words a_cost a_steps a_comes s_above s_below s_length s_at s_behind s_readFlitches s_readFamilies s_doing s_bestMates s_mates_3 s_row) H → va_D A (Wd_Mo_mostPairs cy a_this a_bestMates a_mates a_row a_isKept a_refused a_text a_words a_cost a_steps a_comes s_above s_below s_length s_at s_behind s_readFlitches s_readFamilies s_doing s_bestMates s_mates_3 s_row) → va_S A s.heap H locs → lv_has ls 5 [(0, .ref a_this), (1, .int x1_1), (2, .int (-1)), (3, .int x3_2)] → W p l e rm_Mo_mostPairs s m args below meth c H locs 0 0 QQ (F0 m 12 ls []) := by
    intro n
    induction n with
    | zero => intro x3_2 s_mates_3 H locs ls h; exact absurd h (hz12_3 _ _)
    | succ n ih12_3 =>
      intro x3_2 s_mates_3 H locs ls h hP hD hS hl
      have h := hs12_3 _ _ _ h
      refine lv_iload_n hx hb dX9_mostPairs_12 rfl (lv_at hl 3 rfl) ?_
      refine lv_iload_n hx hb dX9_mostPairs_13 rfl (lv_at hl 1 rfl) ?_
      refine lv_icmp_ge (tgt := 30) hx hb dX9_mostPairs_14 (by decide) (fun c_5 => ?_) (fun c_5 => ?_)
      · have h := h.1 c_5
        refine lv_iconst (v := 1) hx hb dX9_mostPairs_30 (by decide) ?_
        refine lv_istore_n (lv' := [(3, .int 1), (0, .ref a_this), (1, .int x1_1), (2, .int (-1))]) hx hb dX9_mostPairs_31 rfl hl (by decide) rfl (fun ls hl => ?_)
        obtain ⟨T32_9, hz32_9, hs32_9, n32_9, h⟩ := lpw4_use h
        have kT32_9 : ∀ (n : Nat) (x2_6 : Int32) (x3_7 : Int32) (s_bestMates_8 : Nat → Int32) (s_mates_9 : Nat → Int32) (H : Heap) (locs : List Loc) (ls : Array Slot), T32_9 n x2_6 x3_7 s_bestMates_8 s_mates_9 → va_P D vwCl (Wd_Mo_mostPairs cy a_this a_bestMates a_mates a_row a_isKept a_refused a_text a_words a_cost a_steps a_comes s_above s_below s_length s_at s_behind s_readFlitches s_readFamilies s_doing s_bestMates_8 s_mates_9 s_row) H → va_D A (Wd_Mo_mostPairs cy a_this a_bestMates a_mates a_row a_isKept a_refused a_text a_words a_cost a_steps a_comes s_above s_below s_length s_at s_behind s_readFlitches s_readFamilies s_doing s_bestMates_8 s_mates_9 s_row) → va_S A s.heap H locs → lv_has ls 5 [(0, .ref a_this), (1, .int x1_1), (2, .int x2_6), (3, .int x3_7)] → W p l e rm_Mo_mostPairs s m args below meth c H locs 0 0 QQ (F0 m 32 ls []) := by
          intro n
          induction n with
          | zero => intro x2_6 x3_7 s_bestMates_8 s_mates_9 H locs ls h; exact absurd h (hz32_9 _ _ _ _)
          | succ n ih32_9 =>
            intro x2_6 x3_7 s_bestMates_8 s_mates_9 H locs ls h hP hD hS hl
            have h := hs32_9 _ _ _ _ _ h
            refine lv_iload_n hx hb dX9_mostPairs_32 rfl (lv_at hl 3 rfl) ?_
            refine lv_if_eq (tgt := 119) hx hb dX9_mostPairs_33 (by decide) (fun c_11 => ?_) (fun c_11 => ?_)
            · have h := h.1 c_11
              refine lv_iload_n hx hb dX9_mostPairs_119 rfl (lv_at hl 2 rfl) ?_
              exact hret _ (s_bestMates_8, s_mates_9) _ _ _ _ h hP hD hS dX9_mostPairs_120
            · have h := h.2 c_11
              refine lv_aload_n hx hb dX9_mostPairs_36 rfl (lv_at hl 0 rfl) ?_
              refine st_callRI (st_runVR (n := 0) (As := []) (rest := []) (q0 := 0) F (co_Mo_pairs l D cy a_this a_mates a_row a_isKept a_refused a_text a_words a_cost a_steps a_bestMates a_comes s_above s_below s_length s_at s_behind s_readFlitches s_readFamilies s_doing s_mates_9 s_row _ h) gX9_mostPairs_X9_pairs rfl (by decide +kernel) rfl hKK hP [0, 2, 3] rfl rfl rfl rfl hl.1 rfl (Nat.le_of_ble_eq_true rfl) dX9_mostPairs_37) (fun r_12 h => ?_)
              refine lv_iload_n hx hb dX9_mostPairs_40 rfl (lv_at hl 2 rfl) ?_
              obtain ⟨J53, hJ53, h⟩ := jn2_ex h
              have kJ53_14 : ∀ (x2_13 : Int32) (s_bestMates_14 : Nat → Int32) (H : Heap) (locs : List Loc) (ls : Array Slot), J53 x2_13 s_bestMates_14 → va_P D vwCl (Wd_Mo_mostPairs cy a_this a_bestMates a_mates a_row a_isKept a_refused a_text a_words a_cost a_steps a_comes s_above s_below s_length s_at s_behind s_readFlitches s_readFamilies s_doing s_bestMates_14 s_mates_9 s_row) H → va_D A (Wd_Mo_mostPairs cy a_this a_bestMates a_mates a_row a_isKept a_refused a_text a_words a_cost a_steps a_comes s_above s_below s_length s_at s_behind s_readFlitches s_readFamilies s_doing s_bestMates_14 s_mates_9 s_row) → va_S A s.heap H locs → lv_has ls 5 [(0, .ref a_this), (1, .int x1_1), (2, .int x2_13)] → W p l e rm_Mo_mostPairs s m args below meth c H locs 0 0 QQ (F0 m 53 ls []) := by
                intro x2_13 s_bestMates_14 H locs ls h hP hD hS hl
                have h := hJ53 _ _ h
                refine lv_iload_n hx hb dX9_mostPairs_53 rfl (lv_at hl 1 rfl) ?_
                refine lv_iconst (v := 1) hx hb dX9_mostPairs_54 (by decide) ?_
                refine lv_isub hx hb dX9_mostPairs_55 ?_
                refine lv_topi (fun x4_16 ex4_16 => ?_)
                have h := h x4_16 ex4_16
                refine lv_istore (lv' := [(4, .int x4_16), (0, .ref a_this), (1, .int x1_1), (2, .int x2_13)]) hx hb dX9_mostPairs_56 hl (by decide) rfl (fun ls hl => ?_)
                obtain ⟨T58_18, hz58_18, hs58_18, n58_18, h⟩ := lpw2_use h
                have kT58_18 : ∀ (n : Nat) (x4_17 : Int32) (s_mates_18 : Nat → Int32) (H : Heap) (locs : List Loc) (ls : Array Slot), T58_18 n x4_17 s_mates_18 → va_P D vwCl (Wd_Mo_mostPairs cy a_this a_bestMates a_mates a_row a_isKept a_refused a_text a_words a_cost a_steps a_comes s_above s_below s_length s_at s_behind s_readFlitches s_readFamilies s_doing s_bestMates_14 s_mates_18 s_row) H → va_D A (Wd_Mo_mostPairs cy a_this a_bestMates a_mates a_row a_isKept a_refused a_text a_words a_cost a_steps a_comes s_above s_below s_length s_at s_behind s_readFlitches s_readFamilies s_doing s_bestMates_14 s_mates_18 s_row) → va_S A s.heap H locs → lv_has ls 5 [(0, .ref a_this), (1, .int x1_1), (2, .int x2_13), (4, .int x4_17)] → W p l e rm_Mo_mostPairs s m args below meth c H locs 0 0 QQ (F0 m 58 ls []) := by
                  intro n
                  induction n with
                  | zero => intro x4_17 s_mates_18 H locs ls h; exact absurd h (hz58_18 _ _)
                  | succ n ih58_18 =>
                    intro x4_17 s_mates_18 H locs ls h hP hD hS hl
                    have h := hs58_18 _ _ _ h
                    refine lv_iload hx hb dX9_mostPairs_58 (lv_at hl 3 rfl) ?_
                    obtain ⟨J88, hJ88, h⟩ := jn0_ex h
                    have kJ88_19 : ∀  (H : Heap) (locs : List Loc) (ls : Array Slot), J88 → va_P D vwCl (Wd_Mo_mostPairs cy a_this a_bestMates a_mates a_row a_isKept a_refused a_text a_words a_cost a_steps a_comes s_above s_below s_length s_at s_behind s_readFlitches s_readFamilies s_doing s_bestMates_14 s_mates_18 s_row) H → va_D A (Wd_Mo_mostPairs cy a_this a_bestMates a_mates a_row a_isKept a_refused a_text a_words a_cost a_steps a_comes s_above s_below s_length s_at s_behind s_readFlitches s_readFamilies s_doing s_bestMates_14 s_mates_18 s_row) → va_S A s.heap H locs → lv_has ls 5 [(0, .ref a_this), (1, .int x1_1), (2, .int x2_13), (4, .int x4_17)] → W p l e rm_Mo_mostPairs s m args below meth c H locs 0 0 QQ (F0 m 88 ls []) := by
                      intro  H locs ls h hP hD hS hl
                      have h := hJ88  h
                      refine lv_iload hx hb dX9_mostPairs_88 (lv_at hl 3 rfl) ?_
                      obtain ⟨J98, hJ98, h⟩ := jn1_ex h
                      have kJ98_21 : ∀ (v_21 : Int32) (H : Heap) (locs : List Loc) (ls : Array Slot), J98 v_21 → va_P D vwCl (Wd_Mo_mostPairs cy a_this a_bestMates a_mates a_row a_isKept a_refused a_text a_words a_cost a_steps a_comes s_above s_below s_length s_at s_behind s_readFlitches s_readFamilies s_doing s_bestMates_14 s_mates_18 s_row) H → va_D A (Wd_Mo_mostPairs cy a_this a_bestMates a_mates a_row a_isKept a_refused a_text a_words a_cost a_steps a_comes s_above s_below s_length s_at s_behind s_readFlitches s_readFamilies s_doing s_bestMates_14 s_mates_18 s_row) → va_S A s.heap H locs → lv_has ls 5 [(0, .ref a_this), (1, .int x1_1), (2, .int x2_13), (4, .int x4_17)] → W p l e rm_Mo_mostPairs s m args below meth c H locs 0 0 QQ (F0 m 98 ls [.int v_21]) := by
                        intro v_21 H locs ls h hP hD hS hl
                        have h := hJ98 _ h
                        refine lv_istore_n (lv' := [(3, .int v_21), (0, .ref a_this), (1, .int x1_1), (2, .int x2_13), (4, .int x4_17)]) hx hb dX9_mostPairs_98 rfl hl (by decide) rfl (fun ls hl => ?_)
                        refine lv_iload_n hx hb dX9_mostPairs_99 rfl (lv_at hl 0 rfl) ?_
                        obtain ⟨J116, hJ116, h⟩ := jn1_ex h
                        have kJ116_23 : ∀ (s_mates_23 : Nat → Int32) (H : Heap) (locs : List Loc) (ls : Array Slot), J116 s_mates_23 → va_P D vwCl (Wd_Mo_mostPairs cy a_this a_bestMates a_mates a_row a_isKept a_refused a_text a_words a_cost a_steps a_comes s_above s_below s_length s_at s_behind s_readFlitches s_readFamilies s_doing s_bestMates_14 s_mates_23 s_row) H → va_D A (Wd_Mo_mostPairs cy a_this a_bestMates a_mates a_row a_isKept a_refused a_text a_words a_cost a_steps a_comes s_above s_below s_length s_at s_behind s_readFlitches s_readFamilies s_doing s_bestMates_14 s_mates_23 s_row) → va_S A s.heap H locs → lv_has ls 5 [(0, .ref a_this), (1, .int x1_1), (2, .int x2_13), (3, .int v_21)] → W p l e rm_Mo_mostPairs s m args below meth c H locs 0 0 QQ (F0 m 116 ls []) := by
                          intro s_mates_23 H locs ls h hP hD hS hl
                          have h := hJ116 _ h
                          refine lv_goto (tgt := 32) hx hb dX9_mostPairs_116 (by decide) ?_
                          exact ih32_9 _ _ _ _ _ _ _ h hP hD hS (lv_sub hl [0, 1, 2, 3] rfl)
                        refine lv_if_eq (tgt := 116) hx hb dX9_mostPairs_100 (by decide) (fun c_25 => ?_) (fun c_25 => ?_)
                        · have h := h.1 c_25
                          exact kJ116_23 _ _ _ _ h hP hD hS (lv_sub hl [1, 2, 3, 0] rfl)
                        · have h := h.2 c_25
                          refine lv_aload_n hx hb dX9_mostPairs_103 rfl (lv_at hl 1 rfl) ?_
                          refine va_get (D := D) (ci := 8) (v := .ref a_mates) (C := RX9) (T := TX9) (N := 18) hx hb hts in_X9 hown hK hP 0 rfl rfl 15 (by decide) fl_36 (fun _ h9 => h9) rfl dX9_mostPairs_104 ?_
                          refine lv_iload hx hb dX9_mostPairs_107 (lv_at hl 4 rfl) ?_
                          refine lv_aload_n hx hb dX9_mostPairs_109 rfl (lv_at hl 1 rfl) ?_
                          refine lv_iload hx hb dX9_mostPairs_110 (lv_at hl 4 rfl) ?_
                          refine st_callRI (st_runVR (n := 1) (As := [.int x4_17]) (rest := [.int x4_17, .ref a_mates]) (q0 := 0) F (co_Mo_nextMate l D cy a_this a_mates a_row a_isKept a_refused a_text a_words a_cost a_steps a_bestMates a_comes s_above s_below s_length s_at s_behind s_readFlitches s_readFamilies s_doing s_mates_18 s_row x4_17 _ h) gX9_mostPairs_X9_nextMate rfl (by decide +kernel) rfl hKK hP [0, 2, 3] rfl rfl rfl rfl hl.1 rfl (Nat.le_of_ble_eq_true rfl) dX9_mostPairs_112) (fun r_26 h => ?_)
                          obtain ⟨hi_27, h⟩ := h
                          refine va_iast hx hb hK hP hD hS 2 1 rfl rfl hi_27 dX9_mostPairs_115 (fun H locs hP hD hS => ?_)
                          obtain ⟨s_mates_28, es_mates_28⟩ : ∃ f : Nat → Int32, f = upd s_mates_18 (Int32.toNatClampNeg x4_17) r_26 := ⟨_, rfl⟩
                          have hP : va_P D vwCl (Wd_Mo_mostPairs cy a_this a_bestMates a_mates a_row a_isKept a_refused a_text a_words a_cost a_steps a_comes s_above s_below s_length s_at s_behind s_readFlitches s_readFamilies s_doing s_bestMates_14 s_mates_28 s_row) H := by rw [es_mates_28]; exact hP
                          have hD : va_D A (Wd_Mo_mostPairs cy a_this a_bestMates a_mates a_row a_isKept a_refused a_text a_words a_cost a_steps a_comes s_above s_below s_length s_at s_behind s_readFlitches s_readFamilies s_doing s_bestMates_14 s_mates_28 s_row) := by rw [es_mates_28]; exact hD
                          have h := h s_mates_28 es_mates_28
                          exact kJ116_23 _ _ _ _ h hP hD hS (lv_sub hl [1, 2, 3, 0] rfl)
                      refine lv_if_lt (tgt := 97) hx hb dX9_mostPairs_90 (by decide) (fun c_29 => ?_) (fun c_29 => ?_)
                      · have h := h.1 c_29
                        refine lv_iconst (v := 0) hx hb dX9_mostPairs_97 (by decide) ?_
                        exact kJ98_21 _ _ _ _ h hP hD hS (lv_sub hl [0, 1, 2, 3] rfl)
                      · have h := h.2 c_29
                        refine lv_iconst (v := 1) hx hb dX9_mostPairs_93 (by decide) ?_
                        refine lv_goto (tgt := 98) hx hb dX9_mostPairs_94 (by decide) ?_
                        exact kJ98_21 _ _ _ _ h hP hD hS (lv_sub hl [0, 1, 2, 3] rfl)
                    refine lv_if_lt (tgt := 88) hx hb dX9_mostPairs_60 (by decide) (fun c_30 => ?_) (fun c_30 => ?_)
                    · have h := h.1 c_30
                      exact kJ88_19  _ _ _ h hP hD hS (lv_sub hl [0, 1, 2, 3] rfl)
                    · have h := h.2 c_30
                      refine lv_aload_n hx hb dX9_mostPairs_63 rfl (lv_at hl 0 rfl) ?_
                      refine lv_iload hx hb dX9_mostPairs_64 (lv_at hl 3 rfl) ?_
                      refine st_callRI (st_runVR (n := 1) (As := [.int x4_17]) (rest := []) (q0 := 0) F (co_Mo_nextMate l D cy a_this a_mates a_row a_isKept a_refused a_text a_words a_cost a_steps a_bestMates a_comes s_above s_below s_length s_at s_behind s_readFlitches s_readFamilies s_doing s_mates_18 s_row x4_17 _ h) gX9_mostPairs_X9_nextMate rfl (by decide +kernel) rfl hKK hP [0, 2, 3] rfl rfl rfl rfl hl.1 rfl (Nat.le_of_ble_eq_true rfl) dX9_mostPairs_66) (fun r_31 h => ?_)
                      refine lv_iload hx hb dX9_mostPairs_69 (lv_at hl 3 rfl) ?_
                      refine lv_icmp_ne (tgt := 88) hx hb dX9_mostPairs_71 (by decide) (fun c_32 => ?_) (fun c_32 => ?_)
                      · have h := h.1 c_32
                        exact kJ88_19  _ _ _ h hP hD hS (lv_sub hl [0, 1, 2, 3] rfl)
                      · have h := h.2 c_32
                        refine lv_aload_n hx hb dX9_mostPairs_74 rfl (lv_at hl 0 rfl) ?_
                        refine va_get (D := D) (ci := 8) (v := .ref a_mates) (C := RX9) (T := TX9) (N := 18) hx hb hts in_X9 hown hK hP 0 rfl rfl 15 (by decide) fl_36 (fun _ h9 => h9) rfl dX9_mostPairs_75 ?_
                        refine lv_iload hx hb dX9_mostPairs_78 (lv_at hl 3 rfl) ?_
                        refine lv_iconst (v := (-1)) hx hb dX9_mostPairs_80 (by decide) ?_
                        obtain ⟨hi_33, h⟩ := h
                        refine va_iast hx hb hK hP hD hS 2 1 rfl rfl hi_33 dX9_mostPairs_81 (fun H locs hP hD hS => ?_)
                        obtain ⟨s_mates_34, es_mates_34⟩ : ∃ f : Nat → Int32, f = upd s_mates_18 (Int32.toNatClampNeg x4_17) (-1) := ⟨_, rfl⟩
                        have hP : va_P D vwCl (Wd_Mo_mostPairs cy a_this a_bestMates a_mates a_row a_isKept a_refused a_text a_words a_cost a_steps a_comes s_above s_below s_length s_at s_behind s_readFlitches s_readFamilies s_doing s_bestMates_14 s_mates_34 s_row) H := by rw [es_mates_34]; exact hP
                        have hD : va_D A (Wd_Mo_mostPairs cy a_this a_bestMates a_mates a_row a_isKept a_refused a_text a_words a_cost a_steps a_comes s_above s_below s_length s_at s_behind s_readFlitches s_readFamilies s_doing s_bestMates_14 s_mates_34 s_row) := by rw [es_mates_34]; exact hD
                        have h := h s_mates_34 es_mates_34
                        obtain ⟨x4_35, ex4_35⟩ : ∃ y : Int32, y = x4_17 + (-1) := ⟨_, rfl⟩
                        have h := h x4_35 ex4_35
                        refine lv_iinc (v := x4_35) (lv' := [(4, .int x4_35), (0, .ref a_this), (1, .int x1_1), (2, .int x2_13)]) hx hb dX9_mostPairs_82 hl (k := 3) rfl (by rw [ex4_35]; rfl) (by decide) rfl (fun ls hl => ?_)
                        refine lv_goto (tgt := 58) hx hb dX9_mostPairs_85 (by decide) ?_
                        exact ih58_18 _ _ _ _ _ h hP hD hS (lv_sub hl [1, 2, 3, 0] rfl)
                exact kT58_18 n58_18 _ _ _ _ _ h hP hD hS (lv_sub hl [1, 2, 3, 0] rfl)
              refine lv_icmp_le (tgt := 53) hx hb dX9_mostPairs_41 (by decide) (fun c_36 => ?_) (fun c_36 => ?_)
              · have h := h.1 c_36
                exact kJ53_14 _ _ _ _ _ h hP hD hS (lv_sub hl [0, 1, 2] rfl)
              · have h := h.2 c_36
                refine lv_aload_n hx hb dX9_mostPairs_44 rfl (lv_at hl 0 rfl) ?_
                refine st_callRI (st_runVR (n := 0) (As := []) (rest := []) (q0 := 0) F (co_Mo_pairs l D cy a_this a_mates a_row a_isKept a_refused a_text a_words a_cost a_steps a_bestMates a_comes s_above s_below s_length s_at s_behind s_readFlitches s_readFamilies s_doing s_mates_9 s_row _ h) gX9_mostPairs_X9_pairs rfl (by decide +kernel) rfl hKK hP [0, 2, 3] rfl rfl rfl rfl hl.1 rfl (Nat.le_of_ble_eq_true rfl) dX9_mostPairs_45) (fun r_37 h => ?_)
                refine lv_istore_n (lv' := [(2, .int r_37), (0, .ref a_this), (1, .int x1_1), (3, .int x3_7)]) hx hb dX9_mostPairs_48 rfl hl (by decide) rfl (fun ls hl => ?_)
                refine lv_aload_n hx hb dX9_mostPairs_49 rfl (lv_at hl 1 rfl) ?_
                refine st_callV (WR := []) (WSn := fun u => (Wd_Mo_mostPairs cy a_this a_bestMates a_mates a_row a_isKept a_refused a_text a_words a_cost a_steps a_comes s_above s_below s_length s_at s_behind s_readFlitches s_readFamilies s_doing u s_mates_9 s_row)) (st_runV (n := 0) (As := []) (rest := []) (q0 := 0) F ((co_Mo_keepMates l D cy a_this a_bestMates a_mates a_row a_isKept a_refused a_text a_words a_cost a_steps a_comes s_above s_below s_length s_at s_behind s_readFlitches s_readFamilies s_doing s_bestMates_8 s_mates_9 s_row _ h) _) rfl gX9_mostPairs_X9_keepMates rfl (by decide +kernel) rfl hKK hP hD [0, 1, 2, 3] rfl rfl rfl rfl rfl hl.1 rfl (Nat.le_of_ble_eq_true rfl) dX9_mostPairs_50) hP hD hS hA [0, 1, 2, 3] [] [0, 1, 2, 3] rfl rfl rfl (fun _ => rfl) (fun u H locs h hP hD hS => ?_)
                obtain ⟨s_bestMates_39, rfl⟩ : ∃ z, z = u := ⟨_, rfl⟩
                have hP : va_P D vwCl (Wd_Mo_mostPairs cy a_this a_bestMates a_mates a_row a_isKept a_refused a_text a_words a_cost a_steps a_comes s_above s_below s_length s_at s_behind s_readFlitches s_readFamilies s_doing s_bestMates_39 s_mates_9 s_row) H := hP
                have hD : va_D A (Wd_Mo_mostPairs cy a_this a_bestMates a_mates a_row a_isKept a_refused a_text a_words a_cost a_steps a_comes s_above s_below s_length s_at s_behind s_readFlitches s_readFamilies s_doing s_bestMates_39 s_mates_9 s_row) := hD
                exact kJ53_14 _ _ _ _ _ h hP hD hS (lv_sub hl [1, 2, 0] rfl)
        exact kT32_9 n32_9 _ _ _ _ _ _ _ h hP hD hS (lv_sub hl [1, 2, 3, 0] rfl)
      · have h := h.2 c_5
        refine lv_aload_n hx hb dX9_mostPairs_17 rfl (lv_at hl 0 rfl) ?_
        refine va_get (D := D) (ci := 8) (v := .ref a_mates) (C := RX9) (T := TX9) (N := 18) hx hb hts in_X9 hown hK hP 0 rfl rfl 15 (by decide) fl_36 (fun _ h9 => h9) rfl dX9_mostPairs_18 ?_
        refine lv_iload_n hx hb dX9_mostPairs_21 rfl (lv_at hl 3 rfl) ?_
        refine lv_iconst (v := (-1)) hx hb dX9_mostPairs_22 (by decide) ?_
        obtain ⟨hi_40, h⟩ := h
        refine va_iast hx hb hK hP hD hS 2 1 rfl rfl hi_40 dX9_mostPairs_23 (fun H locs hP hD hS => ?_)
        obtain ⟨s_mates_41, es_mates_41⟩ : ∃ f : Nat → Int32, f = upd s_mates_3 (Int32.toNatClampNeg x3_2) (-1) := ⟨_, rfl⟩
        have hP : va_P D vwCl (Wd_Mo_mostPairs cy a_this a_bestMates a_mates a_row a_isKept a_refused a_text a_words a_cost a_steps a_comes s_above s_below s_length s_at s_behind s_readFlitches s_readFamilies s_doing s_bestMates s_mates_41 s_row) H := by rw [es_mates_41]; exact hP
        have hD : va_D A (Wd_Mo_mostPairs cy a_this a_bestMates a_mates a_row a_isKept a_refused a_text a_words a_cost a_steps a_comes s_above s_below s_length s_at s_behind s_readFlitches s_readFamilies s_doing s_bestMates s_mates_41 s_row) := by rw [es_mates_41]; exact hD
        have h := h s_mates_41 es_mates_41
        obtain ⟨x3_42, ex3_42⟩ : ∃ y : Int32, y = x3_2 + 1 := ⟨_, rfl⟩
        have h := h x3_42 ex3_42
        refine lv_iinc (v := x3_42) (lv' := [(3, .int x3_42), (0, .ref a_this), (1, .int x1_1), (2, .int (-1))]) hx hb dX9_mostPairs_24 hl (k := 3) rfl (by rw [ex3_42]; rfl) (by decide) rfl (fun ls hl => ?_)
        refine lv_goto (tgt := 12) hx hb dX9_mostPairs_27 (by decide) ?_
        exact ih12_3 _ _ _ _ _ h hP hD hS (lv_sub hl [1, 2, 3, 0] rfl)
  exact kT12_3 n12_3 _ _ _ _ _ h hP hD hS (lv_sub hl [3, 2, 1, 0] rfl)
abbrev Wd_Mo_marry (cy : ClassId × ClassId × ClassId × ClassId) (a_this a_bestMates a_mates a_refused a_row a_isKept a_text a_words a_cost a_steps a_comes : Nat) (s_above : Int64) (s_below : Int64) (s_length : Int32) (s_at : Int32) (s_behind : Int32) (s_readFlitches : Int32) (s_readFamilies : Int32) (s_doing : Int32) (s_bestMates : Nat → Int32) (s_mates : Nat → Int32) (s_refused : Nat → Int32) (s_row : Nat → Int32) : va_W := [(a_this, .inr (8, [.ref a_row, .ref a_isKept, .ref a_refused, .long s_above, .long s_below, .ref a_text, .int s_length, .ref a_words, .int s_at, .int s_behind, .int s_readFlitches, .int s_readFamilies, .int s_doing, .ref a_cost, .ref a_steps, .ref a_mates, .ref a_bestMates, .ref a_comes])), (a_bestMates, .inl (cy.2.1, 7, .inl s_bestMates)), (a_mates, .inl (cy.2.1, 7, .inl s_mates)), (a_refused, .inl (cy.2.1, 3, .inl s_refused)), (a_row, .inl (cy.2.1, 770, .inl s_row))]
abbrev rm_Mo_marry : Room := { frames := 4, cells := 0, slots := 0, locals := 91 }
def wp_Mo_marry (x1 : Int32) (s_bestMates : Nat → Int32) (s_mates : Nat → Int32) (s_refused : Nat → Int32) (s_row : Nat → Int32) (Q : Int32 → (Nat → Int32) → (Nat → Int32) → (Nat → Int32) → Prop) : Prop := jn0 (fun (J20 : Prop) => ((x1 = (-1) → J20) ∧ (¬ x1 = (-1) → wp_Mo_isFamily x1 s_row (fun (r_8 : Int32) => ((¬ r_8 = 0 → J20) ∧ (r_8 = 0 → wp_Mo_badAs (-10) s_refused (fun (r_10 : Int32) (s_refused_11 : Nat → Int32) => Q r_10 s_bestMates s_mates s_refused_11))))))) (wp_Mo_mostPairs s_bestMates s_mates s_row (fun (r_2 : Int32) (s_bestMates_3 : Nat → Int32) (s_mates_4 : Nat → Int32) => ((¬ x1 = (-1) → vp_in x1 7 ∧ Q (s_bestMates_3 (Int32.toNatClampNeg x1)) s_bestMates_3 s_mates_4 s_refused) ∧ (x1 = (-1) → Q r_2 s_bestMates_3 s_mates_4 s_refused))))
set_option maxHeartbeats 4000000 in
set_option maxRecDepth 100000 in
theorem co_Mo_marry (l : Launch) (D : va_G) (cy : ClassId × ClassId × ClassId × ClassId) (a_this a_bestMates a_mates a_refused a_row a_isKept a_text a_words a_cost a_steps a_comes : Nat) (s_above : Int64) (s_below : Int64) (s_length : Int32) (s_at : Int32) (s_behind : Int32) (s_readFlitches : Int32) (s_readFamilies : Int32) (s_doing : Int32) (s_bestMates : Nat → Int32) (s_mates : Nat → Int32) (s_refused : Nat → Int32) (s_row : Nat → Int32) (x1 : Int32) (Q : Int32 → (Nat → Int32) → (Nat → Int32) → (Nat → Int32) → Prop) (h : wp_Mo_marry x1 s_bestMates s_mates s_refused s_row Q) : CoI l yX9_marry wsX9_marry rm_Mo_marry D cy [.ref a_this, .int x1] (Wd_Mo_marry cy a_this a_bestMates a_mates a_refused a_row a_isKept a_text a_words a_cost a_steps a_comes s_above s_below s_length s_at s_behind s_readFlitches s_readFamilies s_doing s_bestMates s_mates s_refused s_row) (fun u : (Nat → Int32) × (Nat → Int32) × (Nat → Int32) => (Wd_Mo_marry cy a_this a_bestMates a_mates a_refused a_row a_isKept a_text a_words a_cost a_steps a_comes s_above s_below s_length s_at s_behind s_readFlitches s_readFamilies s_doing u.1 u.2.1 u.2.2 s_row)) (fun (r : Int32) (u : (Nat → Int32) × (Nat → Int32) × (Nat → Int32)) => Q r u.1 u.2.1 u.2.2) := by
  refine st_metI (cc := cX9_marry) (maxL := 3) RX9 (by decide) rfl rfl (Nat.le_of_ble_eq_true rfl) ?_
  intro p e s m args below meth c A QQ ls F hA hKK hP hD hS hl hret
  have hK := hKK.1
  have hnest := hKK.2.1
  have hx := F.1
  have hb := F.2.1
  have hown := F.2.2.2.1
  have hts := F.2.2.2.2
  have in_X9 : ∀ w ∈ u_ws RX9 TX9 18, w ∈ wsX9_marry := (fun _ h => List.mem_cons_of_mem _ (List.mem_append_right _ h))
  have fl_39 := (hts (.fieldLink RX9 39 "RasherCaseModel" "bestMates" "[I") (List.mem_of_getElem? (i := 1) rfl))
  have hl : lv_has ls 3 [(0, .ref a_this), (1, .int x1)] := hl
  unfold wp_Mo_marry at h
  refine lv_iload_n hx hb dX9_marry_0 rfl (lv_at hl 1 rfl) ?_
  refine lv_iconst (v := (-1)) hx hb dX9_marry_1 (by decide) ?_
  obtain ⟨J20, hJ20, h⟩ := jn0_ex h
  have kJ20_0 : ∀  (H : Heap) (locs : List Loc) (ls : Array Slot), J20 → va_P D vwCl (Wd_Mo_marry cy a_this a_bestMates a_mates a_refused a_row a_isKept a_text a_words a_cost a_steps a_comes s_above s_below s_length s_at s_behind s_readFlitches s_readFamilies s_doing s_bestMates s_mates s_refused s_row) H → va_D A (Wd_Mo_marry cy a_this a_bestMates a_mates a_refused a_row a_isKept a_text a_words a_cost a_steps a_comes s_above s_below s_length s_at s_behind s_readFlitches s_readFamilies s_doing s_bestMates s_mates s_refused s_row) → va_S A s.heap H locs → lv_has ls 3 [(0, .ref a_this), (1, .int x1)] → W p l e rm_Mo_marry s m args below meth c H locs 0 0 QQ (F0 m 20 ls []) := by
    intro  H locs ls h hP hD hS hl
    have h := hJ20  h
    refine lv_aload_n hx hb dX9_marry_20 rfl (lv_at hl 0 rfl) ?_
    refine st_callI (WR := [3].filterMap (fun i => (Wd_Mo_marry cy a_this a_bestMates a_mates a_refused a_row a_isKept a_text a_words a_cost a_steps a_comes s_above s_below s_length s_at s_behind s_readFlitches s_readFamilies s_doing s_bestMates s_mates s_refused s_row)[i]?)) (WSn := fun u => (Wd_Mo_marry cy a_this a_bestMates a_mates a_refused a_row a_isKept a_text a_words a_cost a_steps a_comes s_above s_below s_length s_at s_behind s_readFlitches s_readFamilies s_doing u.1 u.2 s_refused s_row)) (st_runV (n := 0) (As := []) (rest := []) (q0 := 0) F ((co_Mo_mostPairs l D cy a_this a_bestMates a_mates a_row a_isKept a_refused a_text a_words a_cost a_steps a_comes s_above s_below s_length s_at s_behind s_readFlitches s_readFamilies s_doing s_bestMates s_mates s_row _ h) _) rfl gX9_marry_X9_mostPairs rfl (by decide +kernel) rfl hKK hP hD [0, 1, 2, 4] rfl rfl rfl rfl rfl hl.1 rfl (Nat.le_of_ble_eq_true rfl) dX9_marry_21) hP hD hS hA [0, 1, 2, 4] [3] [1, 2, 3, 0, 4] rfl rfl rfl (fun _ => rfl) (fun r_2 u H locs h hP hD hS => ?_)
    obtain ⟨s_bestMates_3, s_mates_4⟩ := u
    dsimp only at h hP hD
    have hP : va_P D vwCl (Wd_Mo_marry cy a_this a_bestMates a_mates a_refused a_row a_isKept a_text a_words a_cost a_steps a_comes s_above s_below s_length s_at s_behind s_readFlitches s_readFamilies s_doing s_bestMates_3 s_mates_4 s_refused s_row) H := hP
    have hD : va_D A (Wd_Mo_marry cy a_this a_bestMates a_mates a_refused a_row a_isKept a_text a_words a_cost a_steps a_comes s_above s_below s_length s_at s_behind s_readFlitches s_readFamilies s_doing s_bestMates_3 s_mates_4 s_refused s_row) := hD
    refine lv_istore_n (lv' := [(2, .int r_2), (0, .ref a_this), (1, .int x1)]) hx hb dX9_marry_24 rfl hl (by decide) rfl (fun ls hl => ?_)
    refine lv_iload_n hx hb dX9_marry_25 rfl (lv_at hl 2 rfl) ?_
    refine lv_iconst (v := (-1)) hx hb dX9_marry_26 (by decide) ?_
    refine lv_icmp_ne (tgt := 34) hx hb dX9_marry_27 (by decide) (fun c_5 => ?_) (fun c_5 => ?_)
    · have h := h.1 c_5
      refine lv_aload_n hx hb dX9_marry_34 rfl (lv_at hl 1 rfl) ?_
      refine va_get (D := D) (ci := 8) (v := .ref a_bestMates) (C := RX9) (T := TX9) (N := 18) hx hb hts in_X9 hown hK hP 0 rfl rfl 16 (by decide) fl_39 (fun _ h9 => h9) rfl dX9_marry_35 ?_
      refine lv_iload_n hx hb dX9_marry_38 rfl (lv_at hl 2 rfl) ?_
      obtain ⟨hi_6, h⟩ := h
      refine va_iald hx hb hK hP 1 1 rfl rfl hi_6 dX9_marry_39 ?_
      exact hret _ (s_bestMates_3, s_mates_4, s_refused) _ _ _ _ h hP hD hS dX9_marry_40
    · have h := h.2 c_5
      refine lv_iload_n hx hb dX9_marry_30 rfl (lv_at hl 0 rfl) ?_
      refine lv_goto (tgt := 40) hx hb dX9_marry_31 (by decide) ?_
      exact hret _ (s_bestMates_3, s_mates_4, s_refused) _ _ _ _ h hP hD hS dX9_marry_40
  refine lv_icmp_eq (tgt := 20) hx hb dX9_marry_2 (by decide) (fun c_7 => ?_) (fun c_7 => ?_)
  · have h := h.1 c_7
    exact kJ20_0  _ _ _ h hP hD hS (lv_sub hl [0, 1] rfl)
  · have h := h.2 c_7
    refine lv_aload_n hx hb dX9_marry_5 rfl (lv_at hl 0 rfl) ?_
    refine lv_iload_n hx hb dX9_marry_6 rfl (lv_at hl 1 rfl) ?_
    refine st_callRI (st_runVR (n := 1) (As := [.int x1]) (rest := []) (q0 := 0) F (co_Mo_isFamily l D cy a_this a_row a_isKept a_refused a_text a_words a_cost a_steps a_mates a_bestMates a_comes s_above s_below s_length s_at s_behind s_readFlitches s_readFamilies s_doing s_row x1 _ h) gX9_marry_X9_isFamily rfl (by decide +kernel) rfl hKK hP [0, 4] rfl rfl rfl rfl hl.1 rfl (Nat.le_of_ble_eq_true rfl) dX9_marry_7) (fun r_8 h => ?_)
    refine lv_if_ne (tgt := 20) hx hb dX9_marry_10 (by decide) (fun c_9 => ?_) (fun c_9 => ?_)
    · have h := h.1 c_9
      exact kJ20_0  _ _ _ h hP hD hS (lv_sub hl [0, 1] rfl)
    · have h := h.2 c_9
      refine lv_aload_n hx hb dX9_marry_13 rfl (lv_at hl 0 rfl) ?_
      refine lv_bipush (v := (-10)) hx hb dX9_marry_14 (by decide) ?_
      refine st_callI (WR := [1, 2, 4].filterMap (fun i => (Wd_Mo_marry cy a_this a_bestMates a_mates a_refused a_row a_isKept a_text a_words a_cost a_steps a_comes s_above s_below s_length s_at s_behind s_readFlitches s_readFamilies s_doing s_bestMates s_mates s_refused s_row)[i]?)) (WSn := fun u => (Wd_Mo_marry cy a_this a_bestMates a_mates a_refused a_row a_isKept a_text a_words a_cost a_steps a_comes s_above s_below s_length s_at s_behind s_readFlitches s_readFamilies s_doing s_bestMates s_mates u s_row)) (st_runV (n := 1) (As := [.int (-10)]) (rest := []) (q0 := 0) F ((co_Mo_badAs l D cy a_this a_refused a_row a_isKept a_text a_words a_cost a_steps a_mates a_bestMates a_comes s_above s_below s_length s_at s_behind s_readFlitches s_readFamilies s_doing s_refused (-10) _ h) _) rfl gX9_marry_X9_badAs rfl (by decide +kernel) rfl hKK hP hD [0, 3] rfl rfl rfl rfl rfl hl.1 rfl (Nat.le_of_ble_eq_true rfl) dX9_marry_16) hP hD hS hA [0, 3] [1, 2, 4] [3, 0, 1, 4, 2] rfl rfl rfl (fun _ => rfl) (fun r_10 u H locs h hP hD hS => ?_)
      obtain ⟨s_refused_11, rfl⟩ : ∃ z, z = u := ⟨_, rfl⟩
      have hP : va_P D vwCl (Wd_Mo_marry cy a_this a_bestMates a_mates a_refused a_row a_isKept a_text a_words a_cost a_steps a_comes s_above s_below s_length s_at s_behind s_readFlitches s_readFamilies s_doing s_bestMates s_mates s_refused_11 s_row) H := hP
      have hD : va_D A (Wd_Mo_marry cy a_this a_bestMates a_mates a_refused a_row a_isKept a_text a_words a_cost a_steps a_comes s_above s_below s_length s_at s_behind s_readFlitches s_readFamilies s_doing s_bestMates s_mates s_refused_11 s_row) := hD
      exact hret _ (s_bestMates, s_mates, s_refused_11) _ _ _ _ h hP hD hS dX9_marry_19
