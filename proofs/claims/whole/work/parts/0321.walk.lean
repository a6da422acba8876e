abbrev Wd_Mo_seen (cy : ClassId × ClassId × ClassId × ClassId) (a_this a_refused a_row a_isKept a_text a_words a_cost a_steps a_mates a_bestMates a_comes : Nat) (s_above : Int64) (s_below : Int64) (s_length : Int32) (s_at : Int32) (s_behind : Int32) (s_readFlitches : Int32) (s_readFamilies : Int32) (s_doing : Int32) (s_refused : Nat → Int32) (s_row : Nat → Int32) : va_W := [(a_this, .inr (8, [.ref a_row, .ref a_isKept, .ref a_refused, .long s_above, .long s_below, .ref a_text, .int s_length, .ref a_words, .int s_at, .int s_behind, .int s_readFlitches, .int s_readFamilies, .int s_doing, .ref a_cost, .ref a_steps, .ref a_mates, .ref a_bestMates, .ref a_comes])), (a_refused, .inl (cy.2.1, 3, .inl s_refused)), (a_row, .inl (cy.2.1, 770, .inl s_row))]
abbrev rm_Mo_seen : Room := { frames := 2, cells := 0, slots := 0, locals := 43 }
def wp_Mo_seen (x1 : Int32) (x2 : Int32) (x3 : Int32) (s_refused : Nat → Int32) (s_row : Nat → Int32) (Q : Int32 → (Nat → Int32) → (Nat → Int32) → Prop) : Prop := wp_Mo_isFamily x1 s_row (fun (r_1 : Int32) => jn0 (fun (J27 : Prop) => ((r_1 = 0 → J27) ∧ (¬ r_1 = 0 → wp_Mo_in x2 0 60 (fun (r_6 : Int32) => ((r_6 = 0 → J27) ∧ (¬ r_6 = 0 → wp_Mo_in x3 0 1 (fun (r_8 : Int32) => ((¬ r_8 = 0 → ((¬ (s_row (Int32.toNatClampNeg 42)) = 5 → ∀ x4_11 : Int32, x4_11 = (43 + (3 * (s_row (Int32.toNatClampNeg 42)))) → vp_in x4_11 770 ∧ ∀ s_row_13 : Nat → Int32, s_row_13 = upd s_row (Int32.toNatClampNeg x4_11) x1 → vp_in (x4_11 + 1) 770 ∧ ∀ s_row_15 : Nat → Int32, s_row_15 = upd s_row_13 (Int32.toNatClampNeg (x4_11 + 1)) x2 → vp_in (x4_11 + 2) 770 ∧ ∀ s_row_17 : Nat → Int32, s_row_17 = upd s_row_15 (Int32.toNatClampNeg (x4_11 + 2)) x3 → ∀ s_row_18 : Nat → Int32, s_row_18 = upd s_row_17 (Int32.toNatClampNeg 42) ((s_row_17 (Int32.toNatClampNeg 42)) + 1) → Q (s_row_18 (Int32.toNatClampNeg 42)) s_refused s_row_18) ∧ ((s_row (Int32.toNatClampNeg 42)) = 5 → wp_Mo_refuse (-4) s_refused (fun (r_19 : Int32) (s_refused_20 : Nat → Int32) => Q r_19 s_refused_20 s_row)))) ∧ (r_8 = 0 → J27))))))))) (wp_Mo_refuse (-2) s_refused (fun (r_3 : Int32) (s_refused_4 : Nat → Int32) => Q r_3 s_refused_4 s_row)))
set_option maxHeartbeats 4000000 in
set_option maxRecDepth 100000 in
theorem co_Mo_seen (l : Launch) (D : va_G) (cy : ClassId × ClassId × ClassId × ClassId) (a_this a_refused a_row a_isKept a_text a_words a_cost a_steps a_mates a_bestMates a_comes : Nat) (s_above : Int64) (s_below : Int64) (s_length : Int32) (s_at : Int32) (s_behind : Int32) (s_readFlitches : Int32) (s_readFamilies : Int32) (s_doing : Int32) (s_refused : Nat → Int32) (s_row : Nat → Int32) (x1 : Int32) (x2 : Int32) (x3 : Int32) (Q : Int32 → (Nat → Int32) → (Nat → Int32) → Prop) (h : wp_Mo_seen x1 x2 x3 s_refused s_row Q) : CoI l yX9_seen wsX9_seen rm_Mo_seen D cy [.ref a_this, .int x1, .int x2, .int x3] (Wd_Mo_seen cy a_this a_refused a_row a_isKept a_text a_words a_cost a_steps a_mates a_bestMates a_comes s_above s_below s_length s_at s_behind s_readFlitches s_readFamilies s_doing s_refused s_row) (fun u : (Nat → Int32) × (Nat → Int32) => (Wd_Mo_seen cy a_this a_refused a_row a_isKept a_text a_words a_cost a_steps a_mates a_bestMates a_comes s_above s_below s_length s_at s_behind s_readFlitches s_readFamilies s_doing u.1 u.2)) (fun (r : Int32) (u : (Nat → Int32) × (Nat → Int32)) => Q r u.1 u.2) := by
  refine st_metI (cc := cX9_seen) (maxL := 5) RX9 (by decide) rfl rfl (Nat.le_of_ble_eq_true rfl) ?_
  intro p e s m args below meth c A QQ ls F hA hKK hP hD hS hl hret
  have hK := hKK.1
  have hnest := hKK.2.1
  have hx := F.1
  have hb := F.2.1
  have hown := F.2.2.2.1
  have hts := F.2.2.2.2
  have in_X9 : ∀ w ∈ u_ws RX9 TX9 18, w ∈ wsX9_seen := (fun _ h => List.mem_cons_of_mem _ (List.mem_append_right _ h))
  have fl_7 := (hts (.fieldLink RX9 7 "RasherCaseModel" "row" "[I") (List.mem_of_getElem? (i := 1) rfl))
  have hl : lv_has ls 5 [(0, .ref a_this), (1, .int x1), (2, .int x2), (3, .int x3)] := hl
  unfold wp_Mo_seen at h
  refine lv_aload_n hx hb dX9_seen_0 rfl (lv_at hl 0 rfl) ?_
  refine lv_iload_n hx hb dX9_seen_1 rfl (lv_at hl 1 rfl) ?_
  refine st_callRI (st_runVR (n := 1) (As := [.int x1]) (rest := []) (q0 := 0) F (co_Mo_isFamily l D cy a_this a_row a_isKept a_refused a_text a_words a_cost a_steps a_mates a_bestMates a_comes s_above s_below s_length s_at s_behind s_readFlitches s_readFamilies s_doing s_row x1 _ h) gX9_seen_X9_isFamily rfl (by decide +kernel) rfl hKK hP [0, 2] rfl rfl rfl rfl hl.1 rfl (Nat.le_of_ble_eq_true rfl) dX9_seen_2) (fun r_1 h => ?_)
  obtain ⟨J27, hJ27, h⟩ := jn0_ex h
  have kJ27_1 : ∀  (H : Heap) (locs : List Loc) (ls : Array Slot), J27 → va_P D vwCl (Wd_Mo_seen cy a_this a_refused a_row a_isKept a_text a_words a_cost a_steps a_mates a_bestMates a_comes s_above s_below s_length s_at s_behind s_readFlitches s_readFamilies s_doing s_refused s_row) H → va_D A (Wd_Mo_seen cy a_this a_refused a_row a_isKept a_text a_words a_cost a_steps a_mates a_bestMates a_comes s_above s_below s_length s_at s_behind s_readFlitches s_readFamilies s_doing s_refused s_row) → va_S A s.heap H locs → lv_has ls 5 [(0, .ref a_this)] → W p l e rm_Mo_seen s m args below meth c H locs 0 0 QQ (F0 m 27 ls []) := by
    intro  H locs ls h hP hD hS hl
    have h := hJ27  h
    refine lv_aload_n hx hb dX9_seen_27 rfl (lv_at hl 0 rfl) ?_
    refine lv_bipush (v := (-2)) hx hb dX9_seen_28 (by decide) ?_
    refine st_callI (WR := [2].filterMap (fun i => (Wd_Mo_seen cy a_this a_refused a_row a_isKept a_text a_words a_cost a_steps a_mates a_bestMates a_comes s_above s_below s_length s_at s_behind s_readFlitches s_readFamilies s_doing s_refused s_row)[i]?)) (WSn := fun u => (Wd_Mo_seen cy a_this a_refused a_row a_isKept a_text a_words a_cost a_steps a_mates a_bestMates a_comes s_above s_below s_length s_at s_behind s_readFlitches s_readFamilies s_doing u s_row)) (st_runV (n := 1) (As := [.int (-2)]) (rest := []) (q0 := 0) F ((co_Mo_refuse l D cy a_this a_refused a_row a_isKept a_text a_words a_cost a_steps a_mates a_bestMates a_comes s_above s_below s_length s_at s_behind s_readFlitches s_readFamilies s_doing s_refused (-2) _ h) _) rfl gX9_seen_X9_refuse rfl (by decide +kernel) rfl hKK hP hD [0, 1] rfl rfl rfl rfl rfl hl.1 rfl (Nat.le_of_ble_eq_true rfl) dX9_seen_30) hP hD hS hA [0, 1] [2] [1, 2, 0] rfl rfl rfl (fun _ => rfl) (fun r_3 u H locs h hP hD hS => ?_)
    obtain ⟨s_refused_4, rfl⟩ : ∃ z, z = u := ⟨_, rfl⟩
    have hP : va_P D vwCl (Wd_Mo_seen cy a_this a_refused a_row a_isKept a_text a_words a_cost a_steps a_mates a_bestMates a_comes s_above s_below s_length s_at s_behind s_readFlitches s_readFamilies s_doing s_refused_4 s_row) H := hP
    have hD : va_D A (Wd_Mo_seen cy a_this a_refused a_row a_isKept a_text a_words a_cost a_steps a_mates a_bestMates a_comes s_above s_below s_length s_at s_behind s_readFlitches s_readFamilies s_doing s_refused_4 s_row) := hD
    exact hret _ (s_refused_4, s_row) _ _ _ _ h hP hD hS dX9_seen_33
  refine lv_if_eq (tgt := 27) hx hb dX9_seen_5 (by decide) (fun c_5 => ?_) (fun c_5 => ?_)
  · have h := h.1 c_5
    exact kJ27_1  _ _ _ h hP hD hS (lv_sub hl [0] rfl)
  · have h := h.2 c_5
    refine lv_iload_n hx hb dX9_seen_8 rfl (lv_at hl 2 rfl) ?_
    refine lv_iconst (v := 0) hx hb dX9_seen_9 (by decide) ?_
    refine lv_bipush (v := 60) hx hb dX9_seen_10 (by decide) ?_
    refine st_callRI (st_runSR (n := 3) (As := [.int x2, .int 0, .int 60]) (rest := []) F (co_Mo_in l D cy x2 0 60 _ h) gX9_seen_X9_in rfl (by decide +kernel) rfl hKK hP [] rfl rfl hl.1 rfl (Nat.le_of_ble_eq_true rfl) dX9_seen_12) (fun r_6 h => ?_)
    refine lv_if_eq (tgt := 27) hx hb dX9_seen_15 (by decide) (fun c_7 => ?_) (fun c_7 => ?_)
    · have h := h.1 c_7
      exact kJ27_1  _ _ _ h hP hD hS (lv_sub hl [0] rfl)
    · have h := h.2 c_7
      refine lv_iload_n hx hb dX9_seen_18 rfl (lv_at hl 3 rfl) ?_
      refine lv_iconst (v := 0) hx hb dX9_seen_19 (by decide) ?_
      refine lv_iconst (v := 1) hx hb dX9_seen_20 (by decide) ?_
      refine st_callRI (st_runSR (n := 3) (As := [.int x3, .int 0, .int 1]) (rest := []) F (co_Mo_in l D cy x3 0 1 _ h) gX9_seen_X9_in rfl (by decide +kernel) rfl hKK hP [] rfl rfl hl.1 rfl (Nat.le_of_ble_eq_true rfl) dX9_seen_21) (fun r_8 h => ?_)
      refine lv_if_ne (tgt := 34) hx hb dX9_seen_24 (by decide) (fun c_9 => ?_) (fun c_9 => ?_)
      · have h := h.1 c_9
        refine lv_aload_n hx hb dX9_seen_34 rfl (lv_at hl 0 rfl) ?_
        refine va_get (D := D) (ci := 8) (v := .ref a_row) (C := RX9) (T := TX9) (N := 18) hx hb hts in_X9 hown hK hP 0 rfl rfl 0 (by decide) fl_7 (fun _ h9 => h9) rfl dX9_seen_35 ?_
        refine lv_bipush (v := 42) hx hb dX9_seen_38 (by decide) ?_
        refine va_iald hx hb hK hP 2 1 rfl rfl (by unfold vp_in; decide) dX9_seen_40 ?_
        refine lv_iconst (v := 5) hx hb dX9_seen_41 (by decide) ?_
        refine lv_icmp_ne (tgt := 52) hx hb dX9_seen_42 (by decide) (fun c_10 => ?_) (fun c_10 => ?_)
        · have h := h.1 c_10
          refine lv_bipush (v := 43) hx hb dX9_seen_52 (by decide) ?_
          refine lv_iconst (v := 3) hx hb dX9_seen_54 (by decide) ?_
          refine lv_aload_n hx hb dX9_seen_55 rfl (lv_at hl 0 rfl) ?_
          refine va_get (D := D) (ci := 8) (v := .ref a_row) (C := RX9) (T := TX9) (N := 18) hx hb hts in_X9 hown hK hP 0 rfl rfl 0 (by decide) fl_7 (fun _ h9 => h9) rfl dX9_seen_56 ?_
          refine lv_bipush (v := 42) hx hb dX9_seen_59 (by decide) ?_
          refine va_iald hx hb hK hP 2 1 rfl rfl (by unfold vp_in; decide) dX9_seen_61 ?_
          refine lv_imul hx hb dX9_seen_62 ?_
          refine lv_iadd hx hb dX9_seen_63 ?_
          refine lv_topi (fun x4_11 ex4_11 => ?_)
          have h := h x4_11 ex4_11
          refine lv_istore (lv' := [(4, .int x4_11), (0, .ref a_this), (1, .int x1), (2, .int x2), (3, .int x3)]) hx hb dX9_seen_64 hl (by decide) rfl (fun ls hl => ?_)
          refine lv_aload_n hx hb dX9_seen_66 rfl (lv_at hl 1 rfl) ?_
          refine va_get (D := D) (ci := 8) (v := .ref a_row) (C := RX9) (T := TX9) (N := 18) hx hb hts in_X9 hown hK hP 0 rfl rfl 0 (by decide) fl_7 (fun _ h9 => h9) rfl dX9_seen_67 ?_
          refine lv_iload hx hb dX9_seen_70 (lv_at hl 0 rfl) ?_
          refine lv_iload_n hx hb dX9_seen_72 rfl (lv_at hl 2 rfl) ?_
          obtain ⟨hi_12, h⟩ := h
          refine va_iast hx hb hK hP hD hS 2 1 rfl rfl hi_12 dX9_seen_73 (fun H locs hP hD hS => ?_)
          obtain ⟨s_row_13, es_row_13⟩ : ∃ f : Nat → Int32, f = upd s_row (Int32.toNatClampNeg x4_11) x1 := ⟨_, rfl⟩
          have hP : va_P D vwCl (Wd_Mo_seen cy a_this a_refused a_row a_isKept a_text a_words a_cost a_steps a_mates a_bestMates a_comes s_above s_below s_length s_at s_behind s_readFlitches s_readFamilies s_doing s_refused s_row_13) H := by rw [es_row_13]; exact hP
          have hD : va_D A (Wd_Mo_seen cy a_this a_refused a_row a_isKept a_text a_words a_cost a_steps a_mates a_bestMates a_comes s_above s_below s_length s_at s_behind s_readFlitches s_readFamilies s_doing s_refused s_row_13) := by rw [es_row_13]; exact hD
          have h := h s_row_13 es_row_13
          refine lv_aload_n hx hb dX9_seen_74 rfl (lv_at hl 1 rfl) ?_
          refine va_get (D := D) (ci := 8) (v := .ref a_row) (C := RX9) (T := TX9) (N := 18) hx hb hts in_X9 hown hK hP 0 rfl rfl 0 (by decide) fl_7 (fun _ h9 => h9) rfl dX9_seen_75 ?_
          refine lv_iload hx hb dX9_seen_78 (lv_at hl 0 rfl) ?_
          refine lv_iconst (v := 1) hx hb dX9_seen_80 (by decide) ?_
          refine lv_iadd hx hb dX9_seen_81 ?_
          refine lv_iload_n hx hb dX9_seen_82 rfl (lv_at hl 3 rfl) ?_
          obtain ⟨hi_14, h⟩ := h
          refine va_iast hx hb hK hP hD hS 2 1 rfl rfl hi_14 dX9_seen_83 (fun H locs hP hD hS => ?_)
          obtain ⟨s_row_15, es_row_15⟩ : ∃ f : Nat → Int32, f = upd s_row_13 (Int32.toNatClampNeg (x4_11 + 1)) x2 := ⟨_, rfl⟩
          have hP : va_P D vwCl (Wd_Mo_seen cy a_this a_refused a_row a_isKept a_text a_words a_cost a_steps a_mates a_bestMates a_comes s_above s_below s_length s_at s_behind s_readFlitches s_readFamilies s_doing s_refused s_row_15) H := by rw [es_row_15]; exact hP
          have hD : va_D A (Wd_Mo_seen cy a_this a_refused a_row a_isKept a_text a_words a_cost a_steps a_mates a_bestMates a_comes s_above s_below s_length s_at s_behind s_readFlitches s_readFamilies s_doing s_refused s_row_15) := by rw [es_row_15]; exact hD
          have h := h s_row_15 es_row_15
          refine lv_aload_n hx hb dX9_seen_84 rfl (lv_at hl 1 rfl) ?_
          refine va_get (D := D) (ci := 8) (v := .ref a_row) (C := RX9) (T := TX9) (N := 18) hx hb hts in_X9 hown hK hP 0 rfl rfl 0 (by decide) fl_7 (fun _ h9 => h9) rfl dX9_seen_85 ?_
          refine lv_iload hx hb dX9_seen_88 (lv_at hl 0 rfl) ?_
          refine lv_iconst (v := 2) hx hb dX9_seen_90 (by decide) ?_
          refine lv_iadd hx hb dX9_seen_91 ?_
          refine lv_iload_n hx hb dX9_seen_92 rfl (lv_at hl 4 rfl) ?_
          obtain ⟨hi_16, h⟩ := h
          refine va_iast hx hb hK hP hD hS 2 1 rfl rfl hi_16 dX9_seen_93 (fun H locs hP hD hS => ?_)
          obtain ⟨s_row_17, es_row_17⟩ : ∃ f : Nat → Int32, f = upd s_row_15 (Int32.toNatClampNeg (x4_11 + 2)) x3 := ⟨_, rfl⟩
          have hP : va_P D vwCl (Wd_Mo_seen cy a_this a_refused a_row a_isKept a_text a_words a_cost a_steps a_mates a_bestMates a_comes s_above s_below s_length s_at s_behind s_readFlitches s_readFamilies s_doing s_refused s_row_17) H := by rw [es_row_17]; exact hP
          have hD : va_D A (Wd_Mo_seen cy a_this a_refused a_row a_isKept a_text a_words a_cost a_steps a_mates a_bestMates a_comes s_above s_below s_length s_at s_behind s_readFlitches s_readFamilies s_doing s_refused s_row_17) := by rw [es_row_17]; exact hD
          have h := h s_row_17 es_row_17
          refine lv_aload_n hx hb dX9_seen_94 rfl (lv_at hl 1 rfl) ?_
          refine va_get (D := D) (ci := 8) (v := .ref a_row) (C := RX9) (T := TX9) (N := 18) hx hb hts in_X9 hown hK hP 0 rfl rfl 0 (by decide) fl_7 (fun _ h9 => h9) rfl dX9_seen_95 ?_
          refine lv_bipush (v := 42) hx hb dX9_seen_98 (by decide) ?_
          refine lv_dup2_11 hx hb dX9_seen_100 rfl rfl ?_
          refine va_iald hx hb hK hP 2 1 rfl rfl (by unfold vp_in; decide) dX9_seen_101 ?_
          refine lv_iconst (v := 1) hx hb dX9_seen_102 (by decide) ?_
          refine lv_iadd hx hb dX9_seen_103 ?_
          refine va_iast hx hb hK hP hD hS 2 1 rfl rfl (by unfold vp_in; decide) dX9_seen_104 (fun H locs hP hD hS => ?_)
          obtain ⟨s_row_18, es_row_18⟩ : ∃ f : Nat → Int32, f = upd s_row_17 (Int32.toNatClampNeg 42) ((s_row_17 (Int32.toNatClampNeg 42)) + 1) := ⟨_, rfl⟩
          have hP : va_P D vwCl (Wd_Mo_seen cy a_this a_refused a_row a_isKept a_text a_words a_cost a_steps a_mates a_bestMates a_comes s_above s_below s_length s_at s_behind s_readFlitches s_readFamilies s_doing s_refused s_row_18) H := by rw [es_row_18]; exact hP
          have hD : va_D A (Wd_Mo_seen cy a_this a_refused a_row a_isKept a_text a_words a_cost a_steps a_mates a_bestMates a_comes s_above s_below s_length s_at s_behind s_readFlitches s_readFamilies s_doing s_refused s_row_18) := by rw [es_row_18]; exact hD
          have h := h s_row_18 es_row_18
          refine lv_aload_n hx hb dX9_seen_105 rfl (lv_at hl 1 rfl) ?_
          refine va_get (D := D) (ci := 8) (v := .ref a_row) (C := RX9) (T := TX9) (N := 18) hx hb hts in_X9 hown hK hP 0 rfl rfl 0 (by decide) fl_7 (fun _ h9 => h9) rfl dX9_seen_106 ?_
          refine lv_bipush (v := 42) hx hb dX9_seen_109 (by decide) ?_
          refine va_iald hx hb hK hP 2 1 rfl rfl (by unfold vp_in; decide) dX9_seen_111 ?_
          exact hret _ (s_refused, s_row_18) _ _ _ _ h hP hD hS dX9_seen_112
        · have h := h.2 c_10
          refine lv_aload_n hx hb dX9_seen_45 rfl (lv_at hl 0 rfl) ?_
          refine lv_bipush (v := (-4)) hx hb dX9_seen_46 (by decide) ?_
          refine st_callI (WR := [2].filterMap (fun i => (Wd_Mo_seen cy a_this a_refused a_row a_isKept a_text a_words a_cost a_steps a_mates a_bestMates a_comes s_above s_below s_length s_at s_behind s_readFlitches s_readFamilies s_doing s_refused s_row)[i]?)) (WSn := fun u => (Wd_Mo_seen cy a_this a_refused a_row a_isKept a_text a_words a_cost a_steps a_mates a_bestMates a_comes s_above s_below s_length s_at s_behind s_readFlitches s_readFamilies s_doing u s_row)) (st_runV (n := 1) (As := [.int (-4)]) (rest := []) (q0 := 0) F ((co_Mo_refuse l D cy a_this a_refused a_row a_isKept a_text a_words a_cost a_steps a_mates a_bestMates a_comes s_above s_below s_length s_at s_behind s_readFlitches s_readFamilies s_doing s_refused (-4) _ h) _) rfl gX9_seen_X9_refuse rfl (by decide +kernel) rfl hKK hP hD [0, 1] rfl rfl rfl rfl rfl hl.1 rfl (Nat.le_of_ble_eq_true rfl) dX9_seen_48) hP hD hS hA [0, 1] [2] [1, 2, 0] rfl rfl rfl (fun _ => rfl) (fun r_19 u H locs h hP hD hS => ?_)
          obtain ⟨s_refused_20, rfl⟩ : ∃ z, z = u := ⟨_, rfl⟩
          have hP : va_P D vwCl (Wd_Mo_seen cy a_this a_refused a_row a_isKept a_text a_words a_cost a_steps a_mates a_bestMates a_comes s_above s_below s_length s_at s_behind s_readFlitches s_readFamilies s_doing s_refused_20 s_row) H := hP
          have hD : va_D A (Wd_Mo_seen cy a_this a_refused a_row a_isKept a_text a_words a_cost a_steps a_mates a_bestMates a_comes s_above s_below s_length s_at s_behind s_readFlitches s_readFamilies s_doing s_refused_20 s_row) := hD
          exact hret _ (s_refused_20, s_row) _ _ _ _ h hP hD hS dX9_seen_51
      · have h := h.2 c_9
        exact kJ27_1  _ _ _ h hP hD hS (lv_sub hl [0] rfl)
abbrev Wd_Mo_isWill (cy : ClassId × ClassId × ClassId × ClassId) (a_this a_row a_isKept a_refused a_text a_words a_cost a_steps a_mates a_bestMates a_comes : Nat) (s_above : Int64) (s_below : Int64) (s_length : Int32) (s_at : Int32) (s_behind : Int32) (s_readFlitches : Int32) (s_readFamilies : Int32) (s_doing : Int32) (s_row : Nat → Int32) : va_W := [(a_this, .inr (8, [.ref a_row, .ref a_isKept, .ref a_refused, .long s_above, .long s_below, .ref a_text, .int s_length, .ref a_words, .int s_at, .int s_behind, .int s_readFlitches, .int s_readFamilies, .int s_doing, .ref a_cost, .ref a_steps, .ref a_mates, .ref a_bestMates, .ref a_comes])), (a_row, .inl (cy.2.1, 770, .inl s_row))]
abbrev rm_Mo_isWill : Room := { frames := 6, cells := 0, slots := 0, locals := 136 }
def wp_Mo_isWill (x1 : Int32) (x2 : Int32) (s_row : Nat → Int32) (Q : Int32 → (Nat → Int32) → Prop) : Prop := wp_Mo_layTried s_row (fun (s_row_2 : Nat → Int32) => vp_in (753 + x1) 770 ∧ ∀ s_row_4 : Nat → Int32, s_row_4 = upd s_row_2 (Int32.toNatClampNeg (753 + x1)) x2 → ∀ s_row_5 : Nat → Int32, s_row_5 = upd s_row_4 (Int32.toNatClampNeg 760) ((s_row_4 (Int32.toNatClampNeg 760)) &&& ((ishl 1 x1) ^^^ (-1))) → wp_Mo_whenTried x1 s_row_5 (fun (r_6 : Int32) (s_row_7 : Nat → Int32) => ∃ n : Nat, lpw2 (fun (B44 : Int32 → Int32 → Prop) (x4_8 : Int32) (x5_9 : Int32) => (((43 + (3 * (s_row_7 (Int32.toNatClampNeg 42)))) ≤ x5_9 → bz x4_8 ∧ Q x4_8 s_row_7) ∧ (¬ (43 + (3 * (s_row_7 (Int32.toNatClampNeg 42)))) ≤ x5_9 → jn1 (fun (J121 : Int32 → Prop) => jn0 (fun (J120 : Prop) => ((x4_8 = 0 → J120) ∧ (¬ x4_8 = 0 → vp_in x5_9 770 ∧ jn0 (fun (J116 : Prop) => ((¬ (s_row_7 (Int32.toNatClampNeg x5_9)) = x1 → J116) ∧ ((s_row_7 (Int32.toNatClampNeg x5_9)) = x1 → vp_in (x5_9 + 1) 770 ∧ jn1 (fun (J95 : Int32 → Prop) => (((s_row_7 (Int32.toNatClampNeg (x5_9 + 1))) < r_6 → J95 0) ∧ (¬ (s_row_7 (Int32.toNatClampNeg (x5_9 + 1))) < r_6 → J95 1))) (fun (v_22 : Int32) => vp_in (x5_9 + 2) 770 ∧ jn1 (fun (J113 : Int32 → Prop) => ((¬ (s_row_7 (Int32.toNatClampNeg (x5_9 + 2))) = 1 → J113 0) ∧ ((s_row_7 (Int32.toNatClampNeg (x5_9 + 2))) = 1 → J113 1))) (fun (v_25 : Int32) => ((¬ v_22 = v_25 → J120) ∧ (v_22 = v_25 → J116))))))) (J121 1)))) (J121 0)) (fun (v_13 : Int32) => ∀ x5_15 : Int32, x5_15 = x5_9 + 3 → B44 v_13 x5_15)))) n 1 43))
set_option maxHeartbeats 4000000 in
set_option maxRecDepth 100000 in
theorem co_Mo_isWill (l : Launch) (D : va_G) (cy : ClassId × ClassId × ClassId × ClassId) (a_this a_row a_isKept a_refused a_text a_words a_cost a_steps a_mates a_bestMates a_comes : Nat) (s_above : Int64) (s_below : Int64) (s_length : Int32) (s_at : Int32) (s_behind : Int32) (s_readFlitches : Int32) (s_readFamilies : Int32) (s_doing : Int32) (s_row : Nat → Int32) (x1 : Int32) (x2 : Int32) (Q : Int32 → (Nat → Int32) → Prop) (h : wp_Mo_isWill x1 x2 s_row Q) : CoI l yX9_isWill wsX9_isWill rm_Mo_isWill D cy [.ref a_this, .int x1, .int x2] (Wd_Mo_isWill cy a_this a_row a_isKept a_refused a_text a_words a_cost a_steps a_mates a_bestMates a_comes s_above s_below s_length s_at s_behind s_readFlitches s_readFamilies s_doing s_row) (fun u : (Nat → Int32) => (Wd_Mo_isWill cy a_this a_row a_isKept a_refused a_text a_words a_cost a_steps a_mates a_bestMates a_comes s_above s_below s_length s_at s_behind s_readFlitches s_readFamilies s_doing u)) (fun (r : Int32) (u : (Nat → Int32)) => Q r u) := by
  refine st_metZ (cc := cX9_isWill) (maxL := 6) RX9 (by decide) rfl rfl (Nat.le_of_ble_eq_true rfl) ?_
  intro p e s m args below meth c A QQ ls F hA hKK hP hD hS hl hret
  have hK := hKK.1
  have hnest := hKK.2.1
  have hx := F.1
  have hb := F.2.1
  have hown := F.2.2.2.1
  have hts := F.2.2.2.2
  have in_X9 : ∀ w ∈ u_ws RX9 TX9 18, w ∈ wsX9_isWill := (fun _ h => List.mem_cons_of_mem _ (List.mem_append_right _ h))
  have fl_7 := (hts (.fieldLink RX9 7 "RasherCaseModel" "row" "[I") (List.mem_of_getElem? (i := 1) rfl))
  have hl : lv_has ls 6 [(0, .ref a_this), (1, .int x1), (2, .int x2)] := hl
  unfold wp_Mo_isWill at h
  refine lv_aload_n hx hb dX9_isWill_0 rfl (lv_at hl 0 rfl) ?_
  refine st_callV (WR := []) (WSn := fun u => (Wd_Mo_isWill cy a_this a_row a_isKept a_refused a_text a_words a_cost a_steps a_mates a_bestMates a_comes s_above s_below s_length s_at s_behind s_readFlitches s_readFamilies s_doing u)) (st_runV (n := 0) (As := []) (rest := []) (q0 := 0) F ((co_Mo_layTried l D cy a_this a_row a_isKept a_refused a_text a_words a_cost a_steps a_mates a_bestMates a_comes s_above s_below s_length s_at s_behind s_readFlitches s_readFamilies s_doing s_row _ h) _) rfl gX9_isWill_X9_layTried rfl (by decide +kernel) rfl hKK hP hD [0, 1] rfl rfl rfl rfl rfl hl.1 rfl (Nat.le_of_ble_eq_true rfl) dX9_isWill_1) hP hD hS hA [0, 1] [] [0, 1] rfl rfl rfl (fun _ => rfl) (fun u H locs h hP hD hS => ?_)
  obtain ⟨s_row_2, rfl⟩ : ∃ z, z = u := ⟨_, rfl⟩
  have hP : va_P D vwCl (Wd_Mo_isWill cy a_this a_row a_isKept a_refused a_text a_words a_cost a_steps a_mates a_bestMates a_comes s_above s_below s_length s_at s_behind s_readFlitches s_readFamilies s_doing s_row_2) H := hP
  have hD : va_D A (Wd_Mo_isWill cy a_this a_row a_isKept a_refused a_text a_words a_cost a_steps a_mates a_bestMates a_comes s_above s_below s_length s_at s_behind s_readFlitches s_readFamilies s_doing s_row_2) := hD
  refine lv_aload_n hx hb dX9_isWill_4 rfl (lv_at hl 0 rfl) ?_
  refine va_get (D := D) (ci := 8) (v := .ref a_row) (C := RX9) (T := TX9) (N := 18) hx hb hts in_X9 hown hK hP 0 rfl rfl 0 (by decide) fl_7 (fun _ h9 => h9) rfl dX9_isWill_5 ?_
  refine lv_sipush (v := 753) hx hb dX9_isWill_8 (by decide) ?_
  refine lv_iload_n hx hb dX9_isWill_11 rfl (lv_at hl 1 rfl) ?_
  refine lv_iadd hx hb dX9_isWill_12 ?_
  refine lv_iload_n hx hb dX9_isWill_13 rfl (lv_at hl 2 rfl) ?_
  obtain ⟨hi_3, h⟩ := h
  refine va_iast hx hb hK hP hD hS 1 1 rfl rfl hi_3 dX9_isWill_14 (fun H locs hP hD hS => ?_)
  obtain ⟨s_row_4, es_row_4⟩ : ∃ f : Nat → Int32, f = upd s_row_2 (Int32.toNatClampNeg (753 + x1)) x2 := ⟨_, rfl⟩
  have hP : va_P D vwCl (Wd_Mo_isWill cy a_this a_row a_isKept a_refused a_text a_words a_cost a_steps a_mates a_bestMates a_comes s_above s_below s_length s_at s_behind s_readFlitches s_readFamilies s_doing s_row_4) H := by rw [es_row_4]; exact hP
  have hD : va_D A (Wd_Mo_isWill cy a_this a_row a_isKept a_refused a_text a_words a_cost a_steps a_mates a_bestMates a_comes s_above s_below s_length s_at s_behind s_readFlitches s_readFamilies s_doing s_row_4) := by rw [es_row_4]; exact hD
  have h := h s_row_4 es_row_4
  refine lv_aload_n hx hb dX9_isWill_15 rfl (lv_at hl 0 rfl) ?_
  refine va_get (D := D) (ci := 8) (v := .ref a_row) (C := RX9) (T := TX9) (N := 18) hx hb hts in_X9 hown hK hP 0 rfl rfl 0 (by decide) fl_7 (fun _ h9 => h9) rfl dX9_isWill_16 ?_
  refine lv_sipush (v := 760) hx hb dX9_isWill_19 (by decide) ?_
  refine lv_dup2_11 hx hb dX9_isWill_22 rfl rfl ?_
  refine va_iald hx hb hK hP 1 1 rfl rfl (by unfold vp_in; decide) dX9_isWill_23 ?_
  refine lv_iconst (v := 1) hx hb dX9_isWill_24 (by decide) ?_
  refine lv_iload_n hx hb dX9_isWill_25 rfl (lv_at hl 1 rfl) ?_
  refine lv_ishl hx hb dX9_isWill_26 ?_
  refine lv_iconst (v := (-1)) hx hb dX9_isWill_27 (by decide) ?_
  refine lv_ixor hx hb dX9_isWill_28 ?_
  refine lv_iand hx hb dX9_isWill_29 ?_
  refine va_iast hx hb hK hP hD hS 1 1 rfl rfl (by unfold vp_in; decide) dX9_isWill_30 (fun H locs hP hD hS => ?_)
  obtain ⟨s_row_5, es_row_5⟩ : ∃ f : Nat → Int32, f = upd s_row_4 (Int32.toNatClampNeg 760) ((s_row_4 (Int32.toNatClampNeg 760)) &&& ((ishl 1 x1) ^^^ (-1))) := ⟨_, rfl⟩
  have hP : va_P D vwCl (Wd_Mo_isWill cy a_this a_row a_isKept a_refused a_text a_words a_cost a_steps a_mates a_bestMates a_comes s_above s_below s_length s_at s_behind s_readFlitches s_readFamilies s_doing s_row_5) H := by rw [es_row_5]; exact hP
  have hD : va_D A (Wd_Mo_isWill cy a_this a_row a_isKept a_refused a_text a_words a_cost a_steps a_mates a_bestMates a_comes s_above s_below s_length s_at s_behind s_readFlitches s_readFamilies s_doing s_row_5) := by rw [es_row_5]; exact hD
  have h := h s_row_5 es_row_5
  refine lv_aload_n hx hb dX9_isWill_31 rfl (lv_at hl 0 rfl) ?_
  refine lv_iload_n hx hb dX9_isWill_32 rfl (lv_at hl 1 rfl) ?_
  refine st_callI (WR := []) (WSn := fun u => (Wd_Mo_isWill cy a_this a_row a_isKept a_refused a_text a_words a_cost a_steps a_mates a_bestMates a_comes s_above s_below s_length s_at s_behind s_readFlitches s_readFamilies s_doing u)) (st_runV (n := 1) (As := [.int x1]) (rest := []) (q0 := 0) F ((co_Mo_whenTried l D cy a_this a_row a_isKept a_refused a_text a_words a_cost a_steps a_mates a_bestMates a_comes s_above s_below s_length s_at s_behind s_readFlitches s_readFamilies s_doing s_row_5 x1 _ h) _) rfl gX9_isWill_X9_whenTried rfl (by decide +kernel) rfl hKK hP hD [0, 1] rfl rfl rfl rfl rfl hl.1 rfl (Nat.le_of_ble_eq_true rfl) dX9_isWill_33) hP hD hS hA [0, 1] [] [0, 1] rfl rfl rfl (fun _ => rfl) (fun r_6 u H locs h hP hD hS => ?_)
  obtain ⟨s_row_7, rfl⟩ : ∃ z, z = u := ⟨_, rfl⟩
  have hP : va_P D vwCl (Wd_Mo_isWill cy a_this a_row a_isKept a_refused a_text a_words a_cost a_steps a_mates a_bestMates a_comes s_above s_below s_length s_at s_behind s_readFlitches s_readFamilies s_doing s_row_7) H := hP
  have hD : va_D A (Wd_Mo_isWill cy a_this a_row a_isKept a_refused a_text a_words a_cost a_steps a_mates a_bestMates a_comes s_above s_below s_length s_at s_behind s_readFlitches s_readFamilies s_doing s_row_7) := hD
  refine lv_istore_n (lv' := [(3, .int r_6), (0, .ref a_this), (1, .int x1), (2, .int x2)]) hx hb dX9_isWill_36 rfl hl (by decide) rfl (fun ls hl => ?_)
  refine lv_iconst (v := 1) hx hb dX9_isWill_37 (by decide) ?_
  refine lv_istore (lv' := [(4, .int 1), (3, .int r_6), (0, .ref a_this), (1, .int x1), (2, .int x2)]) hx hb dX9_isWill_38 hl (by decide) rfl (fun ls hl => ?_)
  refine lv_bipush (v := 43) hx hb dX9_isWill_40 (by decide) ?_
  refine lv_istore (lv' := [(5, .int 43), (4, .int 1), (3, .int r_6), (0, .ref a_this), (1, .int x1), (2, .int x2)]) hx hb dX9_isWill_42 hl (by decide) rfl (fun ls hl => ?_)
  obtain ⟨T44_9, hz44_9, hs44_9, n44_9, h⟩ := lpw2_use h
  have kT44_9 : ∀ (n : Nat) (x4_8 : Int32) (x5_9 : Int32) (H : Heap) (locs : List Loc) (ls : Array Slot), T44_9 n x4_8 x5_9 → va_P D vwCl (Wd_Mo_isWill cy a_this a_row a_isKept a_refused a_text a_words a_cost a_steps a_mates a_bestMates a_comes s_above s_below s_length s_at s_behind s_readFlitches s_readFamilies s_doing s_row_7) H → va_D A (Wd_Mo_isWill cy a_this a_row a_isKept a_refused a_text a_words a_cost a_steps a_mates a_bestMates a_comes s_above s_below s_length s_at s_behind s_readFlitches s_readFamilies s_doing s_row_7) → va_S A s.heap H locs → lv_has ls 6 [(0, .ref a_this), (1, .int x1), (3, .int r_6), (4, .int x4_8), (5, .int x5_9)] → W p l e rm_Mo_isWill s m args below meth c H locs 0 0 QQ (F0 m 44 ls []) := by
    intro n
    induction n with
    | zero => intro x4_8 x5_9 H locs ls h; exact absurd h (hz44_9 _ _)
    | succ n ih44_9 =>
      intro x4_8 x5_9 H locs ls h hP hD hS hl
      have h := hs44_9 _ _ _ h
      refine lv_iload hx hb dX9_isWill_44 (lv_at hl 4 rfl) ?_
      refine lv_bipush (v := 43) hx hb dX9_isWill_46 (by decide) ?_
      refine lv_iconst (v := 3) hx hb dX9_isWill_48 (by decide) ?_
      refine lv_aload_n hx hb dX9_isWill_49 rfl (lv_at hl 0 rfl) ?_
      refine va_get (D := D) (ci := 8) (v := .ref a_row) (C := RX9) (T := TX9) (N := 18) hx hb hts in_X9 hown hK hP 0 rfl rfl 0 (by decide) fl_7 (fun _ h9 => h9) rfl dX9_isWill_50 ?_
      refine lv_bipush (v := 42) hx hb dX9_isWill_53 (by decide) ?_
      refine va_iald hx hb hK hP 1 1 rfl rfl (by unfold vp_in; decide) dX9_isWill_55 ?_
      refine lv_imul hx hb dX9_isWill_56 ?_
      refine lv_iadd hx hb dX9_isWill_57 ?_
      refine lv_icmp_ge (tgt := 129) hx hb dX9_isWill_58 (by decide) (fun c_11 => ?_) (fun c_11 => ?_)
      · have h := h.1 c_11
        refine lv_iload hx hb dX9_isWill_129 (lv_at hl 3 rfl) ?_
        obtain ⟨hz_12, h⟩ := h
        exact hret _ (s_row_7) _ _ _ _ hz_12 h hP hD hS dX9_isWill_131
      · have h := h.2 c_11
        refine lv_iload hx hb dX9_isWill_61 (lv_at hl 3 rfl) ?_
        obtain ⟨J121, hJ121, h⟩ := jn1_ex h
        have kJ121_13 : ∀ (v_13 : Int32) (H : Heap) (locs : List Loc) (ls : Array Slot), J121 v_13 → va_P D vwCl (Wd_Mo_isWill cy a_this a_row a_isKept a_refused a_text a_words a_cost a_steps a_mates a_bestMates a_comes s_above s_below s_length s_at s_behind s_readFlitches s_readFamilies s_doing s_row_7) H → va_D A (Wd_Mo_isWill cy a_this a_row a_isKept a_refused a_text a_words a_cost a_steps a_mates a_bestMates a_comes s_above s_below s_length s_at s_behind s_readFlitches s_readFamilies s_doing s_row_7) → va_S A s.heap H locs → lv_has ls 6 [(0, .ref a_this), (1, .int x1), (3, .int r_6), (5, .int x5_9)] → W p l e rm_Mo_isWill s m args below meth c H locs 0 0 QQ (F0 m 121 ls [.int v_13]) := by
          intro v_13 H locs ls h hP hD hS hl
          have h := hJ121 _ h
          refine lv_istore (lv' := [(4, .int v_13), (0, .ref a_this), (1, .int x1), (3, .int r_6), (5, .int x5_9)]) hx hb dX9_isWill_121 hl (by decide) rfl (fun ls hl => ?_)
          obtain ⟨x5_15, ex5_15⟩ : ∃ y : Int32, y = x5_9 + 3 := ⟨_, rfl⟩
          have h := h x5_15 ex5_15
          refine lv_iinc (v := x5_15) (lv' := [(5, .int x5_15), (4, .int v_13), (0, .ref a_this), (1, .int x1), (3, .int r_6)]) hx hb dX9_isWill_123 hl (k := 4) rfl (by rw [ex5_15]; rfl) (by decide) rfl (fun ls hl => ?_)
          refine lv_goto (tgt := 44) hx hb dX9_isWill_126 (by decide) ?_
          exact ih44_9 _ _ _ _ _ h hP hD hS (lv_sub hl [2, 3, 4, 1, 0] rfl)
        obtain ⟨J120, hJ120, h⟩ := jn0_ex h
        have kJ120_15 : ∀  (H : Heap) (locs : List Loc) (ls : Array Slot), J120 → va_P D vwCl (Wd_Mo_isWill cy a_this a_row a_isKept a_refused a_text a_words a_cost a_steps a_mates a_bestMates a_comes s_above s_below s_length s_at s_behind s_readFlitches s_readFamilies s_doing s_row_7) H → va_D A (Wd_Mo_isWill cy a_this a_row a_isKept a_refused a_text a_words a_cost a_steps a_mates a_bestMates a_comes s_above s_below s_length s_at s_behind s_readFlitches s_readFamilies s_doing s_row_7) → va_S A s.heap H locs → lv_has ls 6 [(0, .ref a_this), (1, .int x1), (3, .int r_6), (5, .int x5_9)] → W p l e rm_Mo_isWill s m args below meth c H locs 0 0 QQ (F0 m 120 ls []) := by
          intro  H locs ls h hP hD hS hl
          have h := hJ120  h
          refine lv_iconst (v := 0) hx hb dX9_isWill_120 (by decide) ?_
          exact kJ121_13 _ _ _ _ h hP hD hS (lv_sub hl [0, 1, 2, 3] rfl)
        refine lv_if_eq (tgt := 120) hx hb dX9_isWill_63 (by decide) (fun c_17 => ?_) (fun c_17 => ?_)
        · have h := h.1 c_17
          exact kJ120_15  _ _ _ h hP hD hS (lv_sub hl [0, 1, 2, 4] rfl)
        · have h := h.2 c_17
          refine lv_aload_n hx hb dX9_isWill_66 rfl (lv_at hl 0 rfl) ?_
          refine va_get (D := D) (ci := 8) (v := .ref a_row) (C := RX9) (T := TX9) (N := 18) hx hb hts in_X9 hown hK hP 0 rfl rfl 0 (by decide) fl_7 (fun _ h9 => h9) rfl dX9_isWill_67 ?_
          refine lv_iload hx hb dX9_isWill_70 (lv_at hl 4 rfl) ?_
          obtain ⟨hi_18, h⟩ := h
          refine va_iald hx hb hK hP 1 1 rfl rfl hi_18 dX9_isWill_72 ?_
          refine lv_iload_n hx hb dX9_isWill_73 rfl (lv_at hl 1 rfl) ?_
          obtain ⟨J116, hJ116, h⟩ := jn0_ex h
          have kJ116_18 : ∀  (H : Heap) (locs : List Loc) (ls : Array Slot), J116 → va_P D vwCl (Wd_Mo_isWill cy a_this a_row a_isKept a_refused a_text a_words a_cost a_steps a_mates a_bestMates a_comes s_above s_below s_length s_at s_behind s_readFlitches s_readFamilies s_doing s_row_7) H → va_D A (Wd_Mo_isWill cy a_this a_row a_isKept a_refused a_text a_words a_cost a_steps a_mates a_bestMates a_comes s_above s_below s_length s_at s_behind s_readFlitches s_readFamilies s_doing s_row_7) → va_S A s.heap H locs → lv_has ls 6 [(0, .ref a_this), (1, .int x1), (3, .int r_6), (5, .int x5_9)] → W p l e rm_Mo_isWill s m args below meth c H locs 0 0 QQ (F0 m 116 ls []) := by
            intro  H locs ls h hP hD hS hl
            have h := hJ116  h
            refine lv_iconst (v := 1) hx hb dX9_isWill_116 (by decide) ?_
            refine lv_goto (tgt := 121) hx hb dX9_isWill_117 (by decide) ?_
            exact kJ121_13 _ _ _ _ h hP hD hS (lv_sub hl [0, 1, 2, 3] rfl)
          refine lv_icmp_ne (tgt := 116) hx hb dX9_isWill_74 (by decide) (fun c_20 => ?_) (fun c_20 => ?_)
          · have h := h.1 c_20
            exact kJ116_18  _ _ _ h hP hD hS (lv_sub hl [0, 1, 2, 4] rfl)
          · have h := h.2 c_20
            refine lv_aload_n hx hb dX9_isWill_77 rfl (lv_at hl 0 rfl) ?_
            refine va_get (D := D) (ci := 8) (v := .ref a_row) (C := RX9) (T := TX9) (N := 18) hx hb hts in_X9 hown hK hP 0 rfl rfl 0 (by decide) fl_7 (fun _ h9 => h9) rfl dX9_isWill_78 ?_
            refine lv_iload hx hb dX9_isWill_81 (lv_at hl 4 rfl) ?_
            refine lv_iconst (v := 1) hx hb dX9_isWill_83 (by decide) ?_
            refine lv_iadd hx hb dX9_isWill_84 ?_
            obtain ⟨hi_21, h⟩ := h
            refine va_iald hx hb hK hP 1 1 rfl rfl hi_21 dX9_isWill_85 ?_
            refine lv_iload_n hx hb dX9_isWill_86 rfl (lv_at hl 2 rfl) ?_
            obtain ⟨J95, hJ95, h⟩ := jn1_ex h
            have kJ95_22 : ∀ (v_22 : Int32) (H : Heap) (locs : List Loc) (ls : Array Slot), J95 v_22 → va_P D vwCl (Wd_Mo_isWill cy a_this a_row a_isKept a_refused a_text a_words a_cost a_steps a_mates a_bestMates a_comes s_above s_below s_length s_at s_behind s_readFlitches s_readFamilies s_doing s_row_7) H → va_D A (Wd_Mo_isWill cy a_this a_row a_isKept a_refused a_text a_words a_cost a_steps a_mates a_bestMates a_comes s_above s_below s_length s_at s_behind s_readFlitches s_readFamilies s_doing s_row_7) → va_S A s.heap H locs → lv_has ls 6 [(0, .ref a_this), (1, .int x1), (3, .int r_6), (5, .int x5_9)] → W p l e rm_Mo_isWill s m args below meth c H locs 0 0 QQ (F0 m 95 ls [.int v_22]) := by
              intro v_22 H locs ls h hP hD hS hl
              have h := hJ95 _ h
              refine lv_aload_n hx hb dX9_isWill_95 rfl (lv_at hl 0 rfl) ?_
              refine va_get (D := D) (ci := 8) (v := .ref a_row) (C := RX9) (T := TX9) (N := 18) hx hb hts in_X9 hown hK hP 0 rfl rfl 0 (by decide) fl_7 (fun _ h9 => h9) rfl dX9_isWill_96 ?_
              refine lv_iload hx hb dX9_isWill_99 (lv_at hl 3 rfl) ?_
              refine lv_iconst (v := 2) hx hb dX9_isWill_101 (by decide) ?_
              refine lv_iadd hx hb dX9_isWill_102 ?_
              obtain ⟨hi_24, h⟩ := h
              refine va_iald hx hb hK hP 1 1 rfl rfl hi_24 dX9_isWill_103 ?_
              refine lv_iconst (v := 1) hx hb dX9_isWill_104 (by decide) ?_
              obtain ⟨J113, hJ113, h⟩ := jn1_ex h
              have kJ113_25 : ∀ (v_25 : Int32) (H : Heap) (locs : List Loc) (ls : Array Slot), J113 v_25 → va_P D vwCl (Wd_Mo_isWill cy a_this a_row a_isKept a_refused a_text a_words a_cost a_steps a_mates a_bestMates a_comes s_above s_below s_length s_at s_behind s_readFlitches s_readFamilies s_doing s_row_7) H → va_D A (Wd_Mo_isWill cy a_this a_row a_isKept a_refused a_text a_words a_cost a_steps a_mates a_bestMates a_comes s_above s_below s_length s_at s_behind s_readFlitches s_readFamilies s_doing s_row_7) → va_S A s.heap H locs → lv_has ls 6 [(0, .ref a_this), (1, .int x1), (3, .int r_6), (5, .int x5_9)] → W p l e rm_Mo_isWill s m args below meth c H locs 0 0 QQ (F0 m 113 ls [.int v_25, .int v_22]) := by
                intro v_25 H locs ls h hP hD hS hl
                have h := hJ113 _ h
                refine lv_icmp_ne (tgt := 120) hx hb dX9_isWill_113 (by decide) (fun c_27 => ?_) (fun c_27 => ?_)
                · have h := h.1 c_27
                  exact kJ120_15  _ _ _ h hP hD hS (lv_sub hl [0, 1, 2, 3] rfl)
                · have h := h.2 c_27
                  exact kJ116_18  _ _ _ h hP hD hS (lv_sub hl [0, 1, 2, 3] rfl)
              refine lv_icmp_ne (tgt := 112) hx hb dX9_isWill_105 (by decide) (fun c_28 => ?_) (fun c_28 => ?_)
              · have h := h.1 c_28
                refine lv_iconst (v := 0) hx hb dX9_isWill_112 (by decide) ?_
                exact kJ113_25 _ _ _ _ h hP hD hS (lv_sub hl [0, 1, 2, 3] rfl)
              · have h := h.2 c_28
                refine lv_iconst (v := 1) hx hb dX9_isWill_108 (by decide) ?_
                refine lv_goto (tgt := 113) hx hb dX9_isWill_109 (by decide) ?_
                exact kJ113_25 _ _ _ _ h hP hD hS (lv_sub hl [0, 1, 2, 3] rfl)
            refine lv_icmp_lt (tgt := 94) hx hb dX9_isWill_87 (by decide) (fun c_29 => ?_) (fun c_29 => ?_)
            · have h := h.1 c_29
              refine lv_iconst (v := 0) hx hb dX9_isWill_94 (by decide) ?_
              exact kJ95_22 _ _ _ _ h hP hD hS (lv_sub hl [0, 1, 2, 4] rfl)
            · have h := h.2 c_29
              refine lv_iconst (v := 1) hx hb dX9_isWill_90 (by decide) ?_
              refine lv_goto (tgt := 95) hx hb dX9_isWill_91 (by decide) ?_
              exact kJ95_22 _ _ _ _ h hP hD hS (lv_sub hl [0, 1, 2, 4] rfl)
  exact kT44_9 n44_9 _ _ _ _ _ h hP hD hS (lv_sub hl [3, 4, 2, 1, 0] rfl)
abbrev Wd_Mo_wills (cy : ClassId × ClassId × ClassId × ClassId) (a_this a_refused a_row a_isKept a_text a_words a_cost a_steps a_mates a_bestMates a_comes : Nat) (s_above : Int64) (s_below : Int64) (s_length : Int32) (s_at : Int32) (s_behind : Int32) (s_readFlitches : Int32) (s_readFamilies : Int32) (s_doing : Int32) (s_refused : Nat → Int32) (s_row : Nat → Int32) : va_W := [(a_this, .inr (8, [.ref a_row, .ref a_isKept, .ref a_refused, .long s_above, .long s_below, .ref a_text, .int s_length, .ref a_words, .int s_at, .int s_behind, .int s_readFlitches, .int s_readFamilies, .int s_doing, .ref a_cost, .ref a_steps, .ref a_mates, .ref a_bestMates, .ref a_comes])), (a_refused, .inl (cy.2.1, 3, .inl s_refused)), (a_row, .inl (cy.2.1, 770, .inl s_row))]
abbrev rm_Mo_wills : Room := { frames := 7, cells := 0, slots := 0, locals := 161 }
def wp_Mo_wills (x1 : Int32) (x2 : Int32) (s_refused : Nat → Int32) (s_row : Nat → Int32) (Q : Int32 → (Nat → Int32) → (Nat → Int32) → Prop) : Prop := wp_Mo_isFamily x1 s_row (fun (r_1 : Int32) => jn0 (fun (J17 : Prop) => ((r_1 = 0 → J17) ∧ (¬ r_1 = 0 → wp_Mo_in x2 0 2 (fun (r_6 : Int32) => ((¬ r_6 = 0 → ∃ n : Nat, lpw5 (fun (B35 : Int32 → Int32 → Int32 → Int32 → (Nat → Int32) → Prop) (x3_8 : Int32) (x4_9 : Int32) (x5_10 : Int32) (x6_11 : Int32) (s_row_12 : Nat → Int32) => ((100 ≤ x6_11 → ((¬ x2 = 0 → ((¬ x2 = 1 → Q x5_10 s_refused s_row_12) ∧ (x2 = 1 → Q x4_9 s_refused s_row_12))) ∧ (x2 = 0 → Q x3_8 s_refused s_row_12))) ∧ (¬ 100 ≤ x6_11 → wp_Mo_isWill x1 x6_11 s_row_12 (fun (r_17 : Int32) (s_row_18 : Nat → Int32) => jn1 (fun (J62 : Int32 → Prop) => ((r_17 = 0 → J62 0) ∧ (¬ r_17 = 0 → J62 1))) (fun (v_19 : Int32) => ∀ x3_21 : Int32, x3_21 = (x3_8 + v_19) → jn1 (fun (J82 : Int32 → Prop) => jn0 (fun (J80 : Prop) => ((r_17 = 0 → J80) ∧ (¬ r_17 = 0 → ((¬ x4_9 = (-1) → J80) ∧ (x4_9 = (-1) → J82 x6_11))))) (J82 x4_9)) (fun (v_22 : Int32) => jn1 (fun (J96 : Int32 → Prop) => ((r_17 = 0 → J96 x5_10) ∧ (¬ r_17 = 0 → J96 x6_11))) (fun (v_24 : Int32) => ∀ x6_26 : Int32, x6_26 = x6_11 + 1 → B35 x3_21 v_22 v_24 x6_26 s_row_18))))))) n 0 (-1) (-1) 1 s_row) ∧ (r_6 = 0 → J17)))))) (wp_Mo_refuse (-2) s_refused (fun (r_3 : Int32) (s_refused_4 : Nat → Int32) => Q r_3 s_refused_4 s_row)))
set_option maxHeartbeats 4000000 in
set_option maxRecDepth 100000 in
theorem co_Mo_wills (l : Launch) (D : va_G) (cy : ClassId × ClassId × ClassId × ClassId) (a_this a_refused a_row a_isKept a_text a_words a_cost a_steps a_mates a_bestMates a_comes : Nat) (s_above : Int64) (s_below : Int64) (s_length : Int32) (s_at : Int32) (s_behind : Int32) (s_readFlitches : Int32) (s_readFamilies : Int32) (s_doing : Int32) (s_refused : Nat → Int32) (s_row : Nat → Int32) (x1 : Int32) (x2 : Int32) (Q : Int32 → (Nat → Int32) → (Nat → Int32) → Prop) (h : wp_Mo_wills x1 x2 s_refused s_row Q) : CoI l yX9_wills wsX9_wills rm_Mo_wills D cy [.ref a_this, .int x1, .int x2] (Wd_Mo_wills cy a_this a_refused a_row a_isKept a_text a_words a_cost a_steps a_mates a_bestMates a_comes s_above s_below s_length s_at s_behind s_readFlitches s_readFamilies s_doing s_refused s_row) (fun u : (Nat → Int32) × (Nat → Int32) => (Wd_Mo_wills cy a_this a_refused a_row a_isKept a_text a_words a_cost a_steps a_mates a_bestMates a_comes s_above s_below s_length s_at s_behind s_readFlitches s_readFamilies s_doing u.1 u.2)) (fun (r : Int32) (u : (Nat → Int32) × (Nat → Int32)) => Q r u.1 u.2) := by
  refine st_metI (cc := cX9_wills) (maxL := 8) RX9 (by decide) rfl rfl (Nat.le_of_ble_eq_true rfl) ?_
  intro p e s m args below meth c A QQ ls F hA hKK hP hD hS hl hret
  have hK := hKK.1
  have hnest := hKK.2.1
  have hx := F.1
  have hb := F.2.1
  have hown := F.2.2.2.1
  have hts := F.2.2.2.2
  have hl : lv_has ls 8 [(0, .ref a_this), (1, .int x1), (2, .int x2)] := hl
  unfold wp_Mo_wills at h
  refine lv_aload_n hx hb dX9_wills_0 rfl (lv_at hl 0 rfl) ?_
  refine lv_iload_n hx hb dX9_wills_1 rfl (lv_at hl 1 rfl) ?_
  refine st_callRI (st_runVR (n := 1) (As := [.int x1]) (rest := []) (q0 := 0) F (co_Mo_isFamily l D cy a_this a_row a_isKept a_refused a_text a_words a_cost a_steps a_mates a_bestMates a_comes s_above s_below s_length s_at s_behind s_readFlitches s_readFamilies s_doing s_row x1 _ h) gX9_wills_X9_isFamily rfl (by decide +kernel) rfl hKK hP [0, 2] rfl rfl rfl rfl hl.1 rfl (Nat.le_of_ble_eq_true rfl) dX9_wills_2) (fun r_1 h => ?_)
  obtain ⟨J17, hJ17, h⟩ := jn0_ex h
  have kJ17_1 : ∀  (H : Heap) (locs : List Loc) (ls : Array Slot), J17 → va_P D vwCl (Wd_Mo_wills cy a_this a_refused a_row a_isKept a_text a_words a_cost a_steps a_mates a_bestMates a_comes s_above s_below s_length s_at s_behind s_readFlitches s_readFamilies s_doing s_refused s_row) H → va_D A (Wd_Mo_wills cy a_this a_refused a_row a_isKept a_text a_words a_cost a_steps a_mates a_bestMates a_comes s_above s_below s_length s_at s_behind s_readFlitches s_readFamilies s_doing s_refused s_row) → va_S A s.heap H locs → lv_has ls 8 [(0, .ref a_this)] → W p l e rm_Mo_wills s m args below meth c H locs 0 0 QQ (F0 m 17 ls []) := by
    intro  H locs ls h hP hD hS hl
    have h := hJ17  h
    refine lv_aload_n hx hb dX9_wills_17 rfl (lv_at hl 0 rfl) ?_
    refine lv_bipush (v := (-2)) hx hb dX9_wills_18 (by decide) ?_
    refine st_callI (WR := [2].filterMap (fun i => (Wd_Mo_wills cy a_this a_refused a_row a_isKept a_text a_words a_cost a_steps a_mates a_bestMates a_comes s_above s_below s_length s_at s_behind s_readFlitches s_readFamilies s_doing s_refused s_row)[i]?)) (WSn := fun u => (Wd_Mo_wills cy a_this a_refused a_row a_isKept a_text a_words a_cost a_steps a_mates a_bestMates a_comes s_above s_below s_length s_at s_behind s_readFlitches s_readFamilies s_doing u s_row)) (st_runV (n := 1) (As := [.int (-2)]) (rest := []) (q0 := 0) F ((co_Mo_refuse l D cy a_this a_refused a_row a_isKept a_text a_words a_cost a_steps a_mates a_bestMates a_comes s_above s_below s_length s_at s_behind s_readFlitches s_readFamilies s_doing s_refused (-2) _ h) _) rfl gX9_wills_X9_refuse rfl (by decide +kernel) rfl hKK hP hD [0, 1] rfl rfl rfl rfl rfl hl.1 rfl (Nat.le_of_ble_eq_true rfl) dX9_wills_20) hP hD hS hA [0, 1] [2] [1, 2, 0] rfl rfl rfl (fun _ => rfl) (fun r_3 u H locs h hP hD hS => ?_)
    obtain ⟨s_refused_4, rfl⟩ : ∃ z, z = u := ⟨_, rfl⟩
    have hP : va_P D vwCl (Wd_Mo_wills cy a_this a_refused a_row a_isKept a_text a_words a_cost a_steps a_mates a_bestMates a_comes s_above s_below s_length s_at s_behind s_readFlitches s_readFamilies s_doing s_refused_4 s_row) H := hP
    have hD : va_D A (Wd_Mo_wills cy a_this a_refused a_row a_isKept a_text a_words a_cost a_steps a_mates a_bestMates a_comes s_above s_below s_length s_at s_behind s_readFlitches s_readFamilies s_doing s_refused_4 s_row) := hD
    exact hret _ (s_refused_4, s_row) _ _ _ _ h hP hD hS dX9_wills_23
  refine lv_if_eq (tgt := 17) hx hb dX9_wills_5 (by decide) (fun c_5 => ?_) (fun c_5 => ?_)
  · have h := h.1 c_5
    exact kJ17_1  _ _ _ h hP hD hS (lv_sub hl [0] rfl)
  · have h := h.2 c_5
    refine lv_iload_n hx hb dX9_wills_8 rfl (lv_at hl 2 rfl) ?_
    refine lv_iconst (v := 0) hx hb dX9_wills_9 (by decide) ?_
    refine lv_iconst (v := 2) hx hb dX9_wills_10 (by decide) ?_
    refine st_callRI (st_runSR (n := 3) (As := [.int x2, .int 0, .int 2]) (rest := []) F (co_Mo_in l D cy x2 0 2 _ h) gX9_wills_X9_in rfl (by decide +kernel) rfl hKK hP [] rfl rfl hl.1 rfl (Nat.le_of_ble_eq_true rfl) dX9_wills_11) (fun r_6 h => ?_)
    refine lv_if_ne (tgt := 24) hx hb dX9_wills_14 (by decide) (fun c_7 => ?_) (fun c_7 => ?_)
    · have h := h.1 c_7
      refine lv_iconst (v := 0) hx hb dX9_wills_24 (by decide) ?_
      refine lv_istore_n (lv' := [(3, .int 0), (0, .ref a_this), (1, .int x1), (2, .int x2)]) hx hb dX9_wills_25 rfl hl (by decide) rfl (fun ls hl => ?_)
      refine lv_iconst (v := (-1)) hx hb dX9_wills_26 (by decide) ?_
      refine lv_istore (lv' := [(4, .int (-1)), (3, .int 0), (0, .ref a_this), (1, .int x1), (2, .int x2)]) hx hb dX9_wills_27 hl (by decide) rfl (fun ls hl => ?_)
      refine lv_iconst (v := (-1)) hx hb dX9_wills_29 (by decide) ?_
      refine lv_istore (lv' := [(5, .int (-1)), (4, .int (-1)), (3, .int 0), (0, .ref a_this), (1, .int x1), (2, .int x2)]) hx hb dX9_wills_30 hl (by decide) rfl (fun ls hl => ?_)
      refine lv_iconst (v := 1) hx hb dX9_wills_32 (by decide) ?_
      refine lv_istore (lv' := [(6, .int 1), (5, .int (-1)), (4, .int (-1)), (3, .int 0), (0, .ref a_this), (1, .int x1), (2, .int x2)]) hx hb dX9_wills_33 hl (by decide) rfl (fun ls hl => ?_)
      obtain ⟨T35_12, hz35_12, hs35_12, n35_12, h⟩ := lpw5_use h
      have kT35_12 : ∀ (n : Nat) (x3_8 : Int32) (x4_9 : Int32) (x5_10 : Int32) (x6_11 : Int32) (s_row_12 : Nat → Int32) (H : Heap) (locs : List Loc) (ls : Array Slot), T35_12 n x3_8 x4_9 x5_10 x6_11 s_row_12 → va_P D vwCl (Wd_Mo_wills cy a_this a_refused a_row a_isKept a_text a_words a_cost a_steps a_mates a_bestMates a_comes s_above s_below s_length s_at s_behind s_readFlitches s_readFamilies s_doing s_refused s_row_12) H → va_D A (Wd_Mo_wills cy a_this a_refused a_row a_isKept a_text a_words a_cost a_steps a_mates a_bestMates a_comes s_above s_below s_length s_at s_behind s_readFlitches s_readFamilies s_doing s_refused s_row_12) → va_S A s.heap H locs → lv_has ls 8 [(0, .ref a_this), (1, .int x1), (2, .int x2), (3, .int x3_8), (4, .int x4_9), (5, .int x5_10), (6, .int x6_11)] → W p l e rm_Mo_wills s m args below meth c H locs 0 0 QQ (F0 m 35 ls []) := by
        intro n
        induction n with
        | zero => intro x3_8 x4_9 x5_10 x6_11 s_row_12 H locs ls h; exact absurd h (hz35_12 _ _ _ _ _)
        | succ n ih35_12 =>
          intro x3_8 x4_9 x5_10 x6_11 s_row_12 H locs ls h hP hD hS hl
          have h := hs35_12 _ _ _ _ _ _ h
          refine lv_iload hx hb dX9_wills_35 (lv_at hl 6 rfl) ?_
          refine lv_bipush (v := 100) hx hb dX9_wills_37 (by decide) ?_
          refine lv_icmp_ge (tgt := 104) hx hb dX9_wills_39 (by decide) (fun c_14 => ?_) (fun c_14 => ?_)
          · have h := h.1 c_14
            refine lv_iload_n hx hb dX9_wills_104 rfl (lv_at hl 2 rfl) ?_
            refine lv_if_ne (tgt := 112) hx hb dX9_wills_105 (by decide) (fun c_15 => ?_) (fun c_15 => ?_)
            · have h := h.1 c_15
              refine lv_iload_n hx hb dX9_wills_112 rfl (lv_at hl 2 rfl) ?_
              refine lv_iconst (v := 1) hx hb dX9_wills_113 (by decide) ?_
              refine lv_icmp_ne (tgt := 122) hx hb dX9_wills_114 (by decide) (fun c_16 => ?_) (fun c_16 => ?_)
              · have h := h.1 c_16
                refine lv_iload hx hb dX9_wills_122 (lv_at hl 5 rfl) ?_
                exact hret _ (s_refused, s_row_12) _ _ _ _ h hP hD hS dX9_wills_124
              · have h := h.2 c_16
                refine lv_iload hx hb dX9_wills_117 (lv_at hl 4 rfl) ?_
                refine lv_goto (tgt := 124) hx hb dX9_wills_119 (by decide) ?_
                exact hret _ (s_refused, s_row_12) _ _ _ _ h hP hD hS dX9_wills_124
            · have h := h.2 c_15
              refine lv_iload_n hx hb dX9_wills_108 rfl (lv_at hl 3 rfl) ?_
              refine lv_goto (tgt := 124) hx hb dX9_wills_109 (by decide) ?_
              exact hret _ (s_refused, s_row_12) _ _ _ _ h hP hD hS dX9_wills_124
          · have h := h.2 c_14
            refine lv_aload_n hx hb dX9_wills_42 rfl (lv_at hl 0 rfl) ?_
            refine lv_iload_n hx hb dX9_wills_43 rfl (lv_at hl 1 rfl) ?_
            refine lv_iload hx hb dX9_wills_44 (lv_at hl 6 rfl) ?_
            refine st_callI (WR := [1].filterMap (fun i => (Wd_Mo_wills cy a_this a_refused a_row a_isKept a_text a_words a_cost a_steps a_mates a_bestMates a_comes s_above s_below s_length s_at s_behind s_readFlitches s_readFamilies s_doing s_refused s_row_12)[i]?)) (WSn := fun u => (Wd_Mo_wills cy a_this a_refused a_row a_isKept a_text a_words a_cost a_steps a_mates a_bestMates a_comes s_above s_below s_length s_at s_behind s_readFlitches s_readFamilies s_doing s_refused u)) (st_runV (n := 2) (As := [.int x1, .int x6_11]) (rest := []) (q0 := 0) F ((co_Mo_isWill l D cy a_this a_row a_isKept a_refused a_text a_words a_cost a_steps a_mates a_bestMates a_comes s_above s_below s_length s_at s_behind s_readFlitches s_readFamilies s_doing s_row_12 x1 x6_11 _ h) _) rfl gX9_wills_X9_isWill rfl (by decide +kernel) rfl hKK hP hD [0, 2] rfl rfl rfl rfl rfl hl.1 rfl (Nat.le_of_ble_eq_true rfl) dX9_wills_46) hP hD hS hA [0, 2] [1] [1, 0, 2] rfl rfl rfl (fun _ => rfl) (fun r_17 u H locs h hP hD hS => ?_)
            obtain ⟨s_row_18, rfl⟩ : ∃ z, z = u := ⟨_, rfl⟩
            have hP : va_P D vwCl (Wd_Mo_wills cy a_this a_refused a_row a_isKept a_text a_words a_cost a_steps a_mates a_bestMates a_comes s_above s_below s_length s_at s_behind s_readFlitches s_readFamilies s_doing s_refused s_row_18) H := hP
            have hD : va_D A (Wd_Mo_wills cy a_this a_refused a_row a_isKept a_text a_words a_cost a_steps a_mates a_bestMates a_comes s_above s_below s_length s_at s_behind s_readFlitches s_readFamilies s_doing s_refused s_row_18) := hD
            refine lv_istore (lv' := [(7, .int r_17), (0, .ref a_this), (1, .int x1), (2, .int x2), (3, .int x3_8), (4, .int x4_9), (5, .int x5_10), (6, .int x6_11)]) hx hb dX9_wills_49 hl (by decide) rfl (fun ls hl => ?_)
            refine lv_iload_n hx hb dX9_wills_51 rfl (lv_at hl 4 rfl) ?_
            refine lv_iload hx hb dX9_wills_52 (lv_at hl 0 rfl) ?_
            obtain ⟨J62, hJ62, h⟩ := jn1_ex h
            have kJ62_19 : ∀ (v_19 : Int32) (H : Heap) (locs : List Loc) (ls : Array Slot), J62 v_19 → va_P D vwCl (Wd_Mo_wills cy a_this a_refused a_row a_isKept a_text a_words a_cost a_steps a_mates a_bestMates a_comes s_above s_below s_length s_at s_behind s_readFlitches s_readFamilies s_doing s_refused s_row_18) H → va_D A (Wd_Mo_wills cy a_this a_refused a_row a_isKept a_text a_words a_cost a_steps a_mates a_bestMates a_comes s_above s_below s_length s_at s_behind s_readFlitches s_readFamilies s_doing s_refused s_row_18) → va_S A s.heap H locs → lv_has ls 8 [(0, .ref a_this), (1, .int x1), (2, .int x2), (4, .int x4_9), (5, .int x5_10), (6, .int x6_11), (7, .int r_17)] → W p l e rm_Mo_wills s m args below meth c H locs 0 0 QQ (F0 m 62 ls [.int v_19, .int x3_8]) := by
              intro v_19 H locs ls h hP hD hS hl
              have h := hJ62 _ h
              refine lv_iadd hx hb dX9_wills_62 ?_
              refine lv_topi (fun x3_21 ex3_21 => ?_)
              have h := h x3_21 ex3_21
              refine lv_istore_n (lv' := [(3, .int x3_21), (0, .ref a_this), (1, .int x1), (2, .int x2), (4, .int x4_9), (5, .int x5_10), (6, .int x6_11), (7, .int r_17)]) hx hb dX9_wills_63 rfl hl (by decide) rfl (fun ls hl => ?_)
              refine lv_iload hx hb dX9_wills_64 (lv_at hl 7 rfl) ?_
              obtain ⟨J82, hJ82, h⟩ := jn1_ex h
              have kJ82_22 : ∀ (v_22 : Int32) (H : Heap) (locs : List Loc) (ls : Array Slot), J82 v_22 → va_P D vwCl (Wd_Mo_wills cy a_this a_refused a_row a_isKept a_text a_words a_cost a_steps a_mates a_bestMates a_comes s_above s_below s_length s_at s_behind s_readFlitches s_readFamilies s_doing s_refused s_row_18) H → va_D A (Wd_Mo_wills cy a_this a_refused a_row a_isKept a_text a_words a_cost a_steps a_mates a_bestMates a_comes s_above s_below s_length s_at s_behind s_readFlitches s_readFamilies s_doing s_refused s_row_18) → va_S A s.heap H locs → lv_has ls 8 [(0, .ref a_this), (1, .int x1), (2, .int x2), (3, .int x3_21), (5, .int x5_10), (6, .int x6_11), (7, .int r_17)] → W p l e rm_Mo_wills s m args below meth c H locs 0 0 QQ (F0 m 82 ls [.int v_22]) := by
                intro v_22 H locs ls h hP hD hS hl
                have h := hJ82 _ h
                refine lv_istore (lv' := [(4, .int v_22), (0, .ref a_this), (1, .int x1), (2, .int x2), (3, .int x3_21), (5, .int x5_10), (6, .int x6_11), (7, .int r_17)]) hx hb dX9_wills_82 hl (by decide) rfl (fun ls hl => ?_)
                refine lv_iload hx hb dX9_wills_84 (lv_at hl 7 rfl) ?_
                obtain ⟨J96, hJ96, h⟩ := jn1_ex h
                have kJ96_24 : ∀ (v_24 : Int32) (H : Heap) (locs : List Loc) (ls : Array Slot), J96 v_24 → va_P D vwCl (Wd_Mo_wills cy a_this a_refused a_row a_isKept a_text a_words a_cost a_steps a_mates a_bestMates a_comes s_above s_below s_length s_at s_behind s_readFlitches s_readFamilies s_doing s_refused s_row_18) H → va_D A (Wd_Mo_wills cy a_this a_refused a_row a_isKept a_text a_words a_cost a_steps a_mates a_bestMates a_comes s_above s_below s_length s_at s_behind s_readFlitches s_readFamilies s_doing s_refused s_row_18) → va_S A s.heap H locs → lv_has ls 8 [(0, .ref a_this), (1, .int x1), (2, .int x2), (3, .int x3_21), (4, .int v_22), (6, .int x6_11)] → W p l e rm_Mo_wills s m args below meth c H locs 0 0 QQ (F0 m 96 ls [.int v_24]) := by
                  intro v_24 H locs ls h hP hD hS hl
                  have h := hJ96 _ h
                  refine lv_istore (lv' := [(5, .int v_24), (0, .ref a_this), (1, .int x1), (2, .int x2), (3, .int x3_21), (4, .int v_22), (6, .int x6_11)]) hx hb dX9_wills_96 hl (by decide) rfl (fun ls hl => ?_)
                  obtain ⟨x6_26, ex6_26⟩ : ∃ y : Int32, y = x6_11 + 1 := ⟨_, rfl⟩
                  have h := h x6_26 ex6_26
                  refine lv_iinc (v := x6_26) (lv' := [(6, .int x6_26), (5, .int v_24), (0, .ref a_this), (1, .int x1), (2, .int x2), (3, .int x3_21), (4, .int v_22)]) hx hb dX9_wills_98 hl (k := 6) rfl (by rw [ex6_26]; rfl) (by decide) rfl (fun ls hl => ?_)
                  refine lv_goto (tgt := 35) hx hb dX9_wills_101 (by decide) ?_
                  exact ih35_12 _ _ _ _ _ _ _ _ h hP hD hS (lv_sub hl [2, 3, 4, 5, 6, 1, 0] rfl)
                refine lv_if_eq (tgt := 94) hx hb dX9_wills_86 (by decide) (fun c_27 => ?_) (fun c_27 => ?_)
                · have h := h.1 c_27
                  refine lv_iload hx hb dX9_wills_94 (lv_at hl 5 rfl) ?_
                  exact kJ96_24 _ _ _ _ h hP hD hS (lv_sub hl [1, 2, 3, 4, 0, 6] rfl)
                · have h := h.2 c_27
                  refine lv_iload hx hb dX9_wills_89 (lv_at hl 6 rfl) ?_
                  refine lv_goto (tgt := 96) hx hb dX9_wills_91 (by decide) ?_
                  exact kJ96_24 _ _ _ _ h hP hD hS (lv_sub hl [1, 2, 3, 4, 0, 6] rfl)
              obtain ⟨J80, hJ80, h⟩ := jn0_ex h
              have kJ80_27 : ∀  (H : Heap) (locs : List Loc) (ls : Array Slot), J80 → va_P D vwCl (Wd_Mo_wills cy a_this a_refused a_row a_isKept a_text a_words a_cost a_steps a_mates a_bestMates a_comes s_above s_below s_length s_at s_behind s_readFlitches s_readFamilies s_doing s_refused s_row_18) H → va_D A (Wd_Mo_wills cy a_this a_refused a_row a_isKept a_text a_words a_cost a_steps a_mates a_bestMates a_comes s_above s_below s_length s_at s_behind s_readFlitches s_readFamilies s_doing s_refused s_row_18) → va_S A s.heap H locs → lv_has ls 8 [(0, .ref a_this), (1, .int x1), (2, .int x2), (3, .int x3_21), (4, .int x4_9), (5, .int x5_10), (6, .int x6_11), (7, .int r_17)] → W p l e rm_Mo_wills s m args below meth c H locs 0 0 QQ (F0 m 80 ls []) := by
                intro  H locs ls h hP hD hS hl
                have h := hJ80  h
                refine lv_iload hx hb dX9_wills_80 (lv_at hl 4 rfl) ?_
                exact kJ82_22 _ _ _ _ h hP hD hS (lv_sub hl [0, 1, 2, 3, 5, 6, 7] rfl)
              refine lv_if_eq (tgt := 80) hx hb dX9_wills_66 (by decide) (fun c_29 => ?_) (fun c_29 => ?_)
              · have h := h.1 c_29
                exact kJ80_27  _ _ _ h hP hD hS (lv_sub hl [1, 2, 3, 0, 4, 5, 6, 7] rfl)
              · have h := h.2 c_29
                refine lv_iload hx hb dX9_wills_69 (lv_at hl 4 rfl) ?_
                refine lv_iconst (v := (-1)) hx hb dX9_wills_71 (by decide) ?_
                refine lv_icmp_ne (tgt := 80) hx hb dX9_wills_72 (by decide) (fun c_30 => ?_) (fun c_30 => ?_)
                · have h := h.1 c_30
                  exact kJ80_27  _ _ _ h hP hD hS (lv_sub hl [1, 2, 3, 0, 4, 5, 6, 7] rfl)
                · have h := h.2 c_30
                  refine lv_iload hx hb dX9_wills_75 (lv_at hl 6 rfl) ?_
                  refine lv_goto (tgt := 82) hx hb dX9_wills_77 (by decide) ?_
                  exact kJ82_22 _ _ _ _ h hP hD hS (lv_sub hl [1, 2, 3, 0, 5, 6, 7] rfl)
            refine lv_if_eq (tgt := 61) hx hb dX9_wills_54 (by decide) (fun c_31 => ?_) (fun c_31 => ?_)
            · have h := h.1 c_31
              refine lv_iconst (v := 0) hx hb dX9_wills_61 (by decide) ?_
              exact kJ62_19 _ _ _ _ h hP hD hS (lv_sub hl [1, 2, 3, 5, 6, 7, 0] rfl)
            · have h := h.2 c_31
              refine lv_iconst (v := 1) hx hb dX9_wills_57 (by decide) ?_
              refine lv_goto (tgt := 62) hx hb dX9_wills_58 (by decide) ?_
              exact kJ62_19 _ _ _ _ h hP hD hS (lv_sub hl [1, 2, 3, 5, 6, 7, 0] rfl)
      exact kT35_12 n35_12 _ _ _ _ _ _ _ _ h hP hD hS (lv_sub hl [4, 5, 6, 3, 2, 1, 0] rfl)
    · have h := h.2 c_7
      exact kJ17_1  _ _ _ h hP hD hS (lv_sub hl [0] rfl)
abbrev Wd_Mo_note (cy : ClassId × ClassId × ClassId × ClassId) (a_this a_refused a_row a_isKept a_text a_words a_cost a_steps a_mates a_bestMates a_comes : Nat) (s_above : Int64) (s_below : Int64) (s_length : Int32) (s_at : Int32) (s_behind : Int32) (s_readFlitches : Int32) (s_readFamilies : Int32) (s_doing : Int32) (s_refused : Nat → Int32) (s_row : Nat → Int32) : va_W := [(a_this, .inr (8, [.ref a_row, .ref a_isKept, .ref a_refused, .long s_above, .long s_below, .ref a_text, .int s_length, .ref a_words, .int s_at, .int s_behind, .int s_readFlitches, .int s_readFamilies, .int s_doing, .ref a_cost, .ref a_steps, .ref a_mates, .ref a_bestMates, .ref a_comes])), (a_refused, .inl (cy.2.1, 3, .inl s_refused)), (a_row, .inl (cy.2.1, 770, .inl s_row))]
abbrev rm_Mo_note : Room := { frames := 2, cells := 0, slots := 0, locals := 43 }
def wp_Mo_note (x1 : Int32) (x2 : Int32) (x3 : Int32) (x4 : Int32) (x5 : Int32) (s_refused : Nat → Int32) (s_row : Nat → Int32) (Q : Int32 → (Nat → Int32) → (Nat → Int32) → Prop) : Prop := wp_Mo_isFlitch x1 s_row (fun (r_1 : Int32) => jn0 (fun (J50 : Prop) => ((r_1 = 0 → J50) ∧ (¬ r_1 = 0 → wp_Mo_in x2 1 20 (fun (r_6 : Int32) => ((r_6 = 0 → J50) ∧ (¬ r_6 = 0 → wp_Mo_in x3 0 8 (fun (r_8 : Int32) => ((r_8 = 0 → J50) ∧ (¬ r_8 = 0 → wp_Mo_in x4 0 99 (fun (r_10 : Int32) => ((r_10 = 0 → J50) ∧ (¬ r_10 = 0 → wp_Mo_in x5 0 60 (fun (r_12 : Int32) => ((¬ r_12 = 0 → ((¬ (s_row (Int32.toNatClampNeg 58)) = 6 → ∀ x6_15 : Int32, x6_15 = (59 + (5 * (s_row (Int32.toNatClampNeg 58)))) → vp_in x6_15 770 ∧ ∀ s_row_17 : Nat → Int32, s_row_17 = upd s_row (Int32.toNatClampNeg x6_15) x1 → vp_in (x6_15 + 1) 770 ∧ ∀ s_row_19 : Nat → Int32, s_row_19 = upd s_row_17 (Int32.toNatClampNeg (x6_15 + 1)) x2 → vp_in (x6_15 + 2) 770 ∧ ∀ s_row_21 : Nat → Int32, s_row_21 = upd s_row_19 (Int32.toNatClampNeg (x6_15 + 2)) x3 → vp_in (x6_15 + 3) 770 ∧ ∀ s_row_23 : Nat → Int32, s_row_23 = upd s_row_21 (Int32.toNatClampNeg (x6_15 + 3)) x4 → vp_in (x6_15 + 4) 770 ∧ ∀ s_row_25 : Nat → Int32, s_row_25 = upd s_row_23 (Int32.toNatClampNeg (x6_15 + 4)) x5 → ∀ s_row_26 : Nat → Int32, s_row_26 = upd s_row_25 (Int32.toNatClampNeg 58) ((s_row_25 (Int32.toNatClampNeg 58)) + 1) → Q (s_row_26 (Int32.toNatClampNeg 58)) s_refused s_row_26) ∧ ((s_row (Int32.toNatClampNeg 58)) = 6 → wp_Mo_refuse (-4) s_refused (fun (r_27 : Int32) (s_refused_28 : Nat → Int32) => Q r_27 s_refused_28 s_row)))) ∧ (r_12 = 0 → J50))))))))))))))) (wp_Mo_refuse (-2) s_refused (fun (r_3 : Int32) (s_refused_4 : Nat → Int32) => Q r_3 s_refused_4 s_row)))
set_option maxHeartbeats 4000000 in
set_option maxRecDepth 100000 in
theorem co_Mo_note (l : Launch) (D : va_G) (cy : ClassId × ClassId × ClassId × ClassId) (a_this a_refused a_row a_isKept a_text a_words a_cost a_steps a_mates a_bestMates a_comes : Nat) (s_above : Int64) (s_below : Int64) (s_length : Int32) (s_at : Int32) (s_behind : Int32) (s_readFlitches : Int32) (s_readFamilies : Int32) (s_doing : Int32) (s_refused : Nat → Int32) (s_row : Nat → Int32) (x1 : Int32) (x2 : Int32) (x3 : Int32) (x4 : Int32) (x5 : Int32) (Q : Int32 → (Nat → Int32) → (Nat → Int32) → Prop) (h : wp_Mo_note x1 x2 x3 x4 x5 s_refused s_row Q) : CoI l yX9_note wsX9_note rm_Mo_note D cy [.ref a_this, .int x1, .int x2, .int x3, .int x4, .int x5] (Wd_Mo_note cy a_this a_refused a_row a_isKept a_text a_words a_cost a_steps a_mates a_bestMates a_comes s_above s_below s_length s_at s_behind s_readFlitches s_readFamilies s_doing s_refused s_row) (fun u : (Nat → Int32) × (Nat → Int32) => (Wd_Mo_note cy a_this a_refused a_row a_isKept a_text a_words a_cost a_steps a_mates a_bestMates a_comes s_above s_below s_length s_at s_behind s_readFlitches s_readFamilies s_doing u.1 u.2)) (fun (r : Int32) (u : (Nat → Int32) × (Nat → Int32)) => Q r u.1 u.2) := by
  refine st_metI (cc := cX9_note) (maxL := 7) RX9 (by decide) rfl rfl (Nat.le_of_ble_eq_true rfl) ?_
  intro p e s m args below meth c A QQ ls F hA hKK hP hD hS hl hret
  have hK := hKK.1
  have hnest := hKK.2.1
  have hx := F.1
  have hb := F.2.1
  have hown := F.2.2.2.1
  have hts := F.2.2.2.2
  have in_X9 : ∀ w ∈ u_ws RX9 TX9 18, w ∈ wsX9_note := (fun _ h => List.mem_cons_of_mem _ (List.mem_append_right _ h))
  have fl_7 := (hts (.fieldLink RX9 7 "RasherCaseModel" "row" "[I") (List.mem_of_getElem? (i := 1) rfl))
  have hl : lv_has ls 7 [(0, .ref a_this), (1, .int x1), (2, .int x2), (3, .int x3), (4, .int x4), (5, .int x5)] := hl
  unfold wp_Mo_note at h
  refine lv_aload_n hx hb dX9_note_0 rfl (lv_at hl 0 rfl) ?_
  refine lv_iload_n hx hb dX9_note_1 rfl (lv_at hl 1 rfl) ?_
  refine st_callRI (st_runVR (n := 1) (As := [.int x1]) (rest := []) (q0 := 0) F (co_Mo_isFlitch l D cy a_this a_row a_isKept a_refused a_text a_words a_cost a_steps a_mates a_bestMates a_comes s_above s_below s_length s_at s_behind s_readFlitches s_readFamilies s_doing s_row x1 _ h) gX9_note_X9_isFlitch rfl (by decide +kernel) rfl hKK hP [0, 2] rfl rfl rfl rfl hl.1 rfl (Nat.le_of_ble_eq_true rfl) dX9_note_2) (fun r_1 h => ?_)
  obtain ⟨J50, hJ50, h⟩ := jn0_ex h
  have kJ50_1 : ∀  (H : Heap) (locs : List Loc) (ls : Array Slot), J50 → va_P D vwCl (Wd_Mo_note cy a_this a_refused a_row a_isKept a_text a_words a_cost a_steps a_mates a_bestMates a_comes s_above s_below s_length s_at s_behind s_readFlitches s_readFamilies s_doing s_refused s_row) H → va_D A (Wd_Mo_note cy a_this a_refused a_row a_isKept a_text a_words a_cost a_steps a_mates a_bestMates a_comes s_above s_below s_length s_at s_behind s_readFlitches s_readFamilies s_doing s_refused s_row) → va_S A s.heap H locs → lv_has ls 7 [(0, .ref a_this)] → W p l e rm_Mo_note s m args below meth c H locs 0 0 QQ (F0 m 50 ls []) := by
    intro  H locs ls h hP hD hS hl
    have h := hJ50  h
    refine lv_aload_n hx hb dX9_note_50 rfl (lv_at hl 0 rfl) ?_
    refine lv_bipush (v := (-2)) hx hb dX9_note_51 (by decide) ?_
    refine st_callI (WR := [2].filterMap (fun i => (Wd_Mo_note cy a_this a_refused a_row a_isKept a_text a_words a_cost a_steps a_mates a_bestMates a_comes s_above s_below s_length s_at s_behind s_readFlitches s_readFamilies s_doing s_refused s_row)[i]?)) (WSn := fun u => (Wd_Mo_note cy a_this a_refused a_row a_isKept a_text a_words a_cost a_steps a_mates a_bestMates a_comes s_above s_below s_length s_at s_behind s_readFlitches s_readFamilies s_doing u s_row)) (st_runV (n := 1) (As := [.int (-2)]) (rest := []) (q0 := 0) F ((co_Mo_refuse l D cy a_this a_refused a_row a_isKept a_text a_words a_cost a_steps a_mates a_bestMates a_comes s_above s_below s_length s_at s_behind s_readFlitches s_readFamilies s_doing s_refused (-2) _ h) _) rfl gX9_note_X9_refuse rfl (by decide +kernel) rfl hKK hP hD [0, 1] rfl rfl rfl rfl rfl hl.1 rfl (Nat.le_of_ble_eq_true rfl) dX9_note_53) hP hD hS hA [0, 1] [2] [1, 2, 0] rfl rfl rfl (fun _ => rfl) (fun r_3 u H locs h hP hD hS => ?_)
    obtain ⟨s_refused_4, rfl⟩ : ∃ z, z = u := ⟨_, rfl⟩
    have hP : va_P D vwCl (Wd_Mo_note cy a_this a_refused a_row a_isKept a_text a_words a_cost a_steps a_mates a_bestMates a_comes s_above s_below s_length s_at s_behind s_readFlitches s_readFamilies s_doing s_refused_4 s_row) H := hP
    have hD : va_D A (Wd_Mo_note cy a_this a_refused a_row a_isKept a_text a_words a_cost a_steps a_mates a_bestMates a_comes s_above s_below s_length s_at s_behind s_readFlitches s_readFamilies s_doing s_refused_4 s_row) := hD
    exact hret _ (s_refused_4, s_row) _ _ _ _ h hP hD hS dX9_note_56
  refine lv_if_eq (tgt := 50) hx hb dX9_note_5 (by decide) (fun c_5 => ?_) (fun c_5 => ?_)
  · have h := h.1 c_5
    exact kJ50_1  _ _ _ h hP hD hS (lv_sub hl [0] rfl)
  · have h := h.2 c_5
    refine lv_iload_n hx hb dX9_note_8 rfl (lv_at hl 2 rfl) ?_
    refine lv_iconst (v := 1) hx hb dX9_note_9 (by decide) ?_
    refine lv_bipush (v := 20) hx hb dX9_note_10 (by decide) ?_
    refine st_callRI (st_runSR (n := 3) (As := [.int x2, .int 1, .int 20]) (rest := []) F (co_Mo_in l D cy x2 1 20 _ h) gX9_note_X9_in rfl (by decide +kernel) rfl hKK hP [] rfl rfl hl.1 rfl (Nat.le_of_ble_eq_true rfl) dX9_note_12) (fun r_6 h => ?_)
    refine lv_if_eq (tgt := 50) hx hb dX9_note_15 (by decide) (fun c_7 => ?_) (fun c_7 => ?_)
    · have h := h.1 c_7
      exact kJ50_1  _ _ _ h hP hD hS (lv_sub hl [0] rfl)
    · have h := h.2 c_7
      refine lv_iload_n hx hb dX9_note_18 rfl (lv_at hl 3 rfl) ?_
      refine lv_iconst (v := 0) hx hb dX9_note_19 (by decide) ?_
      refine lv_bipush (v := 8) hx hb dX9_note_20 (by decide) ?_
      refine st_callRI (st_runSR (n := 3) (As := [.int x3, .int 0, .int 8]) (rest := []) F (co_Mo_in l D cy x3 0 8 _ h) gX9_note_X9_in rfl (by decide +kernel) rfl hKK hP [] rfl rfl hl.1 rfl (Nat.le_of_ble_eq_true rfl) dX9_note_22) (fun r_8 h => ?_)
      refine lv_if_eq (tgt := 50) hx hb dX9_note_25 (by decide) (fun c_9 => ?_) (fun c_9 => ?_)
      · have h := h.1 c_9
        exact kJ50_1  _ _ _ h hP hD hS (lv_sub hl [0] rfl)
      · have h := h.2 c_9
        refine lv_iload hx hb dX9_note_28 (lv_at hl 4 rfl) ?_
        refine lv_iconst (v := 0) hx hb dX9_note_30 (by decide) ?_
        refine lv_bipush (v := 99) hx hb dX9_note_31 (by decide) ?_
        refine st_callRI (st_runSR (n := 3) (As := [.int x4, .int 0, .int 99]) (rest := []) F (co_Mo_in l D cy x4 0 99 _ h) gX9_note_X9_in rfl (by decide +kernel) rfl hKK hP [] rfl rfl hl.1 rfl (Nat.le_of_ble_eq_true rfl) dX9_note_33) (fun r_10 h => ?_)
        refine lv_if_eq (tgt := 50) hx hb dX9_note_36 (by decide) (fun c_11 => ?_) (fun c_11 => ?_)
        · have h := h.1 c_11
          exact kJ50_1  _ _ _ h hP hD hS (lv_sub hl [0] rfl)
        · have h := h.2 c_11
          refine lv_iload hx hb dX9_note_39 (lv_at hl 5 rfl) ?_
          refine lv_iconst (v := 0) hx hb dX9_note_41 (by decide) ?_
          refine lv_bipush (v := 60) hx hb dX9_note_42 (by decide) ?_
          refine st_callRI (st_runSR (n := 3) (As := [.int x5, .int 0, .int 60]) (rest := []) F (co_Mo_in l D cy x5 0 60 _ h) gX9_note_X9_in rfl (by decide +kernel) rfl hKK hP [] rfl rfl hl.1 rfl (Nat.le_of_ble_eq_true rfl) dX9_note_44) (fun r_12 h => ?_)
          refine lv_if_ne (tgt := 57) hx hb dX9_note_47 (by decide) (fun c_13 => ?_) (fun c_13 => ?_)
          · have h := h.1 c_13
            refine lv_aload_n hx hb dX9_note_57 rfl (lv_at hl 0 rfl) ?_
            refine va_get (D := D) (ci := 8) (v := .ref a_row) (C := RX9) (T := TX9) (N := 18) hx hb hts in_X9 hown hK hP 0 rfl rfl 0 (by decide) fl_7 (fun _ h9 => h9) rfl dX9_note_58 ?_
            refine lv_bipush (v := 58) hx hb dX9_note_61 (by decide) ?_
            refine va_iald hx hb hK hP 2 1 rfl rfl (by unfold vp_in; decide) dX9_note_63 ?_
            refine lv_bipush (v := 6) hx hb dX9_note_64 (by decide) ?_
            refine lv_icmp_ne (tgt := 76) hx hb dX9_note_66 (by decide) (fun c_14 => ?_) (fun c_14 => ?_)
            · have h := h.1 c_14
              refine lv_bipush (v := 59) hx hb dX9_note_76 (by decide) ?_
              refine lv_iconst (v := 5) hx hb dX9_note_78 (by decide) ?_
              refine lv_aload_n hx hb dX9_note_79 rfl (lv_at hl 0 rfl) ?_
              refine va_get (D := D) (ci := 8) (v := .ref a_row) (C := RX9) (T := TX9) (N := 18) hx hb hts in_X9 hown hK hP 0 rfl rfl 0 (by decide) fl_7 (fun _ h9 => h9) rfl dX9_note_80 ?_
              refine lv_bipush (v := 58) hx hb dX9_note_83 (by decide) ?_
              refine va_iald hx hb hK hP 2 1 rfl rfl (by unfold vp_in; decide) dX9_note_85 ?_
              refine lv_imul hx hb dX9_note_86 ?_
              refine lv_iadd hx hb dX9_note_87 ?_
              refine lv_topi (fun x6_15 ex6_15 => ?_)
              have h := h x6_15 ex6_15
              refine lv_istore (lv' := [(6, .int x6_15), (0, .ref a_this), (1, .int x1), (2, .int x2), (3, .int x3), (4, .int x4), (5, .int x5)]) hx hb dX9_note_88 hl (by decide) rfl (fun ls hl => ?_)
              refine lv_aload_n hx hb dX9_note_90 rfl (lv_at hl 1 rfl) ?_
              refine va_get (D := D) (ci := 8) (v := .ref a_row) (C := RX9) (T := TX9) (N := 18) hx hb hts in_X9 hown hK hP 0 rfl rfl 0 (by decide) fl_7 (fun _ h9 => h9) rfl dX9_note_91 ?_
              refine lv_iload hx hb dX9_note_94 (lv_at hl 0 rfl) ?_
              refine lv_iload_n hx hb dX9_note_96 rfl (lv_at hl 2 rfl) ?_
              obtain ⟨hi_16, h⟩ := h
              refine va_iast hx hb hK hP hD hS 2 1 rfl rfl hi_16 dX9_note_97 (fun H locs hP hD hS => ?_)
              obtain ⟨s_row_17, es_row_17⟩ : ∃ f : Nat → Int32, f = upd s_row (Int32.toNatClampNeg x6_15) x1 := ⟨_, rfl⟩
              have hP : va_P D vwCl (Wd_Mo_note cy a_this a_refused a_row a_isKept a_text a_words a_cost a_steps a_mates a_bestMates a_comes s_above s_below s_length s_at s_behind s_readFlitches s_readFamilies s_doing s_refused s_row_17) H := by rw [es_row_17]; exact hP
              have hD : va_D A (Wd_Mo_note cy a_this a_refused a_row a_isKept a_text a_words a_cost a_steps a_mates a_bestMates a_comes s_above s_below s_length s_at s_behind s_readFlitches s_readFamilies s_doing s_refused s_row_17) := by rw [es_row_17]; exact hD
              have h := h s_row_17 es_row_17
              refine lv_aload_n hx hb dX9_note_98 rfl (lv_at hl 1 rfl) ?_
              refine va_get (D := D) (ci := 8) (v := .ref a_row) (C := RX9) (T := TX9) (N := 18) hx hb hts in_X9 hown hK hP 0 rfl rfl 0 (by decide) fl_7 (fun _ h9 => h9) rfl dX9_note_99 ?_
              refine lv_iload hx hb dX9_note_102 (lv_at hl 0 rfl) ?_
              refine lv_iconst (v := 1) hx hb dX9_note_104 (by decide) ?_
              refine lv_iadd hx hb dX9_note_105 ?_
              refine lv_iload_n hx hb dX9_note_106 rfl (lv_at hl 3 rfl) ?_
              obtain ⟨hi_18, h⟩ := h
              refine va_iast hx hb hK hP hD hS 2 1 rfl rfl hi_18 dX9_note_107 (fun H locs hP hD hS => ?_)
              obtain ⟨s_row_19, es_row_19⟩ : ∃ f : Nat → Int32, f = upd s_row_17 (Int32.toNatClampNeg (x6_15 + 1)) x2 := ⟨_, rfl⟩
              have hP : va_P D vwCl (Wd_Mo_note cy a_this a_refused a_row a_isKept a_text a_words a_cost a_steps a_mates a_bestMates a_comes s_above s_below s_length s_at s_behind s_readFlitches s_readFamilies s_doing s_refused s_row_19) H := by rw [es_row_19]; exact hP
              have hD : va_D A (Wd_Mo_note cy a_this a_refused a_row a_isKept a_text a_words a_cost a_steps a_mates a_bestMates a_comes s_above s_below s_length s_at s_behind s_readFlitches s_readFamilies s_doing s_refused s_row_19) := by rw [es_row_19]; exact hD
              have h := h s_row_19 es_row_19
              refine lv_aload_n hx hb dX9_note_108 rfl (lv_at hl 1 rfl) ?_
              refine va_get (D := D) (ci := 8) (v := .ref a_row) (C := RX9) (T := TX9) (N := 18) hx hb hts in_X9 hown hK hP 0 rfl rfl 0 (by decide) fl_7 (fun _ h9 => h9) rfl dX9_note_109 ?_
              refine lv_iload hx hb dX9_note_112 (lv_at hl 0 rfl) ?_
              refine lv_iconst (v := 2) hx hb dX9_note_114 (by decide) ?_
              refine lv_iadd hx hb dX9_note_115 ?_
              refine lv_iload_n hx hb dX9_note_116 rfl (lv_at hl 4 rfl) ?_
              obtain ⟨hi_20, h⟩ := h
              refine va_iast hx hb hK hP hD hS 2 1 rfl rfl hi_20 dX9_note_117 (fun H locs hP hD hS => ?_)
              obtain ⟨s_row_21, es_row_21⟩ : ∃ f : Nat → Int32, f = upd s_row_19 (Int32.toNatClampNeg (x6_15 + 2)) x3 := ⟨_, rfl⟩
              have hP : va_P D vwCl (Wd_Mo_note cy a_this a_refused a_row a_isKept a_text a_words a_cost a_steps a_mates a_bestMates a_comes s_above s_below s_length s_at s_behind s_readFlitches s_readFamilies s_doing s_refused s_row_21) H := by rw [es_row_21]; exact hP
              have hD : va_D A (Wd_Mo_note cy a_this a_refused a_row a_isKept a_text a_words a_cost a_steps a_mates a_bestMates a_comes s_above s_below s_length s_at s_behind s_readFlitches s_readFamilies s_doing s_refused s_row_21) := by rw [es_row_21]; exact hD
              have h := h s_row_21 es_row_21
              refine lv_aload_n hx hb dX9_note_118 rfl (lv_at hl 1 rfl) ?_
              refine va_get (D := D) (ci := 8) (v := .ref a_row) (C := RX9) (T := TX9) (N := 18) hx hb hts in_X9 hown hK hP 0 rfl rfl 0 (by decide) fl_7 (fun _ h9 => h9) rfl dX9_note_119 ?_
              refine lv_iload hx hb dX9_note_122 (lv_at hl 0 rfl) ?_
              refine lv_iconst (v := 3) hx hb dX9_note_124 (by decide) ?_
              refine lv_iadd hx hb dX9_note_125 ?_
              refine lv_iload hx hb dX9_note_126 (lv_at hl 5 rfl) ?_
              obtain ⟨hi_22, h⟩ := h
              refine va_iast hx hb hK hP hD hS 2 1 rfl rfl hi_22 dX9_note_128 (fun H locs hP hD hS => ?_)
              obtain ⟨s_row_23, es_row_23⟩ : ∃ f : Nat → Int32, f = upd s_row_21 (Int32.toNatClampNeg (x6_15 + 3)) x4 := ⟨_, rfl⟩
              have hP : va_P D vwCl (Wd_Mo_note cy a_this a_refused a_row a_isKept a_text a_words a_cost a_steps a_mates a_bestMates a_comes s_above s_below s_length s_at s_behind s_readFlitches s_readFamilies s_doing s_refused s_row_23) H := by rw [es_row_23]; exact hP
              have hD : va_D A (Wd_Mo_note cy a_this a_refused a_row a_isKept a_text a_words a_cost a_steps a_mates a_bestMates a_comes s_above s_below s_length s_at s_behind s_readFlitches s_readFamilies s_doing s_refused s_row_23) := by rw [es_row_23]; exact hD
              have h := h s_row_23 es_row_23
              refine lv_aload_n hx hb dX9_note_129 rfl (lv_at hl 1 rfl) ?_
              refine va_get (D := D) (ci := 8) (v := .ref a_row) (C := RX9) (T := TX9) (N := 18) hx hb hts in_X9 hown hK hP 0 rfl rfl 0 (by decide) fl_7 (fun _ h9 => h9) rfl dX9_note_130 ?_
              refine lv_iload hx hb dX9_note_133 (lv_at hl 0 rfl) ?_
              refine lv_iconst (v := 4) hx hb dX9_note_135 (by decide) ?_
              refine lv_iadd hx hb dX9_note_136 ?_
              refine lv_iload hx hb dX9_note_137 (lv_at hl 6 rfl) ?_
              obtain ⟨hi_24, h⟩ := h
              refine va_iast hx hb hK hP hD hS 2 1 rfl rfl hi_24 dX9_note_139 (fun H locs hP hD hS => ?_)
              obtain ⟨s_row_25, es_row_25⟩ : ∃ f : Nat → Int32, f = upd s_row_23 (Int32.toNatClampNeg (x6_15 + 4)) x5 := ⟨_, rfl⟩
              have hP : va_P D vwCl (Wd_Mo_note cy a_this a_refused a_row a_isKept a_text a_words a_cost a_steps a_mates a_bestMates a_comes s_above s_below s_length s_at s_behind s_readFlitches s_readFamilies s_doing s_refused s_row_25) H := by rw [es_row_25]; exact hP
              have hD : va_D A (Wd_Mo_note cy a_this a_refused a_row a_isKept a_text a_words a_cost a_steps a_mates a_bestMates a_comes s_above s_below s_length s_at s_behind s_readFlitches s_readFamilies s_doing s_refused s_row_25) := by rw [es_row_25]; exact hD
              have h := h s_row_25 es_row_25
              refine lv_aload_n hx hb dX9_note_140 rfl (lv_at hl 1 rfl) ?_
              refine va_get (D := D) (ci := 8) (v := .ref a_row) (C := RX9) (T := TX9) (N := 18) hx hb hts in_X9 hown hK hP 0 rfl rfl 0 (by decide) fl_7 (fun _ h9 => h9) rfl dX9_note_141 ?_
              refine lv_bipush (v := 58) hx hb dX9_note_144 (by decide) ?_
              refine lv_dup2_11 hx hb dX9_note_146 rfl rfl ?_
              refine va_iald hx hb hK hP 2 1 rfl rfl (by unfold vp_in; decide) dX9_note_147 ?_
              refine lv_iconst (v := 1) hx hb dX9_note_148 (by decide) ?_
              refine lv_iadd hx hb dX9_note_149 ?_
              refine va_iast hx hb hK hP hD hS 2 1 rfl rfl (by unfold vp_in; decide) dX9_note_150 (fun H locs hP hD hS => ?_)
              obtain ⟨s_row_26, es_row_26⟩ : ∃ f : Nat → Int32, f = upd s_row_25 (Int32.toNatClampNeg 58) ((s_row_25 (Int32.toNatClampNeg 58)) + 1) := ⟨_, rfl⟩
              have hP : va_P D vwCl (Wd_Mo_note cy a_this a_refused a_row a_isKept a_text a_words a_cost a_steps a_mates a_bestMates a_comes s_above s_below s_length s_at s_behind s_readFlitches s_readFamilies s_doing s_refused s_row_26) H := by rw [es_row_26]; exact hP
              have hD : va_D A (Wd_Mo_note cy a_this a_refused a_row a_isKept a_text a_words a_cost a_steps a_mates a_bestMates a_comes s_above s_below s_length s_at s_behind s_readFlitches s_readFamilies s_doing s_refused s_row_26) := by rw [es_row_26]; exact hD
              have h := h s_row_26 es_row_26
              refine lv_aload_n hx hb dX9_note_151 rfl (lv_at hl 1 rfl) ?_
              refine va_get (D := D) (ci := 8) (v := .ref a_row) (C := RX9) (T := TX9) (N := 18) hx hb hts in_X9 hown hK hP 0 rfl rfl 0 (by decide) fl_7 (fun _ h9 => h9) rfl dX9_note_152 ?_
              refine lv_bipush (v := 58) hx hb dX9_note_155 (by decide) ?_
              refine va_iald hx hb hK hP 2 1 rfl rfl (by unfold vp_in; decide) dX9_note_157 ?_
              exact hret _ (s_refused, s_row_26) _ _ _ _ h hP hD hS dX9_note_158
            · have h := h.2 c_14
              refine lv_aload_n hx hb dX9_note_69 rfl (lv_at hl 0 rfl) ?_
              refine lv_bipush (v := (-4)) hx hb dX9_note_70 (by decide) ?_
              refine st_callI (WR := [2].filterMap (fun i => (Wd_Mo_note cy a_this a_refused a_row a_isKept a_text a_words a_cost a_steps a_mates a_bestMates a_comes s_above s_below s_length s_at s_behind s_readFlitches s_readFamilies s_doing s_refused s_row)[i]?)) (WSn := fun u => (Wd_Mo_note cy a_this a_refused a_row a_isKept a_text a_words a_cost a_steps a_mates a_bestMates a_comes s_above s_below s_length s_at s_behind s_readFlitches s_readFamilies s_doing u s_row)) (st_runV (n := 1) (As := [.int (-4)]) (rest := []) (q0 := 0) F ((co_Mo_refuse l D cy a_this a_refused a_row a_isKept a_text a_words a_cost a_steps a_mates a_bestMates a_comes s_above s_below s_length s_at s_behind s_readFlitches s_readFamilies s_doing s_refused (-4) _ h) _) rfl gX9_note_X9_refuse rfl (by decide +kernel) rfl hKK hP hD [0, 1] rfl rfl rfl rfl rfl hl.1 rfl (Nat.le_of_ble_eq_true rfl) dX9_note_72) hP hD hS hA [0, 1] [2] [1, 2, 0] rfl rfl rfl (fun _ => rfl) (fun r_27 u H locs h hP hD hS => ?_)
              obtain ⟨s_refused_28, rfl⟩ : ∃ z, z = u := ⟨_, rfl⟩
              have hP : va_P D vwCl (Wd_Mo_note cy a_this a_refused a_row a_isKept a_text a_words a_cost a_steps a_mates a_bestMates a_comes s_above s_below s_length s_at s_behind s_readFlitches s_readFamilies s_doing s_refused_28 s_row) H := hP
              have hD : va_D A (Wd_Mo_note cy a_this a_refused a_row a_isKept a_text a_words a_cost a_steps a_mates a_bestMates a_comes s_above s_below s_length s_at s_behind s_readFlitches s_readFamilies s_doing s_refused_28 s_row) := hD
              exact hret _ (s_refused_28, s_row) _ _ _ _ h hP hD hS dX9_note_75
          · have h := h.2 c_13
            exact kJ50_1  _ _ _ h hP hD hS (lv_sub hl [0] rfl)
abbrev Wd_Mo_mark (cy : ClassId × ClassId × ClassId × ClassId) (a_this a_refused a_row a_isKept a_text a_words a_cost a_steps a_mates a_bestMates a_comes : Nat) (s_above : Int64) (s_below : Int64) (s_length : Int32) (s_at : Int32) (s_behind : Int32) (s_readFlitches : Int32) (s_readFamilies : Int32) (s_doing : Int32) (s_refused : Nat → Int32) (s_row : Nat → Int32) : va_W := [(a_this, .inr (8, [.ref a_row, .ref a_isKept, .ref a_refused, .long s_above, .long s_below, .ref a_text, .int s_length, .ref a_words, .int s_at, .int s_behind, .int s_readFlitches, .int s_readFamilies, .int s_doing, .ref a_cost, .ref a_steps, .ref a_mates, .ref a_bestMates, .ref a_comes])), (a_refused, .inl (cy.2.1, 3, .inl s_refused)), (a_row, .inl (cy.2.1, 770, .inl s_row))]
abbrev rm_Mo_mark : Room := { frames := 2, cells := 0, slots := 0, locals := 43 }
def wp_Mo_mark (x1 : Int32) (x2 : Int32) (x3 : Int32) (x4 : Int32) (s_refused : Nat → Int32) (s_row : Nat → Int32) (Q : Int32 → (Nat → Int32) → (Nat → Int32) → Prop) : Prop := wp_Mo_isFamily x1 s_row (fun (r_1 : Int32) => jn0 (fun (J39 : Prop) => ((r_1 = 0 → J39) ∧ (¬ r_1 = 0 → wp_Mo_in x2 0 60 (fun (r_6 : Int32) => ((r_6 = 0 → J39) ∧ (¬ r_6 = 0 → wp_Mo_in x3 0 99 (fun (r_8 : Int32) => ((r_8 = 0 → J39) ∧ (¬ r_8 = 0 → wp_Mo_in x4 0 40 (fun (r_10 : Int32) => ((¬ r_10 = 0 → ((¬ (s_row (Int32.toNatClampNeg 89)) = 6 → ∀ x5_13 : Int32, x5_13 = (90 + (4 * (s_row (Int32.toNatClampNeg 89)))) → vp_in x5_13 770 ∧ ∀ s_row_15 : Nat → Int32, s_row_15 = upd s_row (Int32.toNatClampNeg x5_13) x1 → vp_in (x5_13 + 1) 770 ∧ ∀ s_row_17 : Nat → Int32, s_row_17 = upd s_row_15 (Int32.toNatClampNeg (x5_13 + 1)) x2 → vp_in (x5_13 + 2) 770 ∧ ∀ s_row_19 : Nat → Int32, s_row_19 = upd s_row_17 (Int32.toNatClampNeg (x5_13 + 2)) x3 → vp_in (x5_13 + 3) 770 ∧ ∀ s_row_21 : Nat → Int32, s_row_21 = upd s_row_19 (Int32.toNatClampNeg (x5_13 + 3)) x4 → ∀ s_row_22 : Nat → Int32, s_row_22 = upd s_row_21 (Int32.toNatClampNeg 89) ((s_row_21 (Int32.toNatClampNeg 89)) + 1) → Q (s_row_22 (Int32.toNatClampNeg 89)) s_refused s_row_22) ∧ ((s_row (Int32.toNatClampNeg 89)) = 6 → wp_Mo_refuse (-4) s_refused (fun (r_23 : Int32) (s_refused_24 : Nat → Int32) => Q r_23 s_refused_24 s_row)))) ∧ (r_10 = 0 → J39)))))))))))) (wp_Mo_refuse (-2) s_refused (fun (r_3 : Int32) (s_refused_4 : Nat → Int32) => Q r_3 s_refused_4 s_row)))
set_option maxHeartbeats 4000000 in
set_option maxRecDepth 100000 in
theorem co_Mo_mark (l : Launch) (D : va_G) (cy : ClassId × ClassId × ClassId × ClassId) (a_this a_refused a_row a_isKept a_text a_words a_cost a_steps a_mates a_bestMates a_comes : Nat) (s_above : Int64) (s_below : Int64) (s_length : Int32) (s_at : Int32) (s_behind : Int32) (s_readFlitches : Int32) (s_readFamilies : Int32) (s_doing : Int32) (s_refused : Nat → Int32) (s_row : Nat → Int32) (x1 : Int32) (x2 : Int32) (x3 : Int32) (x4 : Int32) (Q : Int32 → (Nat → Int32) → (Nat → Int32) → Prop) (h : wp_Mo_mark x1 x2 x3 x4 s_refused s_row Q) : CoI l yX9_mark wsX9_mark rm_Mo_mark D cy [.ref a_this, .int x1, .int x2, .int x3, .int x4] (Wd_Mo_mark cy a_this a_refused a_row a_isKept a_text a_words a_cost a_steps a_mates a_bestMates a_comes s_above s_below s_length s_at s_behind s_readFlitches s_readFamilies s_doing s_refused s_row) (fun u : (Nat → Int32) × (Nat → Int32) => (Wd_Mo_mark cy a_this a_refused a_row a_isKept a_text a_words a_cost a_steps a_mates a_bestMates a_comes s_above s_below s_length s_at s_behind s_readFlitches s_readFamilies s_doing u.1 u.2)) (fun (r : Int32) (u : (Nat → Int32) × (Nat → Int32)) => Q r u.1 u.2) := by
  refine st_metI (cc := cX9_mark) (maxL := 6) RX9 (by decide) rfl rfl (Nat.le_of_ble_eq_true rfl) ?_
  intro p e s m args below meth c A QQ ls F hA hKK hP hD hS hl hret
  have hK := hKK.1
  have hnest := hKK.2.1
  have hx := F.1
  have hb := F.2.1
  have hown := F.2.2.2.1
  have hts := F.2.2.2.2
  have in_X9 : ∀ w ∈ u_ws RX9 TX9 18, w ∈ wsX9_mark := (fun _ h => List.mem_cons_of_mem _ (List.mem_append_right _ h))
  have fl_7 := (hts (.fieldLink RX9 7 "RasherCaseModel" "row" "[I") (List.mem_of_getElem? (i := 1) rfl))
  have hl : lv_has ls 6 [(0, .ref a_this), (1, .int x1), (2, .int x2), (3, .int x3), (4, .int x4)] := hl
  unfold wp_Mo_mark at h
  refine lv_aload_n hx hb dX9_mark_0 rfl (lv_at hl 0 rfl) ?_
  refine lv_iload_n hx hb dX9_mark_1 rfl (lv_at hl 1 rfl) ?_
  refine st_callRI (st_runVR (n := 1) (As := [.int x1]) (rest := []) (q0 := 0) F (co_Mo_isFamily l D cy a_this a_row a_isKept a_refused a_text a_words a_cost a_steps a_mates a_bestMates a_comes s_above s_below s_length s_at s_behind s_readFlitches s_readFamilies s_doing s_row x1 _ h) gX9_mark_X9_isFamily rfl (by decide +kernel) rfl hKK hP [0, 2] rfl rfl rfl rfl hl.1 rfl (Nat.le_of_ble_eq_true rfl) dX9_mark_2) (fun r_1 h => ?_)
  obtain ⟨J39, hJ39, h⟩ := jn0_ex h
  have kJ39_1 : ∀  (H : Heap) (locs : List Loc) (ls : Array Slot), J39 → va_P D vwCl (Wd_Mo_mark cy a_this a_refused a_row a_isKept a_text a_words a_cost a_steps a_mates a_bestMates a_comes s_above s_below s_length s_at s_behind s_readFlitches s_readFamilies s_doing s_refused s_row) H → va_D A (Wd_Mo_mark cy a_this a_refused a_row a_isKept a_text a_words a_cost a_steps a_mates a_bestMates a_comes s_above s_below s_length s_at s_behind s_readFlitches s_readFamilies s_doing s_refused s_row) → va_S A s.heap H locs → lv_has ls 6 [(0, .ref a_this)] → W p l e rm_Mo_mark s m args below meth c H locs 0 0 QQ (F0 m 39 ls []) := by
    intro  H locs ls h hP hD hS hl
    have h := hJ39  h
    refine lv_aload_n hx hb dX9_mark_39 rfl (lv_at hl 0 rfl) ?_
    refine lv_bipush (v := (-2)) hx hb dX9_mark_40 (by decide) ?_
    refine st_callI (WR := [2].filterMap (fun i => (Wd_Mo_mark cy a_this a_refused a_row a_isKept a_text a_words a_cost a_steps a_mates a_bestMates a_comes s_above s_below s_length s_at s_behind s_readFlitches s_readFamilies s_doing s_refused s_row)[i]?)) (WSn := fun u => (Wd_Mo_mark cy a_this a_refused a_row a_isKept a_text a_words a_cost a_steps a_mates a_bestMates a_comes s_above s_below s_length s_at s_behind s_readFlitches s_readFamilies s_doing u s_row)) (st_runV (n := 1) (As := [.int (-2)]) (rest := []) (q0 := 0) F ((co_Mo_refuse l D cy a_this a_refused a_row a_isKept a_text a_words a_cost a_steps a_mates a_bestMates a_comes s_above s_below s_length s_at s_behind s_readFlitches s_readFamilies s_doing s_refused (-2) _ h) _) rfl gX9_mark_X9_refuse rfl (by decide +kernel) rfl hKK hP hD [0, 1] rfl rfl rfl rfl rfl hl.1 rfl (Nat.le_of_ble_eq_true rfl) dX9_mark_42) hP hD hS hA [0, 1] [2] [1, 2, 0] rfl rfl rfl (fun _ => rfl) (fun r_3 u H locs h hP hD hS => ?_)
    obtain ⟨s_refused_4, rfl⟩ : ∃ z, z = u := ⟨_, rfl⟩
    have hP : va_P D vwCl (Wd_Mo_mark cy a_this a_refused a_row a_isKept a_text a_words a_cost a_steps a_mates a_bestMates a_comes s_above s_below s_length s_at s_behind s_readFlitches s_readFamilies s_doing s_refused_4 s_row) H := hP
    have hD : va_D A (Wd_Mo_mark cy a_this a_refused a_row a_isKept a_text a_words a_cost a_steps a_mates a_bestMates a_comes s_above s_below s_length s_at s_behind s_readFlitches s_readFamilies s_doing s_refused_4 s_row) := hD
    exact hret _ (s_refused_4, s_row) _ _ _ _ h hP hD hS dX9_mark_45
  refine lv_if_eq (tgt := 39) hx hb dX9_mark_5 (by decide) (fun c_5 => ?_) (fun c_5 => ?_)
  · have h := h.1 c_5
    exact kJ39_1  _ _ _ h hP hD hS (lv_sub hl [0] rfl)
  · have h := h.2 c_5
    refine lv_iload_n hx hb dX9_mark_8 rfl (lv_at hl 2 rfl) ?_
    refine lv_iconst (v := 0) hx hb dX9_mark_9 (by decide) ?_
    refine lv_bipush (v := 60) hx hb dX9_mark_10 (by decide) ?_
    refine st_callRI (st_runSR (n := 3) (As := [.int x2, .int 0, .int 60]) (rest := []) F (co_Mo_in l D cy x2 0 60 _ h) gX9_mark_X9_in rfl (by decide +kernel) rfl hKK hP [] rfl rfl hl.1 rfl (Nat.le_of_ble_eq_true rfl) dX9_mark_12) (fun r_6 h => ?_)
    refine lv_if_eq (tgt := 39) hx hb dX9_mark_15 (by decide) (fun c_7 => ?_) (fun c_7 => ?_)
    · have h := h.1 c_7
      exact kJ39_1  _ _ _ h hP hD hS (lv_sub hl [0] rfl)
    · have h := h.2 c_7
      refine lv_iload_n hx hb dX9_mark_18 rfl (lv_at hl 3 rfl) ?_
      refine lv_iconst (v := 0) hx hb dX9_mark_19 (by decide) ?_
      refine lv_bipush (v := 99) hx hb dX9_mark_20 (by decide) ?_
      refine st_callRI (st_runSR (n := 3) (As := [.int x3, .int 0, .int 99]) (rest := []) F (co_Mo_in l D cy x3 0 99 _ h) gX9_mark_X9_in rfl (by decide +kernel) rfl hKK hP [] rfl rfl hl.1 rfl (Nat.le_of_ble_eq_true rfl) dX9_mark_22) (fun r_8 h => ?_)
      refine lv_if_eq (tgt := 39) hx hb dX9_mark_25 (by decide) (fun c_9 => ?_) (fun c_9 => ?_)
      · have h := h.1 c_9
        exact kJ39_1  _ _ _ h hP hD hS (lv_sub hl [0] rfl)
      · have h := h.2 c_9
        refine lv_iload hx hb dX9_mark_28 (lv_at hl 4 rfl) ?_
        refine lv_iconst (v := 0) hx hb dX9_mark_30 (by decide) ?_
        refine lv_bipush (v := 40) hx hb dX9_mark_31 (by decide) ?_
        refine st_callRI (st_runSR (n := 3) (As := [.int x4, .int 0, .int 40]) (rest := []) F (co_Mo_in l D cy x4 0 40 _ h) gX9_mark_X9_in rfl (by decide +kernel) rfl hKK hP [] rfl rfl hl.1 rfl (Nat.le_of_ble_eq_true rfl) dX9_mark_33) (fun r_10 h => ?_)
        refine lv_if_ne (tgt := 46) hx hb dX9_mark_36 (by decide) (fun c_11 => ?_) (fun c_11 => ?_)
        · have h := h.1 c_11
          refine lv_aload_n hx hb dX9_mark_46 rfl (lv_at hl 0 rfl) ?_
          refine va_get (D := D) (ci := 8) (v := .ref a_row) (C := RX9) (T := TX9) (N := 18) hx hb hts in_X9 hown hK hP 0 rfl rfl 0 (by decide) fl_7 (fun _ h9 => h9) rfl dX9_mark_47 ?_
          refine lv_bipush (v := 89) hx hb dX9_mark_50 (by decide) ?_
          refine va_iald hx hb hK hP 2 1 rfl rfl (by unfold vp_in; decide) dX9_mark_52 ?_
          refine lv_bipush (v := 6) hx hb dX9_mark_53 (by decide) ?_
          refine lv_icmp_ne (tgt := 65) hx hb dX9_mark_55 (by decide) (fun c_12 => ?_) (fun c_12 => ?_)
          · have h := h.1 c_12
            refine lv_bipush (v := 90) hx hb dX9_mark_65 (by decide) ?_
            refine lv_iconst (v := 4) hx hb dX9_mark_67 (by decide) ?_
            refine lv_aload_n hx hb dX9_mark_68 rfl (lv_at hl 0 rfl) ?_
            refine va_get (D := D) (ci := 8) (v := .ref a_row) (C := RX9) (T := TX9) (N := 18) hx hb hts in_X9 hown hK hP 0 rfl rfl 0 (by decide) fl_7 (fun _ h9 => h9) rfl dX9_mark_69 ?_
            refine lv_bipush (v := 89) hx hb dX9_mark_72 (by decide) ?_
            refine va_iald hx hb hK hP 2 1 rfl rfl (by unfold vp_in; decide) dX9_mark_74 ?_
            refine lv_imul hx hb dX9_mark_75 ?_
            refine lv_iadd hx hb dX9_mark_76 ?_
            refine lv_topi (fun x5_13 ex5_13 => ?_)
            have h := h x5_13 ex5_13
            refine lv_istore (lv' := [(5, .int x5_13), (0, .ref a_this), (1, .int x1), (2, .int x2), (3, .int x3), (4, .int x4)]) hx hb dX9_mark_77 hl (by decide) rfl (fun ls hl => ?_)
            refine lv_aload_n hx hb dX9_mark_79 rfl (lv_at hl 1 rfl) ?_
            refine va_get (D := D) (ci := 8) (v := .ref a_row) (C := RX9) (T := TX9) (N := 18) hx hb hts in_X9 hown hK hP 0 rfl rfl 0 (by decide) fl_7 (fun _ h9 => h9) rfl dX9_mark_80 ?_
            refine lv_iload hx hb dX9_mark_83 (lv_at hl 0 rfl) ?_
            refine lv_iload_n hx hb dX9_mark_85 rfl (lv_at hl 2 rfl) ?_
            obtain ⟨hi_14, h⟩ := h
            refine va_iast hx hb hK hP hD hS 2 1 rfl rfl hi_14 dX9_mark_86 (fun H locs hP hD hS => ?_)
            obtain ⟨s_row_15, es_row_15⟩ : ∃ f : Nat → Int32, f = upd s_row (Int32.toNatClampNeg x5_13) x1 := ⟨_, rfl⟩
            have hP : va_P D vwCl (Wd_Mo_mark cy a_this a_refused a_row a_isKept a_text a_words a_cost a_steps a_mates a_bestMates a_comes s_above s_below s_length s_at s_behind s_readFlitches s_readFamilies s_doing s_refused s_row_15) H := by rw [es_row_15]; exact hP
            have hD : va_D A (Wd_Mo_mark cy a_this a_refused a_row a_isKept a_text a_words a_cost a_steps a_mates a_bestMates a_comes s_above s_below s_length s_at s_behind s_readFlitches s_readFamilies s_doing s_refused s_row_15) := by rw [es_row_15]; exact hD
            have h := h s_row_15 es_row_15
            refine lv_aload_n hx hb dX9_mark_87 rfl (lv_at hl 1 rfl) ?_
            refine va_get (D := D) (ci := 8) (v := .ref a_row) (C := RX9) (T := TX9) (N := 18) hx hb hts in_X9 hown hK hP 0 rfl rfl 0 (by decide) fl_7 (fun _ h9 => h9) rfl dX9_mark_88 ?_
            refine lv_iload hx hb dX9_mark_91 (lv_at hl 0 rfl) ?_
            refine lv_iconst (v := 1) hx hb dX9_mark_93 (by decide) ?_
            refine lv_iadd hx hb dX9_mark_94 ?_
            refine lv_iload_n hx hb dX9_mark_95 rfl (lv_at hl 3 rfl) ?_
            obtain ⟨hi_16, h⟩ := h
            refine va_iast hx hb hK hP hD hS 2 1 rfl rfl hi_16 dX9_mark_96 (fun H locs hP hD hS => ?_)
            obtain ⟨s_row_17, es_row_17⟩ : ∃ f : Nat → Int32, f = upd s_row_15 (Int32.toNatClampNeg (x5_13 + 1)) x2 := ⟨_, rfl⟩
            have hP : va_P D vwCl (Wd_Mo_mark cy a_this a_refused a_row a_isKept a_text a_words a_cost a_steps a_mates a_bestMates a_comes s_above s_below s_length s_at s_behind s_readFlitches s_readFamilies s_doing s_refused s_row_17) H := by rw [es_row_17]; exact hP
            have hD : va_D A (Wd_Mo_mark cy a_this a_refused a_row a_isKept a_text a_words a_cost a_steps a_mates a_bestMates a_comes s_above s_below s_length s_at s_behind s_readFlitches s_readFamilies s_doing s_refused s_row_17) := by rw [es_row_17]; exact hD
            have h := h s_row_17 es_row_17
            refine lv_aload_n hx hb dX9_mark_97 rfl (lv_at hl 1 rfl) ?_
            refine va_get (D := D) (ci := 8) (v := .ref a_row) (C := RX9) (T := TX9) (N := 18) hx hb hts in_X9 hown hK hP 0 rfl rfl 0 (by decide) fl_7 (fun _ h9 => h9) rfl dX9_mark_98 ?_
            refine lv_iload hx hb dX9_mark_101 (lv_at hl 0 rfl) ?_
            refine lv_iconst (v := 2) hx hb dX9_mark_103 (by decide) ?_
            refine lv_iadd hx hb dX9_mark_104 ?_
            refine lv_iload_n hx hb dX9_mark_105 rfl (lv_at hl 4 rfl) ?_
            obtain ⟨hi_18, h⟩ := h
            refine va_iast hx hb hK hP hD hS 2 1 rfl rfl hi_18 dX9_mark_106 (fun H locs hP hD hS => ?_)
            obtain ⟨s_row_19, es_row_19⟩ : ∃ f : Nat → Int32, f = upd s_row_17 (Int32.toNatClampNeg (x5_13 + 2)) x3 := ⟨_, rfl⟩
            have hP : va_P D vwCl (Wd_Mo_mark cy a_this a_refused a_row a_isKept a_text a_words a_cost a_steps a_mates a_bestMates a_comes s_above s_below s_length s_at s_behind s_readFlitches s_readFamilies s_doing s_refused s_row_19) H := by rw [es_row_19]; exact hP
            have hD : va_D A (Wd_Mo_mark cy a_this a_refused a_row a_isKept a_text a_words a_cost a_steps a_mates a_bestMates a_comes s_above s_below s_length s_at s_behind s_readFlitches s_readFamilies s_doing s_refused s_row_19) := by rw [es_row_19]; exact hD
            have h := h s_row_19 es_row_19
            refine lv_aload_n hx hb dX9_mark_107 rfl (lv_at hl 1 rfl) ?_
            refine va_get (D := D) (ci := 8) (v := .ref a_row) (C := RX9) (T := TX9) (N := 18) hx hb hts in_X9 hown hK hP 0 rfl rfl 0 (by decide) fl_7 (fun _ h9 => h9) rfl dX9_mark_108 ?_
            refine lv_iload hx hb dX9_mark_111 (lv_at hl 0 rfl) ?_
            refine lv_iconst (v := 3) hx hb dX9_mark_113 (by decide) ?_
            refine lv_iadd hx hb dX9_mark_114 ?_
            refine lv_iload hx hb dX9_mark_115 (lv_at hl 5 rfl) ?_
            obtain ⟨hi_20, h⟩ := h
            refine va_iast hx hb hK hP hD hS 2 1 rfl rfl hi_20 dX9_mark_117 (fun H locs hP hD hS => ?_)
            obtain ⟨s_row_21, es_row_21⟩ : ∃ f : Nat → Int32, f = upd s_row_19 (Int32.toNatClampNeg (x5_13 + 3)) x4 := ⟨_, rfl⟩
            have hP : va_P D vwCl (Wd_Mo_mark cy a_this a_refused a_row a_isKept a_text a_words a_cost a_steps a_mates a_bestMates a_comes s_above s_below s_length s_at s_behind s_readFlitches s_readFamilies s_doing s_refused s_row_21) H := by rw [es_row_21]; exact hP
            have hD : va_D A (Wd_Mo_mark cy a_this a_refused a_row a_isKept a_text a_words a_cost a_steps a_mates a_bestMates a_comes s_above s_below s_length s_at s_behind s_readFlitches s_readFamilies s_doing s_refused s_row_21) := by rw [es_row_21]; exact hD
            have h := h s_row_21 es_row_21
            refine lv_aload_n hx hb dX9_mark_118 rfl (lv_at hl 1 rfl) ?_
            refine va_get (D := D) (ci := 8) (v := .ref a_row) (C := RX9) (T := TX9) (N := 18) hx hb hts in_X9 hown hK hP 0 rfl rfl 0 (by decide) fl_7 (fun _ h9 => h9) rfl dX9_mark_119 ?_
            refine lv_bipush (v := 89) hx hb dX9_mark_122 (by decide) ?_
            refine lv_dup2_11 hx hb dX9_mark_124 rfl rfl ?_
            refine va_iald hx hb hK hP 2 1 rfl rfl (by unfold vp_in; decide) dX9_mark_125 ?_
            refine lv_iconst (v := 1) hx hb dX9_mark_126 (by decide) ?_
            refine lv_iadd hx hb dX9_mark_127 ?_
            refine va_iast hx hb hK hP hD hS 2 1 rfl rfl (by unfold vp_in; decide) dX9_mark_128 (fun H locs hP hD hS => ?_)
            obtain ⟨s_row_22, es_row_22⟩ : ∃ f : Nat → Int32, f = upd s_row_21 (Int32.toNatClampNeg 89) ((s_row_21 (Int32.toNatClampNeg 89)) + 1) := ⟨_, rfl⟩
            have hP : va_P D vwCl (Wd_Mo_mark cy a_this a_refused a_row a_isKept a_text a_words a_cost a_steps a_mates a_bestMates a_comes s_above s_below s_length s_at s_behind s_readFlitches s_readFamilies s_doing s_refused s_row_22) H := by rw [es_row_22]; exact hP
            have hD : va_D A (Wd_Mo_mark cy a_this a_refused a_row a_isKept a_text a_words a_cost a_steps a_mates a_bestMates a_comes s_above s_below s_length s_at s_behind s_readFlitches s_readFamilies s_doing s_refused s_row_22) := by rw [es_row_22]; exact hD
            have h := h s_row_22 es_row_22
            refine lv_aload_n hx hb dX9_mark_129 rfl (lv_at hl 1 rfl) ?_
            refine va_get (D := D) (ci := 8) (v := .ref a_row) (C := RX9) (T := TX9) (N := 18) hx hb hts in_X9 hown hK hP 0 rfl rfl 0 (by decide) fl_7 (fun _ h9 => h9) rfl dX9_mark_130 ?_
            refine lv_bipush (v := 89) hx hb dX9_mark_133 (by decide) ?_
            refine va_iald hx hb hK hP 2 1 rfl rfl (by unfold vp_in; decide) dX9_mark_135 ?_
            exact hret _ (s_refused, s_row_22) _ _ _ _ h hP hD hS dX9_mark_136
          · have h := h.2 c_12
            refine lv_aload_n hx hb dX9_mark_58 rfl (lv_at hl 0 rfl) ?_
            refine lv_bipush (v := (-4)) hx hb dX9_mark_59 (by decide) ?_
            refine st_callI (WR := [2].filterMap (fun i => (Wd_Mo_mark cy a_this a_refused a_row a_isKept a_text a_words a_cost a_steps a_mates a_bestMates a_comes s_above s_below s_length s_at s_behind s_readFlitches s_readFamilies s_doing s_refused s_row)[i]?)) (WSn := fun u => (Wd_Mo_mark cy a_this a_refused a_row a_isKept a_text a_words a_cost a_steps a_mates a_bestMates a_comes s_above s_below s_length s_at s_behind s_readFlitches s_readFamilies s_doing u s_row)) (st_runV (n := 1) (As := [.int (-4)]) (rest := []) (q0 := 0) F ((co_Mo_refuse l D cy a_this a_refused a_row a_isKept a_text a_words a_cost a_steps a_mates a_bestMates a_comes s_above s_below s_length s_at s_behind s_readFlitches s_readFamilies s_doing s_refused (-4) _ h) _) rfl gX9_mark_X9_refuse rfl (by decide +kernel) rfl hKK hP hD [0, 1] rfl rfl rfl rfl rfl hl.1 rfl (Nat.le_of_ble_eq_true rfl) dX9_mark_61) hP hD hS hA [0, 1] [2] [1, 2, 0] rfl rfl rfl (fun _ => rfl) (fun r_23 u H locs h hP hD hS => ?_)
            obtain ⟨s_refused_24, rfl⟩ : ∃ z, z = u := ⟨_, rfl⟩
            have hP : va_P D vwCl (Wd_Mo_mark cy a_this a_refused a_row a_isKept a_text a_words a_cost a_steps a_mates a_bestMates a_comes s_above s_below s_length s_at s_behind s_readFlitches s_readFamilies s_doing s_refused_24 s_row) H := hP
            have hD : va_D A (Wd_Mo_mark cy a_this a_refused a_row a_isKept a_text a_words a_cost a_steps a_mates a_bestMates a_comes s_above s_below s_length s_at s_behind s_readFlitches s_readFamilies s_doing s_refused_24 s_row) := hD
            exact hret _ (s_refused_24, s_row) _ _ _ _ h hP hD hS dX9_mark_64
        · have h := h.2 c_11
          exact kJ39_1  _ _ _ h hP hD hS (lv_sub hl [0] rfl)
abbrev Wd_Mo_forget (cy : ClassId × ClassId × ClassId × ClassId) (a_this a_refused a_row a_isKept a_text a_words a_cost a_steps a_mates a_bestMates a_comes : Nat) (s_above : Int64) (s_below : Int64) (s_length : Int32) (s_at : Int32) (s_behind : Int32) (s_readFlitches : Int32) (s_readFamilies : Int32) (s_doing : Int32) (s_refused : Nat → Int32) (s_row : Nat → Int32) : va_W := [(a_this, .inr (8, [.ref a_row, .ref a_isKept, .ref a_refused, .long s_above, .long s_below, .ref a_text, .int s_length, .ref a_words, .int s_at, .int s_behind, .int s_readFlitches, .int s_readFamilies, .int s_doing, .ref a_cost, .ref a_steps, .ref a_mates, .ref a_bestMates, .ref a_comes])), (a_refused, .inl (cy.2.1, 3, .inl s_refused)), (a_row, .inl (cy.2.1, 770, .inl s_row))]
abbrev rm_Mo_forget : Room := { frames := 1, cells := 0, slots := 0, locals := 22 }
def wp_Mo_forget (x1 : Int32) (s_refused : Nat → Int32) (s_row : Nat → Int32) (Q : Int32 → (Nat → Int32) → (Nat → Int32) → Prop) : Prop := wp_Mo_in x1 0 2 (fun (r_1 : Int32) => ((¬ r_1 = 0 → jn1 (fun (J37 : Int32 → Prop) => ((¬ x1 = 0 → ((¬ x1 = 1 → J37 89) ∧ (x1 = 1 → J37 58))) ∧ (x1 = 0 → J37 42))) (fun (v_3 : Int32) => vp_in v_3 770 ∧ ∀ x3_6 : Int32, x3_6 = (s_row (Int32.toNatClampNeg v_3)) → vp_in v_3 770 ∧ ∀ s_row_8 : Nat → Int32, s_row_8 = upd s_row (Int32.toNatClampNeg v_3) 0 → Q x3_6 s_refused s_row_8)) ∧ (r_1 = 0 → wp_Mo_refuse (-2) s_refused (fun (r_11 : Int32) (s_refused_12 : Nat → Int32) => Q r_11 s_refused_12 s_row))))
set_option maxHeartbeats 4000000 in
set_option maxRecDepth 100000 in
theorem co_Mo_forget (l : Launch) (D : va_G) (cy : ClassId × ClassId × ClassId × ClassId) (a_this a_refused a_row a_isKept a_text a_words a_cost a_steps a_mates a_bestMates a_comes : Nat) (s_above : Int64) (s_below : Int64) (s_length : Int32) (s_at : Int32) (s_behind : Int32) (s_readFlitches : Int32) (s_readFamilies : Int32) (s_doing : Int32) (s_refused : Nat → Int32) (s_row : Nat → Int32) (x1 : Int32) (Q : Int32 → (Nat → Int32) → (Nat → Int32) → Prop) (h : wp_Mo_forget x1 s_refused s_row Q) : CoI l yX9_forget wsX9_forget rm_Mo_forget D cy [.ref a_this, .int x1] (Wd_Mo_forget cy a_this a_refused a_row a_isKept a_text a_words a_cost a_steps a_mates a_bestMates a_comes s_above s_below s_length s_at s_behind s_readFlitches s_readFamilies s_doing s_refused s_row) (fun u : (Nat → Int32) × (Nat → Int32) => (Wd_Mo_forget cy a_this a_refused a_row a_isKept a_text a_words a_cost a_steps a_mates a_bestMates a_comes s_above s_below s_length s_at s_behind s_readFlitches s_readFamilies s_doing u.1 u.2)) (fun (r : Int32) (u : (Nat → Int32) × (Nat → Int32)) => Q r u.1 u.2) := by
  refine st_metI (cc := cX9_forget) (maxL := 4) RX9 (by decide) rfl rfl (Nat.le_of_ble_eq_true rfl) ?_
  intro p e s m args below meth c A QQ ls F hA hKK hP hD hS hl hret
  have hK := hKK.1
  have hnest := hKK.2.1
  have hx := F.1
  have hb := F.2.1
  have hown := F.2.2.2.1
  have hts := F.2.2.2.2
  have in_X9 : ∀ w ∈ u_ws RX9 TX9 18, w ∈ wsX9_forget := (fun _ h => List.mem_cons_of_mem _ (List.mem_append_right _ h))
  have fl_7 := (hts (.fieldLink RX9 7 "RasherCaseModel" "row" "[I") (List.mem_of_getElem? (i := 1) rfl))
  have hl : lv_has ls 4 [(0, .ref a_this), (1, .int x1)] := hl
  unfold wp_Mo_forget at h
  refine lv_iload_n hx hb dX9_forget_0 rfl (lv_at hl 1 rfl) ?_
  refine lv_iconst (v := 0) hx hb dX9_forget_1 (by decide) ?_
  refine lv_iconst (v := 2) hx hb dX9_forget_2 (by decide) ?_
  refine st_callRI (st_runSR (n := 3) (As := [.int x1, .int 0, .int 2]) (rest := []) F (co_Mo_in l D cy x1 0 2 _ h) gX9_forget_X9_in rfl (by decide +kernel) rfl hKK hP [] rfl rfl hl.1 rfl (Nat.le_of_ble_eq_true rfl) dX9_forget_3) (fun r_1 h => ?_)
  refine lv_if_ne (tgt := 16) hx hb dX9_forget_6 (by decide) (fun c_2 => ?_) (fun c_2 => ?_)
  · have h := h.1 c_2
    refine lv_iload_n hx hb dX9_forget_16 rfl (lv_at hl 1 rfl) ?_
    obtain ⟨J37, hJ37, h⟩ := jn1_ex h
    have kJ37_3 : ∀ (v_3 : Int32) (H : Heap) (locs : List Loc) (ls : Array Slot), J37 v_3 → va_P D vwCl (Wd_Mo_forget cy a_this a_refused a_row a_isKept a_text a_words a_cost a_steps a_mates a_bestMates a_comes s_above s_below s_length s_at s_behind s_readFlitches s_readFamilies s_doing s_refused s_row) H → va_D A (Wd_Mo_forget cy a_this a_refused a_row a_isKept a_text a_words a_cost a_steps a_mates a_bestMates a_comes s_above s_below s_length s_at s_behind s_readFlitches s_readFamilies s_doing s_refused s_row) → va_S A s.heap H locs → lv_has ls 4 [(0, .ref a_this)] → W p l e rm_Mo_forget s m args below meth c H locs 0 0 QQ (F0 m 37 ls [.int v_3]) := by
      intro v_3 H locs ls h hP hD hS hl
      have h := hJ37 _ h
      refine lv_istore_n (lv' := [(2, .int v_3), (0, .ref a_this)]) hx hb dX9_forget_37 rfl hl (by decide) rfl (fun ls hl => ?_)
      refine lv_aload_n hx hb dX9_forget_38 rfl (lv_at hl 1 rfl) ?_
      refine va_get (D := D) (ci := 8) (v := .ref a_row) (C := RX9) (T := TX9) (N := 18) hx hb hts in_X9 hown hK hP 0 rfl rfl 0 (by decide) fl_7 (fun _ h9 => h9) rfl dX9_forget_39 ?_
      refine lv_iload_n hx hb dX9_forget_42 rfl (lv_at hl 0 rfl) ?_
      obtain ⟨hi_5, h⟩ := h
      refine va_iald hx hb hK hP 2 1 rfl rfl hi_5 dX9_forget_43 ?_
      refine lv_topi (fun x3_6 ex3_6 => ?_)
      have h := h x3_6 ex3_6
      refine lv_istore_n (lv' := [(3, .int x3_6), (2, .int v_3), (0, .ref a_this)]) hx hb dX9_forget_44 rfl hl (by decide) rfl (fun ls hl => ?_)
      refine lv_aload_n hx hb dX9_forget_45 rfl (lv_at hl 2 rfl) ?_
      refine va_get (D := D) (ci := 8) (v := .ref a_row) (C := RX9) (T := TX9) (N := 18) hx hb hts in_X9 hown hK hP 0 rfl rfl 0 (by decide) fl_7 (fun _ h9 => h9) rfl dX9_forget_46 ?_
      refine lv_iload_n hx hb dX9_forget_49 rfl (lv_at hl 1 rfl) ?_
      refine lv_iconst (v := 0) hx hb dX9_forget_50 (by decide) ?_
      obtain ⟨hi_7, h⟩ := h
      refine va_iast hx hb hK hP hD hS 2 1 rfl rfl hi_7 dX9_forget_51 (fun H locs hP hD hS => ?_)
      obtain ⟨s_row_8, es_row_8⟩ : ∃ f : Nat → Int32, f = upd s_row (Int32.toNatClampNeg v_3) 0 := ⟨_, rfl⟩
      have hP : va_P D vwCl (Wd_Mo_forget cy a_this a_refused a_row a_isKept a_text a_words a_cost a_steps a_mates a_bestMates a_comes s_above s_below s_length s_at s_behind s_readFlitches s_readFamilies s_doing s_refused s_row_8) H := by rw [es_row_8]; exact hP
      have hD : va_D A (Wd_Mo_forget cy a_this a_refused a_row a_isKept a_text a_words a_cost a_steps a_mates a_bestMates a_comes s_above s_below s_length s_at s_behind s_readFlitches s_readFamilies s_doing s_refused s_row_8) := by rw [es_row_8]; exact hD
      have h := h s_row_8 es_row_8
      refine lv_iload_n hx hb dX9_forget_52 rfl (lv_at hl 0 rfl) ?_
      exact hret _ (s_refused, s_row_8) _ _ _ _ h hP hD hS dX9_forget_53
    refine lv_if_ne (tgt := 25) hx hb dX9_forget_17 (by decide) (fun c_9 => ?_) (fun c_9 => ?_)
    · have h := h.1 c_9
      refine lv_iload_n hx hb dX9_forget_25 rfl (lv_at hl 1 rfl) ?_
      refine lv_iconst (v := 1) hx hb dX9_forget_26 (by decide) ?_
      refine lv_icmp_ne (tgt := 35) hx hb dX9_forget_27 (by decide) (fun c_10 => ?_) (fun c_10 => ?_)
      · have h := h.1 c_10
        refine lv_bipush (v := 89) hx hb dX9_forget_35 (by decide) ?_
        exact kJ37_3 _ _ _ _ h hP hD hS (lv_sub hl [0] rfl)
      · have h := h.2 c_10
        refine lv_bipush (v := 58) hx hb dX9_forget_30 (by decide) ?_
        refine lv_goto (tgt := 37) hx hb dX9_forget_32 (by decide) ?_
        exact kJ37_3 _ _ _ _ h hP hD hS (lv_sub hl [0] rfl)
    · have h := h.2 c_9
      refine lv_bipush (v := 42) hx hb dX9_forget_20 (by decide) ?_
      refine lv_goto (tgt := 37) hx hb dX9_forget_22 (by decide) ?_
      exact kJ37_3 _ _ _ _ h hP hD hS (lv_sub hl [0] rfl)
  · have h := h.2 c_2
    refine lv_aload_n hx hb dX9_forget_9 rfl (lv_at hl 0 rfl) ?_
    refine lv_bipush (v := (-2)) hx hb dX9_forget_10 (by decide) ?_
    refine st_callI (WR := [2].filterMap (fun i => (Wd_Mo_forget cy a_this a_refused a_row a_isKept a_text a_words a_cost a_steps a_mates a_bestMates a_comes s_above s_below s_length s_at s_behind s_readFlitches s_readFamilies s_doing s_refused s_row)[i]?)) (WSn := fun u => (Wd_Mo_forget cy a_this a_refused a_row a_isKept a_text a_words a_cost a_steps a_mates a_bestMates a_comes s_above s_below s_length s_at s_behind s_readFlitches s_readFamilies s_doing u s_row)) (st_runV (n := 1) (As := [.int (-2)]) (rest := []) (q0 := 0) F ((co_Mo_refuse l D cy a_this a_refused a_row a_isKept a_text a_words a_cost a_steps a_mates a_bestMates a_comes s_above s_below s_length s_at s_behind s_readFlitches s_readFamilies s_doing s_refused (-2) _ h) _) rfl gX9_forget_X9_refuse rfl (by decide +kernel) rfl hKK hP hD [0, 1] rfl rfl rfl rfl rfl hl.1 rfl (Nat.le_of_ble_eq_true rfl) dX9_forget_12) hP hD hS hA [0, 1] [2] [1, 2, 0] rfl rfl rfl (fun _ => rfl) (fun r_11 u H locs h hP hD hS => ?_)
    obtain ⟨s_refused_12, rfl⟩ : ∃ z, z = u := ⟨_, rfl⟩
    have hP : va_P D vwCl (Wd_Mo_forget cy a_this a_refused a_row a_isKept a_text a_words a_cost a_steps a_mates a_bestMates a_comes s_above s_below s_length s_at s_behind s_readFlitches s_readFamilies s_doing s_refused_12 s_row) H := hP
    have hD : va_D A (Wd_Mo_forget cy a_this a_refused a_row a_isKept a_text a_words a_cost a_steps a_mates a_bestMates a_comes s_above s_below s_length s_at s_behind s_readFlitches s_readFamilies s_doing s_refused_12 s_row) := hD
    exact hret _ (s_refused_12, s_row) _ _ _ _ h hP hD hS dX9_forget_15
abbrev Wd_Mo_sortsOf (cy : ClassId × ClassId × ClassId × ClassId) (a_this a_row a_isKept a_refused a_text a_words a_cost a_steps a_mates a_bestMates a_comes : Nat) (s_above : Int64) (s_below : Int64) (s_length : Int32) (s_at : Int32) (s_behind : Int32) (s_readFlitches : Int32) (s_readFamilies : Int32) (s_doing : Int32) (s_row : Nat → Int32) : va_W := [(a_this, .inr (8, [.ref a_row, .ref a_isKept, .ref a_refused, .long s_above, .long s_below, .ref a_text, .int s_length, .ref a_words, .int s_at, .int s_behind, .int s_readFlitches, .int s_readFamilies, .int s_doing, .ref a_cost, .ref a_steps, .ref a_mates, .ref a_bestMates, .ref a_comes])), (a_row, .inl (cy.2.1, 770, .inl s_row))]
abbrev rm_Mo_sortsOf : Room := { frames := 1, cells := 0, slots := 0, locals := 26 }
def wp_Mo_sortsOf (x1 : Int32) (s_row : Nat → Int32) (Q : Int32 → Prop) : Prop := ∃ n : Nat, lpw2 (fun (B6 : Int32 → Int32 → Prop) (x2_1 : Int32) (x3_2 : Int32) => (((59 + (5 * (s_row (Int32.toNatClampNeg 58)))) ≤ x3_2 → Q x2_1) ∧ (¬ (59 + (5 * (s_row (Int32.toNatClampNeg 58)))) ≤ x3_2 → ∃ n : Nat, lpw2 (fun (B25 : Int32 → Int32 → Prop) (x2_5 : Int32) (x4_6 : Int32) => ((6 ≤ x4_6 → ∀ x3_9 : Int32, x3_9 = x3_2 + 5 → B6 x2_5 x3_9) ∧ (¬ 6 ≤ x4_6 → vp_in x3_2 770 ∧ jn1 (fun (J87 : Int32 → Prop) => jn0 (fun (J82 : Prop) => ((¬ (s_row (Int32.toNatClampNeg x3_2)) = x1 → J82) ∧ ((s_row (Int32.toNatClampNeg x3_2)) = x1 → vp_in (x3_2 + 1) 770 ∧ vp_in (x3_2 + 2) 770 ∧ vp_in (x3_2 + 3) 770 ∧ wp_Mo_smellBy x4_6 (s_row (Int32.toNatClampNeg (x3_2 + 1))) (s_row (Int32.toNatClampNeg (x3_2 + 2))) (s_row (Int32.toNatClampNeg (x3_2 + 3))) (fun (r_23 : Int32) => vp_in (x3_2 + 4) 770 ∧ ((¬ r_23 = (s_row (Int32.toNatClampNeg (x3_2 + 4))) → J87 0) ∧ (r_23 = (s_row (Int32.toNatClampNeg (x3_2 + 4))) → J82)))))) (J87 1)) (fun (v_11 : Int32) => jn1 (fun (J106 : Int32 → Prop) => ((v_11 = 0 → J106 ((ishl 1 x4_6) ^^^ (-1))) ∧ (¬ v_11 = 0 → J106 63))) (fun (v_13 : Int32) => ∀ x2_15 : Int32, x2_15 = (x2_5 &&& v_13) → ∀ x4_16 : Int32, x4_16 = x4_6 + 1 → B25 x2_15 x4_16))))) n x2_1 0))) n 63 59
set_option maxHeartbeats 4000000 in
set_option maxRecDepth 100000 in
theorem co_Mo_sortsOf (l : Launch) (D : va_G) (cy : ClassId × ClassId × ClassId × ClassId) (a_this a_row a_isKept a_refused a_text a_words a_cost a_steps a_mates a_bestMates a_comes : Nat) (s_above : Int64) (s_below : Int64) (s_length : Int32) (s_at : Int32) (s_behind : Int32) (s_readFlitches : Int32) (s_readFamilies : Int32) (s_doing : Int32) (s_row : Nat → Int32) (x1 : Int32) (Q : Int32 → Prop) (h : wp_Mo_sortsOf x1 s_row Q) : RoI l yX9_sortsOf wsX9_sortsOf rm_Mo_sortsOf D cy [.ref a_this, .int x1] (Wd_Mo_sortsOf cy a_this a_row a_isKept a_refused a_text a_words a_cost a_steps a_mates a_bestMates a_comes s_above s_below s_length s_at s_behind s_readFlitches s_readFamilies s_doing s_row) Q := by
  refine st_metRI (cc := cX9_sortsOf) (maxL := 6) RX9 (by decide) rfl rfl (Nat.le_of_ble_eq_true rfl) ?_
  intro p e s m args below meth c QQ ls F hKK hP hl hret
  have hK := hKK.1
  have hnest := hKK.2.1
  have hx := F.1
  have hb := F.2.1
  have hown := F.2.2.2.1
  have hts := F.2.2.2.2
  have in_X9 : ∀ w ∈ u_ws RX9 TX9 18, w ∈ wsX9_sortsOf := (fun _ h => List.mem_cons_of_mem _ (List.mem_append_right _ h))
  have fl_7 := (hts (.fieldLink RX9 7 "RasherCaseModel" "row" "[I") (List.mem_of_getElem? (i := 1) rfl))
  have hl : lv_has ls 6 [(0, .ref a_this), (1, .int x1)] := hl
  unfold wp_Mo_sortsOf at h
  refine lv_bipush (v := 63) hx hb dX9_sortsOf_0 (by decide) ?_
  refine lv_istore_n (lv' := [(2, .int 63), (0, .ref a_this), (1, .int x1)]) hx hb dX9_sortsOf_2 rfl hl (by decide) rfl (fun ls hl => ?_)
  refine lv_bipush (v := 59) hx hb dX9_sortsOf_3 (by decide) ?_
  refine lv_istore_n (lv' := [(3, .int 59), (2, .int 63), (0, .ref a_this), (1, .int x1)]) hx hb dX9_sortsOf_5 rfl hl (by decide) rfl (fun ls hl => ?_)
  obtain ⟨T6_2, hz6_2, hs6_2, n6_2, h⟩ := lpw2_use h
  have kT6_2 : ∀ (n : Nat) (x2_1 : Int32) (x3_2 : Int32) (ls : Array Slot), T6_2 n x2_1 x3_2 → lv_has ls 6 [(0, .ref a_this), (1, .int x1), (2, .int x2_1), (3, .int x3_2)] → W p l e rm_Mo_sortsOf s m args below meth c s.heap [] 0 0 QQ (F0 m 6 ls []) := by
    intro n
    induction n with
    | zero => intro x2_1 x3_2 ls h; exact absurd h (hz6_2 _ _)
    | succ n ih6_2 =>
      intro x2_1 x3_2 ls h hl
      have h := hs6_2 _ _ _ h
      refine lv_iload_n hx hb dX9_sortsOf_6 rfl (lv_at hl 3 rfl) ?_
      refine lv_bipush (v := 59) hx hb dX9_sortsOf_7 (by decide) ?_
      refine lv_iconst (v := 5) hx hb dX9_sortsOf_9 (by decide) ?_
      refine lv_aload_n hx hb dX9_sortsOf_10 rfl (lv_at hl 0 rfl) ?_
      refine va_get (D := D) (ci := 8) (v := .ref a_row) (C := RX9) (T := TX9) (N := 18) hx hb hts in_X9 hown hK hP 0 rfl rfl 0 (by decide) fl_7 (fun _ h9 => h9) rfl dX9_sortsOf_11 ?_
      refine lv_bipush (v := 58) hx hb dX9_sortsOf_14 (by decide) ?_
      refine va_iald hx hb hK hP 1 1 rfl rfl (by unfold vp_in; decide) dX9_sortsOf_16 ?_
      refine lv_imul hx hb dX9_sortsOf_17 ?_
      refine lv_iadd hx hb dX9_sortsOf_18 ?_
      refine lv_icmp_ge (tgt := 120) hx hb dX9_sortsOf_19 (by decide) (fun c_4 => ?_) (fun c_4 => ?_)
      · have h := h.1 c_4
        refine lv_iload_n hx hb dX9_sortsOf_120 rfl (lv_at hl 2 rfl) ?_
        exact hret _ _ _ h dX9_sortsOf_121
      · have h := h.2 c_4
        refine lv_iconst (v := 0) hx hb dX9_sortsOf_22 (by decide) ?_
        refine lv_istore (lv' := [(4, .int 0), (0, .ref a_this), (1, .int x1), (2, .int x2_1), (3, .int x3_2)]) hx hb dX9_sortsOf_23 hl (by decide) rfl (fun ls hl => ?_)
        obtain ⟨T25_6, hz25_6, hs25_6, n25_6, h⟩ := lpw2_use h
        have kT25_6 : ∀ (n : Nat) (x2_5 : Int32) (x4_6 : Int32) (ls : Array Slot), T25_6 n x2_5 x4_6 → lv_has ls 6 [(0, .ref a_this), (1, .int x1), (2, .int x2_5), (3, .int x3_2), (4, .int x4_6)] → W p l e rm_Mo_sortsOf s m args below meth c s.heap [] 0 0 QQ (F0 m 25 ls []) := by
          intro n
          induction n with
          | zero => intro x2_5 x4_6 ls h; exact absurd h (hz25_6 _ _)
          | succ n ih25_6 =>
            intro x2_5 x4_6 ls h hl
            have h := hs25_6 _ _ _ h
            refine lv_iload hx hb dX9_sortsOf_25 (lv_at hl 4 rfl) ?_
            refine lv_bipush (v := 6) hx hb dX9_sortsOf_27 (by decide) ?_
            refine lv_icmp_ge (tgt := 114) hx hb dX9_sortsOf_29 (by decide) (fun c_8 => ?_) (fun c_8 => ?_)
            · have h := h.1 c_8
              obtain ⟨x3_9, ex3_9⟩ : ∃ y : Int32, y = x3_2 + 5 := ⟨_, rfl⟩
              have h := h x3_9 ex3_9
              refine lv_iinc (v := x3_9) (lv' := [(3, .int x3_9), (0, .ref a_this), (1, .int x1), (2, .int x2_5), (4, .int x4_6)]) hx hb dX9_sortsOf_114 hl (k := 3) rfl (by rw [ex3_9]; rfl) (by decide) rfl (fun ls hl => ?_)
              refine lv_goto (tgt := 6) hx hb dX9_sortsOf_117 (by decide) ?_
              exact ih6_2 _ _ _ h (lv_sub hl [1, 2, 3, 0] rfl)
            · have h := h.2 c_8
              refine lv_aload_n hx hb dX9_sortsOf_32 rfl (lv_at hl 0 rfl) ?_
              refine va_get (D := D) (ci := 8) (v := .ref a_row) (C := RX9) (T := TX9) (N := 18) hx hb hts in_X9 hown hK hP 0 rfl rfl 0 (by decide) fl_7 (fun _ h9 => h9) rfl dX9_sortsOf_33 ?_
              refine lv_iload_n hx hb dX9_sortsOf_36 rfl (lv_at hl 3 rfl) ?_
              obtain ⟨hi_10, h⟩ := h
              refine va_iald hx hb hK hP 1 1 rfl rfl hi_10 dX9_sortsOf_37 ?_
              refine lv_iload_n hx hb dX9_sortsOf_38 rfl (lv_at hl 1 rfl) ?_
              obtain ⟨J87, hJ87, h⟩ := jn1_ex h
              have kJ87_11 : ∀ (v_11 : Int32) (ls : Array Slot), J87 v_11 → lv_has ls 6 [(0, .ref a_this), (1, .int x1), (2, .int x2_5), (3, .int x3_2), (4, .int x4_6)] → W p l e rm_Mo_sortsOf s m args below meth c s.heap [] 0 0 QQ (F0 m 87 ls [.int v_11]) := by
                intro v_11 ls h hl
                have h := hJ87 _ h
                refine lv_istore (lv' := [(5, .int v_11), (0, .ref a_this), (1, .int x1), (2, .int x2_5), (3, .int x3_2), (4, .int x4_6)]) hx hb dX9_sortsOf_87 hl (by decide) rfl (fun ls hl => ?_)
                refine lv_iload_n hx hb dX9_sortsOf_89 rfl (lv_at hl 3 rfl) ?_
                refine lv_iload hx hb dX9_sortsOf_90 (lv_at hl 0 rfl) ?_
                obtain ⟨J106, hJ106, h⟩ := jn1_ex h
                have kJ106_13 : ∀ (v_13 : Int32) (ls : Array Slot), J106 v_13 → lv_has ls 6 [(0, .ref a_this), (1, .int x1), (3, .int x3_2), (4, .int x4_6)] → W p l e rm_Mo_sortsOf s m args below meth c s.heap [] 0 0 QQ (F0 m 106 ls [.int v_13, .int x2_5]) := by
                  intro v_13 ls h hl
                  have h := hJ106 _ h
                  refine lv_iand hx hb dX9_sortsOf_106 ?_
                  refine lv_topi (fun x2_15 ex2_15 => ?_)
                  have h := h x2_15 ex2_15
                  refine lv_istore_n (lv' := [(2, .int x2_15), (0, .ref a_this), (1, .int x1), (3, .int x3_2), (4, .int x4_6)]) hx hb dX9_sortsOf_107 rfl hl (by decide) rfl (fun ls hl => ?_)
                  obtain ⟨x4_16, ex4_16⟩ : ∃ y : Int32, y = x4_6 + 1 := ⟨_, rfl⟩
                  have h := h x4_16 ex4_16
                  refine lv_iinc (v := x4_16) (lv' := [(4, .int x4_16), (2, .int x2_15), (0, .ref a_this), (1, .int x1), (3, .int x3_2)]) hx hb dX9_sortsOf_108 hl (k := 4) rfl (by rw [ex4_16]; rfl) (by decide) rfl (fun ls hl => ?_)
                  refine lv_goto (tgt := 25) hx hb dX9_sortsOf_111 (by decide) ?_
                  exact ih25_6 _ _ _ h (lv_sub hl [2, 3, 1, 4, 0] rfl)
                refine lv_if_eq (tgt := 100) hx hb dX9_sortsOf_92 (by decide) (fun c_17 => ?_) (fun c_17 => ?_)
                · have h := h.1 c_17
                  refine lv_iconst (v := 1) hx hb dX9_sortsOf_100 (by decide) ?_
                  refine lv_iload hx hb dX9_sortsOf_101 (lv_at hl 5 rfl) ?_
                  refine lv_ishl hx hb dX9_sortsOf_103 ?_
                  refine lv_iconst (v := (-1)) hx hb dX9_sortsOf_104 (by decide) ?_
                  refine lv_ixor hx hb dX9_sortsOf_105 ?_
                  exact kJ106_13 _ _ h (lv_sub hl [1, 2, 4, 5] rfl)
                · have h := h.2 c_17
                  refine lv_bipush (v := 63) hx hb dX9_sortsOf_95 (by decide) ?_
                  refine lv_goto (tgt := 106) hx hb dX9_sortsOf_97 (by decide) ?_
                  exact kJ106_13 _ _ h (lv_sub hl [1, 2, 4, 5] rfl)
              obtain ⟨J82, hJ82, h⟩ := jn0_ex h
              have kJ82_17 : ∀  (ls : Array Slot), J82 → lv_has ls 6 [(0, .ref a_this), (1, .int x1), (2, .int x2_5), (3, .int x3_2), (4, .int x4_6)] → W p l e rm_Mo_sortsOf s m args below meth c s.heap [] 0 0 QQ (F0 m 82 ls []) := by
                intro  ls h hl
                have h := hJ82  h
                refine lv_iconst (v := 1) hx hb dX9_sortsOf_82 (by decide) ?_
                refine lv_goto (tgt := 87) hx hb dX9_sortsOf_83 (by decide) ?_
                exact kJ87_11 _ _ h (lv_sub hl [0, 1, 2, 3, 4] rfl)
              refine lv_icmp_ne (tgt := 82) hx hb dX9_sortsOf_39 (by decide) (fun c_19 => ?_) (fun c_19 => ?_)
              · have h := h.1 c_19
                exact kJ82_17  _ h (lv_sub hl [0, 1, 2, 3, 4] rfl)
              · have h := h.2 c_19
                refine lv_iload hx hb dX9_sortsOf_42 (lv_at hl 4 rfl) ?_
                refine lv_aload_n hx hb dX9_sortsOf_44 rfl (lv_at hl 0 rfl) ?_
                refine va_get (D := D) (ci := 8) (v := .ref a_row) (C := RX9) (T := TX9) (N := 18) hx hb hts in_X9 hown hK hP 0 rfl rfl 0 (by decide) fl_7 (fun _ h9 => h9) rfl dX9_sortsOf_45 ?_
                refine lv_iload_n hx hb dX9_sortsOf_48 rfl (lv_at hl 3 rfl) ?_
                refine lv_iconst (v := 1) hx hb dX9_sortsOf_49 (by decide) ?_
                refine lv_iadd hx hb dX9_sortsOf_50 ?_
                obtain ⟨hi_20, h⟩ := h
                refine va_iald hx hb hK hP 1 1 rfl rfl hi_20 dX9_sortsOf_51 ?_
                refine lv_aload_n hx hb dX9_sortsOf_52 rfl (lv_at hl 0 rfl) ?_
                refine va_get (D := D) (ci := 8) (v := .ref a_row) (C := RX9) (T := TX9) (N := 18) hx hb hts in_X9 hown hK hP 0 rfl rfl 0 (by decide) fl_7 (fun _ h9 => h9) rfl dX9_sortsOf_53 ?_
                refine lv_iload_n hx hb dX9_sortsOf_56 rfl (lv_at hl 3 rfl) ?_
                refine lv_iconst (v := 2) hx hb dX9_sortsOf_57 (by decide) ?_
                refine lv_iadd hx hb dX9_sortsOf_58 ?_
                obtain ⟨hi_21, h⟩ := h
                refine va_iald hx hb hK hP 1 1 rfl rfl hi_21 dX9_sortsOf_59 ?_
                refine lv_aload_n hx hb dX9_sortsOf_60 rfl (lv_at hl 0 rfl) ?_
                refine va_get (D := D) (ci := 8) (v := .ref a_row) (C := RX9) (T := TX9) (N := 18) hx hb hts in_X9 hown hK hP 0 rfl rfl 0 (by decide) fl_7 (fun _ h9 => h9) rfl dX9_sortsOf_61 ?_
                refine lv_iload_n hx hb dX9_sortsOf_64 rfl (lv_at hl 3 rfl) ?_
                refine lv_iconst (v := 3) hx hb dX9_sortsOf_65 (by decide) ?_
                refine lv_iadd hx hb dX9_sortsOf_66 ?_
                obtain ⟨hi_22, h⟩ := h
                refine va_iald hx hb hK hP 1 1 rfl rfl hi_22 dX9_sortsOf_67 ?_
                refine st_callRI (st_runSR (n := 4) (As := [.int x4_6, .int (s_row (Int32.toNatClampNeg (x3_2 + 1))), .int (s_row (Int32.toNatClampNeg (x3_2 + 2))), .int (s_row (Int32.toNatClampNeg (x3_2 + 3)))]) (rest := []) F (co_Mo_smellBy l D cy x4_6 (s_row (Int32.toNatClampNeg (x3_2 + 1))) (s_row (Int32.toNatClampNeg (x3_2 + 2))) (s_row (Int32.toNatClampNeg (x3_2 + 3))) _ h) gX9_sortsOf_X9_smellBy rfl (by decide +kernel) rfl hKK hP [] rfl rfl hl.1 rfl (Nat.le_of_ble_eq_true rfl) dX9_sortsOf_68) (fun r_23 h => ?_)
                refine lv_aload_n hx hb dX9_sortsOf_71 rfl (lv_at hl 0 rfl) ?_
                refine va_get (D := D) (ci := 8) (v := .ref a_row) (C := RX9) (T := TX9) (N := 18) hx hb hts in_X9 hown hK hP 0 rfl rfl 0 (by decide) fl_7 (fun _ h9 => h9) rfl dX9_sortsOf_72 ?_
                refine lv_iload_n hx hb dX9_sortsOf_75 rfl (lv_at hl 3 rfl) ?_
                refine lv_iconst (v := 4) hx hb dX9_sortsOf_76 (by decide) ?_
                refine lv_iadd hx hb dX9_sortsOf_77 ?_
                obtain ⟨hi_24, h⟩ := h
                refine va_iald hx hb hK hP 1 1 rfl rfl hi_24 dX9_sortsOf_78 ?_
                refine lv_icmp_ne (tgt := 86) hx hb dX9_sortsOf_79 (by decide) (fun c_25 => ?_) (fun c_25 => ?_)
                · have h := h.1 c_25
                  refine lv_iconst (v := 0) hx hb dX9_sortsOf_86 (by decide) ?_
                  exact kJ87_11 _ _ h (lv_sub hl [0, 1, 2, 3, 4] rfl)
                · have h := h.2 c_25
                  exact kJ82_17  _ h (lv_sub hl [0, 1, 2, 3, 4] rfl)
        exact kT25_6 n25_6 _ _ _ h (lv_sub hl [1, 2, 3, 4, 0] rfl)
  exact kT6_2 n6_2 _ _ _ h (lv_sub hl [2, 3, 1, 0] rfl)
abbrev Wd_Mo_is (cy : ClassId × ClassId × ClassId × ClassId) (a_this a_refused a_row a_isKept a_text a_words a_cost a_steps a_mates a_bestMates a_comes : Nat) (s_above : Int64) (s_below : Int64) (s_length : Int32) (s_at : Int32) (s_behind : Int32) (s_readFlitches : Int32) (s_readFamilies : Int32) (s_doing : Int32) (s_refused : Nat → Int32) (s_row : Nat → Int32) : va_W := [(a_this, .inr (8, [.ref a_row, .ref a_isKept, .ref a_refused, .long s_above, .long s_below, .ref a_text, .int s_length, .ref a_words, .int s_at, .int s_behind, .int s_readFlitches, .int s_readFamilies, .int s_doing, .ref a_cost, .ref a_steps, .ref a_mates, .ref a_bestMates, .ref a_comes])), (a_refused, .inl (cy.2.1, 3, .inl s_refused)), (a_row, .inl (cy.2.1, 770, .inl s_row))]
abbrev rm_Mo_is : Room := { frames := 2, cells := 0, slots := 0, locals := 51 }
def wp_Mo_is (x1 : Int32) (s_refused : Nat → Int32) (s_row : Nat → Int32) (Q : Int32 → (Nat → Int32) → Prop) : Prop := wp_Mo_isFlitch x1 s_row (fun (r_1 : Int32) => ((r_1 = 0 → wp_Mo_refuse (-2) s_refused (fun (r_3 : Int32) (s_refused_4 : Nat → Int32) => Q r_3 s_refused_4)) ∧ (¬ r_1 = 0 → wp_Mo_sortsOf x1 s_row (fun (r_5 : Int32) => Q r_5 s_refused))))
set_option maxHeartbeats 4000000 in
set_option maxRecDepth 100000 in
theorem co_Mo_is (l : Launch) (D : va_G) (cy : ClassId × ClassId × ClassId × ClassId) (a_this a_refused a_row a_isKept a_text a_words a_cost a_steps a_mates a_bestMates a_comes : Nat) (s_above : Int64) (s_below : Int64) (s_length : Int32) (s_at : Int32) (s_behind : Int32) (s_readFlitches : Int32) (s_readFamilies : Int32) (s_doing : Int32) (s_refused : Nat → Int32) (s_row : Nat → Int32) (x1 : Int32) (Q : Int32 → (Nat → Int32) → Prop) (h : wp_Mo_is x1 s_refused s_row Q) : CoI l yX9_is wsX9_is rm_Mo_is D cy [.ref a_this, .int x1] (Wd_Mo_is cy a_this a_refused a_row a_isKept a_text a_words a_cost a_steps a_mates a_bestMates a_comes s_above s_below s_length s_at s_behind s_readFlitches s_readFamilies s_doing s_refused s_row) (fun u : (Nat → Int32) => (Wd_Mo_is cy a_this a_refused a_row a_isKept a_text a_words a_cost a_steps a_mates a_bestMates a_comes s_above s_below s_length s_at s_behind s_readFlitches s_readFamilies s_doing u s_row)) (fun (r : Int32) (u : (Nat → Int32)) => Q r u) := by
  refine st_metI (cc := cX9_is) (maxL := 2) RX9 (by decide) rfl rfl (Nat.le_of_ble_eq_true rfl) ?_
  intro p e s m args below meth c A QQ ls F hA hKK hP hD hS hl hret
  have hK := hKK.1
  have hnest := hKK.2.1
  have hx := F.1
  have hb := F.2.1
  have hown := F.2.2.2.1
  have hts := F.2.2.2.2
  have hl : lv_has ls 2 [(0, .ref a_this), (1, .int x1)] := hl
  unfold wp_Mo_is at h
  refine lv_aload_n hx hb dX9_is_0 rfl (lv_at hl 0 rfl) ?_
  refine lv_iload_n hx hb dX9_is_1 rfl (lv_at hl 1 rfl) ?_
  refine st_callRI (st_runVR (n := 1) (As := [.int x1]) (rest := []) (q0 := 0) F (co_Mo_isFlitch l D cy a_this a_row a_isKept a_refused a_text a_words a_cost a_steps a_mates a_bestMates a_comes s_above s_below s_length s_at s_behind s_readFlitches s_readFamilies s_doing s_row x1 _ h) gX9_is_X9_isFlitch rfl (by decide +kernel) rfl hKK hP [0, 2] rfl rfl rfl rfl hl.1 rfl (Nat.le_of_ble_eq_true rfl) dX9_is_2) (fun r_1 h => ?_)
  refine lv_if_eq (tgt := 16) hx hb dX9_is_5 (by decide) (fun c_2 => ?_) (fun c_2 => ?_)
  · have h := h.1 c_2
    refine lv_aload_n hx hb dX9_is_16 rfl (lv_at hl 0 rfl) ?_
    refine lv_bipush (v := (-2)) hx hb dX9_is_17 (by decide) ?_
    refine st_callI (WR := [2].filterMap (fun i => (Wd_Mo_is cy a_this a_refused a_row a_isKept a_text a_words a_cost a_steps a_mates a_bestMates a_comes s_above s_below s_length s_at s_behind s_readFlitches s_readFamilies s_doing s_refused s_row)[i]?)) (WSn := fun u => (Wd_Mo_is cy a_this a_refused a_row a_isKept a_text a_words a_cost a_steps a_mates a_bestMates a_comes s_above s_below s_length s_at s_behind s_readFlitches s_readFamilies s_doing u s_row)) (st_runV (n := 1) (As := [.int (-2)]) (rest := []) (q0 := 0) F ((co_Mo_refuse l D cy a_this a_refused a_row a_isKept a_text a_words a_cost a_steps a_mates a_bestMates a_comes s_above s_below s_length s_at s_behind s_readFlitches s_readFamilies s_doing s_refused (-2) _ h) _) rfl gX9_is_X9_refuse rfl (by decide +kernel) rfl hKK hP hD [0, 1] rfl rfl rfl rfl rfl hl.1 rfl (Nat.le_of_ble_eq_true rfl) dX9_is_19) hP hD hS hA [0, 1] [2] [1, 2, 0] rfl rfl rfl (fun _ => rfl) (fun r_3 u H locs h hP hD hS => ?_)
    obtain ⟨s_refused_4, rfl⟩ : ∃ z, z = u := ⟨_, rfl⟩
    have hP : va_P D vwCl (Wd_Mo_is cy a_this a_refused a_row a_isKept a_text a_words a_cost a_steps a_mates a_bestMates a_comes s_above s_below s_length s_at s_behind s_readFlitches s_readFamilies s_doing s_refused_4 s_row) H := hP
    have hD : va_D A (Wd_Mo_is cy a_this a_refused a_row a_isKept a_text a_words a_cost a_steps a_mates a_bestMates a_comes s_above s_below s_length s_at s_behind s_readFlitches s_readFamilies s_doing s_refused_4 s_row) := hD
    exact hret _ (s_refused_4) _ _ _ _ h hP hD hS dX9_is_22
  · have h := h.2 c_2
    refine lv_aload_n hx hb dX9_is_8 rfl (lv_at hl 0 rfl) ?_
    refine lv_iload_n hx hb dX9_is_9 rfl (lv_at hl 1 rfl) ?_
    refine st_callRI (st_runVR (n := 1) (As := [.int x1]) (rest := []) (q0 := 0) F (co_Mo_sortsOf l D cy a_this a_row a_isKept a_refused a_text a_words a_cost a_steps a_mates a_bestMates a_comes s_above s_below s_length s_at s_behind s_readFlitches s_readFamilies s_doing s_row x1 _ h) gX9_is_X9_sortsOf rfl (by decide +kernel) rfl hKK hP [0, 2] rfl rfl rfl rfl hl.1 rfl (Nat.le_of_ble_eq_true rfl) dX9_is_10) (fun r_5 h => ?_)
    refine lv_goto (tgt := 22) hx hb dX9_is_13 (by decide) ?_
    exact hret _ (s_refused) _ _ _ _ h hP hD hS dX9_is_22
abbrev Wd_Mo_mostAlike (cy : ClassId × ClassId × ClassId × ClassId) (a_this a_comes a_row a_isKept a_refused a_text a_words a_cost a_steps a_mates a_bestMates : Nat) (s_above : Int64) (s_below : Int64) (s_length : Int32) (s_at : Int32) (s_behind : Int32) (s_readFlitches : Int32) (s_readFamilies : Int32) (s_doing : Int32) (s_comes : Nat → Int32) : va_W := [(a_this, .inr (8, [.ref a_row, .ref a_isKept, .ref a_refused, .long s_above, .long s_below, .ref a_text, .int s_length, .ref a_words, .int s_at, .int s_behind, .int s_readFlitches, .int s_readFamilies, .int s_doing, .ref a_cost, .ref a_steps, .ref a_mates, .ref a_bestMates, .ref a_comes])), (a_comes, .inl (cy.2.1, 6, .inl s_comes))]
abbrev rm_Mo_mostAlike : Room := { frames := 1, cells := 0, slots := 0, locals := 21 }
def wp_Mo_mostAlike (x1 : Int32) (s_comes : Nat → Int32) (Q : Int32 → Prop) : Prop := ∃ n : Nat, lpw2 (fun (B4 : Int32 → Int32 → Prop) (x2_1 : Int32) (x3_2 : Int32) => ((6 ≤ x3_2 → Q x2_1) ∧ (¬ 6 ≤ x3_2 → ∃ n : Nat, lpw2 (fun (B16 : Int32 → Int32 → Prop) (x4_5 : Int32) (x5_6 : Int32) => ((6 ≤ x5_6 → jn1 (fun (J84 : Int32 → Prop) => ((x4_5 ≤ x2_1 → J84 x2_1) ∧ (¬ x4_5 ≤ x2_1 → J84 x4_5))) (fun (v_9 : Int32) => ∀ x3_11 : Int32, x3_11 = x3_2 + 1 → B4 v_9 x3_11)) ∧ (¬ 6 ≤ x5_6 → wp_Mo_has x1 x3_2 (fun (r_13 : Int32) => jn1 (fun (J63 : Int32 → Prop) => jn0 (fun (J62 : Prop) => ((r_13 = 0 → J62) ∧ (¬ r_13 = 0 → wp_Mo_has x1 x5_6 (fun (r_20 : Int32) => ((r_20 = 0 → J62) ∧ (¬ r_20 = 0 → vp_in x3_2 6 ∧ vp_in x5_6 6 ∧ ((¬ (s_comes (Int32.toNatClampNeg x3_2)) = (s_comes (Int32.toNatClampNeg x5_6)) → J62) ∧ ((s_comes (Int32.toNatClampNeg x3_2)) = (s_comes (Int32.toNatClampNeg x5_6)) → J63 1)))))))) (J63 0)) (fun (v_14 : Int32) => ∀ x4_16 : Int32, x4_16 = (x4_5 + v_14) → ∀ x5_17 : Int32, x5_17 = x5_6 + 1 → B16 x4_16 x5_17))))) n 0 0))) n 0 0
set_option maxHeartbeats 4000000 in
set_option maxRecDepth 100000 in
theorem co_Mo_mostAlike (l : Launch) (D : va_G) (cy : ClassId × ClassId × ClassId × ClassId) (a_this a_comes a_row a_isKept a_refused a_text a_words a_cost a_steps a_mates a_bestMates : Nat) (s_above : Int64) (s_below : Int64) (s_length : Int32) (s_at : Int32) (s_behind : Int32) (s_readFlitches : Int32) (s_readFamilies : Int32) (s_doing : Int32) (s_comes : Nat → Int32) (x1 : Int32) (Q : Int32 → Prop) (h : wp_Mo_mostAlike x1 s_comes Q) : RoI l yX9_mostAlike wsX9_mostAlike rm_Mo_mostAlike D cy [.ref a_this, .int x1] (Wd_Mo_mostAlike cy a_this a_comes a_row a_isKept a_refused a_text a_words a_cost a_steps a_mates a_bestMates s_above s_below s_length s_at s_behind s_readFlitches s_readFamilies s_doing s_comes) Q := by
  refine st_metRI (cc := cX9_mostAlike) (maxL := 6) RX9 (by decide) rfl rfl (Nat.le_of_ble_eq_true rfl) ?_
  intro p e s m args below meth c QQ ls F hKK hP hl hret
  have hK := hKK.1
  have hnest := hKK.2.1
  have hx := F.1
  have hb := F.2.1
  have hown := F.2.2.2.1
  have hts := F.2.2.2.2
  have in_X9 : ∀ w ∈ u_ws RX9 TX9 18, w ∈ wsX9_mostAlike := (fun _ h => List.mem_cons_of_mem _ (List.mem_append_right _ h))
  have fl_42 := (hts (.fieldLink RX9 42 "RasherCaseModel" "comes" "[I") (List.mem_of_getElem? (i := 1) rfl))
  have hl : lv_has ls 6 [(0, .ref a_this), (1, .int x1)] := hl
  unfold wp_Mo_mostAlike at h
  refine lv_iconst (v := 0) hx hb dX9_mostAlike_0 (by decide) ?_
  refine lv_istore_n (lv' := [(2, .int 0), (0, .ref a_this), (1, .int x1)]) hx hb dX9_mostAlike_1 rfl hl (by decide) rfl (fun ls hl => ?_)
  refine lv_iconst (v := 0) hx hb dX9_mostAlike_2 (by decide) ?_
  refine lv_istore_n (lv' := [(3, .int 0), (2, .int 0), (0, .ref a_this), (1, .int x1)]) hx hb dX9_mostAlike_3 rfl hl (by decide) rfl (fun ls hl => ?_)
  obtain ⟨T4_2, hz4_2, hs4_2, n4_2, h⟩ := lpw2_use h
  have kT4_2 : ∀ (n : Nat) (x2_1 : Int32) (x3_2 : Int32) (ls : Array Slot), T4_2 n x2_1 x3_2 → lv_has ls 6 [(0, .ref a_this), (1, .int x1), (2, .int x2_1), (3, .int x3_2)] → W p l e rm_Mo_mostAlike s m args below meth c s.heap [] 0 0 QQ (F0 m 4 ls []) := by
    intro n
    induction n with
    | zero => intro x2_1 x3_2 ls h; exact absurd h (hz4_2 _ _)
    | succ n ih4_2 =>
      intro x2_1 x3_2 ls h hl
      have h := hs4_2 _ _ _ h
      refine lv_iload_n hx hb dX9_mostAlike_4 rfl (lv_at hl 3 rfl) ?_
      refine lv_bipush (v := 6) hx hb dX9_mostAlike_5 (by decide) ?_
      refine lv_icmp_ge (tgt := 91) hx hb dX9_mostAlike_7 (by decide) (fun c_4 => ?_) (fun c_4 => ?_)
      · have h := h.1 c_4
        refine lv_iload_n hx hb dX9_mostAlike_91 rfl (lv_at hl 2 rfl) ?_
        exact hret _ _ _ h dX9_mostAlike_92
      · have h := h.2 c_4
        refine lv_iconst (v := 0) hx hb dX9_mostAlike_10 (by decide) ?_
        refine lv_istore (lv' := [(4, .int 0), (0, .ref a_this), (1, .int x1), (2, .int x2_1), (3, .int x3_2)]) hx hb dX9_mostAlike_11 hl (by decide) rfl (fun ls hl => ?_)
        refine lv_iconst (v := 0) hx hb dX9_mostAlike_13 (by decide) ?_
        refine lv_istore (lv' := [(5, .int 0), (4, .int 0), (0, .ref a_this), (1, .int x1), (2, .int x2_1), (3, .int x3_2)]) hx hb dX9_mostAlike_14 hl (by decide) rfl (fun ls hl => ?_)
        obtain ⟨T16_6, hz16_6, hs16_6, n16_6, h⟩ := lpw2_use h
        have kT16_6 : ∀ (n : Nat) (x4_5 : Int32) (x5_6 : Int32) (ls : Array Slot), T16_6 n x4_5 x5_6 → lv_has ls 6 [(0, .ref a_this), (1, .int x1), (2, .int x2_1), (3, .int x3_2), (4, .int x4_5), (5, .int x5_6)] → W p l e rm_Mo_mostAlike s m args below meth c s.heap [] 0 0 QQ (F0 m 16 ls []) := by
          intro n
          induction n with
          | zero => intro x4_5 x5_6 ls h; exact absurd h (hz16_6 _ _)
          | succ n ih16_6 =>
            intro x4_5 x5_6 ls h hl
            have h := hs16_6 _ _ _ h
            refine lv_iload hx hb dX9_mostAlike_16 (lv_at hl 5 rfl) ?_
            refine lv_bipush (v := 6) hx hb dX9_mostAlike_18 (by decide) ?_
            refine lv_icmp_ge (tgt := 72) hx hb dX9_mostAlike_20 (by decide) (fun c_8 => ?_) (fun c_8 => ?_)
            · have h := h.1 c_8
              refine lv_iload hx hb dX9_mostAlike_72 (lv_at hl 4 rfl) ?_
              refine lv_iload_n hx hb dX9_mostAlike_74 rfl (lv_at hl 2 rfl) ?_
              obtain ⟨J84, hJ84, h⟩ := jn1_ex h
              have kJ84_9 : ∀ (v_9 : Int32) (ls : Array Slot), J84 v_9 → lv_has ls 6 [(0, .ref a_this), (1, .int x1), (3, .int x3_2)] → W p l e rm_Mo_mostAlike s m args below meth c s.heap [] 0 0 QQ (F0 m 84 ls [.int v_9]) := by
                intro v_9 ls h hl
                have h := hJ84 _ h
                refine lv_istore_n (lv' := [(2, .int v_9), (0, .ref a_this), (1, .int x1), (3, .int x3_2)]) hx hb dX9_mostAlike_84 rfl hl (by decide) rfl (fun ls hl => ?_)
                obtain ⟨x3_11, ex3_11⟩ : ∃ y : Int32, y = x3_2 + 1 := ⟨_, rfl⟩
                have h := h x3_11 ex3_11
                refine lv_iinc (v := x3_11) (lv' := [(3, .int x3_11), (2, .int v_9), (0, .ref a_this), (1, .int x1)]) hx hb dX9_mostAlike_85 hl (k := 3) rfl (by rw [ex3_11]; rfl) (by decide) rfl (fun ls hl => ?_)
                refine lv_goto (tgt := 4) hx hb dX9_mostAlike_88 (by decide) ?_
                exact ih4_2 _ _ _ h (lv_sub hl [2, 3, 1, 0] rfl)
              refine lv_icmp_le (tgt := 83) hx hb dX9_mostAlike_75 (by decide) (fun c_12 => ?_) (fun c_12 => ?_)
              · have h := h.1 c_12
                refine lv_iload_n hx hb dX9_mostAlike_83 rfl (lv_at hl 2 rfl) ?_
                exact kJ84_9 _ _ h (lv_sub hl [0, 1, 3] rfl)
              · have h := h.2 c_12
                refine lv_iload hx hb dX9_mostAlike_78 (lv_at hl 4 rfl) ?_
                refine lv_goto (tgt := 84) hx hb dX9_mostAlike_80 (by decide) ?_
                exact kJ84_9 _ _ h (lv_sub hl [0, 1, 3] rfl)
            · have h := h.2 c_8
              refine lv_iload hx hb dX9_mostAlike_23 (lv_at hl 4 rfl) ?_
              refine lv_iload_n hx hb dX9_mostAlike_25 rfl (lv_at hl 1 rfl) ?_
              refine lv_iload_n hx hb dX9_mostAlike_26 rfl (lv_at hl 3 rfl) ?_
              refine st_callRI (st_runSR (n := 2) (As := [.int x1, .int x3_2]) (rest := [.int x4_5]) F (co_Mo_has l D cy x1 x3_2 _ h) gX9_mostAlike_X9_has rfl (by decide +kernel) rfl hKK hP [] rfl rfl hl.1 rfl (Nat.le_of_ble_eq_true rfl) dX9_mostAlike_27) (fun r_13 h => ?_)
              obtain ⟨J63, hJ63, h⟩ := jn1_ex h
              have kJ63_14 : ∀ (v_14 : Int32) (ls : Array Slot), J63 v_14 → lv_has ls 6 [(0, .ref a_this), (1, .int x1), (2, .int x2_1), (3, .int x3_2), (5, .int x5_6)] → W p l e rm_Mo_mostAlike s m args below meth c s.heap [] 0 0 QQ (F0 m 63 ls [.int v_14, .int x4_5]) := by
                intro v_14 ls h hl
                have h := hJ63 _ h
                refine lv_iadd hx hb dX9_mostAlike_63 ?_
                refine lv_topi (fun x4_16 ex4_16 => ?_)
                have h := h x4_16 ex4_16
                refine lv_istore (lv' := [(4, .int x4_16), (0, .ref a_this), (1, .int x1), (2, .int x2_1), (3, .int x3_2), (5, .int x5_6)]) hx hb dX9_mostAlike_64 hl (by decide) rfl (fun ls hl => ?_)
                obtain ⟨x5_17, ex5_17⟩ : ∃ y : Int32, y = x5_6 + 1 := ⟨_, rfl⟩
                have h := h x5_17 ex5_17
                refine lv_iinc (v := x5_17) (lv' := [(5, .int x5_17), (4, .int x4_16), (0, .ref a_this), (1, .int x1), (2, .int x2_1), (3, .int x3_2)]) hx hb dX9_mostAlike_66 hl (k := 5) rfl (by rw [ex5_17]; rfl) (by decide) rfl (fun ls hl => ?_)
                refine lv_goto (tgt := 16) hx hb dX9_mostAlike_69 (by decide) ?_
                exact ih16_6 _ _ _ h (lv_sub hl [2, 3, 4, 5, 1, 0] rfl)
              obtain ⟨J62, hJ62, h⟩ := jn0_ex h
              have kJ62_17 : ∀  (ls : Array Slot), J62 → lv_has ls 6 [(0, .ref a_this), (1, .int x1), (2, .int x2_1), (3, .int x3_2), (5, .int x5_6)] → W p l e rm_Mo_mostAlike s m args below meth c s.heap [] 0 0 QQ (F0 m 62 ls [.int x4_5]) := by
                intro  ls h hl
                have h := hJ62  h
                refine lv_iconst (v := 0) hx hb dX9_mostAlike_62 (by decide) ?_
                exact kJ63_14 _ _ h (lv_sub hl [0, 1, 2, 3, 4] rfl)
              refine lv_if_eq (tgt := 62) hx hb dX9_mostAlike_30 (by decide) (fun c_19 => ?_) (fun c_19 => ?_)
              · have h := h.1 c_19
                exact kJ62_17  _ h (lv_sub hl [0, 1, 2, 3, 5] rfl)
              · have h := h.2 c_19
                refine lv_iload_n hx hb dX9_mostAlike_33 rfl (lv_at hl 1 rfl) ?_
                refine lv_iload hx hb dX9_mostAlike_34 (lv_at hl 5 rfl) ?_
                refine st_callRI (st_runSR (n := 2) (As := [.int x1, .int x5_6]) (rest := [.int x4_5]) F (co_Mo_has l D cy x1 x5_6 _ h) gX9_mostAlike_X9_has rfl (by decide +kernel) rfl hKK hP [] rfl rfl hl.1 rfl (Nat.le_of_ble_eq_true rfl) dX9_mostAlike_36) (fun r_20 h => ?_)
                refine lv_if_eq (tgt := 62) hx hb dX9_mostAlike_39 (by decide) (fun c_21 => ?_) (fun c_21 => ?_)
                · have h := h.1 c_21
                  exact kJ62_17  _ h (lv_sub hl [0, 1, 2, 3, 5] rfl)
                · have h := h.2 c_21
                  refine lv_aload_n hx hb dX9_mostAlike_42 rfl (lv_at hl 0 rfl) ?_
                  refine va_get (D := D) (ci := 8) (v := .ref a_comes) (C := RX9) (T := TX9) (N := 18) hx hb hts in_X9 hown hK hP 0 rfl rfl 17 (by decide) fl_42 (fun _ h9 => h9) rfl dX9_mostAlike_43 ?_
                  refine lv_iload_n hx hb dX9_mostAlike_46 rfl (lv_at hl 3 rfl) ?_
                  obtain ⟨hi_22, h⟩ := h
                  refine va_iald hx hb hK hP 1 1 rfl rfl hi_22 dX9_mostAlike_47 ?_
                  refine lv_aload_n hx hb dX9_mostAlike_48 rfl (lv_at hl 0 rfl) ?_
                  refine va_get (D := D) (ci := 8) (v := .ref a_comes) (C := RX9) (T := TX9) (N := 18) hx hb hts in_X9 hown hK hP 0 rfl rfl 17 (by decide) fl_42 (fun _ h9 => h9) rfl dX9_mostAlike_49 ?_
                  refine lv_iload hx hb dX9_mostAlike_52 (lv_at hl 5 rfl) ?_
                  obtain ⟨hi_23, h⟩ := h
                  refine va_iald hx hb hK hP 1 1 rfl rfl hi_23 dX9_mostAlike_54 ?_
                  refine lv_icmp_ne (tgt := 62) hx hb dX9_mostAlike_55 (by decide) (fun c_24 => ?_) (fun c_24 => ?_)
                  · have h := h.1 c_24
                    exact kJ62_17  _ h (lv_sub hl [0, 1, 2, 3, 5] rfl)
                  · have h := h.2 c_24
                    refine lv_iconst (v := 1) hx hb dX9_mostAlike_58 (by decide) ?_
                    refine lv_goto (tgt := 63) hx hb dX9_mostAlike_59 (by decide) ?_
                    exact kJ63_14 _ _ h (lv_sub hl [0, 1, 2, 3, 5] rfl)
        exact kT16_6 n16_6 _ _ _ h (lv_sub hl [2, 3, 4, 5, 1, 0] rfl)
  exact kT4_2 n4_2 _ _ _ h (lv_sub hl [2, 3, 1, 0] rfl)
