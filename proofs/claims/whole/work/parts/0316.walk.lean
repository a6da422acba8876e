abbrev Wd_Mo_refuse (cy : ClassId × ClassId × ClassId × ClassId) (a_this a_refused a_row a_isKept a_text a_words a_cost a_steps a_mates a_bestMates a_comes : Nat) (s_above : Int64) (s_below : Int64) (s_length : Int32) (s_at : Int32) (s_behind : Int32) (s_readFlitches : Int32) (s_readFamilies : Int32) (s_doing : Int32) (s_refused : Nat → Int32) : va_W := [(a_this, .inr (8, [.ref a_row, .ref a_isKept, .ref a_refused, .long s_above, .long s_below, .ref a_text, .int s_length, .ref a_words, .int s_at, .int s_behind, .int s_readFlitches, .int s_readFamilies, .int s_doing, .ref a_cost, .ref a_steps, .ref a_mates, .ref a_bestMates, .ref a_comes])), (a_refused, .inl (cy.2.1, 3, .inl s_refused))]
abbrev rm_Mo_refuse : Room := { frames := 0, cells := 0, slots := 0, locals := 0 }
def wp_Mo_refuse (x1 : Int32) (s_refused : Nat → Int32) (Q : Int32 → (Nat → Int32) → Prop) : Prop := jn1 (fun (J25 : Int32 → Prop) => ((¬ x1 = (-3) → ((¬ x1 = (-4) → J25 0) ∧ (x1 = (-4) → J25 2))) ∧ (x1 = (-3) → J25 1))) (fun (v_1 : Int32) => vp_in v_1 3 ∧ vp_in v_1 3 ∧ ∀ s_refused_5 : Nat → Int32, s_refused_5 = upd s_refused (Int32.toNatClampNeg v_1) ((s_refused (Int32.toNatClampNeg v_1)) + 1) → Q x1 s_refused_5)
set_option maxHeartbeats 4000000 in
set_option maxRecDepth 100000 in
theorem co_Mo_refuse (l : Launch) (D : va_G) (cy : ClassId × ClassId × ClassId × ClassId) (a_this a_refused a_row a_isKept a_text a_words a_cost a_steps a_mates a_bestMates a_comes : Nat) (s_above : Int64) (s_below : Int64) (s_length : Int32) (s_at : Int32) (s_behind : Int32) (s_readFlitches : Int32) (s_readFamilies : Int32) (s_doing : Int32) (s_refused : Nat → Int32) (x1 : Int32) (Q : Int32 → (Nat → Int32) → Prop) (h : wp_Mo_refuse x1 s_refused Q) : CoI l yX9_refuse wsX9_refuse rm_Mo_refuse D cy [.ref a_this, .int x1] (Wd_Mo_refuse cy a_this a_refused a_row a_isKept a_text a_words a_cost a_steps a_mates a_bestMates a_comes s_above s_below s_length s_at s_behind s_readFlitches s_readFamilies s_doing s_refused) (fun u : (Nat → Int32) => (Wd_Mo_refuse cy a_this a_refused a_row a_isKept a_text a_words a_cost a_steps a_mates a_bestMates a_comes s_above s_below s_length s_at s_behind s_readFlitches s_readFamilies s_doing u)) (fun (r : Int32) (u : (Nat → Int32)) => Q r u) := by
  refine st_metI (cc := cX9_refuse) (maxL := 2) RX9 (by decide) rfl rfl (Nat.le_of_ble_eq_true rfl) ?_
  intro p e s m args below meth c A QQ ls F hA hKK hP hD hS hl hret
  have hK := hKK.1
  have hnest := hKK.2.1
  have hx := F.1
  have hb := F.2.1
  have hown := F.2.2.2.1
  have hts := F.2.2.2.2
  have in_X9 : ∀ w ∈ u_ws RX9 TX9 18, w ∈ wsX9_refuse := (fun _ h => List.mem_cons_of_mem _ (List.mem_append_right _ h))
  have fl_17 := (hts (.fieldLink RX9 17 "RasherCaseModel" "refused" "[I") (List.mem_of_getElem? (i := 1) rfl))
  have hl : lv_has ls 2 [(0, .ref a_this), (1, .int x1)] := hl
  unfold wp_Mo_refuse at h
  refine lv_aload_n hx hb dX9_refuse_0 rfl (lv_at hl 0 rfl) ?_
  refine va_get (D := D) (ci := 8) (v := .ref a_refused) (C := RX9) (T := TX9) (N := 18) hx hb hts in_X9 hown hK hP 0 rfl rfl 2 (by decide) fl_17 (fun _ h9 => h9) rfl dX9_refuse_1 ?_
  refine lv_iload_n hx hb dX9_refuse_4 rfl (lv_at hl 1 rfl) ?_
  refine lv_bipush (v := (-3)) hx hb dX9_refuse_5 (by decide) ?_
  obtain ⟨J25, hJ25, h⟩ := jn1_ex h
  have kJ25_1 : ∀ (v_1 : Int32) (H : Heap) (locs : List Loc) (ls : Array Slot), J25 v_1 → va_P D vwCl (Wd_Mo_refuse cy a_this a_refused a_row a_isKept a_text a_words a_cost a_steps a_mates a_bestMates a_comes s_above s_below s_length s_at s_behind s_readFlitches s_readFamilies s_doing s_refused) H → va_D A (Wd_Mo_refuse cy a_this a_refused a_row a_isKept a_text a_words a_cost a_steps a_mates a_bestMates a_comes s_above s_below s_length s_at s_behind s_readFlitches s_readFamilies s_doing s_refused) → va_S A s.heap H locs → lv_has ls 2 [(1, .int x1)] → W p l e rm_Mo_refuse s m args below meth c H locs 0 0 QQ (F0 m 25 ls [.int v_1, .ref a_refused]) := by
    intro v_1 H locs ls h hP hD hS hl
    have h := hJ25 _ h
    refine lv_dup2_11 hx hb dX9_refuse_25 rfl rfl ?_
    obtain ⟨hi_3, h⟩ := h
    refine va_iald hx hb hK hP 1 1 rfl rfl hi_3 dX9_refuse_26 ?_
    refine lv_iconst (v := 1) hx hb dX9_refuse_27 (by decide) ?_
    refine lv_iadd hx hb dX9_refuse_28 ?_
    obtain ⟨hi_4, h⟩ := h
    refine va_iast hx hb hK hP hD hS 1 1 rfl rfl hi_4 dX9_refuse_29 (fun H locs hP hD hS => ?_)
    obtain ⟨s_refused_5, es_refused_5⟩ : ∃ f : Nat → Int32, f = upd s_refused (Int32.toNatClampNeg v_1) ((s_refused (Int32.toNatClampNeg v_1)) + 1) := ⟨_, rfl⟩
    have hP : va_P D vwCl (Wd_Mo_refuse cy a_this a_refused a_row a_isKept a_text a_words a_cost a_steps a_mates a_bestMates a_comes s_above s_below s_length s_at s_behind s_readFlitches s_readFamilies s_doing s_refused_5) H := by rw [es_refused_5]; exact hP
    have hD : va_D A (Wd_Mo_refuse cy a_this a_refused a_row a_isKept a_text a_words a_cost a_steps a_mates a_bestMates a_comes s_above s_below s_length s_at s_behind s_readFlitches s_readFamilies s_doing s_refused_5) := by rw [es_refused_5]; exact hD
    have h := h s_refused_5 es_refused_5
    refine lv_iload_n hx hb dX9_refuse_30 rfl (lv_at hl 0 rfl) ?_
    exact hret _ (s_refused_5) _ _ _ _ h hP hD hS dX9_refuse_31
  refine lv_icmp_ne (tgt := 14) hx hb dX9_refuse_7 (by decide) (fun c_6 => ?_) (fun c_6 => ?_)
  · have h := h.1 c_6
    refine lv_iload_n hx hb dX9_refuse_14 rfl (lv_at hl 1 rfl) ?_
    refine lv_bipush (v := (-4)) hx hb dX9_refuse_15 (by decide) ?_
    refine lv_icmp_ne (tgt := 24) hx hb dX9_refuse_17 (by decide) (fun c_7 => ?_) (fun c_7 => ?_)
    · have h := h.1 c_7
      refine lv_iconst (v := 0) hx hb dX9_refuse_24 (by decide) ?_
      exact kJ25_1 _ _ _ _ h hP hD hS (lv_sub hl [1] rfl)
    · have h := h.2 c_7
      refine lv_iconst (v := 2) hx hb dX9_refuse_20 (by decide) ?_
      refine lv_goto (tgt := 25) hx hb dX9_refuse_21 (by decide) ?_
      exact kJ25_1 _ _ _ _ h hP hD hS (lv_sub hl [1] rfl)
  · have h := h.2 c_6
    refine lv_iconst (v := 1) hx hb dX9_refuse_10 (by decide) ?_
    refine lv_goto (tgt := 25) hx hb dX9_refuse_11 (by decide) ?_
    exact kJ25_1 _ _ _ _ h hP hD hS (lv_sub hl [1] rfl)
abbrev Wd_Mo_badAs (cy : ClassId × ClassId × ClassId × ClassId) (a_this a_refused a_row a_isKept a_text a_words a_cost a_steps a_mates a_bestMates a_comes : Nat) (s_above : Int64) (s_below : Int64) (s_length : Int32) (s_at : Int32) (s_behind : Int32) (s_readFlitches : Int32) (s_readFamilies : Int32) (s_doing : Int32) (s_refused : Nat → Int32) : va_W := [(a_this, .inr (8, [.ref a_row, .ref a_isKept, .ref a_refused, .long s_above, .long s_below, .ref a_text, .int s_length, .ref a_words, .int s_at, .int s_behind, .int s_readFlitches, .int s_readFamilies, .int s_doing, .ref a_cost, .ref a_steps, .ref a_mates, .ref a_bestMates, .ref a_comes])), (a_refused, .inl (cy.2.1, 3, .inl s_refused))]
abbrev rm_Mo_badAs : Room := { frames := 1, cells := 0, slots := 0, locals := 21 }
def wp_Mo_badAs (x1 : Int32) (s_refused : Nat → Int32) (Q : Int32 → (Nat → Int32) → Prop) : Prop := wp_Mo_refuse (-2) s_refused (fun (r_1 : Int32) (s_refused_2 : Nat → Int32) => Q x1 s_refused_2)
set_option maxHeartbeats 4000000 in
set_option maxRecDepth 100000 in
theorem co_Mo_badAs (l : Launch) (D : va_G) (cy : ClassId × ClassId × ClassId × ClassId) (a_this a_refused a_row a_isKept a_text a_words a_cost a_steps a_mates a_bestMates a_comes : Nat) (s_above : Int64) (s_below : Int64) (s_length : Int32) (s_at : Int32) (s_behind : Int32) (s_readFlitches : Int32) (s_readFamilies : Int32) (s_doing : Int32) (s_refused : Nat → Int32) (x1 : Int32) (Q : Int32 → (Nat → Int32) → Prop) (h : wp_Mo_badAs x1 s_refused Q) : CoI l yX9_badAs wsX9_badAs rm_Mo_badAs D cy [.ref a_this, .int x1] (Wd_Mo_badAs cy a_this a_refused a_row a_isKept a_text a_words a_cost a_steps a_mates a_bestMates a_comes s_above s_below s_length s_at s_behind s_readFlitches s_readFamilies s_doing s_refused) (fun u : (Nat → Int32) => (Wd_Mo_badAs cy a_this a_refused a_row a_isKept a_text a_words a_cost a_steps a_mates a_bestMates a_comes s_above s_below s_length s_at s_behind s_readFlitches s_readFamilies s_doing u)) (fun (r : Int32) (u : (Nat → Int32)) => Q r u) := by
  refine st_metI (cc := cX9_badAs) (maxL := 2) RX9 (by decide) rfl rfl (Nat.le_of_ble_eq_true rfl) ?_
  intro p e s m args below meth c A QQ ls F hA hKK hP hD hS hl hret
  have hK := hKK.1
  have hnest := hKK.2.1
  have hx := F.1
  have hb := F.2.1
  have hown := F.2.2.2.1
  have hts := F.2.2.2.2
  have hl : lv_has ls 2 [(0, .ref a_this), (1, .int x1)] := hl
  unfold wp_Mo_badAs at h
  refine lv_aload_n hx hb dX9_badAs_0 rfl (lv_at hl 0 rfl) ?_
  refine lv_bipush (v := (-2)) hx hb dX9_badAs_1 (by decide) ?_
  refine st_callI (WR := []) (WSn := fun u => (Wd_Mo_badAs cy a_this a_refused a_row a_isKept a_text a_words a_cost a_steps a_mates a_bestMates a_comes s_above s_below s_length s_at s_behind s_readFlitches s_readFamilies s_doing u)) (st_runV (n := 1) (As := [.int (-2)]) (rest := []) (q0 := 0) F ((co_Mo_refuse l D cy a_this a_refused a_row a_isKept a_text a_words a_cost a_steps a_mates a_bestMates a_comes s_above s_below s_length s_at s_behind s_readFlitches s_readFamilies s_doing s_refused (-2) _ h) _) rfl gX9_badAs_X9_refuse rfl (by decide +kernel) rfl hKK hP hD [0, 1] rfl rfl rfl rfl rfl hl.1 rfl (Nat.le_of_ble_eq_true rfl) dX9_badAs_3) hP hD hS hA [0, 1] [] [0, 1] rfl rfl rfl (fun _ => rfl) (fun r_1 u H locs h hP hD hS => ?_)
  obtain ⟨s_refused_2, rfl⟩ : ∃ z, z = u := ⟨_, rfl⟩
  have hP : va_P D vwCl (Wd_Mo_badAs cy a_this a_refused a_row a_isKept a_text a_words a_cost a_steps a_mates a_bestMates a_comes s_above s_below s_length s_at s_behind s_readFlitches s_readFamilies s_doing s_refused_2) H := hP
  have hD : va_D A (Wd_Mo_badAs cy a_this a_refused a_row a_isKept a_text a_words a_cost a_steps a_mates a_bestMates a_comes s_above s_below s_length s_at s_behind s_readFlitches s_readFamilies s_doing s_refused_2) := hD
  refine lv_pop hx hb dX9_badAs_6 rfl ?_
  refine lv_iload_n hx hb dX9_badAs_7 rfl (lv_at hl 1 rfl) ?_
  exact hret _ (s_refused_2) _ _ _ _ h hP hD hS dX9_badAs_8
abbrev Wd_Mo_layParish (cy : ClassId × ClassId × ClassId × ClassId) (a_this a_row a_isKept a_refused a_text a_words a_cost a_steps a_mates a_bestMates a_comes : Nat) (s_above : Int64) (s_below : Int64) (s_length : Int32) (s_at : Int32) (s_behind : Int32) (s_readFlitches : Int32) (s_readFamilies : Int32) (s_doing : Int32) (s_row : Nat → Int32) : va_W := [(a_this, .inr (8, [.ref a_row, .ref a_isKept, .ref a_refused, .long s_above, .long s_below, .ref a_text, .int s_length, .ref a_words, .int s_at, .int s_behind, .int s_readFlitches, .int s_readFamilies, .int s_doing, .ref a_cost, .ref a_steps, .ref a_mates, .ref a_bestMates, .ref a_comes])), (a_row, .inl (cy.2.1, 770, .inl s_row))]
abbrev rm_Mo_layParish : Room := { frames := 0, cells := 0, slots := 0, locals := 0 }
def wp_Mo_layParish (s_row : Nat → Int32) (Q : (Nat → Int32) → Prop) : Prop := ∃ n : Nat, lpw2 (fun (B2 : Int32 → (Nat → Int32) → Prop) (x1_1 : Int32) (s_row_2 : Nat → Int32) => ((251 ≤ x1_1 → Q s_row_2) ∧ (¬ 251 ≤ x1_1 → vp_in x1_1 770 ∧ ∀ s_row_6 : Nat → Int32, s_row_6 = upd s_row_2 (Int32.toNatClampNeg x1_1) 0 → ∀ x1_7 : Int32, x1_7 = x1_1 + 1 → B2 x1_7 s_row_6))) n 0 s_row
set_option maxHeartbeats 4000000 in
set_option maxRecDepth 100000 in
theorem co_Mo_layParish (l : Launch) (D : va_G) (cy : ClassId × ClassId × ClassId × ClassId) (a_this a_row a_isKept a_refused a_text a_words a_cost a_steps a_mates a_bestMates a_comes : Nat) (s_above : Int64) (s_below : Int64) (s_length : Int32) (s_at : Int32) (s_behind : Int32) (s_readFlitches : Int32) (s_readFamilies : Int32) (s_doing : Int32) (s_row : Nat → Int32) (Q : (Nat → Int32) → Prop) (h : wp_Mo_layParish s_row Q) : CoV l yX9_layParish wsX9_layParish rm_Mo_layParish D cy [.ref a_this] (Wd_Mo_layParish cy a_this a_row a_isKept a_refused a_text a_words a_cost a_steps a_mates a_bestMates a_comes s_above s_below s_length s_at s_behind s_readFlitches s_readFamilies s_doing s_row) (fun u : (Nat → Int32) => (Wd_Mo_layParish cy a_this a_row a_isKept a_refused a_text a_words a_cost a_steps a_mates a_bestMates a_comes s_above s_below s_length s_at s_behind s_readFlitches s_readFamilies s_doing u)) (fun (u : (Nat → Int32)) => Q u) := by
  refine st_metV (cc := cX9_layParish) (maxL := 2) RX9 (by decide) rfl rfl (Nat.le_of_ble_eq_true rfl) ?_
  intro p e s m args below meth c A QQ ls F hA hKK hP hD hS hl hret
  have hK := hKK.1
  have hnest := hKK.2.1
  have hx := F.1
  have hb := F.2.1
  have hown := F.2.2.2.1
  have hts := F.2.2.2.2
  have in_X9 : ∀ w ∈ u_ws RX9 TX9 18, w ∈ wsX9_layParish := (fun _ h => List.mem_cons_of_mem _ (List.mem_append_right _ h))
  have fl_7 := (hts (.fieldLink RX9 7 "RasherCaseModel" "row" "[I") (List.mem_of_getElem? (i := 1) rfl))
  have hl : lv_has ls 2 [(0, .ref a_this)] := hl
  unfold wp_Mo_layParish at h
  refine lv_iconst (v := 0) hx hb dX9_layParish_0 (by decide) ?_
  refine lv_istore_n (lv' := [(1, .int 0), (0, .ref a_this)]) hx hb dX9_layParish_1 rfl hl (by decide) rfl (fun ls hl => ?_)
  obtain ⟨T2_2, hz2_2, hs2_2, n2_2, h⟩ := lpw2_use h
  have kT2_2 : ∀ (n : Nat) (x1_1 : Int32) (s_row_2 : Nat → Int32) (H : Heap) (locs : List Loc) (ls : Array Slot), T2_2 n x1_1 s_row_2 → va_P D vwCl (Wd_Mo_layParish cy a_this a_row a_isKept a_refused a_text a_words a_cost a_steps a_mates a_bestMates a_comes s_above s_below s_length s_at s_behind s_readFlitches s_readFamilies s_doing s_row_2) H → va_D A (Wd_Mo_layParish cy a_this a_row a_isKept a_refused a_text a_words a_cost a_steps a_mates a_bestMates a_comes s_above s_below s_length s_at s_behind s_readFlitches s_readFamilies s_doing s_row_2) → va_S A s.heap H locs → lv_has ls 2 [(0, .ref a_this), (1, .int x1_1)] → W p l e rm_Mo_layParish s m args below meth c H locs 0 0 QQ (F0 m 2 ls []) := by
    intro n
    induction n with
    | zero => intro x1_1 s_row_2 H locs ls h; exact absurd h (hz2_2 _ _)
    | succ n ih2_2 =>
      intro x1_1 s_row_2 H locs ls h hP hD hS hl
      have h := hs2_2 _ _ _ h
      refine lv_iload_n hx hb dX9_layParish_2 rfl (lv_at hl 1 rfl) ?_
      refine lv_sipush (v := 251) hx hb dX9_layParish_3 (by decide) ?_
      refine lv_icmp_ge (tgt := 22) hx hb dX9_layParish_6 (by decide) (fun c_4 => ?_) (fun c_4 => ?_)
      · have h := h.1 c_4
        exact hret (s_row_2) _ _ _ _ h hP hD hS dX9_layParish_22
      · have h := h.2 c_4
        refine lv_aload_n hx hb dX9_layParish_9 rfl (lv_at hl 0 rfl) ?_
        refine va_get (D := D) (ci := 8) (v := .ref a_row) (C := RX9) (T := TX9) (N := 18) hx hb hts in_X9 hown hK hP 0 rfl rfl 0 (by decide) fl_7 (fun _ h9 => h9) rfl dX9_layParish_10 ?_
        refine lv_iload_n hx hb dX9_layParish_13 rfl (lv_at hl 1 rfl) ?_
        refine lv_iconst (v := 0) hx hb dX9_layParish_14 (by decide) ?_
        obtain ⟨hi_5, h⟩ := h
        refine va_iast hx hb hK hP hD hS 1 1 rfl rfl hi_5 dX9_layParish_15 (fun H locs hP hD hS => ?_)
        obtain ⟨s_row_6, es_row_6⟩ : ∃ f : Nat → Int32, f = upd s_row_2 (Int32.toNatClampNeg x1_1) 0 := ⟨_, rfl⟩
        have hP : va_P D vwCl (Wd_Mo_layParish cy a_this a_row a_isKept a_refused a_text a_words a_cost a_steps a_mates a_bestMates a_comes s_above s_below s_length s_at s_behind s_readFlitches s_readFamilies s_doing s_row_6) H := by rw [es_row_6]; exact hP
        have hD : va_D A (Wd_Mo_layParish cy a_this a_row a_isKept a_refused a_text a_words a_cost a_steps a_mates a_bestMates a_comes s_above s_below s_length s_at s_behind s_readFlitches s_readFamilies s_doing s_row_6) := by rw [es_row_6]; exact hD
        have h := h s_row_6 es_row_6
        obtain ⟨x1_7, ex1_7⟩ : ∃ y : Int32, y = x1_1 + 1 := ⟨_, rfl⟩
        have h := h x1_7 ex1_7
        refine lv_iinc (v := x1_7) (lv' := [(1, .int x1_7), (0, .ref a_this)]) hx hb dX9_layParish_16 hl (k := 1) rfl (by rw [ex1_7]; rfl) (by decide) rfl (fun ls hl => ?_)
        refine lv_goto (tgt := 2) hx hb dX9_layParish_19 (by decide) ?_
        exact ih2_2 _ _ _ _ _ h hP hD hS (lv_sub hl [1, 0] rfl)
  exact kT2_2 n2_2 _ _ _ _ _ h hP hD hS (lv_sub hl [1, 0] rfl)
abbrev Wd_Mo_parish (cy : ClassId × ClassId × ClassId × ClassId) (a_this a_row a_isKept a_refused a_text a_words a_cost a_steps a_mates a_bestMates a_comes : Nat) (s_above : Int64) (s_below : Int64) (s_length : Int32) (s_at : Int32) (s_behind : Int32) (s_readFlitches : Int32) (s_readFamilies : Int32) (s_doing : Int32) (s_row : Nat → Int32) : va_W := [(a_this, .inr (8, [.ref a_row, .ref a_isKept, .ref a_refused, .long s_above, .long s_below, .ref a_text, .int s_length, .ref a_words, .int s_at, .int s_behind, .int s_readFlitches, .int s_readFamilies, .int s_doing, .ref a_cost, .ref a_steps, .ref a_mates, .ref a_bestMates, .ref a_comes])), (a_row, .inl (cy.2.1, 770, .inl s_row))]
abbrev rm_Mo_parish : Room := { frames := 1, cells := 0, slots := 0, locals := 21 }
def wp_Mo_parish (s_row : Nat → Int32) (Q : Int32 → (Nat → Int32) → Prop) : Prop := ∀ x1_1 : Int32, x1_1 = (s_row (Int32.toNatClampNeg 27)) → wp_Mo_layParish s_row (fun (s_row_3 : Nat → Int32) => Q x1_1 s_row_3)
set_option maxHeartbeats 4000000 in
set_option maxRecDepth 100000 in
theorem co_Mo_parish (l : Launch) (D : va_G) (cy : ClassId × ClassId × ClassId × ClassId) (a_this a_row a_isKept a_refused a_text a_words a_cost a_steps a_mates a_bestMates a_comes : Nat) (s_above : Int64) (s_below : Int64) (s_length : Int32) (s_at : Int32) (s_behind : Int32) (s_readFlitches : Int32) (s_readFamilies : Int32) (s_doing : Int32) (s_row : Nat → Int32) (Q : Int32 → (Nat → Int32) → Prop) (h : wp_Mo_parish s_row Q) : CoI l yX9_parish wsX9_parish rm_Mo_parish D cy [.ref a_this] (Wd_Mo_parish cy a_this a_row a_isKept a_refused a_text a_words a_cost a_steps a_mates a_bestMates a_comes s_above s_below s_length s_at s_behind s_readFlitches s_readFamilies s_doing s_row) (fun u : (Nat → Int32) => (Wd_Mo_parish cy a_this a_row a_isKept a_refused a_text a_words a_cost a_steps a_mates a_bestMates a_comes s_above s_below s_length s_at s_behind s_readFlitches s_readFamilies s_doing u)) (fun (r : Int32) (u : (Nat → Int32)) => Q r u) := by
  refine st_metI (cc := cX9_parish) (maxL := 2) RX9 (by decide) rfl rfl (Nat.le_of_ble_eq_true rfl) ?_
  intro p e s m args below meth c A QQ ls F hA hKK hP hD hS hl hret
  have hK := hKK.1
  have hnest := hKK.2.1
  have hx := F.1
  have hb := F.2.1
  have hown := F.2.2.2.1
  have hts := F.2.2.2.2
  have in_X9 : ∀ w ∈ u_ws RX9 TX9 18, w ∈ wsX9_parish := (fun _ h => List.mem_cons_of_mem _ (List.mem_append_right _ h))
  have fl_7 := (hts (.fieldLink RX9 7 "RasherCaseModel" "row" "[I") (List.mem_of_getElem? (i := 1) rfl))
  have hl : lv_has ls 2 [(0, .ref a_this)] := hl
  unfold wp_Mo_parish at h
  refine lv_aload_n hx hb dX9_parish_0 rfl (lv_at hl 0 rfl) ?_
  refine va_get (D := D) (ci := 8) (v := .ref a_row) (C := RX9) (T := TX9) (N := 18) hx hb hts in_X9 hown hK hP 0 rfl rfl 0 (by decide) fl_7 (fun _ h9 => h9) rfl dX9_parish_1 ?_
  refine lv_bipush (v := 27) hx hb dX9_parish_4 (by decide) ?_
  refine va_iald hx hb hK hP 1 1 rfl rfl (by unfold vp_in; decide) dX9_parish_6 ?_
  refine lv_topi (fun x1_1 ex1_1 => ?_)
  have h := h x1_1 ex1_1
  refine lv_istore_n (lv' := [(1, .int x1_1), (0, .ref a_this)]) hx hb dX9_parish_7 rfl hl (by decide) rfl (fun ls hl => ?_)
  refine lv_aload_n hx hb dX9_parish_8 rfl (lv_at hl 1 rfl) ?_
  refine st_callV (WR := []) (WSn := fun u => (Wd_Mo_parish cy a_this a_row a_isKept a_refused a_text a_words a_cost a_steps a_mates a_bestMates a_comes s_above s_below s_length s_at s_behind s_readFlitches s_readFamilies s_doing u)) (st_runV (n := 0) (As := []) (rest := []) (q0 := 0) F ((co_Mo_layParish l D cy a_this a_row a_isKept a_refused a_text a_words a_cost a_steps a_mates a_bestMates a_comes s_above s_below s_length s_at s_behind s_readFlitches s_readFamilies s_doing s_row _ h) _) rfl gX9_parish_X9_layParish rfl (by decide +kernel) rfl hKK hP hD [0, 1] rfl rfl rfl rfl rfl hl.1 rfl (Nat.le_of_ble_eq_true rfl) dX9_parish_9) hP hD hS hA [0, 1] [] [0, 1] rfl rfl rfl (fun _ => rfl) (fun u H locs h hP hD hS => ?_)
  obtain ⟨s_row_3, rfl⟩ : ∃ z, z = u := ⟨_, rfl⟩
  have hP : va_P D vwCl (Wd_Mo_parish cy a_this a_row a_isKept a_refused a_text a_words a_cost a_steps a_mates a_bestMates a_comes s_above s_below s_length s_at s_behind s_readFlitches s_readFamilies s_doing s_row_3) H := hP
  have hD : va_D A (Wd_Mo_parish cy a_this a_row a_isKept a_refused a_text a_words a_cost a_steps a_mates a_bestMates a_comes s_above s_below s_length s_at s_behind s_readFlitches s_readFamilies s_doing s_row_3) := hD
  refine lv_iload_n hx hb dX9_parish_12 rfl (lv_at hl 0 rfl) ?_
  exact hret _ (s_row_3) _ _ _ _ h hP hD hS dX9_parish_13
abbrev Wd_Mo_addFlitch (cy : ClassId × ClassId × ClassId × ClassId) (a_this a_row a_isKept a_refused a_text a_words a_cost a_steps a_mates a_bestMates a_comes : Nat) (s_above : Int64) (s_below : Int64) (s_length : Int32) (s_at : Int32) (s_behind : Int32) (s_readFlitches : Int32) (s_readFamilies : Int32) (s_doing : Int32) (s_row : Nat → Int32) : va_W := [(a_this, .inr (8, [.ref a_row, .ref a_isKept, .ref a_refused, .long s_above, .long s_below, .ref a_text, .int s_length, .ref a_words, .int s_at, .int s_behind, .int s_readFlitches, .int s_readFamilies, .int s_doing, .ref a_cost, .ref a_steps, .ref a_mates, .ref a_bestMates, .ref a_comes])), (a_row, .inl (cy.2.1, 770, .inl s_row))]
abbrev rm_Mo_addFlitch : Room := { frames := 0, cells := 0, slots := 0, locals := 0 }
def wp_Mo_addFlitch (x1 : Int32) (x2 : Int32) (x3 : Int32) (s_row : Nat → Int32) (Q : (Nat → Int32) → Prop) : Prop := ∀ x4_1 : Int32, x4_1 = (s_row (Int32.toNatClampNeg 17)) → vp_in (18 + x4_1) 770 ∧ ∀ s_row_3 : Nat → Int32, s_row_3 = upd s_row (Int32.toNatClampNeg (18 + x4_1)) x1 → vp_in (21 + x4_1) 770 ∧ ∀ s_row_5 : Nat → Int32, s_row_5 = upd s_row_3 (Int32.toNatClampNeg (21 + x4_1)) x2 → vp_in (24 + x4_1) 770 ∧ ∀ s_row_7 : Nat → Int32, s_row_7 = upd s_row_5 (Int32.toNatClampNeg (24 + x4_1)) x3 → ∀ s_row_8 : Nat → Int32, s_row_8 = upd s_row_7 (Int32.toNatClampNeg 15) ((s_row_7 (Int32.toNatClampNeg 15)) ||| (ishl 1 x4_1)) → ∀ s_row_9 : Nat → Int32, s_row_9 = upd s_row_8 (Int32.toNatClampNeg 17) ((s_row_8 (Int32.toNatClampNeg 17)) + 1) → ∀ s_row_10 : Nat → Int32, s_row_10 = upd s_row_9 (Int32.toNatClampNeg 114) 0 → Q s_row_10
set_option maxHeartbeats 4000000 in
set_option maxRecDepth 100000 in
theorem co_Mo_addFlitch (l : Launch) (D : va_G) (cy : ClassId × ClassId × ClassId × ClassId) (a_this a_row a_isKept a_refused a_text a_words a_cost a_steps a_mates a_bestMates a_comes : Nat) (s_above : Int64) (s_below : Int64) (s_length : Int32) (s_at : Int32) (s_behind : Int32) (s_readFlitches : Int32) (s_readFamilies : Int32) (s_doing : Int32) (s_row : Nat → Int32) (x1 : Int32) (x2 : Int32) (x3 : Int32) (Q : (Nat → Int32) → Prop) (h : wp_Mo_addFlitch x1 x2 x3 s_row Q) : CoV l yX9_addFlitch wsX9_addFlitch rm_Mo_addFlitch D cy [.ref a_this, .int x1, .int x2, .int x3] (Wd_Mo_addFlitch cy a_this a_row a_isKept a_refused a_text a_words a_cost a_steps a_mates a_bestMates a_comes s_above s_below s_length s_at s_behind s_readFlitches s_readFamilies s_doing s_row) (fun u : (Nat → Int32) => (Wd_Mo_addFlitch cy a_this a_row a_isKept a_refused a_text a_words a_cost a_steps a_mates a_bestMates a_comes s_above s_below s_length s_at s_behind s_readFlitches s_readFamilies s_doing u)) (fun (u : (Nat → Int32)) => Q u) := by
  refine st_metV (cc := cX9_addFlitch) (maxL := 5) RX9 (by decide) rfl rfl (Nat.le_of_ble_eq_true rfl) ?_
  intro p e s m args below meth c A QQ ls F hA hKK hP hD hS hl hret
  have hK := hKK.1
  have hnest := hKK.2.1
  have hx := F.1
  have hb := F.2.1
  have hown := F.2.2.2.1
  have hts := F.2.2.2.2
  have in_X9 : ∀ w ∈ u_ws RX9 TX9 18, w ∈ wsX9_addFlitch := (fun _ h => List.mem_cons_of_mem _ (List.mem_append_right _ h))
  have fl_7 := (hts (.fieldLink RX9 7 "RasherCaseModel" "row" "[I") (List.mem_of_getElem? (i := 1) rfl))
  have hl : lv_has ls 5 [(0, .ref a_this), (1, .int x1), (2, .int x2), (3, .int x3)] := hl
  unfold wp_Mo_addFlitch at h
  refine lv_aload_n hx hb dX9_addFlitch_0 rfl (lv_at hl 0 rfl) ?_
  refine va_get (D := D) (ci := 8) (v := .ref a_row) (C := RX9) (T := TX9) (N := 18) hx hb hts in_X9 hown hK hP 0 rfl rfl 0 (by decide) fl_7 (fun _ h9 => h9) rfl dX9_addFlitch_1 ?_
  refine lv_bipush (v := 17) hx hb dX9_addFlitch_4 (by decide) ?_
  refine va_iald hx hb hK hP 1 1 rfl rfl (by unfold vp_in; decide) dX9_addFlitch_6 ?_
  refine lv_topi (fun x4_1 ex4_1 => ?_)
  have h := h x4_1 ex4_1
  refine lv_istore (lv' := [(4, .int x4_1), (0, .ref a_this), (1, .int x1), (2, .int x2), (3, .int x3)]) hx hb dX9_addFlitch_7 hl (by decide) rfl (fun ls hl => ?_)
  refine lv_aload_n hx hb dX9_addFlitch_9 rfl (lv_at hl 1 rfl) ?_
  refine va_get (D := D) (ci := 8) (v := .ref a_row) (C := RX9) (T := TX9) (N := 18) hx hb hts in_X9 hown hK hP 0 rfl rfl 0 (by decide) fl_7 (fun _ h9 => h9) rfl dX9_addFlitch_10 ?_
  refine lv_bipush (v := 18) hx hb dX9_addFlitch_13 (by decide) ?_
  refine lv_iload hx hb dX9_addFlitch_15 (lv_at hl 0 rfl) ?_
  refine lv_iadd hx hb dX9_addFlitch_17 ?_
  refine lv_iload_n hx hb dX9_addFlitch_18 rfl (lv_at hl 2 rfl) ?_
  obtain ⟨hi_2, h⟩ := h
  refine va_iast hx hb hK hP hD hS 1 1 rfl rfl hi_2 dX9_addFlitch_19 (fun H locs hP hD hS => ?_)
  obtain ⟨s_row_3, es_row_3⟩ : ∃ f : Nat → Int32, f = upd s_row (Int32.toNatClampNeg (18 + x4_1)) x1 := ⟨_, rfl⟩
  have hP : va_P D vwCl (Wd_Mo_addFlitch cy a_this a_row a_isKept a_refused a_text a_words a_cost a_steps a_mates a_bestMates a_comes s_above s_below s_length s_at s_behind s_readFlitches s_readFamilies s_doing s_row_3) H := by rw [es_row_3]; exact hP
  have hD : va_D A (Wd_Mo_addFlitch cy a_this a_row a_isKept a_refused a_text a_words a_cost a_steps a_mates a_bestMates a_comes s_above s_below s_length s_at s_behind s_readFlitches s_readFamilies s_doing s_row_3) := by rw [es_row_3]; exact hD
  have h := h s_row_3 es_row_3
  refine lv_aload_n hx hb dX9_addFlitch_20 rfl (lv_at hl 1 rfl) ?_
  refine va_get (D := D) (ci := 8) (v := .ref a_row) (C := RX9) (T := TX9) (N := 18) hx hb hts in_X9 hown hK hP 0 rfl rfl 0 (by decide) fl_7 (fun _ h9 => h9) rfl dX9_addFlitch_21 ?_
  refine lv_bipush (v := 21) hx hb dX9_addFlitch_24 (by decide) ?_
  refine lv_iload hx hb dX9_addFlitch_26 (lv_at hl 0 rfl) ?_
  refine lv_iadd hx hb dX9_addFlitch_28 ?_
  refine lv_iload_n hx hb dX9_addFlitch_29 rfl (lv_at hl 3 rfl) ?_
  obtain ⟨hi_4, h⟩ := h
  refine va_iast hx hb hK hP hD hS 1 1 rfl rfl hi_4 dX9_addFlitch_30 (fun H locs hP hD hS => ?_)
  obtain ⟨s_row_5, es_row_5⟩ : ∃ f : Nat → Int32, f = upd s_row_3 (Int32.toNatClampNeg (21 + x4_1)) x2 := ⟨_, rfl⟩
  have hP : va_P D vwCl (Wd_Mo_addFlitch cy a_this a_row a_isKept a_refused a_text a_words a_cost a_steps a_mates a_bestMates a_comes s_above s_below s_length s_at s_behind s_readFlitches s_readFamilies s_doing s_row_5) H := by rw [es_row_5]; exact hP
  have hD : va_D A (Wd_Mo_addFlitch cy a_this a_row a_isKept a_refused a_text a_words a_cost a_steps a_mates a_bestMates a_comes s_above s_below s_length s_at s_behind s_readFlitches s_readFamilies s_doing s_row_5) := by rw [es_row_5]; exact hD
  have h := h s_row_5 es_row_5
  refine lv_aload_n hx hb dX9_addFlitch_31 rfl (lv_at hl 1 rfl) ?_
  refine va_get (D := D) (ci := 8) (v := .ref a_row) (C := RX9) (T := TX9) (N := 18) hx hb hts in_X9 hown hK hP 0 rfl rfl 0 (by decide) fl_7 (fun _ h9 => h9) rfl dX9_addFlitch_32 ?_
  refine lv_bipush (v := 24) hx hb dX9_addFlitch_35 (by decide) ?_
  refine lv_iload hx hb dX9_addFlitch_37 (lv_at hl 0 rfl) ?_
  refine lv_iadd hx hb dX9_addFlitch_39 ?_
  refine lv_iload_n hx hb dX9_addFlitch_40 rfl (lv_at hl 4 rfl) ?_
  obtain ⟨hi_6, h⟩ := h
  refine va_iast hx hb hK hP hD hS 1 1 rfl rfl hi_6 dX9_addFlitch_41 (fun H locs hP hD hS => ?_)
  obtain ⟨s_row_7, es_row_7⟩ : ∃ f : Nat → Int32, f = upd s_row_5 (Int32.toNatClampNeg (24 + x4_1)) x3 := ⟨_, rfl⟩
  have hP : va_P D vwCl (Wd_Mo_addFlitch cy a_this a_row a_isKept a_refused a_text a_words a_cost a_steps a_mates a_bestMates a_comes s_above s_below s_length s_at s_behind s_readFlitches s_readFamilies s_doing s_row_7) H := by rw [es_row_7]; exact hP
  have hD : va_D A (Wd_Mo_addFlitch cy a_this a_row a_isKept a_refused a_text a_words a_cost a_steps a_mates a_bestMates a_comes s_above s_below s_length s_at s_behind s_readFlitches s_readFamilies s_doing s_row_7) := by rw [es_row_7]; exact hD
  have h := h s_row_7 es_row_7
  refine lv_aload_n hx hb dX9_addFlitch_42 rfl (lv_at hl 1 rfl) ?_
  refine va_get (D := D) (ci := 8) (v := .ref a_row) (C := RX9) (T := TX9) (N := 18) hx hb hts in_X9 hown hK hP 0 rfl rfl 0 (by decide) fl_7 (fun _ h9 => h9) rfl dX9_addFlitch_43 ?_
  refine lv_bipush (v := 15) hx hb dX9_addFlitch_46 (by decide) ?_
  refine lv_dup2_11 hx hb dX9_addFlitch_48 rfl rfl ?_
  refine va_iald hx hb hK hP 1 1 rfl rfl (by unfold vp_in; decide) dX9_addFlitch_49 ?_
  refine lv_iconst (v := 1) hx hb dX9_addFlitch_50 (by decide) ?_
  refine lv_iload hx hb dX9_addFlitch_51 (lv_at hl 0 rfl) ?_
  refine lv_ishl hx hb dX9_addFlitch_53 ?_
  refine lv_ior hx hb dX9_addFlitch_54 ?_
  refine va_iast hx hb hK hP hD hS 1 1 rfl rfl (by unfold vp_in; decide) dX9_addFlitch_55 (fun H locs hP hD hS => ?_)
  obtain ⟨s_row_8, es_row_8⟩ : ∃ f : Nat → Int32, f = upd s_row_7 (Int32.toNatClampNeg 15) ((s_row_7 (Int32.toNatClampNeg 15)) ||| (ishl 1 x4_1)) := ⟨_, rfl⟩
  have hP : va_P D vwCl (Wd_Mo_addFlitch cy a_this a_row a_isKept a_refused a_text a_words a_cost a_steps a_mates a_bestMates a_comes s_above s_below s_length s_at s_behind s_readFlitches s_readFamilies s_doing s_row_8) H := by rw [es_row_8]; exact hP
  have hD : va_D A (Wd_Mo_addFlitch cy a_this a_row a_isKept a_refused a_text a_words a_cost a_steps a_mates a_bestMates a_comes s_above s_below s_length s_at s_behind s_readFlitches s_readFamilies s_doing s_row_8) := by rw [es_row_8]; exact hD
  have h := h s_row_8 es_row_8
  refine lv_aload_n hx hb dX9_addFlitch_56 rfl (lv_at hl 1 rfl) ?_
  refine va_get (D := D) (ci := 8) (v := .ref a_row) (C := RX9) (T := TX9) (N := 18) hx hb hts in_X9 hown hK hP 0 rfl rfl 0 (by decide) fl_7 (fun _ h9 => h9) rfl dX9_addFlitch_57 ?_
  refine lv_bipush (v := 17) hx hb dX9_addFlitch_60 (by decide) ?_
  refine lv_dup2_11 hx hb dX9_addFlitch_62 rfl rfl ?_
  refine va_iald hx hb hK hP 1 1 rfl rfl (by unfold vp_in; decide) dX9_addFlitch_63 ?_
  refine lv_iconst (v := 1) hx hb dX9_addFlitch_64 (by decide) ?_
  refine lv_iadd hx hb dX9_addFlitch_65 ?_
  refine va_iast hx hb hK hP hD hS 1 1 rfl rfl (by unfold vp_in; decide) dX9_addFlitch_66 (fun H locs hP hD hS => ?_)
  obtain ⟨s_row_9, es_row_9⟩ : ∃ f : Nat → Int32, f = upd s_row_8 (Int32.toNatClampNeg 17) ((s_row_8 (Int32.toNatClampNeg 17)) + 1) := ⟨_, rfl⟩
  have hP : va_P D vwCl (Wd_Mo_addFlitch cy a_this a_row a_isKept a_refused a_text a_words a_cost a_steps a_mates a_bestMates a_comes s_above s_below s_length s_at s_behind s_readFlitches s_readFamilies s_doing s_row_9) H := by rw [es_row_9]; exact hP
  have hD : va_D A (Wd_Mo_addFlitch cy a_this a_row a_isKept a_refused a_text a_words a_cost a_steps a_mates a_bestMates a_comes s_above s_below s_length s_at s_behind s_readFlitches s_readFamilies s_doing s_row_9) := by rw [es_row_9]; exact hD
  have h := h s_row_9 es_row_9
  refine lv_aload_n hx hb dX9_addFlitch_67 rfl (lv_at hl 1 rfl) ?_
  refine va_get (D := D) (ci := 8) (v := .ref a_row) (C := RX9) (T := TX9) (N := 18) hx hb hts in_X9 hown hK hP 0 rfl rfl 0 (by decide) fl_7 (fun _ h9 => h9) rfl dX9_addFlitch_68 ?_
  refine lv_bipush (v := 114) hx hb dX9_addFlitch_71 (by decide) ?_
  refine lv_iconst (v := 0) hx hb dX9_addFlitch_73 (by decide) ?_
  refine va_iast hx hb hK hP hD hS 1 1 rfl rfl (by unfold vp_in; decide) dX9_addFlitch_74 (fun H locs hP hD hS => ?_)
  obtain ⟨s_row_10, es_row_10⟩ : ∃ f : Nat → Int32, f = upd s_row_9 (Int32.toNatClampNeg 114) 0 := ⟨_, rfl⟩
  have hP : va_P D vwCl (Wd_Mo_addFlitch cy a_this a_row a_isKept a_refused a_text a_words a_cost a_steps a_mates a_bestMates a_comes s_above s_below s_length s_at s_behind s_readFlitches s_readFamilies s_doing s_row_10) H := by rw [es_row_10]; exact hP
  have hD : va_D A (Wd_Mo_addFlitch cy a_this a_row a_isKept a_refused a_text a_words a_cost a_steps a_mates a_bestMates a_comes s_above s_below s_length s_at s_behind s_readFlitches s_readFamilies s_doing s_row_10) := by rw [es_row_10]; exact hD
  have h := h s_row_10 es_row_10
  exact hret (s_row_10) _ _ _ _ h hP hD hS dX9_addFlitch_75
abbrev Wd_Mo_flitch (cy : ClassId × ClassId × ClassId × ClassId) (a_this a_refused a_row a_isKept a_text a_words a_cost a_steps a_mates a_bestMates a_comes : Nat) (s_above : Int64) (s_below : Int64) (s_length : Int32) (s_at : Int32) (s_behind : Int32) (s_readFlitches : Int32) (s_readFamilies : Int32) (s_doing : Int32) (s_refused : Nat → Int32) (s_row : Nat → Int32) : va_W := [(a_this, .inr (8, [.ref a_row, .ref a_isKept, .ref a_refused, .long s_above, .long s_below, .ref a_text, .int s_length, .ref a_words, .int s_at, .int s_behind, .int s_readFlitches, .int s_readFamilies, .int s_doing, .ref a_cost, .ref a_steps, .ref a_mates, .ref a_bestMates, .ref a_comes])), (a_refused, .inl (cy.2.1, 3, .inl s_refused)), (a_row, .inl (cy.2.1, 770, .inl s_row))]
abbrev rm_Mo_flitch : Room := { frames := 1, cells := 0, slots := 0, locals := 24 }
def wp_Mo_flitch (x1 : Int32) (x2 : Int32) (x3 : Int32) (s_refused : Nat → Int32) (s_row : Nat → Int32) (Q : Int32 → (Nat → Int32) → (Nat → Int32) → Prop) : Prop := wp_Mo_in x1 0 5 (fun (r_1 : Int32) => jn0 (fun (J29 : Prop) => ((r_1 = 0 → J29) ∧ (¬ r_1 = 0 → wp_Mo_in x2 0 24 (fun (r_6 : Int32) => ((r_6 = 0 → J29) ∧ (¬ r_6 = 0 → wp_Mo_in x3 1 20 (fun (r_8 : Int32) => ((¬ r_8 = 0 → ((¬ (s_row (Int32.toNatClampNeg 17)) = 3 → wp_Mo_addFlitch x1 x2 x3 s_row (fun (s_row_12 : Nat → Int32) => Q ((s_row_12 (Int32.toNatClampNeg 17)) - 1) s_refused s_row_12)) ∧ ((s_row (Int32.toNatClampNeg 17)) = 3 → wp_Mo_refuse (-4) s_refused (fun (r_13 : Int32) (s_refused_14 : Nat → Int32) => Q r_13 s_refused_14 s_row)))) ∧ (r_8 = 0 → J29))))))))) (wp_Mo_refuse (-2) s_refused (fun (r_3 : Int32) (s_refused_4 : Nat → Int32) => Q r_3 s_refused_4 s_row)))
set_option maxHeartbeats 4000000 in
set_option maxRecDepth 100000 in
theorem co_Mo_flitch (l : Launch) (D : va_G) (cy : ClassId × ClassId × ClassId × ClassId) (a_this a_refused a_row a_isKept a_text a_words a_cost a_steps a_mates a_bestMates a_comes : Nat) (s_above : Int64) (s_below : Int64) (s_length : Int32) (s_at : Int32) (s_behind : Int32) (s_readFlitches : Int32) (s_readFamilies : Int32) (s_doing : Int32) (s_refused : Nat → Int32) (s_row : Nat → Int32) (x1 : Int32) (x2 : Int32) (x3 : Int32) (Q : Int32 → (Nat → Int32) → (Nat → Int32) → Prop) (h : wp_Mo_flitch x1 x2 x3 s_refused s_row Q) : CoI l yX9_flitch wsX9_flitch rm_Mo_flitch D cy [.ref a_this, .int x1, .int x2, .int x3] (Wd_Mo_flitch cy a_this a_refused a_row a_isKept a_text a_words a_cost a_steps a_mates a_bestMates a_comes s_above s_below s_length s_at s_behind s_readFlitches s_readFamilies s_doing s_refused s_row) (fun u : (Nat → Int32) × (Nat → Int32) => (Wd_Mo_flitch cy a_this a_refused a_row a_isKept a_text a_words a_cost a_steps a_mates a_bestMates a_comes s_above s_below s_length s_at s_behind s_readFlitches s_readFamilies s_doing u.1 u.2)) (fun (r : Int32) (u : (Nat → Int32) × (Nat → Int32)) => Q r u.1 u.2) := by
  refine st_metI (cc := cX9_flitch) (maxL := 4) RX9 (by decide) rfl rfl (Nat.le_of_ble_eq_true rfl) ?_
  intro p e s m args below meth c A QQ ls F hA hKK hP hD hS hl hret
  have hK := hKK.1
  have hnest := hKK.2.1
  have hx := F.1
  have hb := F.2.1
  have hown := F.2.2.2.1
  have hts := F.2.2.2.2
  have in_X9 : ∀ w ∈ u_ws RX9 TX9 18, w ∈ wsX9_flitch := (fun _ h => List.mem_cons_of_mem _ (List.mem_append_right _ h))
  have fl_7 := (hts (.fieldLink RX9 7 "RasherCaseModel" "row" "[I") (List.mem_of_getElem? (i := 1) rfl))
  have hl : lv_has ls 4 [(0, .ref a_this), (1, .int x1), (2, .int x2), (3, .int x3)] := hl
  unfold wp_Mo_flitch at h
  refine lv_iload_n hx hb dX9_flitch_0 rfl (lv_at hl 1 rfl) ?_
  refine lv_iconst (v := 0) hx hb dX9_flitch_1 (by decide) ?_
  refine lv_iconst (v := 5) hx hb dX9_flitch_2 (by decide) ?_
  refine st_callRI (st_runSR (n := 3) (As := [.int x1, .int 0, .int 5]) (rest := []) F (co_Mo_in l D cy x1 0 5 _ h) gX9_flitch_X9_in rfl (by decide +kernel) rfl hKK hP [] rfl rfl hl.1 rfl (Nat.le_of_ble_eq_true rfl) dX9_flitch_3) (fun r_1 h => ?_)
  obtain ⟨J29, hJ29, h⟩ := jn0_ex h
  have kJ29_1 : ∀  (H : Heap) (locs : List Loc) (ls : Array Slot), J29 → va_P D vwCl (Wd_Mo_flitch cy a_this a_refused a_row a_isKept a_text a_words a_cost a_steps a_mates a_bestMates a_comes s_above s_below s_length s_at s_behind s_readFlitches s_readFamilies s_doing s_refused s_row) H → va_D A (Wd_Mo_flitch cy a_this a_refused a_row a_isKept a_text a_words a_cost a_steps a_mates a_bestMates a_comes s_above s_below s_length s_at s_behind s_readFlitches s_readFamilies s_doing s_refused s_row) → va_S A s.heap H locs → lv_has ls 4 [(0, .ref a_this)] → W p l e rm_Mo_flitch s m args below meth c H locs 0 0 QQ (F0 m 29 ls []) := by
    intro  H locs ls h hP hD hS hl
    have h := hJ29  h
    refine lv_aload_n hx hb dX9_flitch_29 rfl (lv_at hl 0 rfl) ?_
    refine lv_bipush (v := (-2)) hx hb dX9_flitch_30 (by decide) ?_
    refine st_callI (WR := [2].filterMap (fun i => (Wd_Mo_flitch cy a_this a_refused a_row a_isKept a_text a_words a_cost a_steps a_mates a_bestMates a_comes s_above s_below s_length s_at s_behind s_readFlitches s_readFamilies s_doing s_refused s_row)[i]?)) (WSn := fun u => (Wd_Mo_flitch cy a_this a_refused a_row a_isKept a_text a_words a_cost a_steps a_mates a_bestMates a_comes s_above s_below s_length s_at s_behind s_readFlitches s_readFamilies s_doing u s_row)) (st_runV (n := 1) (As := [.int (-2)]) (rest := []) (q0 := 0) F ((co_Mo_refuse l D cy a_this a_refused a_row a_isKept a_text a_words a_cost a_steps a_mates a_bestMates a_comes s_above s_below s_length s_at s_behind s_readFlitches s_readFamilies s_doing s_refused (-2) _ h) _) rfl gX9_flitch_X9_refuse rfl (by decide +kernel) rfl hKK hP hD [0, 1] rfl rfl rfl rfl rfl hl.1 rfl (Nat.le_of_ble_eq_true rfl) dX9_flitch_32) hP hD hS hA [0, 1] [2] [1, 2, 0] rfl rfl rfl (fun _ => rfl) (fun r_3 u H locs h hP hD hS => ?_)
    obtain ⟨s_refused_4, rfl⟩ : ∃ z, z = u := ⟨_, rfl⟩
    have hP : va_P D vwCl (Wd_Mo_flitch cy a_this a_refused a_row a_isKept a_text a_words a_cost a_steps a_mates a_bestMates a_comes s_above s_below s_length s_at s_behind s_readFlitches s_readFamilies s_doing s_refused_4 s_row) H := hP
    have hD : va_D A (Wd_Mo_flitch cy a_this a_refused a_row a_isKept a_text a_words a_cost a_steps a_mates a_bestMates a_comes s_above s_below s_length s_at s_behind s_readFlitches s_readFamilies s_doing s_refused_4 s_row) := hD
    exact hret _ (s_refused_4, s_row) _ _ _ _ h hP hD hS dX9_flitch_35
  refine lv_if_eq (tgt := 29) hx hb dX9_flitch_6 (by decide) (fun c_5 => ?_) (fun c_5 => ?_)
  · have h := h.1 c_5
    exact kJ29_1  _ _ _ h hP hD hS (lv_sub hl [0] rfl)
  · have h := h.2 c_5
    refine lv_iload_n hx hb dX9_flitch_9 rfl (lv_at hl 2 rfl) ?_
    refine lv_iconst (v := 0) hx hb dX9_flitch_10 (by decide) ?_
    refine lv_bipush (v := 24) hx hb dX9_flitch_11 (by decide) ?_
    refine st_callRI (st_runSR (n := 3) (As := [.int x2, .int 0, .int 24]) (rest := []) F (co_Mo_in l D cy x2 0 24 _ h) gX9_flitch_X9_in rfl (by decide +kernel) rfl hKK hP [] rfl rfl hl.1 rfl (Nat.le_of_ble_eq_true rfl) dX9_flitch_13) (fun r_6 h => ?_)
    refine lv_if_eq (tgt := 29) hx hb dX9_flitch_16 (by decide) (fun c_7 => ?_) (fun c_7 => ?_)
    · have h := h.1 c_7
      exact kJ29_1  _ _ _ h hP hD hS (lv_sub hl [0] rfl)
    · have h := h.2 c_7
      refine lv_iload_n hx hb dX9_flitch_19 rfl (lv_at hl 3 rfl) ?_
      refine lv_iconst (v := 1) hx hb dX9_flitch_20 (by decide) ?_
      refine lv_bipush (v := 20) hx hb dX9_flitch_21 (by decide) ?_
      refine st_callRI (st_runSR (n := 3) (As := [.int x3, .int 1, .int 20]) (rest := []) F (co_Mo_in l D cy x3 1 20 _ h) gX9_flitch_X9_in rfl (by decide +kernel) rfl hKK hP [] rfl rfl hl.1 rfl (Nat.le_of_ble_eq_true rfl) dX9_flitch_23) (fun r_8 h => ?_)
      refine lv_if_ne (tgt := 36) hx hb dX9_flitch_26 (by decide) (fun c_9 => ?_) (fun c_9 => ?_)
      · have h := h.1 c_9
        refine lv_aload_n hx hb dX9_flitch_36 rfl (lv_at hl 0 rfl) ?_
        refine va_get (D := D) (ci := 8) (v := .ref a_row) (C := RX9) (T := TX9) (N := 18) hx hb hts in_X9 hown hK hP 0 rfl rfl 0 (by decide) fl_7 (fun _ h9 => h9) rfl dX9_flitch_37 ?_
        refine lv_bipush (v := 17) hx hb dX9_flitch_40 (by decide) ?_
        refine va_iald hx hb hK hP 2 1 rfl rfl (by unfold vp_in; decide) dX9_flitch_42 ?_
        refine lv_iconst (v := 3) hx hb dX9_flitch_43 (by decide) ?_
        refine lv_icmp_ne (tgt := 54) hx hb dX9_flitch_44 (by decide) (fun c_10 => ?_) (fun c_10 => ?_)
        · have h := h.1 c_10
          refine lv_aload_n hx hb dX9_flitch_54 rfl (lv_at hl 0 rfl) ?_
          refine lv_iload_n hx hb dX9_flitch_55 rfl (lv_at hl 1 rfl) ?_
          refine lv_iload_n hx hb dX9_flitch_56 rfl (lv_at hl 2 rfl) ?_
          refine lv_iload_n hx hb dX9_flitch_57 rfl (lv_at hl 3 rfl) ?_
          refine st_callV (WR := [1].filterMap (fun i => (Wd_Mo_flitch cy a_this a_refused a_row a_isKept a_text a_words a_cost a_steps a_mates a_bestMates a_comes s_above s_below s_length s_at s_behind s_readFlitches s_readFamilies s_doing s_refused s_row)[i]?)) (WSn := fun u => (Wd_Mo_flitch cy a_this a_refused a_row a_isKept a_text a_words a_cost a_steps a_mates a_bestMates a_comes s_above s_below s_length s_at s_behind s_readFlitches s_readFamilies s_doing s_refused u)) (st_runV (n := 3) (As := [.int x1, .int x2, .int x3]) (rest := []) (q0 := 0) F ((co_Mo_addFlitch l D cy a_this a_row a_isKept a_refused a_text a_words a_cost a_steps a_mates a_bestMates a_comes s_above s_below s_length s_at s_behind s_readFlitches s_readFamilies s_doing s_row x1 x2 x3 _ h) _) rfl gX9_flitch_X9_addFlitch rfl (by decide +kernel) rfl hKK hP hD [0, 2] rfl rfl rfl rfl rfl hl.1 rfl (Nat.le_of_ble_eq_true rfl) dX9_flitch_58) hP hD hS hA [0, 2] [1] [1, 0, 2] rfl rfl rfl (fun _ => rfl) (fun u H locs h hP hD hS => ?_)
          obtain ⟨s_row_12, rfl⟩ : ∃ z, z = u := ⟨_, rfl⟩
          have hP : va_P D vwCl (Wd_Mo_flitch cy a_this a_refused a_row a_isKept a_text a_words a_cost a_steps a_mates a_bestMates a_comes s_above s_below s_length s_at s_behind s_readFlitches s_readFamilies s_doing s_refused s_row_12) H := hP
          have hD : va_D A (Wd_Mo_flitch cy a_this a_refused a_row a_isKept a_text a_words a_cost a_steps a_mates a_bestMates a_comes s_above s_below s_length s_at s_behind s_readFlitches s_readFamilies s_doing s_refused s_row_12) := hD
          refine lv_aload_n hx hb dX9_flitch_61 rfl (lv_at hl 0 rfl) ?_
          refine va_get (D := D) (ci := 8) (v := .ref a_row) (C := RX9) (T := TX9) (N := 18) hx hb hts in_X9 hown hK hP 0 rfl rfl 0 (by decide) fl_7 (fun _ h9 => h9) rfl dX9_flitch_62 ?_
          refine lv_bipush (v := 17) hx hb dX9_flitch_65 (by decide) ?_
          refine va_iald hx hb hK hP 2 1 rfl rfl (by unfold vp_in; decide) dX9_flitch_67 ?_
          refine lv_iconst (v := 1) hx hb dX9_flitch_68 (by decide) ?_
          refine lv_isub hx hb dX9_flitch_69 ?_
          exact hret _ (s_refused, s_row_12) _ _ _ _ h hP hD hS dX9_flitch_70
        · have h := h.2 c_10
          refine lv_aload_n hx hb dX9_flitch_47 rfl (lv_at hl 0 rfl) ?_
          refine lv_bipush (v := (-4)) hx hb dX9_flitch_48 (by decide) ?_
          refine st_callI (WR := [2].filterMap (fun i => (Wd_Mo_flitch cy a_this a_refused a_row a_isKept a_text a_words a_cost a_steps a_mates a_bestMates a_comes s_above s_below s_length s_at s_behind s_readFlitches s_readFamilies s_doing s_refused s_row)[i]?)) (WSn := fun u => (Wd_Mo_flitch cy a_this a_refused a_row a_isKept a_text a_words a_cost a_steps a_mates a_bestMates a_comes s_above s_below s_length s_at s_behind s_readFlitches s_readFamilies s_doing u s_row)) (st_runV (n := 1) (As := [.int (-4)]) (rest := []) (q0 := 0) F ((co_Mo_refuse l D cy a_this a_refused a_row a_isKept a_text a_words a_cost a_steps a_mates a_bestMates a_comes s_above s_below s_length s_at s_behind s_readFlitches s_readFamilies s_doing s_refused (-4) _ h) _) rfl gX9_flitch_X9_refuse rfl (by decide +kernel) rfl hKK hP hD [0, 1] rfl rfl rfl rfl rfl hl.1 rfl (Nat.le_of_ble_eq_true rfl) dX9_flitch_50) hP hD hS hA [0, 1] [2] [1, 2, 0] rfl rfl rfl (fun _ => rfl) (fun r_13 u H locs h hP hD hS => ?_)
          obtain ⟨s_refused_14, rfl⟩ : ∃ z, z = u := ⟨_, rfl⟩
          have hP : va_P D vwCl (Wd_Mo_flitch cy a_this a_refused a_row a_isKept a_text a_words a_cost a_steps a_mates a_bestMates a_comes s_above s_below s_length s_at s_behind s_readFlitches s_readFamilies s_doing s_refused_14 s_row) H := hP
          have hD : va_D A (Wd_Mo_flitch cy a_this a_refused a_row a_isKept a_text a_words a_cost a_steps a_mates a_bestMates a_comes s_above s_below s_length s_at s_behind s_readFlitches s_readFamilies s_doing s_refused_14 s_row) := hD
          exact hret _ (s_refused_14, s_row) _ _ _ _ h hP hD hS dX9_flitch_53
      · have h := h.2 c_9
        exact kJ29_1  _ _ _ h hP hD hS (lv_sub hl [0] rfl)
abbrev Wd_Mo_addFamily (cy : ClassId × ClassId × ClassId × ClassId) (a_this a_row a_isKept a_refused a_text a_words a_cost a_steps a_mates a_bestMates a_comes : Nat) (s_above : Int64) (s_below : Int64) (s_length : Int32) (s_at : Int32) (s_behind : Int32) (s_readFlitches : Int32) (s_readFamilies : Int32) (s_doing : Int32) (s_row : Nat → Int32) : va_W := [(a_this, .inr (8, [.ref a_row, .ref a_isKept, .ref a_refused, .long s_above, .long s_below, .ref a_text, .int s_length, .ref a_words, .int s_at, .int s_behind, .int s_readFlitches, .int s_readFamilies, .int s_doing, .ref a_cost, .ref a_steps, .ref a_mates, .ref a_bestMates, .ref a_comes])), (a_row, .inl (cy.2.1, 770, .inl s_row))]
abbrev rm_Mo_addFamily : Room := { frames := 0, cells := 0, slots := 0, locals := 0 }
def wp_Mo_addFamily (x1 : Int32) (x2 : Int32) (x3 : Int32) (x4 : Int32) (s_row : Nat → Int32) (Q : (Nat → Int32) → Prop) : Prop := ∀ x5_1 : Int32, x5_1 = (s_row (Int32.toNatClampNeg 27)) → vp_in (28 + x5_1) 770 ∧ ∀ s_row_3 : Nat → Int32, s_row_3 = upd s_row (Int32.toNatClampNeg (28 + x5_1)) x1 → vp_in (35 + x5_1) 770 ∧ ∀ s_row_5 : Nat → Int32, s_row_5 = upd s_row_3 (Int32.toNatClampNeg (35 + x5_1)) x2 → vp_in (8 + x5_1) 770 ∧ ∀ s_row_7 : Nat → Int32, s_row_7 = upd s_row_5 (Int32.toNatClampNeg (8 + x5_1)) x3 → vp_in (0 + x5_1) 770 ∧ ∀ s_row_9 : Nat → Int32, s_row_9 = upd s_row_7 (Int32.toNatClampNeg (0 + x5_1)) x4 → ∀ s_row_10 : Nat → Int32, s_row_10 = upd s_row_9 (Int32.toNatClampNeg 27) ((s_row_9 (Int32.toNatClampNeg 27)) + 1) → ∀ s_row_11 : Nat → Int32, s_row_11 = upd s_row_10 (Int32.toNatClampNeg 114) 0 → Q s_row_11
set_option maxHeartbeats 4000000 in
set_option maxRecDepth 100000 in
theorem co_Mo_addFamily (l : Launch) (D : va_G) (cy : ClassId × ClassId × ClassId × ClassId) (a_this a_row a_isKept a_refused a_text a_words a_cost a_steps a_mates a_bestMates a_comes : Nat) (s_above : Int64) (s_below : Int64) (s_length : Int32) (s_at : Int32) (s_behind : Int32) (s_readFlitches : Int32) (s_readFamilies : Int32) (s_doing : Int32) (s_row : Nat → Int32) (x1 : Int32) (x2 : Int32) (x3 : Int32) (x4 : Int32) (Q : (Nat → Int32) → Prop) (h : wp_Mo_addFamily x1 x2 x3 x4 s_row Q) : CoV l yX9_addFamily wsX9_addFamily rm_Mo_addFamily D cy [.ref a_this, .int x1, .int x2, .int x3, .int x4] (Wd_Mo_addFamily cy a_this a_row a_isKept a_refused a_text a_words a_cost a_steps a_mates a_bestMates a_comes s_above s_below s_length s_at s_behind s_readFlitches s_readFamilies s_doing s_row) (fun u : (Nat → Int32) => (Wd_Mo_addFamily cy a_this a_row a_isKept a_refused a_text a_words a_cost a_steps a_mates a_bestMates a_comes s_above s_below s_length s_at s_behind s_readFlitches s_readFamilies s_doing u)) (fun (u : (Nat → Int32)) => Q u) := by
  refine st_metV (cc := cX9_addFamily) (maxL := 6) RX9 (by decide) rfl rfl (Nat.le_of_ble_eq_true rfl) ?_
  intro p e s m args below meth c A QQ ls F hA hKK hP hD hS hl hret
  have hK := hKK.1
  have hnest := hKK.2.1
  have hx := F.1
  have hb := F.2.1
  have hown := F.2.2.2.1
  have hts := F.2.2.2.2
  have in_X9 : ∀ w ∈ u_ws RX9 TX9 18, w ∈ wsX9_addFamily := (fun _ h => List.mem_cons_of_mem _ (List.mem_append_right _ h))
  have fl_7 := (hts (.fieldLink RX9 7 "RasherCaseModel" "row" "[I") (List.mem_of_getElem? (i := 1) rfl))
  have hl : lv_has ls 6 [(0, .ref a_this), (1, .int x1), (2, .int x2), (3, .int x3), (4, .int x4)] := hl
  unfold wp_Mo_addFamily at h
  refine lv_aload_n hx hb dX9_addFamily_0 rfl (lv_at hl 0 rfl) ?_
  refine va_get (D := D) (ci := 8) (v := .ref a_row) (C := RX9) (T := TX9) (N := 18) hx hb hts in_X9 hown hK hP 0 rfl rfl 0 (by decide) fl_7 (fun _ h9 => h9) rfl dX9_addFamily_1 ?_
  refine lv_bipush (v := 27) hx hb dX9_addFamily_4 (by decide) ?_
  refine va_iald hx hb hK hP 1 1 rfl rfl (by unfold vp_in; decide) dX9_addFamily_6 ?_
  refine lv_topi (fun x5_1 ex5_1 => ?_)
  have h := h x5_1 ex5_1
  refine lv_istore (lv' := [(5, .int x5_1), (0, .ref a_this), (1, .int x1), (2, .int x2), (3, .int x3), (4, .int x4)]) hx hb dX9_addFamily_7 hl (by decide) rfl (fun ls hl => ?_)
  refine lv_aload_n hx hb dX9_addFamily_9 rfl (lv_at hl 1 rfl) ?_
  refine va_get (D := D) (ci := 8) (v := .ref a_row) (C := RX9) (T := TX9) (N := 18) hx hb hts in_X9 hown hK hP 0 rfl rfl 0 (by decide) fl_7 (fun _ h9 => h9) rfl dX9_addFamily_10 ?_
  refine lv_bipush (v := 28) hx hb dX9_addFamily_13 (by decide) ?_
  refine lv_iload hx hb dX9_addFamily_15 (lv_at hl 0 rfl) ?_
  refine lv_iadd hx hb dX9_addFamily_17 ?_
  refine lv_iload_n hx hb dX9_addFamily_18 rfl (lv_at hl 2 rfl) ?_
  obtain ⟨hi_2, h⟩ := h
  refine va_iast hx hb hK hP hD hS 1 1 rfl rfl hi_2 dX9_addFamily_19 (fun H locs hP hD hS => ?_)
  obtain ⟨s_row_3, es_row_3⟩ : ∃ f : Nat → Int32, f = upd s_row (Int32.toNatClampNeg (28 + x5_1)) x1 := ⟨_, rfl⟩
  have hP : va_P D vwCl (Wd_Mo_addFamily cy a_this a_row a_isKept a_refused a_text a_words a_cost a_steps a_mates a_bestMates a_comes s_above s_below s_length s_at s_behind s_readFlitches s_readFamilies s_doing s_row_3) H := by rw [es_row_3]; exact hP
  have hD : va_D A (Wd_Mo_addFamily cy a_this a_row a_isKept a_refused a_text a_words a_cost a_steps a_mates a_bestMates a_comes s_above s_below s_length s_at s_behind s_readFlitches s_readFamilies s_doing s_row_3) := by rw [es_row_3]; exact hD
  have h := h s_row_3 es_row_3
  refine lv_aload_n hx hb dX9_addFamily_20 rfl (lv_at hl 1 rfl) ?_
  refine va_get (D := D) (ci := 8) (v := .ref a_row) (C := RX9) (T := TX9) (N := 18) hx hb hts in_X9 hown hK hP 0 rfl rfl 0 (by decide) fl_7 (fun _ h9 => h9) rfl dX9_addFamily_21 ?_
  refine lv_bipush (v := 35) hx hb dX9_addFamily_24 (by decide) ?_
  refine lv_iload hx hb dX9_addFamily_26 (lv_at hl 0 rfl) ?_
  refine lv_iadd hx hb dX9_addFamily_28 ?_
  refine lv_iload_n hx hb dX9_addFamily_29 rfl (lv_at hl 3 rfl) ?_
  obtain ⟨hi_4, h⟩ := h
  refine va_iast hx hb hK hP hD hS 1 1 rfl rfl hi_4 dX9_addFamily_30 (fun H locs hP hD hS => ?_)
  obtain ⟨s_row_5, es_row_5⟩ : ∃ f : Nat → Int32, f = upd s_row_3 (Int32.toNatClampNeg (35 + x5_1)) x2 := ⟨_, rfl⟩
  have hP : va_P D vwCl (Wd_Mo_addFamily cy a_this a_row a_isKept a_refused a_text a_words a_cost a_steps a_mates a_bestMates a_comes s_above s_below s_length s_at s_behind s_readFlitches s_readFamilies s_doing s_row_5) H := by rw [es_row_5]; exact hP
  have hD : va_D A (Wd_Mo_addFamily cy a_this a_row a_isKept a_refused a_text a_words a_cost a_steps a_mates a_bestMates a_comes s_above s_below s_length s_at s_behind s_readFlitches s_readFamilies s_doing s_row_5) := by rw [es_row_5]; exact hD
  have h := h s_row_5 es_row_5
  refine lv_aload_n hx hb dX9_addFamily_31 rfl (lv_at hl 1 rfl) ?_
  refine va_get (D := D) (ci := 8) (v := .ref a_row) (C := RX9) (T := TX9) (N := 18) hx hb hts in_X9 hown hK hP 0 rfl rfl 0 (by decide) fl_7 (fun _ h9 => h9) rfl dX9_addFamily_32 ?_
  refine lv_bipush (v := 8) hx hb dX9_addFamily_35 (by decide) ?_
  refine lv_iload hx hb dX9_addFamily_37 (lv_at hl 0 rfl) ?_
  refine lv_iadd hx hb dX9_addFamily_39 ?_
  refine lv_iload_n hx hb dX9_addFamily_40 rfl (lv_at hl 4 rfl) ?_
  obtain ⟨hi_6, h⟩ := h
  refine va_iast hx hb hK hP hD hS 1 1 rfl rfl hi_6 dX9_addFamily_41 (fun H locs hP hD hS => ?_)
  obtain ⟨s_row_7, es_row_7⟩ : ∃ f : Nat → Int32, f = upd s_row_5 (Int32.toNatClampNeg (8 + x5_1)) x3 := ⟨_, rfl⟩
  have hP : va_P D vwCl (Wd_Mo_addFamily cy a_this a_row a_isKept a_refused a_text a_words a_cost a_steps a_mates a_bestMates a_comes s_above s_below s_length s_at s_behind s_readFlitches s_readFamilies s_doing s_row_7) H := by rw [es_row_7]; exact hP
  have hD : va_D A (Wd_Mo_addFamily cy a_this a_row a_isKept a_refused a_text a_words a_cost a_steps a_mates a_bestMates a_comes s_above s_below s_length s_at s_behind s_readFlitches s_readFamilies s_doing s_row_7) := by rw [es_row_7]; exact hD
  have h := h s_row_7 es_row_7
  refine lv_aload_n hx hb dX9_addFamily_42 rfl (lv_at hl 1 rfl) ?_
  refine va_get (D := D) (ci := 8) (v := .ref a_row) (C := RX9) (T := TX9) (N := 18) hx hb hts in_X9 hown hK hP 0 rfl rfl 0 (by decide) fl_7 (fun _ h9 => h9) rfl dX9_addFamily_43 ?_
  refine lv_iconst (v := 0) hx hb dX9_addFamily_46 (by decide) ?_
  refine lv_iload hx hb dX9_addFamily_47 (lv_at hl 0 rfl) ?_
  refine lv_iadd hx hb dX9_addFamily_49 ?_
  refine lv_iload hx hb dX9_addFamily_50 (lv_at hl 5 rfl) ?_
  obtain ⟨hi_8, h⟩ := h
  refine va_iast hx hb hK hP hD hS 1 1 rfl rfl hi_8 dX9_addFamily_52 (fun H locs hP hD hS => ?_)
  obtain ⟨s_row_9, es_row_9⟩ : ∃ f : Nat → Int32, f = upd s_row_7 (Int32.toNatClampNeg (0 + x5_1)) x4 := ⟨_, rfl⟩
  have hP : va_P D vwCl (Wd_Mo_addFamily cy a_this a_row a_isKept a_refused a_text a_words a_cost a_steps a_mates a_bestMates a_comes s_above s_below s_length s_at s_behind s_readFlitches s_readFamilies s_doing s_row_9) H := by rw [es_row_9]; exact hP
  have hD : va_D A (Wd_Mo_addFamily cy a_this a_row a_isKept a_refused a_text a_words a_cost a_steps a_mates a_bestMates a_comes s_above s_below s_length s_at s_behind s_readFlitches s_readFamilies s_doing s_row_9) := by rw [es_row_9]; exact hD
  have h := h s_row_9 es_row_9
  refine lv_aload_n hx hb dX9_addFamily_53 rfl (lv_at hl 1 rfl) ?_
  refine va_get (D := D) (ci := 8) (v := .ref a_row) (C := RX9) (T := TX9) (N := 18) hx hb hts in_X9 hown hK hP 0 rfl rfl 0 (by decide) fl_7 (fun _ h9 => h9) rfl dX9_addFamily_54 ?_
  refine lv_bipush (v := 27) hx hb dX9_addFamily_57 (by decide) ?_
  refine lv_dup2_11 hx hb dX9_addFamily_59 rfl rfl ?_
  refine va_iald hx hb hK hP 1 1 rfl rfl (by unfold vp_in; decide) dX9_addFamily_60 ?_
  refine lv_iconst (v := 1) hx hb dX9_addFamily_61 (by decide) ?_
  refine lv_iadd hx hb dX9_addFamily_62 ?_
  refine va_iast hx hb hK hP hD hS 1 1 rfl rfl (by unfold vp_in; decide) dX9_addFamily_63 (fun H locs hP hD hS => ?_)
  obtain ⟨s_row_10, es_row_10⟩ : ∃ f : Nat → Int32, f = upd s_row_9 (Int32.toNatClampNeg 27) ((s_row_9 (Int32.toNatClampNeg 27)) + 1) := ⟨_, rfl⟩
  have hP : va_P D vwCl (Wd_Mo_addFamily cy a_this a_row a_isKept a_refused a_text a_words a_cost a_steps a_mates a_bestMates a_comes s_above s_below s_length s_at s_behind s_readFlitches s_readFamilies s_doing s_row_10) H := by rw [es_row_10]; exact hP
  have hD : va_D A (Wd_Mo_addFamily cy a_this a_row a_isKept a_refused a_text a_words a_cost a_steps a_mates a_bestMates a_comes s_above s_below s_length s_at s_behind s_readFlitches s_readFamilies s_doing s_row_10) := by rw [es_row_10]; exact hD
  have h := h s_row_10 es_row_10
  refine lv_aload_n hx hb dX9_addFamily_64 rfl (lv_at hl 1 rfl) ?_
  refine va_get (D := D) (ci := 8) (v := .ref a_row) (C := RX9) (T := TX9) (N := 18) hx hb hts in_X9 hown hK hP 0 rfl rfl 0 (by decide) fl_7 (fun _ h9 => h9) rfl dX9_addFamily_65 ?_
  refine lv_bipush (v := 114) hx hb dX9_addFamily_68 (by decide) ?_
  refine lv_iconst (v := 0) hx hb dX9_addFamily_70 (by decide) ?_
  refine va_iast hx hb hK hP hD hS 1 1 rfl rfl (by unfold vp_in; decide) dX9_addFamily_71 (fun H locs hP hD hS => ?_)
  obtain ⟨s_row_11, es_row_11⟩ : ∃ f : Nat → Int32, f = upd s_row_10 (Int32.toNatClampNeg 114) 0 := ⟨_, rfl⟩
  have hP : va_P D vwCl (Wd_Mo_addFamily cy a_this a_row a_isKept a_refused a_text a_words a_cost a_steps a_mates a_bestMates a_comes s_above s_below s_length s_at s_behind s_readFlitches s_readFamilies s_doing s_row_11) H := by rw [es_row_11]; exact hP
  have hD : va_D A (Wd_Mo_addFamily cy a_this a_row a_isKept a_refused a_text a_words a_cost a_steps a_mates a_bestMates a_comes s_above s_below s_length s_at s_behind s_readFlitches s_readFamilies s_doing s_row_11) := by rw [es_row_11]; exact hD
  have h := h s_row_11 es_row_11
  exact hret (s_row_11) _ _ _ _ h hP hD hS dX9_addFamily_72
abbrev Wd_Mo_family (cy : ClassId × ClassId × ClassId × ClassId) (a_this a_refused a_row a_isKept a_text a_words a_cost a_steps a_mates a_bestMates a_comes : Nat) (s_above : Int64) (s_below : Int64) (s_length : Int32) (s_at : Int32) (s_behind : Int32) (s_readFlitches : Int32) (s_readFamilies : Int32) (s_doing : Int32) (s_refused : Nat → Int32) (s_row : Nat → Int32) : va_W := [(a_this, .inr (8, [.ref a_row, .ref a_isKept, .ref a_refused, .long s_above, .long s_below, .ref a_text, .int s_length, .ref a_words, .int s_at, .int s_behind, .int s_readFlitches, .int s_readFamilies, .int s_doing, .ref a_cost, .ref a_steps, .ref a_mates, .ref a_bestMates, .ref a_comes])), (a_refused, .inl (cy.2.1, 3, .inl s_refused)), (a_row, .inl (cy.2.1, 770, .inl s_row))]
abbrev rm_Mo_family : Room := { frames := 1, cells := 0, slots := 0, locals := 25 }
def wp_Mo_family (x1 : Int32) (x2 : Int32) (x3 : Int32) (x4 : Int32) (s_refused : Nat → Int32) (s_row : Nat → Int32) (Q : Int32 → (Nat → Int32) → (Nat → Int32) → Prop) : Prop := wp_Mo_in x1 0 5 (fun (r_1 : Int32) => jn0 (fun (J39 : Prop) => ((r_1 = 0 → J39) ∧ (¬ r_1 = 0 → wp_Mo_in x2 0 1 (fun (r_6 : Int32) => ((r_6 = 0 → J39) ∧ (¬ r_6 = 0 → wp_Mo_in x3 0 24 (fun (r_8 : Int32) => ((r_8 = 0 → J39) ∧ (¬ r_8 = 0 → wp_Mo_in x4 1 99 (fun (r_10 : Int32) => ((¬ r_10 = 0 → ((¬ (s_row (Int32.toNatClampNeg 27)) = 7 → wp_Mo_addFamily x1 x2 x3 x4 s_row (fun (s_row_14 : Nat → Int32) => Q ((s_row_14 (Int32.toNatClampNeg 27)) - 1) s_refused s_row_14)) ∧ ((s_row (Int32.toNatClampNeg 27)) = 7 → wp_Mo_refuse (-4) s_refused (fun (r_15 : Int32) (s_refused_16 : Nat → Int32) => Q r_15 s_refused_16 s_row)))) ∧ (r_10 = 0 → J39)))))))))))) (wp_Mo_refuse (-2) s_refused (fun (r_3 : Int32) (s_refused_4 : Nat → Int32) => Q r_3 s_refused_4 s_row)))
set_option maxHeartbeats 4000000 in
set_option maxRecDepth 100000 in
theorem co_Mo_family (l : Launch) (D : va_G) (cy : ClassId × ClassId × ClassId × ClassId) (a_this a_refused a_row a_isKept a_text a_words a_cost a_steps a_mates a_bestMates a_comes : Nat) (s_above : Int64) (s_below : Int64) (s_length : Int32) (s_at : Int32) (s_behind : Int32) (s_readFlitches : Int32) (s_readFamilies : Int32) (s_doing : Int32) (s_refused : Nat → Int32) (s_row : Nat → Int32) (x1 : Int32) (x2 : Int32) (x3 : Int32) (x4 : Int32) (Q : Int32 → (Nat → Int32) → (Nat → Int32) → Prop) (h : wp_Mo_family x1 x2 x3 x4 s_refused s_row Q) : CoI l yX9_family wsX9_family rm_Mo_family D cy [.ref a_this, .int x1, .int x2, .int x3, .int x4] (Wd_Mo_family cy a_this a_refused a_row a_isKept a_text a_words a_cost a_steps a_mates a_bestMates a_comes s_above s_below s_length s_at s_behind s_readFlitches s_readFamilies s_doing s_refused s_row) (fun u : (Nat → Int32) × (Nat → Int32) => (Wd_Mo_family cy a_this a_refused a_row a_isKept a_text a_words a_cost a_steps a_mates a_bestMates a_comes s_above s_below s_length s_at s_behind s_readFlitches s_readFamilies s_doing u.1 u.2)) (fun (r : Int32) (u : (Nat → Int32) × (Nat → Int32)) => Q r u.1 u.2) := by
  refine st_metI (cc := cX9_family) (maxL := 5) RX9 (by decide) rfl rfl (Nat.le_of_ble_eq_true rfl) ?_
  intro p e s m args below meth c A QQ ls F hA hKK hP hD hS hl hret
  have hK := hKK.1
  have hnest := hKK.2.1
  have hx := F.1
  have hb := F.2.1
  have hown := F.2.2.2.1
  have hts := F.2.2.2.2
  have in_X9 : ∀ w ∈ u_ws RX9 TX9 18, w ∈ wsX9_family := (fun _ h => List.mem_cons_of_mem _ (List.mem_append_right _ h))
  have fl_7 := (hts (.fieldLink RX9 7 "RasherCaseModel" "row" "[I") (List.mem_of_getElem? (i := 1) rfl))
  have hl : lv_has ls 5 [(0, .ref a_this), (1, .int x1), (2, .int x2), (3, .int x3), (4, .int x4)] := hl
  unfold wp_Mo_family at h
  refine lv_iload_n hx hb dX9_family_0 rfl (lv_at hl 1 rfl) ?_
  refine lv_iconst (v := 0) hx hb dX9_family_1 (by decide) ?_
  refine lv_iconst (v := 5) hx hb dX9_family_2 (by decide) ?_
  refine st_callRI (st_runSR (n := 3) (As := [.int x1, .int 0, .int 5]) (rest := []) F (co_Mo_in l D cy x1 0 5 _ h) gX9_family_X9_in rfl (by decide +kernel) rfl hKK hP [] rfl rfl hl.1 rfl (Nat.le_of_ble_eq_true rfl) dX9_family_3) (fun r_1 h => ?_)
  obtain ⟨J39, hJ39, h⟩ := jn0_ex h
  have kJ39_1 : ∀  (H : Heap) (locs : List Loc) (ls : Array Slot), J39 → va_P D vwCl (Wd_Mo_family cy a_this a_refused a_row a_isKept a_text a_words a_cost a_steps a_mates a_bestMates a_comes s_above s_below s_length s_at s_behind s_readFlitches s_readFamilies s_doing s_refused s_row) H → va_D A (Wd_Mo_family cy a_this a_refused a_row a_isKept a_text a_words a_cost a_steps a_mates a_bestMates a_comes s_above s_below s_length s_at s_behind s_readFlitches s_readFamilies s_doing s_refused s_row) → va_S A s.heap H locs → lv_has ls 5 [(0, .ref a_this)] → W p l e rm_Mo_family s m args below meth c H locs 0 0 QQ (F0 m 39 ls []) := by
    intro  H locs ls h hP hD hS hl
    have h := hJ39  h
    refine lv_aload_n hx hb dX9_family_39 rfl (lv_at hl 0 rfl) ?_
    refine lv_bipush (v := (-2)) hx hb dX9_family_40 (by decide) ?_
    refine st_callI (WR := [2].filterMap (fun i => (Wd_Mo_family cy a_this a_refused a_row a_isKept a_text a_words a_cost a_steps a_mates a_bestMates a_comes s_above s_below s_length s_at s_behind s_readFlitches s_readFamilies s_doing s_refused s_row)[i]?)) (WSn := fun u => (Wd_Mo_family cy a_this a_refused a_row a_isKept a_text a_words a_cost a_steps a_mates a_bestMates a_comes s_above s_below s_length s_at s_behind s_readFlitches s_readFamilies s_doing u s_row)) (st_runV (n := 1) (As := [.int (-2)]) (rest := []) (q0 := 0) F ((co_Mo_refuse l D cy a_this a_refused a_row a_isKept a_text a_words a_cost a_steps a_mates a_bestMates a_comes s_above s_below s_length s_at s_behind s_readFlitches s_readFamilies s_doing s_refused (-2) _ h) _) rfl gX9_family_X9_refuse rfl (by decide +kernel) rfl hKK hP hD [0, 1] rfl rfl rfl rfl rfl hl.1 rfl (Nat.le_of_ble_eq_true rfl) dX9_family_42) hP hD hS hA [0, 1] [2] [1, 2, 0] rfl rfl rfl (fun _ => rfl) (fun r_3 u H locs h hP hD hS => ?_)
    obtain ⟨s_refused_4, rfl⟩ : ∃ z, z = u := ⟨_, rfl⟩
    have hP : va_P D vwCl (Wd_Mo_family cy a_this a_refused a_row a_isKept a_text a_words a_cost a_steps a_mates a_bestMates a_comes s_above s_below s_length s_at s_behind s_readFlitches s_readFamilies s_doing s_refused_4 s_row) H := hP
    have hD : va_D A (Wd_Mo_family cy a_this a_refused a_row a_isKept a_text a_words a_cost a_steps a_mates a_bestMates a_comes s_above s_below s_length s_at s_behind s_readFlitches s_readFamilies s_doing s_refused_4 s_row) := hD
    exact hret _ (s_refused_4, s_row) _ _ _ _ h hP hD hS dX9_family_45
  refine lv_if_eq (tgt := 39) hx hb dX9_family_6 (by decide) (fun c_5 => ?_) (fun c_5 => ?_)
  · have h := h.1 c_5
    exact kJ39_1  _ _ _ h hP hD hS (lv_sub hl [0] rfl)
  · have h := h.2 c_5
    refine lv_iload_n hx hb dX9_family_9 rfl (lv_at hl 2 rfl) ?_
    refine lv_iconst (v := 0) hx hb dX9_family_10 (by decide) ?_
    refine lv_iconst (v := 1) hx hb dX9_family_11 (by decide) ?_
    refine st_callRI (st_runSR (n := 3) (As := [.int x2, .int 0, .int 1]) (rest := []) F (co_Mo_in l D cy x2 0 1 _ h) gX9_family_X9_in rfl (by decide +kernel) rfl hKK hP [] rfl rfl hl.1 rfl (Nat.le_of_ble_eq_true rfl) dX9_family_12) (fun r_6 h => ?_)
    refine lv_if_eq (tgt := 39) hx hb dX9_family_15 (by decide) (fun c_7 => ?_) (fun c_7 => ?_)
    · have h := h.1 c_7
      exact kJ39_1  _ _ _ h hP hD hS (lv_sub hl [0] rfl)
    · have h := h.2 c_7
      refine lv_iload_n hx hb dX9_family_18 rfl (lv_at hl 3 rfl) ?_
      refine lv_iconst (v := 0) hx hb dX9_family_19 (by decide) ?_
      refine lv_bipush (v := 24) hx hb dX9_family_20 (by decide) ?_
      refine st_callRI (st_runSR (n := 3) (As := [.int x3, .int 0, .int 24]) (rest := []) F (co_Mo_in l D cy x3 0 24 _ h) gX9_family_X9_in rfl (by decide +kernel) rfl hKK hP [] rfl rfl hl.1 rfl (Nat.le_of_ble_eq_true rfl) dX9_family_22) (fun r_8 h => ?_)
      refine lv_if_eq (tgt := 39) hx hb dX9_family_25 (by decide) (fun c_9 => ?_) (fun c_9 => ?_)
      · have h := h.1 c_9
        exact kJ39_1  _ _ _ h hP hD hS (lv_sub hl [0] rfl)
      · have h := h.2 c_9
        refine lv_iload hx hb dX9_family_28 (lv_at hl 4 rfl) ?_
        refine lv_iconst (v := 1) hx hb dX9_family_30 (by decide) ?_
        refine lv_bipush (v := 99) hx hb dX9_family_31 (by decide) ?_
        refine st_callRI (st_runSR (n := 3) (As := [.int x4, .int 1, .int 99]) (rest := []) F (co_Mo_in l D cy x4 1 99 _ h) gX9_family_X9_in rfl (by decide +kernel) rfl hKK hP [] rfl rfl hl.1 rfl (Nat.le_of_ble_eq_true rfl) dX9_family_33) (fun r_10 h => ?_)
        refine lv_if_ne (tgt := 46) hx hb dX9_family_36 (by decide) (fun c_11 => ?_) (fun c_11 => ?_)
        · have h := h.1 c_11
          refine lv_aload_n hx hb dX9_family_46 rfl (lv_at hl 0 rfl) ?_
          refine va_get (D := D) (ci := 8) (v := .ref a_row) (C := RX9) (T := TX9) (N := 18) hx hb hts in_X9 hown hK hP 0 rfl rfl 0 (by decide) fl_7 (fun _ h9 => h9) rfl dX9_family_47 ?_
          refine lv_bipush (v := 27) hx hb dX9_family_50 (by decide) ?_
          refine va_iald hx hb hK hP 2 1 rfl rfl (by unfold vp_in; decide) dX9_family_52 ?_
          refine lv_bipush (v := 7) hx hb dX9_family_53 (by decide) ?_
          refine lv_icmp_ne (tgt := 65) hx hb dX9_family_55 (by decide) (fun c_12 => ?_) (fun c_12 => ?_)
          · have h := h.1 c_12
            refine lv_aload_n hx hb dX9_family_65 rfl (lv_at hl 0 rfl) ?_
            refine lv_iload_n hx hb dX9_family_66 rfl (lv_at hl 1 rfl) ?_
            refine lv_iload_n hx hb dX9_family_67 rfl (lv_at hl 2 rfl) ?_
            refine lv_iload_n hx hb dX9_family_68 rfl (lv_at hl 3 rfl) ?_
            refine lv_iload hx hb dX9_family_69 (lv_at hl 4 rfl) ?_
            refine st_callV (WR := [1].filterMap (fun i => (Wd_Mo_family cy a_this a_refused a_row a_isKept a_text a_words a_cost a_steps a_mates a_bestMates a_comes s_above s_below s_length s_at s_behind s_readFlitches s_readFamilies s_doing s_refused s_row)[i]?)) (WSn := fun u => (Wd_Mo_family cy a_this a_refused a_row a_isKept a_text a_words a_cost a_steps a_mates a_bestMates a_comes s_above s_below s_length s_at s_behind s_readFlitches s_readFamilies s_doing s_refused u)) (st_runV (n := 4) (As := [.int x1, .int x2, .int x3, .int x4]) (rest := []) (q0 := 0) F ((co_Mo_addFamily l D cy a_this a_row a_isKept a_refused a_text a_words a_cost a_steps a_mates a_bestMates a_comes s_above s_below s_length s_at s_behind s_readFlitches s_readFamilies s_doing s_row x1 x2 x3 x4 _ h) _) rfl gX9_family_X9_addFamily rfl (by decide +kernel) rfl hKK hP hD [0, 2] rfl rfl rfl rfl rfl hl.1 rfl (Nat.le_of_ble_eq_true rfl) dX9_family_71) hP hD hS hA [0, 2] [1] [1, 0, 2] rfl rfl rfl (fun _ => rfl) (fun u H locs h hP hD hS => ?_)
            obtain ⟨s_row_14, rfl⟩ : ∃ z, z = u := ⟨_, rfl⟩
            have hP : va_P D vwCl (Wd_Mo_family cy a_this a_refused a_row a_isKept a_text a_words a_cost a_steps a_mates a_bestMates a_comes s_above s_below s_length s_at s_behind s_readFlitches s_readFamilies s_doing s_refused s_row_14) H := hP
            have hD : va_D A (Wd_Mo_family cy a_this a_refused a_row a_isKept a_text a_words a_cost a_steps a_mates a_bestMates a_comes s_above s_below s_length s_at s_behind s_readFlitches s_readFamilies s_doing s_refused s_row_14) := hD
            refine lv_aload_n hx hb dX9_family_74 rfl (lv_at hl 0 rfl) ?_
            refine va_get (D := D) (ci := 8) (v := .ref a_row) (C := RX9) (T := TX9) (N := 18) hx hb hts in_X9 hown hK hP 0 rfl rfl 0 (by decide) fl_7 (fun _ h9 => h9) rfl dX9_family_75 ?_
            refine lv_bipush (v := 27) hx hb dX9_family_78 (by decide) ?_
            refine va_iald hx hb hK hP 2 1 rfl rfl (by unfold vp_in; decide) dX9_family_80 ?_
            refine lv_iconst (v := 1) hx hb dX9_family_81 (by decide) ?_
            refine lv_isub hx hb dX9_family_82 ?_
            exact hret _ (s_refused, s_row_14) _ _ _ _ h hP hD hS dX9_family_83
          · have h := h.2 c_12
            refine lv_aload_n hx hb dX9_family_58 rfl (lv_at hl 0 rfl) ?_
            refine lv_bipush (v := (-4)) hx hb dX9_family_59 (by decide) ?_
            refine st_callI (WR := [2].filterMap (fun i => (Wd_Mo_family cy a_this a_refused a_row a_isKept a_text a_words a_cost a_steps a_mates a_bestMates a_comes s_above s_below s_length s_at s_behind s_readFlitches s_readFamilies s_doing s_refused s_row)[i]?)) (WSn := fun u => (Wd_Mo_family cy a_this a_refused a_row a_isKept a_text a_words a_cost a_steps a_mates a_bestMates a_comes s_above s_below s_length s_at s_behind s_readFlitches s_readFamilies s_doing u s_row)) (st_runV (n := 1) (As := [.int (-4)]) (rest := []) (q0 := 0) F ((co_Mo_refuse l D cy a_this a_refused a_row a_isKept a_text a_words a_cost a_steps a_mates a_bestMates a_comes s_above s_below s_length s_at s_behind s_readFlitches s_readFamilies s_doing s_refused (-4) _ h) _) rfl gX9_family_X9_refuse rfl (by decide +kernel) rfl hKK hP hD [0, 1] rfl rfl rfl rfl rfl hl.1 rfl (Nat.le_of_ble_eq_true rfl) dX9_family_61) hP hD hS hA [0, 1] [2] [1, 2, 0] rfl rfl rfl (fun _ => rfl) (fun r_15 u H locs h hP hD hS => ?_)
            obtain ⟨s_refused_16, rfl⟩ : ∃ z, z = u := ⟨_, rfl⟩
            have hP : va_P D vwCl (Wd_Mo_family cy a_this a_refused a_row a_isKept a_text a_words a_cost a_steps a_mates a_bestMates a_comes s_above s_below s_length s_at s_behind s_readFlitches s_readFamilies s_doing s_refused_16 s_row) H := hP
            have hD : va_D A (Wd_Mo_family cy a_this a_refused a_row a_isKept a_text a_words a_cost a_steps a_mates a_bestMates a_comes s_above s_below s_length s_at s_behind s_readFlitches s_readFamilies s_doing s_refused_16 s_row) := hD
            exact hret _ (s_refused_16, s_row) _ _ _ _ h hP hD hS dX9_family_64
        · have h := h.2 c_11
          exact kJ39_1  _ _ _ h hP hD hS (lv_sub hl [0] rfl)
abbrev Wd_Mo_type (cy : ClassId × ClassId × ClassId × ClassId) (a_this a_refused a_text a_row a_isKept a_words a_cost a_steps a_mates a_bestMates a_comes : Nat) (s_above : Int64) (s_below : Int64) (s_length : Int32) (s_at : Int32) (s_behind : Int32) (s_readFlitches : Int32) (s_readFamilies : Int32) (s_doing : Int32) (s_refused : Nat → Int32) (s_text : Nat → Int32) : va_W := [(a_this, .inr (8, [.ref a_row, .ref a_isKept, .ref a_refused, .long s_above, .long s_below, .ref a_text, .int s_length, .ref a_words, .int s_at, .int s_behind, .int s_readFlitches, .int s_readFamilies, .int s_doing, .ref a_cost, .ref a_steps, .ref a_mates, .ref a_bestMates, .ref a_comes])), (a_refused, .inl (cy.2.1, 3, .inl s_refused)), (a_text, .inl (cy.2.1, 150, .inl s_text))]
abbrev rm_Mo_type : Room := { frames := 1, cells := 0, slots := 0, locals := 22 }
def wp_Mo_type (x1 : Int32) (s_length : Int32) (s_refused : Nat → Int32) (s_text : Nat → Int32) (Q : Int32 → Int32 → (Nat → Int32) → (Nat → Int32) → Prop) : Prop := wp_Mo_in x1 0 127 (fun (r_1 : Int32) => ((¬ r_1 = 0 → ((¬ s_length = 150 → vp_in s_length 150 ∧ ∀ s_text_5 : Nat → Int32, s_text_5 = upd s_text (Int32.toNatClampNeg s_length) x1 → ∀ s_length_6 : Int32, s_length_6 = (s_length + 1) → Q s_length_6 s_length_6 s_refused s_text_5) ∧ (s_length = 150 → wp_Mo_refuse (-4) s_refused (fun (r_7 : Int32) (s_refused_8 : Nat → Int32) => Q r_7 s_length s_refused_8 s_text)))) ∧ (r_1 = 0 → wp_Mo_refuse (-2) s_refused (fun (r_9 : Int32) (s_refused_10 : Nat → Int32) => Q r_9 s_length s_refused_10 s_text))))
set_option maxHeartbeats 4000000 in
set_option maxRecDepth 100000 in
theorem co_Mo_type (l : Launch) (D : va_G) (cy : ClassId × ClassId × ClassId × ClassId) (a_this a_refused a_text a_row a_isKept a_words a_cost a_steps a_mates a_bestMates a_comes : Nat) (s_above : Int64) (s_below : Int64) (s_length : Int32) (s_at : Int32) (s_behind : Int32) (s_readFlitches : Int32) (s_readFamilies : Int32) (s_doing : Int32) (s_refused : Nat → Int32) (s_text : Nat → Int32) (x1 : Int32) (Q : Int32 → Int32 → (Nat → Int32) → (Nat → Int32) → Prop) (h : wp_Mo_type x1 s_length s_refused s_text Q) : CoI l yX9_type wsX9_type rm_Mo_type D cy [.ref a_this, .int x1] (Wd_Mo_type cy a_this a_refused a_text a_row a_isKept a_words a_cost a_steps a_mates a_bestMates a_comes s_above s_below s_length s_at s_behind s_readFlitches s_readFamilies s_doing s_refused s_text) (fun u : Int32 × (Nat → Int32) × (Nat → Int32) => (Wd_Mo_type cy a_this a_refused a_text a_row a_isKept a_words a_cost a_steps a_mates a_bestMates a_comes s_above s_below u.1 s_at s_behind s_readFlitches s_readFamilies s_doing u.2.1 u.2.2)) (fun (r : Int32) (u : Int32 × (Nat → Int32) × (Nat → Int32)) => Q r u.1 u.2.1 u.2.2) := by
  refine st_metI (cc := cX9_type) (maxL := 2) RX9 (by decide) rfl rfl (Nat.le_of_ble_eq_true rfl) ?_
  intro p e s m args below meth c A QQ ls F hA hKK hP hD hS hl hret
  have hK := hKK.1
  have hnest := hKK.2.1
  have hx := F.1
  have hb := F.2.1
  have hown := F.2.2.2.1
  have hts := F.2.2.2.2
  have in_X9 : ∀ w ∈ u_ws RX9 TX9 18, w ∈ wsX9_type := (fun _ h => List.mem_cons_of_mem _ (List.mem_append_right _ h))
  have fl_24 := (hts (.fieldLink RX9 24 "RasherCaseModel" "text" "[I") (List.mem_of_getElem? (i := 2) rfl))
  have fl_64 := (hts (.fieldLink RX9 64 "RasherCaseModel" "length" "I") (List.mem_of_getElem? (i := 1) rfl))
  have hl : lv_has ls 2 [(0, .ref a_this), (1, .int x1)] := hl
  unfold wp_Mo_type at h
  refine lv_iload_n hx hb dX9_type_0 rfl (lv_at hl 1 rfl) ?_
  refine lv_iconst (v := 0) hx hb dX9_type_1 (by decide) ?_
  refine lv_bipush (v := 127) hx hb dX9_type_2 (by decide) ?_
  refine st_callRI (st_runSR (n := 3) (As := [.int x1, .int 0, .int 127]) (rest := []) F (co_Mo_in l D cy x1 0 127 _ h) gX9_type_X9_in rfl (by decide +kernel) rfl hKK hP [] rfl rfl hl.1 rfl (Nat.le_of_ble_eq_true rfl) dX9_type_4) (fun r_1 h => ?_)
  refine lv_if_ne (tgt := 17) hx hb dX9_type_7 (by decide) (fun c_2 => ?_) (fun c_2 => ?_)
  · have h := h.1 c_2
    refine lv_aload_n hx hb dX9_type_17 rfl (lv_at hl 0 rfl) ?_
    refine va_get (D := D) (ci := 8) (v := .int s_length) (C := RX9) (T := TX9) (N := 18) hx hb hts in_X9 hown hK hP 0 rfl rfl 6 (by decide) fl_64 (fun _ h9 => h9) rfl dX9_type_18 ?_
    refine lv_sipush (v := 150) hx hb dX9_type_21 (by decide) ?_
    refine lv_icmp_ne (tgt := 34) hx hb dX9_type_24 (by decide) (fun c_3 => ?_) (fun c_3 => ?_)
    · have h := h.1 c_3
      refine lv_aload_n hx hb dX9_type_34 rfl (lv_at hl 0 rfl) ?_
      refine va_get (D := D) (ci := 8) (v := .ref a_text) (C := RX9) (T := TX9) (N := 18) hx hb hts in_X9 hown hK hP 0 rfl rfl 5 (by decide) fl_24 (fun _ h9 => h9) rfl dX9_type_35 ?_
      refine lv_aload_n hx hb dX9_type_38 rfl (lv_at hl 0 rfl) ?_
      refine va_get (D := D) (ci := 8) (v := .int s_length) (C := RX9) (T := TX9) (N := 18) hx hb hts in_X9 hown hK hP 0 rfl rfl 6 (by decide) fl_64 (fun _ h9 => h9) rfl dX9_type_39 ?_
      refine lv_iload_n hx hb dX9_type_42 rfl (lv_at hl 1 rfl) ?_
      obtain ⟨hi_4, h⟩ := h
      refine va_iast hx hb hK hP hD hS 2 1 rfl rfl hi_4 dX9_type_43 (fun H locs hP hD hS => ?_)
      obtain ⟨s_text_5, es_text_5⟩ : ∃ f : Nat → Int32, f = upd s_text (Int32.toNatClampNeg s_length) x1 := ⟨_, rfl⟩
      have hP : va_P D vwCl (Wd_Mo_type cy a_this a_refused a_text a_row a_isKept a_words a_cost a_steps a_mates a_bestMates a_comes s_above s_below s_length s_at s_behind s_readFlitches s_readFamilies s_doing s_refused s_text_5) H := by rw [es_text_5]; exact hP
      have hD : va_D A (Wd_Mo_type cy a_this a_refused a_text a_row a_isKept a_words a_cost a_steps a_mates a_bestMates a_comes s_above s_below s_length s_at s_behind s_readFlitches s_readFamilies s_doing s_refused s_text_5) := by rw [es_text_5]; exact hD
      have h := h s_text_5 es_text_5
      refine lv_aload_n hx hb dX9_type_44 rfl (lv_at hl 0 rfl) ?_
      refine lv_dup hx hb dX9_type_45 rfl ?_
      refine va_get (D := D) (ci := 8) (v := .int s_length) (C := RX9) (T := TX9) (N := 18) hx hb hts in_X9 hown hK hP 0 rfl rfl 6 (by decide) fl_64 (fun _ h9 => h9) rfl dX9_type_46 ?_
      refine lv_iconst (v := 1) hx hb dX9_type_49 (by decide) ?_
      refine lv_iadd hx hb dX9_type_50 ?_
      refine lv_topi (fun s_length_6 es_length_6 => ?_)
      have h := h s_length_6 es_length_6
      refine va_put (D := D) (ci := 8) (v := .int s_length_6) (ty := .int) (C := RX9) (T := TX9) (N := 18) hx hb hts in_X9 tyX9 tyX9_ok nmX9 hown hK hP hD hS 0 rfl rfl 6 (by decide) fl_64 (fun _ h9 => h9) rfl (tyX9_ok 6 (by decide)) rfl rfl (Nat.le_of_ble_eq_true rfl) dX9_type_51 (fun H locs hP hD hS => ?_)
      have hP : va_P D vwCl (Wd_Mo_type cy a_this a_refused a_text a_row a_isKept a_words a_cost a_steps a_mates a_bestMates a_comes s_above s_below s_length_6 s_at s_behind s_readFlitches s_readFamilies s_doing s_refused s_text_5) H := hP
      have hD : va_D A (Wd_Mo_type cy a_this a_refused a_text a_row a_isKept a_words a_cost a_steps a_mates a_bestMates a_comes s_above s_below s_length_6 s_at s_behind s_readFlitches s_readFamilies s_doing s_refused s_text_5) := hD
      refine lv_aload_n hx hb dX9_type_54 rfl (lv_at hl 0 rfl) ?_
      refine va_get (D := D) (ci := 8) (v := .int s_length_6) (C := RX9) (T := TX9) (N := 18) hx hb hts in_X9 hown hK hP 0 rfl rfl 6 (by decide) fl_64 (fun _ h9 => h9) rfl dX9_type_55 ?_
      exact hret _ (s_length_6, s_refused, s_text_5) _ _ _ _ h hP hD hS dX9_type_58
    · have h := h.2 c_3
      refine lv_aload_n hx hb dX9_type_27 rfl (lv_at hl 0 rfl) ?_
      refine lv_bipush (v := (-4)) hx hb dX9_type_28 (by decide) ?_
      refine st_callI (WR := [2].filterMap (fun i => (Wd_Mo_type cy a_this a_refused a_text a_row a_isKept a_words a_cost a_steps a_mates a_bestMates a_comes s_above s_below s_length s_at s_behind s_readFlitches s_readFamilies s_doing s_refused s_text)[i]?)) (WSn := fun u => (Wd_Mo_type cy a_this a_refused a_text a_row a_isKept a_words a_cost a_steps a_mates a_bestMates a_comes s_above s_below s_length s_at s_behind s_readFlitches s_readFamilies s_doing u s_text)) (st_runV (n := 1) (As := [.int (-4)]) (rest := []) (q0 := 0) F ((co_Mo_refuse l D cy a_this a_refused a_row a_isKept a_text a_words a_cost a_steps a_mates a_bestMates a_comes s_above s_below s_length s_at s_behind s_readFlitches s_readFamilies s_doing s_refused (-4) _ h) _) rfl gX9_type_X9_refuse rfl (by decide +kernel) rfl hKK hP hD [0, 1] rfl rfl rfl rfl rfl hl.1 rfl (Nat.le_of_ble_eq_true rfl) dX9_type_30) hP hD hS hA [0, 1] [2] [1, 2, 0] rfl rfl rfl (fun _ => rfl) (fun r_7 u H locs h hP hD hS => ?_)
      obtain ⟨s_refused_8, rfl⟩ : ∃ z, z = u := ⟨_, rfl⟩
      have hP : va_P D vwCl (Wd_Mo_type cy a_this a_refused a_text a_row a_isKept a_words a_cost a_steps a_mates a_bestMates a_comes s_above s_below s_length s_at s_behind s_readFlitches s_readFamilies s_doing s_refused_8 s_text) H := hP
      have hD : va_D A (Wd_Mo_type cy a_this a_refused a_text a_row a_isKept a_words a_cost a_steps a_mates a_bestMates a_comes s_above s_below s_length s_at s_behind s_readFlitches s_readFamilies s_doing s_refused_8 s_text) := hD
      exact hret _ (s_length, s_refused_8, s_text) _ _ _ _ h hP hD hS dX9_type_33
  · have h := h.2 c_2
    refine lv_aload_n hx hb dX9_type_10 rfl (lv_at hl 0 rfl) ?_
    refine lv_bipush (v := (-2)) hx hb dX9_type_11 (by decide) ?_
    refine st_callI (WR := [2].filterMap (fun i => (Wd_Mo_type cy a_this a_refused a_text a_row a_isKept a_words a_cost a_steps a_mates a_bestMates a_comes s_above s_below s_length s_at s_behind s_readFlitches s_readFamilies s_doing s_refused s_text)[i]?)) (WSn := fun u => (Wd_Mo_type cy a_this a_refused a_text a_row a_isKept a_words a_cost a_steps a_mates a_bestMates a_comes s_above s_below s_length s_at s_behind s_readFlitches s_readFamilies s_doing u s_text)) (st_runV (n := 1) (As := [.int (-2)]) (rest := []) (q0 := 0) F ((co_Mo_refuse l D cy a_this a_refused a_row a_isKept a_text a_words a_cost a_steps a_mates a_bestMates a_comes s_above s_below s_length s_at s_behind s_readFlitches s_readFamilies s_doing s_refused (-2) _ h) _) rfl gX9_type_X9_refuse rfl (by decide +kernel) rfl hKK hP hD [0, 1] rfl rfl rfl rfl rfl hl.1 rfl (Nat.le_of_ble_eq_true rfl) dX9_type_13) hP hD hS hA [0, 1] [2] [1, 2, 0] rfl rfl rfl (fun _ => rfl) (fun r_9 u H locs h hP hD hS => ?_)
    obtain ⟨s_refused_10, rfl⟩ : ∃ z, z = u := ⟨_, rfl⟩
    have hP : va_P D vwCl (Wd_Mo_type cy a_this a_refused a_text a_row a_isKept a_words a_cost a_steps a_mates a_bestMates a_comes s_above s_below s_length s_at s_behind s_readFlitches s_readFamilies s_doing s_refused_10 s_text) H := hP
    have hD : va_D A (Wd_Mo_type cy a_this a_refused a_text a_row a_isKept a_words a_cost a_steps a_mates a_bestMates a_comes s_above s_below s_length s_at s_behind s_readFlitches s_readFamilies s_doing s_refused_10 s_text) := hD
    exact hret _ (s_length, s_refused_10, s_text) _ _ _ _ h hP hD hS dX9_type_16
abbrev Wd_Mo_clear (cy : ClassId × ClassId × ClassId × ClassId) (a_this a_row a_isKept a_refused a_text a_words a_cost a_steps a_mates a_bestMates a_comes : Nat) (s_above : Int64) (s_below : Int64) (s_length : Int32) (s_at : Int32) (s_behind : Int32) (s_readFlitches : Int32) (s_readFamilies : Int32) (s_doing : Int32) : va_W := [(a_this, .inr (8, [.ref a_row, .ref a_isKept, .ref a_refused, .long s_above, .long s_below, .ref a_text, .int s_length, .ref a_words, .int s_at, .int s_behind, .int s_readFlitches, .int s_readFamilies, .int s_doing, .ref a_cost, .ref a_steps, .ref a_mates, .ref a_bestMates, .ref a_comes]))]
abbrev rm_Mo_clear : Room := { frames := 0, cells := 0, slots := 0, locals := 0 }
def wp_Mo_clear (s_length : Int32) (Q : Int32 → Int32 → Prop) : Prop := Q s_length 0
set_option maxHeartbeats 4000000 in
set_option maxRecDepth 100000 in
theorem co_Mo_clear (l : Launch) (D : va_G) (cy : ClassId × ClassId × ClassId × ClassId) (a_this a_row a_isKept a_refused a_text a_words a_cost a_steps a_mates a_bestMates a_comes : Nat) (s_above : Int64) (s_below : Int64) (s_length : Int32) (s_at : Int32) (s_behind : Int32) (s_readFlitches : Int32) (s_readFamilies : Int32) (s_doing : Int32) (Q : Int32 → Int32 → Prop) (h : wp_Mo_clear s_length Q) : CoI l yX9_clear wsX9_clear rm_Mo_clear D cy [.ref a_this] (Wd_Mo_clear cy a_this a_row a_isKept a_refused a_text a_words a_cost a_steps a_mates a_bestMates a_comes s_above s_below s_length s_at s_behind s_readFlitches s_readFamilies s_doing) (fun u : Int32 => (Wd_Mo_clear cy a_this a_row a_isKept a_refused a_text a_words a_cost a_steps a_mates a_bestMates a_comes s_above s_below u s_at s_behind s_readFlitches s_readFamilies s_doing)) (fun (r : Int32) (u : Int32) => Q r u) := by
  refine st_metI (cc := cX9_clear) (maxL := 2) RX9 (by decide) rfl rfl (Nat.le_of_ble_eq_true rfl) ?_
  intro p e s m args below meth c A QQ ls F hA hKK hP hD hS hl hret
  have hK := hKK.1
  have hnest := hKK.2.1
  have hx := F.1
  have hb := F.2.1
  have hown := F.2.2.2.1
  have hts := F.2.2.2.2
  have in_X9 : ∀ w ∈ u_ws RX9 TX9 18, w ∈ wsX9_clear := (fun _ h => List.mem_cons_of_mem _ (List.mem_append_right _ h))
  have fl_64 := (hts (.fieldLink RX9 64 "RasherCaseModel" "length" "I") (List.mem_of_getElem? (i := 1) rfl))
  have hl : lv_has ls 2 [(0, .ref a_this)] := hl
  unfold wp_Mo_clear at h
  refine lv_aload_n hx hb dX9_clear_0 rfl (lv_at hl 0 rfl) ?_
  refine va_get (D := D) (ci := 8) (v := .int s_length) (C := RX9) (T := TX9) (N := 18) hx hb hts in_X9 hown hK hP 0 rfl rfl 6 (by decide) fl_64 (fun _ h9 => h9) rfl dX9_clear_1 ?_
  refine lv_istore_n (lv' := [(1, .int s_length), (0, .ref a_this)]) hx hb dX9_clear_4 rfl hl (by decide) rfl (fun ls hl => ?_)
  refine lv_aload_n hx hb dX9_clear_5 rfl (lv_at hl 1 rfl) ?_
  refine lv_iconst (v := 0) hx hb dX9_clear_6 (by decide) ?_
  refine va_put (D := D) (ci := 8) (v := .int 0) (ty := .int) (C := RX9) (T := TX9) (N := 18) hx hb hts in_X9 tyX9 tyX9_ok nmX9 hown hK hP hD hS 0 rfl rfl 6 (by decide) fl_64 (fun _ h9 => h9) rfl (tyX9_ok 6 (by decide)) rfl rfl (Nat.le_of_ble_eq_true rfl) dX9_clear_7 (fun H locs hP hD hS => ?_)
  have hP : va_P D vwCl (Wd_Mo_clear cy a_this a_row a_isKept a_refused a_text a_words a_cost a_steps a_mates a_bestMates a_comes s_above s_below 0 s_at s_behind s_readFlitches s_readFamilies s_doing) H := hP
  have hD : va_D A (Wd_Mo_clear cy a_this a_row a_isKept a_refused a_text a_words a_cost a_steps a_mates a_bestMates a_comes s_above s_below 0 s_at s_behind s_readFlitches s_readFamilies s_doing) := hD
  refine lv_iload_n hx hb dX9_clear_10 rfl (lv_at hl 0 rfl) ?_
  exact hret _ (0) _ _ _ _ h hP hD hS dX9_clear_11
abbrev Wd_Mo_isLetter (cy : ClassId × ClassId × ClassId × ClassId) (a_this a_text a_row a_isKept a_refused a_words a_cost a_steps a_mates a_bestMates a_comes : Nat) (s_above : Int64) (s_below : Int64) (s_length : Int32) (s_at : Int32) (s_behind : Int32) (s_readFlitches : Int32) (s_readFamilies : Int32) (s_doing : Int32) (s_text : Nat → Int32) : va_W := [(a_this, .inr (8, [.ref a_row, .ref a_isKept, .ref a_refused, .long s_above, .long s_below, .ref a_text, .int s_length, .ref a_words, .int s_at, .int s_behind, .int s_readFlitches, .int s_readFamilies, .int s_doing, .ref a_cost, .ref a_steps, .ref a_mates, .ref a_bestMates, .ref a_comes])), (a_text, .inl (cy.2.1, 150, .inl s_text))]
abbrev rm_Mo_isLetter : Room := { frames := 1, cells := 0, slots := 0, locals := 22 }
def wp_Mo_isLetter (x1 : Int32) (s_length : Int32) (s_text : Nat → Int32) (Q : Int32 → Prop) : Prop := ((s_length ≤ x1 → Q 0) ∧ (¬ s_length ≤ x1 → vp_in x1 150 ∧ wp_Mo_in (s_text (Int32.toNatClampNeg x1)) 97 122 (fun (r_3 : Int32) => ((r_3 = 0 → Q 0) ∧ (¬ r_3 = 0 → Q 1)))))
set_option maxHeartbeats 4000000 in
set_option maxRecDepth 100000 in
theorem co_Mo_isLetter (l : Launch) (D : va_G) (cy : ClassId × ClassId × ClassId × ClassId) (a_this a_text a_row a_isKept a_refused a_words a_cost a_steps a_mates a_bestMates a_comes : Nat) (s_above : Int64) (s_below : Int64) (s_length : Int32) (s_at : Int32) (s_behind : Int32) (s_readFlitches : Int32) (s_readFamilies : Int32) (s_doing : Int32) (s_text : Nat → Int32) (x1 : Int32) (Q : Int32 → Prop) (h : wp_Mo_isLetter x1 s_length s_text Q) : RoI l yX9_isLetter wsX9_isLetter rm_Mo_isLetter D cy [.ref a_this, .int x1] (Wd_Mo_isLetter cy a_this a_text a_row a_isKept a_refused a_words a_cost a_steps a_mates a_bestMates a_comes s_above s_below s_length s_at s_behind s_readFlitches s_readFamilies s_doing s_text) Q := by
  refine st_metRZ (cc := cX9_isLetter) (maxL := 2) RX9 (by decide) rfl rfl (Nat.le_of_ble_eq_true rfl) ?_
  intro p e s m args below meth c QQ ls F hKK hP hl hret
  have hK := hKK.1
  have hnest := hKK.2.1
  have hx := F.1
  have hb := F.2.1
  have hown := F.2.2.2.1
  have hts := F.2.2.2.2
  have in_X9 : ∀ w ∈ u_ws RX9 TX9 18, w ∈ wsX9_isLetter := (fun _ h => List.mem_cons_of_mem _ (List.mem_append_right _ h))
  have fl_24 := (hts (.fieldLink RX9 24 "RasherCaseModel" "text" "[I") (List.mem_of_getElem? (i := 2) rfl))
  have fl_64 := (hts (.fieldLink RX9 64 "RasherCaseModel" "length" "I") (List.mem_of_getElem? (i := 1) rfl))
  have hl : lv_has ls 2 [(0, .ref a_this), (1, .int x1)] := hl
  unfold wp_Mo_isLetter at h
  refine lv_iload_n hx hb dX9_isLetter_0 rfl (lv_at hl 1 rfl) ?_
  refine lv_aload_n hx hb dX9_isLetter_1 rfl (lv_at hl 0 rfl) ?_
  refine va_get (D := D) (ci := 8) (v := .int s_length) (C := RX9) (T := TX9) (N := 18) hx hb hts in_X9 hown hK hP 0 rfl rfl 6 (by decide) fl_64 (fun _ h9 => h9) rfl dX9_isLetter_2 ?_
  refine lv_icmp_ge (tgt := 28) hx hb dX9_isLetter_5 (by decide) (fun c_1 => ?_) (fun c_1 => ?_)
  · have h := h.1 c_1
    refine lv_iconst (v := 0) hx hb dX9_isLetter_28 (by decide) ?_
    exact hret _ _ _ bz0 h dX9_isLetter_29
  · have h := h.2 c_1
    refine lv_aload_n hx hb dX9_isLetter_8 rfl (lv_at hl 0 rfl) ?_
    refine va_get (D := D) (ci := 8) (v := .ref a_text) (C := RX9) (T := TX9) (N := 18) hx hb hts in_X9 hown hK hP 0 rfl rfl 5 (by decide) fl_24 (fun _ h9 => h9) rfl dX9_isLetter_9 ?_
    refine lv_iload_n hx hb dX9_isLetter_12 rfl (lv_at hl 1 rfl) ?_
    obtain ⟨hi_2, h⟩ := h
    refine va_iald hx hb hK hP 1 1 rfl rfl hi_2 dX9_isLetter_13 ?_
    refine lv_bipush (v := 97) hx hb dX9_isLetter_14 (by decide) ?_
    refine lv_bipush (v := 122) hx hb dX9_isLetter_16 (by decide) ?_
    refine st_callRI (st_runSR (n := 3) (As := [.int (s_text (Int32.toNatClampNeg x1)), .int 97, .int 122]) (rest := []) F (co_Mo_in l D cy (s_text (Int32.toNatClampNeg x1)) 97 122 _ h) gX9_isLetter_X9_in rfl (by decide +kernel) rfl hKK hP [] rfl rfl hl.1 rfl (Nat.le_of_ble_eq_true rfl) dX9_isLetter_18) (fun r_3 h => ?_)
    refine lv_if_eq (tgt := 28) hx hb dX9_isLetter_21 (by decide) (fun c_4 => ?_) (fun c_4 => ?_)
    · have h := h.1 c_4
      refine lv_iconst (v := 0) hx hb dX9_isLetter_28 (by decide) ?_
      exact hret _ _ _ bz0 h dX9_isLetter_29
    · have h := h.2 c_4
      refine lv_iconst (v := 1) hx hb dX9_isLetter_24 (by decide) ?_
      refine lv_goto (tgt := 29) hx hb dX9_isLetter_25 (by decide) ?_
      exact hret _ _ _ bz1 h dX9_isLetter_29
abbrev Wd_Mo_isFigure (cy : ClassId × ClassId × ClassId × ClassId) (a_this a_text a_row a_isKept a_refused a_words a_cost a_steps a_mates a_bestMates a_comes : Nat) (s_above : Int64) (s_below : Int64) (s_length : Int32) (s_at : Int32) (s_behind : Int32) (s_readFlitches : Int32) (s_readFamilies : Int32) (s_doing : Int32) (s_text : Nat → Int32) : va_W := [(a_this, .inr (8, [.ref a_row, .ref a_isKept, .ref a_refused, .long s_above, .long s_below, .ref a_text, .int s_length, .ref a_words, .int s_at, .int s_behind, .int s_readFlitches, .int s_readFamilies, .int s_doing, .ref a_cost, .ref a_steps, .ref a_mates, .ref a_bestMates, .ref a_comes])), (a_text, .inl (cy.2.1, 150, .inl s_text))]
abbrev rm_Mo_isFigure : Room := { frames := 1, cells := 0, slots := 0, locals := 22 }
def wp_Mo_isFigure (x1 : Int32) (s_length : Int32) (s_text : Nat → Int32) (Q : Int32 → Prop) : Prop := ((s_length ≤ x1 → Q 0) ∧ (¬ s_length ≤ x1 → vp_in x1 150 ∧ wp_Mo_in (s_text (Int32.toNatClampNeg x1)) 48 57 (fun (r_3 : Int32) => ((r_3 = 0 → Q 0) ∧ (¬ r_3 = 0 → Q 1)))))
set_option maxHeartbeats 4000000 in
set_option maxRecDepth 100000 in
theorem co_Mo_isFigure (l : Launch) (D : va_G) (cy : ClassId × ClassId × ClassId × ClassId) (a_this a_text a_row a_isKept a_refused a_words a_cost a_steps a_mates a_bestMates a_comes : Nat) (s_above : Int64) (s_below : Int64) (s_length : Int32) (s_at : Int32) (s_behind : Int32) (s_readFlitches : Int32) (s_readFamilies : Int32) (s_doing : Int32) (s_text : Nat → Int32) (x1 : Int32) (Q : Int32 → Prop) (h : wp_Mo_isFigure x1 s_length s_text Q) : RoI l yX9_isFigure wsX9_isFigure rm_Mo_isFigure D cy [.ref a_this, .int x1] (Wd_Mo_isFigure cy a_this a_text a_row a_isKept a_refused a_words a_cost a_steps a_mates a_bestMates a_comes s_above s_below s_length s_at s_behind s_readFlitches s_readFamilies s_doing s_text) Q := by
  refine st_metRZ (cc := cX9_isFigure) (maxL := 2) RX9 (by decide) rfl rfl (Nat.le_of_ble_eq_true rfl) ?_
  intro p e s m args below meth c QQ ls F hKK hP hl hret
  have hK := hKK.1
  have hnest := hKK.2.1
  have hx := F.1
  have hb := F.2.1
  have hown := F.2.2.2.1
  have hts := F.2.2.2.2
  have in_X9 : ∀ w ∈ u_ws RX9 TX9 18, w ∈ wsX9_isFigure := (fun _ h => List.mem_cons_of_mem _ (List.mem_append_right _ h))
  have fl_24 := (hts (.fieldLink RX9 24 "RasherCaseModel" "text" "[I") (List.mem_of_getElem? (i := 2) rfl))
  have fl_64 := (hts (.fieldLink RX9 64 "RasherCaseModel" "length" "I") (List.mem_of_getElem? (i := 1) rfl))
  have hl : lv_has ls 2 [(0, .ref a_this), (1, .int x1)] := hl
  unfold wp_Mo_isFigure at h
  refine lv_iload_n hx hb dX9_isFigure_0 rfl (lv_at hl 1 rfl) ?_
  refine lv_aload_n hx hb dX9_isFigure_1 rfl (lv_at hl 0 rfl) ?_
  refine va_get (D := D) (ci := 8) (v := .int s_length) (C := RX9) (T := TX9) (N := 18) hx hb hts in_X9 hown hK hP 0 rfl rfl 6 (by decide) fl_64 (fun _ h9 => h9) rfl dX9_isFigure_2 ?_
  refine lv_icmp_ge (tgt := 28) hx hb dX9_isFigure_5 (by decide) (fun c_1 => ?_) (fun c_1 => ?_)
  · have h := h.1 c_1
    refine lv_iconst (v := 0) hx hb dX9_isFigure_28 (by decide) ?_
    exact hret _ _ _ bz0 h dX9_isFigure_29
  · have h := h.2 c_1
    refine lv_aload_n hx hb dX9_isFigure_8 rfl (lv_at hl 0 rfl) ?_
    refine va_get (D := D) (ci := 8) (v := .ref a_text) (C := RX9) (T := TX9) (N := 18) hx hb hts in_X9 hown hK hP 0 rfl rfl 5 (by decide) fl_24 (fun _ h9 => h9) rfl dX9_isFigure_9 ?_
    refine lv_iload_n hx hb dX9_isFigure_12 rfl (lv_at hl 1 rfl) ?_
    obtain ⟨hi_2, h⟩ := h
    refine va_iald hx hb hK hP 1 1 rfl rfl hi_2 dX9_isFigure_13 ?_
    refine lv_bipush (v := 48) hx hb dX9_isFigure_14 (by decide) ?_
    refine lv_bipush (v := 57) hx hb dX9_isFigure_16 (by decide) ?_
    refine st_callRI (st_runSR (n := 3) (As := [.int (s_text (Int32.toNatClampNeg x1)), .int 48, .int 57]) (rest := []) F (co_Mo_in l D cy (s_text (Int32.toNatClampNeg x1)) 48 57 _ h) gX9_isFigure_X9_in rfl (by decide +kernel) rfl hKK hP [] rfl rfl hl.1 rfl (Nat.le_of_ble_eq_true rfl) dX9_isFigure_18) (fun r_3 h => ?_)
    refine lv_if_eq (tgt := 28) hx hb dX9_isFigure_21 (by decide) (fun c_4 => ?_) (fun c_4 => ?_)
    · have h := h.1 c_4
      refine lv_iconst (v := 0) hx hb dX9_isFigure_28 (by decide) ?_
      exact hret _ _ _ bz0 h dX9_isFigure_29
    · have h := h.2 c_4
      refine lv_iconst (v := 1) hx hb dX9_isFigure_24 (by decide) ?_
      refine lv_goto (tgt := 29) hx hb dX9_isFigure_25 (by decide) ?_
      exact hret _ _ _ bz1 h dX9_isFigure_29
abbrev Wd_Mo_next (cy : ClassId × ClassId × ClassId × ClassId) (a_this a_text a_row a_isKept a_refused a_words a_cost a_steps a_mates a_bestMates a_comes : Nat) (s_above : Int64) (s_below : Int64) (s_length : Int32) (s_at : Int32) (s_behind : Int32) (s_readFlitches : Int32) (s_readFamilies : Int32) (s_doing : Int32) (s_text : Nat → Int32) : va_W := [(a_this, .inr (8, [.ref a_row, .ref a_isKept, .ref a_refused, .long s_above, .long s_below, .ref a_text, .int s_length, .ref a_words, .int s_at, .int s_behind, .int s_readFlitches, .int s_readFamilies, .int s_doing, .ref a_cost, .ref a_steps, .ref a_mates, .ref a_bestMates, .ref a_comes])), (a_text, .inl (cy.2.1, 150, .inl s_text))]
abbrev rm_Mo_next : Room := { frames := 2, cells := 0, slots := 0, locals := 43 }
def wp_Mo_next (s_length : Int32) (s_at : Int32) (s_behind : Int32) (s_text : Nat → Int32) (Q : Int32 → Int32 → Prop) : Prop := ∃ n : Nat, lpw1 (fun (B8 : Int32 → Prop) (s_at_1 : Int32) => jn0 (fun (J46 : Prop) => ((s_length ≤ s_at_1 → J46) ∧ (¬ s_length ≤ s_at_1 → vp_in s_at_1 150 ∧ ((¬ (s_text (Int32.toNatClampNeg s_at_1)) = 32 → J46) ∧ ((s_text (Int32.toNatClampNeg s_at_1)) = 32 → ∀ s_at_25 : Int32, s_at_25 = (s_at_1 + 1) → B8 s_at_25))))) (jn1 (fun (J71 : Int32 → Prop) => ((s_length ≤ s_at_1 → J71 s_at_1) ∧ (¬ s_length ≤ s_at_1 → J71 (s_at_1 + 1)))) (fun (v_4 : Int32) => ∃ n : Nat, lpw1 (fun (B74 : Int32 → Prop) (s_behind_6 : Int32) => wp_Mo_isLetter s_at_1 s_length s_text (fun (r_8 : Int32) => jn0 (fun (J109 : Prop) => ((r_8 = 0 → J109) ∧ (¬ r_8 = 0 → wp_Mo_isLetter s_behind_6 s_length s_text (fun (r_18 : Int32) => ((r_18 = 0 → J109) ∧ (¬ r_18 = 0 → ∀ s_behind_20 : Int32, s_behind_20 = (s_behind_6 + 1) → B74 s_behind_20)))))) (∃ n : Nat, lpw1 (fun (B109 : Int32 → Prop) (s_behind_10 : Int32) => wp_Mo_isFigure s_at_1 s_length s_text (fun (r_12 : Int32) => ((r_12 = 0 → Q s_at_1 s_behind_10) ∧ (¬ r_12 = 0 → wp_Mo_isFigure s_behind_10 s_length s_text (fun (r_14 : Int32) => ((r_14 = 0 → Q s_at_1 s_behind_10) ∧ (¬ r_14 = 0 → ∀ s_behind_16 : Int32, s_behind_16 = (s_behind_10 + 1) → B109 s_behind_16))))))) n s_behind_6))) n v_4))) n s_behind
set_option maxHeartbeats 4000000 in
set_option maxRecDepth 100000 in
theorem co_Mo_next (l : Launch) (D : va_G) (cy : ClassId × ClassId × ClassId × ClassId) (a_this a_text a_row a_isKept a_refused a_words a_cost a_steps a_mates a_bestMates a_comes : Nat) (s_above : Int64) (s_below : Int64) (s_length : Int32) (s_at : Int32) (s_behind : Int32) (s_readFlitches : Int32) (s_readFamilies : Int32) (s_doing : Int32) (s_text : Nat → Int32) (Q : Int32 → Int32 → Prop) (h : wp_Mo_next s_length s_at s_behind s_text Q) : CoV l yX9_next wsX9_next rm_Mo_next D cy [.ref a_this] (Wd_Mo_next cy a_this a_text a_row a_isKept a_refused a_words a_cost a_steps a_mates a_bestMates a_comes s_above s_below s_length s_at s_behind s_readFlitches s_readFamilies s_doing s_text) (fun u : Int32 × Int32 => (Wd_Mo_next cy a_this a_text a_row a_isKept a_refused a_words a_cost a_steps a_mates a_bestMates a_comes s_above s_below s_length u.1 u.2 s_readFlitches s_readFamilies s_doing s_text)) (fun (u : Int32 × Int32) => Q u.1 u.2) := by
  refine st_metV (cc := cX9_next) (maxL := 1) RX9 (by decide) rfl rfl (Nat.le_of_ble_eq_true rfl) ?_
  intro p e s m args below meth c A QQ ls F hA hKK hP hD hS hl hret
  have hK := hKK.1
  have hnest := hKK.2.1
  have hx := F.1
  have hb := F.2.1
  have hown := F.2.2.2.1
  have hts := F.2.2.2.2
  have in_X9 : ∀ w ∈ u_ws RX9 TX9 18, w ∈ wsX9_next := (fun _ h => List.mem_cons_of_mem _ (List.mem_append_right _ h))
  have fl_24 := (hts (.fieldLink RX9 24 "RasherCaseModel" "text" "[I") (List.mem_of_getElem? (i := 4) rfl))
  have fl_64 := (hts (.fieldLink RX9 64 "RasherCaseModel" "length" "I") (List.mem_of_getElem? (i := 3) rfl))
  have fl_68 := (hts (.fieldLink RX9 68 "RasherCaseModel" "behind" "I") (List.mem_of_getElem? (i := 1) rfl))
  have fl_71 := (hts (.fieldLink RX9 71 "RasherCaseModel" "at" "I") (List.mem_of_getElem? (i := 2) rfl))
  have hl : lv_has ls 1 [(0, .ref a_this)] := hl
  unfold wp_Mo_next at h
  refine lv_aload_n hx hb dX9_next_0 rfl (lv_at hl 0 rfl) ?_
  refine lv_aload_n hx hb dX9_next_1 rfl (lv_at hl 0 rfl) ?_
  refine va_get (D := D) (ci := 8) (v := .int s_behind) (C := RX9) (T := TX9) (N := 18) hx hb hts in_X9 hown hK hP 0 rfl rfl 9 (by decide) fl_68 (fun _ h9 => h9) rfl dX9_next_2 ?_
  refine va_put (D := D) (ci := 8) (v := .int s_behind) (ty := .int) (C := RX9) (T := TX9) (N := 18) hx hb hts in_X9 tyX9 tyX9_ok nmX9 hown hK hP hD hS 0 rfl rfl 8 (by decide) fl_71 (fun _ h9 => h9) rfl (tyX9_ok 8 (by decide)) rfl rfl (Nat.le_of_ble_eq_true rfl) dX9_next_5 (fun H locs hP hD hS => ?_)
  have hP : va_P D vwCl (Wd_Mo_next cy a_this a_text a_row a_isKept a_refused a_words a_cost a_steps a_mates a_bestMates a_comes s_above s_below s_length s_behind s_behind s_readFlitches s_readFamilies s_doing s_text) H := hP
  have hD : va_D A (Wd_Mo_next cy a_this a_text a_row a_isKept a_refused a_words a_cost a_steps a_mates a_bestMates a_comes s_above s_below s_length s_behind s_behind s_readFlitches s_readFamilies s_doing s_text) := hD
  obtain ⟨T8_1, hz8_1, hs8_1, n8_1, h⟩ := lpw1_use h
  have kT8_1 : ∀ (n : Nat) (s_at_1 : Int32) (H : Heap) (locs : List Loc) (ls : Array Slot), T8_1 n s_at_1 → va_P D vwCl (Wd_Mo_next cy a_this a_text a_row a_isKept a_refused a_words a_cost a_steps a_mates a_bestMates a_comes s_above s_below s_length s_at_1 s_behind s_readFlitches s_readFamilies s_doing s_text) H → va_D A (Wd_Mo_next cy a_this a_text a_row a_isKept a_refused a_words a_cost a_steps a_mates a_bestMates a_comes s_above s_below s_length s_at_1 s_behind s_readFlitches s_readFamilies s_doing s_text) → va_S A s.heap H locs → lv_has ls 1 [(0, .ref a_this)] → W p l e rm_Mo_next s m args below meth c H locs 0 0 QQ (F0 m 8 ls []) := by
    intro n
    induction n with
    | zero => intro s_at_1 H locs ls h; exact absurd h (hz8_1 _)
    | succ n ih8_1 =>
      intro s_at_1 H locs ls h hP hD hS hl
      have h := hs8_1 _ _ h
      refine lv_aload_n hx hb dX9_next_8 rfl (lv_at hl 0 rfl) ?_
      refine va_get (D := D) (ci := 8) (v := .int s_at_1) (C := RX9) (T := TX9) (N := 18) hx hb hts in_X9 hown hK hP 0 rfl rfl 8 (by decide) fl_71 (fun _ h9 => h9) rfl dX9_next_9 ?_
      refine lv_aload_n hx hb dX9_next_12 rfl (lv_at hl 0 rfl) ?_
      refine va_get (D := D) (ci := 8) (v := .int s_length) (C := RX9) (T := TX9) (N := 18) hx hb hts in_X9 hown hK hP 0 rfl rfl 6 (by decide) fl_64 (fun _ h9 => h9) rfl dX9_next_13 ?_
      obtain ⟨J46, hJ46, h⟩ := jn0_ex h
      have kJ46_2 : ∀  (H : Heap) (locs : List Loc) (ls : Array Slot), J46 → va_P D vwCl (Wd_Mo_next cy a_this a_text a_row a_isKept a_refused a_words a_cost a_steps a_mates a_bestMates a_comes s_above s_below s_length s_at_1 s_behind s_readFlitches s_readFamilies s_doing s_text) H → va_D A (Wd_Mo_next cy a_this a_text a_row a_isKept a_refused a_words a_cost a_steps a_mates a_bestMates a_comes s_above s_below s_length s_at_1 s_behind s_readFlitches s_readFamilies s_doing s_text) → va_S A s.heap H locs → lv_has ls 1 [(0, .ref a_this)] → W p l e rm_Mo_next s m args below meth c H locs 0 0 QQ (F0 m 46 ls []) := by
        intro  H locs ls h hP hD hS hl
        have h := hJ46  h
        refine lv_aload_n hx hb dX9_next_46 rfl (lv_at hl 0 rfl) ?_
        refine lv_aload_n hx hb dX9_next_47 rfl (lv_at hl 0 rfl) ?_
        refine va_get (D := D) (ci := 8) (v := .int s_at_1) (C := RX9) (T := TX9) (N := 18) hx hb hts in_X9 hown hK hP 0 rfl rfl 8 (by decide) fl_71 (fun _ h9 => h9) rfl dX9_next_48 ?_
        refine lv_aload_n hx hb dX9_next_51 rfl (lv_at hl 0 rfl) ?_
        refine va_get (D := D) (ci := 8) (v := .int s_length) (C := RX9) (T := TX9) (N := 18) hx hb hts in_X9 hown hK hP 0 rfl rfl 6 (by decide) fl_64 (fun _ h9 => h9) rfl dX9_next_52 ?_
        obtain ⟨J71, hJ71, h⟩ := jn1_ex h
        have kJ71_4 : ∀ (v_4 : Int32) (H : Heap) (locs : List Loc) (ls : Array Slot), J71 v_4 → va_P D vwCl (Wd_Mo_next cy a_this a_text a_row a_isKept a_refused a_words a_cost a_steps a_mates a_bestMates a_comes s_above s_below s_length s_at_1 s_behind s_readFlitches s_readFamilies s_doing s_text) H → va_D A (Wd_Mo_next cy a_this a_text a_row a_isKept a_refused a_words a_cost a_steps a_mates a_bestMates a_comes s_above s_below s_length s_at_1 s_behind s_readFlitches s_readFamilies s_doing s_text) → va_S A s.heap H locs → lv_has ls 1 [(0, .ref a_this)] → W p l e rm_Mo_next s m args below meth c H locs 0 0 QQ (F0 m 71 ls [.int v_4, .ref a_this]) := by
          intro v_4 H locs ls h hP hD hS hl
          have h := hJ71 _ h
          refine va_put (D := D) (ci := 8) (v := .int v_4) (ty := .int) (C := RX9) (T := TX9) (N := 18) hx hb hts in_X9 tyX9 tyX9_ok nmX9 hown hK hP hD hS 0 rfl rfl 9 (by decide) fl_68 (fun _ h9 => h9) rfl (tyX9_ok 9 (by decide)) rfl rfl (Nat.le_of_ble_eq_true rfl) dX9_next_71 (fun H locs hP hD hS => ?_)
          have hP : va_P D vwCl (Wd_Mo_next cy a_this a_text a_row a_isKept a_refused a_words a_cost a_steps a_mates a_bestMates a_comes s_above s_below s_length s_at_1 v_4 s_readFlitches s_readFamilies s_doing s_text) H := hP
          have hD : va_D A (Wd_Mo_next cy a_this a_text a_row a_isKept a_refused a_words a_cost a_steps a_mates a_bestMates a_comes s_above s_below s_length s_at_1 v_4 s_readFlitches s_readFamilies s_doing s_text) := hD
          obtain ⟨T74_6, hz74_6, hs74_6, n74_6, h⟩ := lpw1_use h
          have kT74_6 : ∀ (n : Nat) (s_behind_6 : Int32) (H : Heap) (locs : List Loc) (ls : Array Slot), T74_6 n s_behind_6 → va_P D vwCl (Wd_Mo_next cy a_this a_text a_row a_isKept a_refused a_words a_cost a_steps a_mates a_bestMates a_comes s_above s_below s_length s_at_1 s_behind_6 s_readFlitches s_readFamilies s_doing s_text) H → va_D A (Wd_Mo_next cy a_this a_text a_row a_isKept a_refused a_words a_cost a_steps a_mates a_bestMates a_comes s_above s_below s_length s_at_1 s_behind_6 s_readFlitches s_readFamilies s_doing s_text) → va_S A s.heap H locs → lv_has ls 1 [(0, .ref a_this)] → W p l e rm_Mo_next s m args below meth c H locs 0 0 QQ (F0 m 74 ls []) := by
            intro n
            induction n with
            | zero => intro s_behind_6 H locs ls h; exact absurd h (hz74_6 _)
            | succ n ih74_6 =>
              intro s_behind_6 H locs ls h hP hD hS hl
              have h := hs74_6 _ _ h
              refine lv_aload_n hx hb dX9_next_74 rfl (lv_at hl 0 rfl) ?_
              refine lv_aload_n hx hb dX9_next_75 rfl (lv_at hl 0 rfl) ?_
              refine va_get (D := D) (ci := 8) (v := .int s_at_1) (C := RX9) (T := TX9) (N := 18) hx hb hts in_X9 hown hK hP 0 rfl rfl 8 (by decide) fl_71 (fun _ h9 => h9) rfl dX9_next_76 ?_
              refine st_callRI (st_runVR (n := 1) (As := [.int s_at_1]) (rest := []) (q0 := 0) F (co_Mo_isLetter l D cy a_this a_text a_row a_isKept a_refused a_words a_cost a_steps a_mates a_bestMates a_comes s_above s_below s_length s_at_1 s_behind_6 s_readFlitches s_readFamilies s_doing s_text s_at_1 _ h) gX9_next_X9_isLetter rfl (by decide +kernel) rfl hKK hP [0, 1] rfl rfl rfl rfl hl.1 rfl (Nat.le_of_ble_eq_true rfl) dX9_next_79) (fun r_8 h => ?_)
              obtain ⟨J109, hJ109, h⟩ := jn0_ex h
              have kJ109_8 : ∀  (H : Heap) (locs : List Loc) (ls : Array Slot), J109 → va_P D vwCl (Wd_Mo_next cy a_this a_text a_row a_isKept a_refused a_words a_cost a_steps a_mates a_bestMates a_comes s_above s_below s_length s_at_1 s_behind_6 s_readFlitches s_readFamilies s_doing s_text) H → va_D A (Wd_Mo_next cy a_this a_text a_row a_isKept a_refused a_words a_cost a_steps a_mates a_bestMates a_comes s_above s_below s_length s_at_1 s_behind_6 s_readFlitches s_readFamilies s_doing s_text) → va_S A s.heap H locs → lv_has ls 1 [(0, .ref a_this)] → W p l e rm_Mo_next s m args below meth c H locs 0 0 QQ (F0 m 109 ls []) := by
                intro  H locs ls h hP hD hS hl
                have h := hJ109  h
                obtain ⟨T109_10, hz109_10, hs109_10, n109_10, h⟩ := lpw1_use h
                have kT109_10 : ∀ (n : Nat) (s_behind_10 : Int32) (H : Heap) (locs : List Loc) (ls : Array Slot), T109_10 n s_behind_10 → va_P D vwCl (Wd_Mo_next cy a_this a_text a_row a_isKept a_refused a_words a_cost a_steps a_mates a_bestMates a_comes s_above s_below s_length s_at_1 s_behind_10 s_readFlitches s_readFamilies s_doing s_text) H → va_D A (Wd_Mo_next cy a_this a_text a_row a_isKept a_refused a_words a_cost a_steps a_mates a_bestMates a_comes s_above s_below s_length s_at_1 s_behind_10 s_readFlitches s_readFamilies s_doing s_text) → va_S A s.heap H locs → lv_has ls 1 [(0, .ref a_this)] → W p l e rm_Mo_next s m args below meth c H locs 0 0 QQ (F0 m 109 ls []) := by
                  intro n
                  induction n with
                  | zero => intro s_behind_10 H locs ls h; exact absurd h (hz109_10 _)
                  | succ n ih109_10 =>
                    intro s_behind_10 H locs ls h hP hD hS hl
                    have h := hs109_10 _ _ h
                    refine lv_aload_n hx hb dX9_next_109 rfl (lv_at hl 0 rfl) ?_
                    refine lv_aload_n hx hb dX9_next_110 rfl (lv_at hl 0 rfl) ?_
                    refine va_get (D := D) (ci := 8) (v := .int s_at_1) (C := RX9) (T := TX9) (N := 18) hx hb hts in_X9 hown hK hP 0 rfl rfl 8 (by decide) fl_71 (fun _ h9 => h9) rfl dX9_next_111 ?_
                    refine st_callRI (st_runVR (n := 1) (As := [.int s_at_1]) (rest := []) (q0 := 0) F (co_Mo_isFigure l D cy a_this a_text a_row a_isKept a_refused a_words a_cost a_steps a_mates a_bestMates a_comes s_above s_below s_length s_at_1 s_behind_10 s_readFlitches s_readFamilies s_doing s_text s_at_1 _ h) gX9_next_X9_isFigure rfl (by decide +kernel) rfl hKK hP [0, 1] rfl rfl rfl rfl hl.1 rfl (Nat.le_of_ble_eq_true rfl) dX9_next_114) (fun r_12 h => ?_)
                    refine lv_if_eq (tgt := 144) hx hb dX9_next_117 (by decide) (fun c_13 => ?_) (fun c_13 => ?_)
                    · have h := h.1 c_13
                      exact hret (s_at_1, s_behind_10) _ _ _ _ h hP hD hS dX9_next_144
                    · have h := h.2 c_13
                      refine lv_aload_n hx hb dX9_next_120 rfl (lv_at hl 0 rfl) ?_
                      refine lv_aload_n hx hb dX9_next_121 rfl (lv_at hl 0 rfl) ?_
                      refine va_get (D := D) (ci := 8) (v := .int s_behind_10) (C := RX9) (T := TX9) (N := 18) hx hb hts in_X9 hown hK hP 0 rfl rfl 9 (by decide) fl_68 (fun _ h9 => h9) rfl dX9_next_122 ?_
                      refine st_callRI (st_runVR (n := 1) (As := [.int s_behind_10]) (rest := []) (q0 := 0) F (co_Mo_isFigure l D cy a_this a_text a_row a_isKept a_refused a_words a_cost a_steps a_mates a_bestMates a_comes s_above s_below s_length s_at_1 s_behind_10 s_readFlitches s_readFamilies s_doing s_text s_behind_10 _ h) gX9_next_X9_isFigure rfl (by decide +kernel) rfl hKK hP [0, 1] rfl rfl rfl rfl hl.1 rfl (Nat.le_of_ble_eq_true rfl) dX9_next_125) (fun r_14 h => ?_)
                      refine lv_if_eq (tgt := 144) hx hb dX9_next_128 (by decide) (fun c_15 => ?_) (fun c_15 => ?_)
                      · have h := h.1 c_15
                        exact hret (s_at_1, s_behind_10) _ _ _ _ h hP hD hS dX9_next_144
                      · have h := h.2 c_15
                        refine lv_aload_n hx hb dX9_next_131 rfl (lv_at hl 0 rfl) ?_
                        refine lv_dup hx hb dX9_next_132 rfl ?_
                        refine va_get (D := D) (ci := 8) (v := .int s_behind_10) (C := RX9) (T := TX9) (N := 18) hx hb hts in_X9 hown hK hP 0 rfl rfl 9 (by decide) fl_68 (fun _ h9 => h9) rfl dX9_next_133 ?_
                        refine lv_iconst (v := 1) hx hb dX9_next_136 (by decide) ?_
                        refine lv_iadd hx hb dX9_next_137 ?_
                        refine lv_topi (fun s_behind_16 es_behind_16 => ?_)
                        have h := h s_behind_16 es_behind_16
                        refine va_put (D := D) (ci := 8) (v := .int s_behind_16) (ty := .int) (C := RX9) (T := TX9) (N := 18) hx hb hts in_X9 tyX9 tyX9_ok nmX9 hown hK hP hD hS 0 rfl rfl 9 (by decide) fl_68 (fun _ h9 => h9) rfl (tyX9_ok 9 (by decide)) rfl rfl (Nat.le_of_ble_eq_true rfl) dX9_next_138 (fun H locs hP hD hS => ?_)
                        have hP : va_P D vwCl (Wd_Mo_next cy a_this a_text a_row a_isKept a_refused a_words a_cost a_steps a_mates a_bestMates a_comes s_above s_below s_length s_at_1 s_behind_16 s_readFlitches s_readFamilies s_doing s_text) H := hP
                        have hD : va_D A (Wd_Mo_next cy a_this a_text a_row a_isKept a_refused a_words a_cost a_steps a_mates a_bestMates a_comes s_above s_below s_length s_at_1 s_behind_16 s_readFlitches s_readFamilies s_doing s_text) := hD
                        refine lv_goto (tgt := 109) hx hb dX9_next_141 (by decide) ?_
                        exact ih109_10 _ _ _ _ h hP hD hS (lv_sub hl [0] rfl)
                exact kT109_10 n109_10 _ _ _ _ h hP hD hS (lv_sub hl [0] rfl)
              refine lv_if_eq (tgt := 109) hx hb dX9_next_82 (by decide) (fun c_17 => ?_) (fun c_17 => ?_)
              · have h := h.1 c_17
                exact kJ109_8  _ _ _ h hP hD hS (lv_sub hl [0] rfl)
              · have h := h.2 c_17
                refine lv_aload_n hx hb dX9_next_85 rfl (lv_at hl 0 rfl) ?_
                refine lv_aload_n hx hb dX9_next_86 rfl (lv_at hl 0 rfl) ?_
                refine va_get (D := D) (ci := 8) (v := .int s_behind_6) (C := RX9) (T := TX9) (N := 18) hx hb hts in_X9 hown hK hP 0 rfl rfl 9 (by decide) fl_68 (fun _ h9 => h9) rfl dX9_next_87 ?_
                refine st_callRI (st_runVR (n := 1) (As := [.int s_behind_6]) (rest := []) (q0 := 0) F (co_Mo_isLetter l D cy a_this a_text a_row a_isKept a_refused a_words a_cost a_steps a_mates a_bestMates a_comes s_above s_below s_length s_at_1 s_behind_6 s_readFlitches s_readFamilies s_doing s_text s_behind_6 _ h) gX9_next_X9_isLetter rfl (by decide +kernel) rfl hKK hP [0, 1] rfl rfl rfl rfl hl.1 rfl (Nat.le_of_ble_eq_true rfl) dX9_next_90) (fun r_18 h => ?_)
                refine lv_if_eq (tgt := 109) hx hb dX9_next_93 (by decide) (fun c_19 => ?_) (fun c_19 => ?_)
                · have h := h.1 c_19
                  exact kJ109_8  _ _ _ h hP hD hS (lv_sub hl [0] rfl)
                · have h := h.2 c_19
                  refine lv_aload_n hx hb dX9_next_96 rfl (lv_at hl 0 rfl) ?_
                  refine lv_dup hx hb dX9_next_97 rfl ?_
                  refine va_get (D := D) (ci := 8) (v := .int s_behind_6) (C := RX9) (T := TX9) (N := 18) hx hb hts in_X9 hown hK hP 0 rfl rfl 9 (by decide) fl_68 (fun _ h9 => h9) rfl dX9_next_98 ?_
                  refine lv_iconst (v := 1) hx hb dX9_next_101 (by decide) ?_
                  refine lv_iadd hx hb dX9_next_102 ?_
                  refine lv_topi (fun s_behind_20 es_behind_20 => ?_)
                  have h := h s_behind_20 es_behind_20
                  refine va_put (D := D) (ci := 8) (v := .int s_behind_20) (ty := .int) (C := RX9) (T := TX9) (N := 18) hx hb hts in_X9 tyX9 tyX9_ok nmX9 hown hK hP hD hS 0 rfl rfl 9 (by decide) fl_68 (fun _ h9 => h9) rfl (tyX9_ok 9 (by decide)) rfl rfl (Nat.le_of_ble_eq_true rfl) dX9_next_103 (fun H locs hP hD hS => ?_)
                  have hP : va_P D vwCl (Wd_Mo_next cy a_this a_text a_row a_isKept a_refused a_words a_cost a_steps a_mates a_bestMates a_comes s_above s_below s_length s_at_1 s_behind_20 s_readFlitches s_readFamilies s_doing s_text) H := hP
                  have hD : va_D A (Wd_Mo_next cy a_this a_text a_row a_isKept a_refused a_words a_cost a_steps a_mates a_bestMates a_comes s_above s_below s_length s_at_1 s_behind_20 s_readFlitches s_readFamilies s_doing s_text) := hD
                  refine lv_goto (tgt := 74) hx hb dX9_next_106 (by decide) ?_
                  exact ih74_6 _ _ _ _ h hP hD hS (lv_sub hl [0] rfl)
          exact kT74_6 n74_6 _ _ _ _ h hP hD hS (lv_sub hl [0] rfl)
        refine lv_icmp_ge (tgt := 67) hx hb dX9_next_55 (by decide) (fun c_21 => ?_) (fun c_21 => ?_)
        · have h := h.1 c_21
          refine lv_aload_n hx hb dX9_next_67 rfl (lv_at hl 0 rfl) ?_
          refine va_get (D := D) (ci := 8) (v := .int s_at_1) (C := RX9) (T := TX9) (N := 18) hx hb hts in_X9 hown hK hP 0 rfl rfl 8 (by decide) fl_71 (fun _ h9 => h9) rfl dX9_next_68 ?_
          exact kJ71_4 _ _ _ _ h hP hD hS (lv_sub hl [0] rfl)
        · have h := h.2 c_21
          refine lv_aload_n hx hb dX9_next_58 rfl (lv_at hl 0 rfl) ?_
          refine va_get (D := D) (ci := 8) (v := .int s_at_1) (C := RX9) (T := TX9) (N := 18) hx hb hts in_X9 hown hK hP 0 rfl rfl 8 (by decide) fl_71 (fun _ h9 => h9) rfl dX9_next_59 ?_
          refine lv_iconst (v := 1) hx hb dX9_next_62 (by decide) ?_
          refine lv_iadd hx hb dX9_next_63 ?_
          refine lv_goto (tgt := 71) hx hb dX9_next_64 (by decide) ?_
          exact kJ71_4 _ _ _ _ h hP hD hS (lv_sub hl [0] rfl)
      refine lv_icmp_ge (tgt := 46) hx hb dX9_next_16 (by decide) (fun c_22 => ?_) (fun c_22 => ?_)
      · have h := h.1 c_22
        exact kJ46_2  _ _ _ h hP hD hS (lv_sub hl [0] rfl)
      · have h := h.2 c_22
        refine lv_aload_n hx hb dX9_next_19 rfl (lv_at hl 0 rfl) ?_
        refine va_get (D := D) (ci := 8) (v := .ref a_text) (C := RX9) (T := TX9) (N := 18) hx hb hts in_X9 hown hK hP 0 rfl rfl 5 (by decide) fl_24 (fun _ h9 => h9) rfl dX9_next_20 ?_
        refine lv_aload_n hx hb dX9_next_23 rfl (lv_at hl 0 rfl) ?_
        refine va_get (D := D) (ci := 8) (v := .int s_at_1) (C := RX9) (T := TX9) (N := 18) hx hb hts in_X9 hown hK hP 0 rfl rfl 8 (by decide) fl_71 (fun _ h9 => h9) rfl dX9_next_24 ?_
        obtain ⟨hi_23, h⟩ := h
        refine va_iald hx hb hK hP 1 1 rfl rfl hi_23 dX9_next_27 ?_
        refine lv_bipush (v := 32) hx hb dX9_next_28 (by decide) ?_
        refine lv_icmp_ne (tgt := 46) hx hb dX9_next_30 (by decide) (fun c_24 => ?_) (fun c_24 => ?_)
        · have h := h.1 c_24
          exact kJ46_2  _ _ _ h hP hD hS (lv_sub hl [0] rfl)
        · have h := h.2 c_24
          refine lv_aload_n hx hb dX9_next_33 rfl (lv_at hl 0 rfl) ?_
          refine lv_dup hx hb dX9_next_34 rfl ?_
          refine va_get (D := D) (ci := 8) (v := .int s_at_1) (C := RX9) (T := TX9) (N := 18) hx hb hts in_X9 hown hK hP 0 rfl rfl 8 (by decide) fl_71 (fun _ h9 => h9) rfl dX9_next_35 ?_
          refine lv_iconst (v := 1) hx hb dX9_next_38 (by decide) ?_
          refine lv_iadd hx hb dX9_next_39 ?_
          refine lv_topi (fun s_at_25 es_at_25 => ?_)
          have h := h s_at_25 es_at_25
          refine va_put (D := D) (ci := 8) (v := .int s_at_25) (ty := .int) (C := RX9) (T := TX9) (N := 18) hx hb hts in_X9 tyX9 tyX9_ok nmX9 hown hK hP hD hS 0 rfl rfl 8 (by decide) fl_71 (fun _ h9 => h9) rfl (tyX9_ok 8 (by decide)) rfl rfl (Nat.le_of_ble_eq_true rfl) dX9_next_40 (fun H locs hP hD hS => ?_)
          have hP : va_P D vwCl (Wd_Mo_next cy a_this a_text a_row a_isKept a_refused a_words a_cost a_steps a_mates a_bestMates a_comes s_above s_below s_length s_at_25 s_behind s_readFlitches s_readFamilies s_doing s_text) H := hP
          have hD : va_D A (Wd_Mo_next cy a_this a_text a_row a_isKept a_refused a_words a_cost a_steps a_mates a_bestMates a_comes s_above s_below s_length s_at_25 s_behind s_readFlitches s_readFamilies s_doing s_text) := hD
          refine lv_goto (tgt := 8) hx hb dX9_next_43 (by decide) ?_
          exact ih8_1 _ _ _ _ h hP hD hS (lv_sub hl [0] rfl)
  exact kT8_1 n8_1 _ _ _ _ h hP hD hS (lv_sub hl [0] rfl)
abbrev Wd_Mo_isWord (cy : ClassId × ClassId × ClassId × ClassId) (a_this a_text a_words a_row a_isKept a_refused a_cost a_steps a_mates a_bestMates a_comes : Nat) (s_above : Int64) (s_below : Int64) (s_length : Int32) (s_at : Int32) (s_behind : Int32) (s_readFlitches : Int32) (s_readFamilies : Int32) (s_doing : Int32) (s_text : Nat → Int32) (s_words : Nat → Int32) : va_W := [(a_this, .inr (8, [.ref a_row, .ref a_isKept, .ref a_refused, .long s_above, .long s_below, .ref a_text, .int s_length, .ref a_words, .int s_at, .int s_behind, .int s_readFlitches, .int s_readFamilies, .int s_doing, .ref a_cost, .ref a_steps, .ref a_mates, .ref a_bestMates, .ref a_comes])), (a_text, .inl (cy.2.1, 150, .inl s_text)), (a_words, .inl (cy.2.1, 30, .inl s_words))]
abbrev rm_Mo_isWord : Room := { frames := 0, cells := 0, slots := 0, locals := 0 }
def wp_Mo_isWord (x1 : Int32) (s_at : Int32) (s_behind : Int32) (s_text : Nat → Int32) (s_words : Nat → Int32) (Q : Int32 → Prop) : Prop := jn1 (fun (J19 : Int32 → Prop) => ((6 < (s_behind - s_at) → J19 0) ∧ (¬ 6 < (s_behind - s_at) → J19 1))) (fun (v_1 : Int32) => ∃ n : Nat, lpw2 (fun (B22 : Int32 → Int32 → Prop) (x2_3 : Int32) (x3_4 : Int32) => ((6 ≤ x3_4 → bz x2_3 ∧ Q x2_3) ∧ (¬ 6 ≤ x3_4 → ((x2_3 = 0 → bz x2_3 ∧ Q x2_3) ∧ (¬ x2_3 = 0 → jn1 (fun (J60 : Int32 → Prop) => ((s_behind ≤ (s_at + x3_4) → J60 0) ∧ (¬ s_behind ≤ (s_at + x3_4) → vp_in (s_at + x3_4) 150 ∧ J60 (s_text (Int32.toNatClampNeg (s_at + x3_4)))))) (fun (v_10 : Int32) => vp_in ((6 * x1) + x3_4) 30 ∧ jn1 (fun (J83 : Int32 → Prop) => ((¬ v_10 = (s_words (Int32.toNatClampNeg ((6 * x1) + x3_4))) → J83 0) ∧ (v_10 = (s_words (Int32.toNatClampNeg ((6 * x1) + x3_4))) → J83 1))) (fun (v_13 : Int32) => ∀ x3_15 : Int32, x3_15 = x3_4 + 1 → B22 v_13 x3_15))))))) n v_1 0)
set_option maxHeartbeats 4000000 in
set_option maxRecDepth 100000 in
theorem co_Mo_isWord (l : Launch) (D : va_G) (cy : ClassId × ClassId × ClassId × ClassId) (a_this a_text a_words a_row a_isKept a_refused a_cost a_steps a_mates a_bestMates a_comes : Nat) (s_above : Int64) (s_below : Int64) (s_length : Int32) (s_at : Int32) (s_behind : Int32) (s_readFlitches : Int32) (s_readFamilies : Int32) (s_doing : Int32) (s_text : Nat → Int32) (s_words : Nat → Int32) (x1 : Int32) (Q : Int32 → Prop) (h : wp_Mo_isWord x1 s_at s_behind s_text s_words Q) : RoI l yX9_isWord wsX9_isWord rm_Mo_isWord D cy [.ref a_this, .int x1] (Wd_Mo_isWord cy a_this a_text a_words a_row a_isKept a_refused a_cost a_steps a_mates a_bestMates a_comes s_above s_below s_length s_at s_behind s_readFlitches s_readFamilies s_doing s_text s_words) Q := by
  refine st_metRZ (cc := cX9_isWord) (maxL := 5) RX9 (by decide) rfl rfl (Nat.le_of_ble_eq_true rfl) ?_
  intro p e s m args below meth c QQ ls F hKK hP hl hret
  have hK := hKK.1
  have hnest := hKK.2.1
  have hx := F.1
  have hb := F.2.1
  have hown := F.2.2.2.1
  have hts := F.2.2.2.2
  have in_X9 : ∀ w ∈ u_ws RX9 TX9 18, w ∈ wsX9_isWord := (fun _ h => List.mem_cons_of_mem _ (List.mem_append_right _ h))
  have fl_24 := (hts (.fieldLink RX9 24 "RasherCaseModel" "text" "[I") (List.mem_of_getElem? (i := 3) rfl))
  have fl_27 := (hts (.fieldLink RX9 27 "RasherCaseModel" "words" "[I") (List.mem_of_getElem? (i := 4) rfl))
  have fl_68 := (hts (.fieldLink RX9 68 "RasherCaseModel" "behind" "I") (List.mem_of_getElem? (i := 1) rfl))
  have fl_71 := (hts (.fieldLink RX9 71 "RasherCaseModel" "at" "I") (List.mem_of_getElem? (i := 2) rfl))
  have hl : lv_has ls 5 [(0, .ref a_this), (1, .int x1)] := hl
  unfold wp_Mo_isWord at h
  refine lv_aload_n hx hb dX9_isWord_0 rfl (lv_at hl 0 rfl) ?_
  refine va_get (D := D) (ci := 8) (v := .int s_behind) (C := RX9) (T := TX9) (N := 18) hx hb hts in_X9 hown hK hP 0 rfl rfl 9 (by decide) fl_68 (fun _ h9 => h9) rfl dX9_isWord_1 ?_
  refine lv_aload_n hx hb dX9_isWord_4 rfl (lv_at hl 0 rfl) ?_
  refine va_get (D := D) (ci := 8) (v := .int s_at) (C := RX9) (T := TX9) (N := 18) hx hb hts in_X9 hown hK hP 0 rfl rfl 8 (by decide) fl_71 (fun _ h9 => h9) rfl dX9_isWord_5 ?_
  refine lv_isub hx hb dX9_isWord_8 ?_
  refine lv_bipush (v := 6) hx hb dX9_isWord_9 (by decide) ?_
  obtain ⟨J19, hJ19, h⟩ := jn1_ex h
  have kJ19_1 : ∀ (v_1 : Int32) (ls : Array Slot), J19 v_1 → lv_has ls 5 [(0, .ref a_this), (1, .int x1)] → W p l e rm_Mo_isWord s m args below meth c s.heap [] 0 0 QQ (F0 m 19 ls [.int v_1]) := by
    intro v_1 ls h hl
    have h := hJ19 _ h
    refine lv_istore_n (lv' := [(2, .int v_1), (0, .ref a_this), (1, .int x1)]) hx hb dX9_isWord_19 rfl hl (by decide) rfl (fun ls hl => ?_)
    refine lv_iconst (v := 0) hx hb dX9_isWord_20 (by decide) ?_
    refine lv_istore_n (lv' := [(3, .int 0), (2, .int v_1), (0, .ref a_this), (1, .int x1)]) hx hb dX9_isWord_21 rfl hl (by decide) rfl (fun ls hl => ?_)
    obtain ⟨T22_4, hz22_4, hs22_4, n22_4, h⟩ := lpw2_use h
    have kT22_4 : ∀ (n : Nat) (x2_3 : Int32) (x3_4 : Int32) (ls : Array Slot), T22_4 n x2_3 x3_4 → lv_has ls 5 [(0, .ref a_this), (1, .int x1), (2, .int x2_3), (3, .int x3_4)] → W p l e rm_Mo_isWord s m args below meth c s.heap [] 0 0 QQ (F0 m 22 ls []) := by
      intro n
      induction n with
      | zero => intro x2_3 x3_4 ls h; exact absurd h (hz22_4 _ _)
      | succ n ih22_4 =>
        intro x2_3 x3_4 ls h hl
        have h := hs22_4 _ _ _ h
        refine lv_iload_n hx hb dX9_isWord_22 rfl (lv_at hl 3 rfl) ?_
        refine lv_bipush (v := 6) hx hb dX9_isWord_23 (by decide) ?_
        refine lv_icmp_ge (tgt := 90) hx hb dX9_isWord_25 (by decide) (fun c_6 => ?_) (fun c_6 => ?_)
        · have h := h.1 c_6
          refine lv_iload_n hx hb dX9_isWord_90 rfl (lv_at hl 2 rfl) ?_
          obtain ⟨hz_7, h⟩ := h
          exact hret _ _ _ hz_7 h dX9_isWord_91
        · have h := h.2 c_6
          refine lv_iload_n hx hb dX9_isWord_28 rfl (lv_at hl 2 rfl) ?_
          refine lv_if_eq (tgt := 90) hx hb dX9_isWord_29 (by decide) (fun c_8 => ?_) (fun c_8 => ?_)
          · have h := h.1 c_8
            refine lv_iload_n hx hb dX9_isWord_90 rfl (lv_at hl 2 rfl) ?_
            obtain ⟨hz_9, h⟩ := h
            exact hret _ _ _ hz_9 h dX9_isWord_91
          · have h := h.2 c_8
            refine lv_aload_n hx hb dX9_isWord_32 rfl (lv_at hl 0 rfl) ?_
            refine va_get (D := D) (ci := 8) (v := .int s_at) (C := RX9) (T := TX9) (N := 18) hx hb hts in_X9 hown hK hP 0 rfl rfl 8 (by decide) fl_71 (fun _ h9 => h9) rfl dX9_isWord_33 ?_
            refine lv_iload_n hx hb dX9_isWord_36 rfl (lv_at hl 3 rfl) ?_
            refine lv_iadd hx hb dX9_isWord_37 ?_
            refine lv_aload_n hx hb dX9_isWord_38 rfl (lv_at hl 0 rfl) ?_
            refine va_get (D := D) (ci := 8) (v := .int s_behind) (C := RX9) (T := TX9) (N := 18) hx hb hts in_X9 hown hK hP 0 rfl rfl 9 (by decide) fl_68 (fun _ h9 => h9) rfl dX9_isWord_39 ?_
            obtain ⟨J60, hJ60, h⟩ := jn1_ex h
            have kJ60_10 : ∀ (v_10 : Int32) (ls : Array Slot), J60 v_10 → lv_has ls 5 [(0, .ref a_this), (1, .int x1), (3, .int x3_4)] → W p l e rm_Mo_isWord s m args below meth c s.heap [] 0 0 QQ (F0 m 60 ls [.int v_10]) := by
              intro v_10 ls h hl
              have h := hJ60 _ h
              refine lv_istore (lv' := [(4, .int v_10), (0, .ref a_this), (1, .int x1), (3, .int x3_4)]) hx hb dX9_isWord_60 hl (by decide) rfl (fun ls hl => ?_)
              refine lv_iload hx hb dX9_isWord_62 (lv_at hl 0 rfl) ?_
              refine lv_aload_n hx hb dX9_isWord_64 rfl (lv_at hl 1 rfl) ?_
              refine va_get (D := D) (ci := 8) (v := .ref a_words) (C := RX9) (T := TX9) (N := 18) hx hb hts in_X9 hown hK hP 0 rfl rfl 7 (by decide) fl_27 (fun _ h9 => h9) rfl dX9_isWord_65 ?_
              refine lv_bipush (v := 6) hx hb dX9_isWord_68 (by decide) ?_
              refine lv_iload_n hx hb dX9_isWord_70 rfl (lv_at hl 2 rfl) ?_
              refine lv_imul hx hb dX9_isWord_71 ?_
              refine lv_iload_n hx hb dX9_isWord_72 rfl (lv_at hl 3 rfl) ?_
              refine lv_iadd hx hb dX9_isWord_73 ?_
              obtain ⟨hi_12, h⟩ := h
              refine va_iald hx hb hK hP 2 1 rfl rfl hi_12 dX9_isWord_74 ?_
              obtain ⟨J83, hJ83, h⟩ := jn1_ex h
              have kJ83_13 : ∀ (v_13 : Int32) (ls : Array Slot), J83 v_13 → lv_has ls 5 [(0, .ref a_this), (1, .int x1), (3, .int x3_4)] → W p l e rm_Mo_isWord s m args below meth c s.heap [] 0 0 QQ (F0 m 83 ls [.int v_13]) := by
                intro v_13 ls h hl
                have h := hJ83 _ h
                refine lv_istore_n (lv' := [(2, .int v_13), (0, .ref a_this), (1, .int x1), (3, .int x3_4)]) hx hb dX9_isWord_83 rfl hl (by decide) rfl (fun ls hl => ?_)
                obtain ⟨x3_15, ex3_15⟩ : ∃ y : Int32, y = x3_4 + 1 := ⟨_, rfl⟩
                have h := h x3_15 ex3_15
                refine lv_iinc (v := x3_15) (lv' := [(3, .int x3_15), (2, .int v_13), (0, .ref a_this), (1, .int x1)]) hx hb dX9_isWord_84 hl (k := 3) rfl (by rw [ex3_15]; rfl) (by decide) rfl (fun ls hl => ?_)
                refine lv_goto (tgt := 22) hx hb dX9_isWord_87 (by decide) ?_
                exact ih22_4 _ _ _ h (lv_sub hl [2, 3, 1, 0] rfl)
              refine lv_icmp_ne (tgt := 82) hx hb dX9_isWord_75 (by decide) (fun c_16 => ?_) (fun c_16 => ?_)
              · have h := h.1 c_16
                refine lv_iconst (v := 0) hx hb dX9_isWord_82 (by decide) ?_
                exact kJ83_13 _ _ h (lv_sub hl [1, 2, 3] rfl)
              · have h := h.2 c_16
                refine lv_iconst (v := 1) hx hb dX9_isWord_78 (by decide) ?_
                refine lv_goto (tgt := 83) hx hb dX9_isWord_79 (by decide) ?_
                exact kJ83_13 _ _ h (lv_sub hl [1, 2, 3] rfl)
            refine lv_icmp_ge (tgt := 59) hx hb dX9_isWord_42 (by decide) (fun c_17 => ?_) (fun c_17 => ?_)
            · have h := h.1 c_17
              refine lv_iconst (v := 0) hx hb dX9_isWord_59 (by decide) ?_
              exact kJ60_10 _ _ h (lv_sub hl [0, 1, 3] rfl)
            · have h := h.2 c_17
              refine lv_aload_n hx hb dX9_isWord_45 rfl (lv_at hl 0 rfl) ?_
              refine va_get (D := D) (ci := 8) (v := .ref a_text) (C := RX9) (T := TX9) (N := 18) hx hb hts in_X9 hown hK hP 0 rfl rfl 5 (by decide) fl_24 (fun _ h9 => h9) rfl dX9_isWord_46 ?_
              refine lv_aload_n hx hb dX9_isWord_49 rfl (lv_at hl 0 rfl) ?_
              refine va_get (D := D) (ci := 8) (v := .int s_at) (C := RX9) (T := TX9) (N := 18) hx hb hts in_X9 hown hK hP 0 rfl rfl 8 (by decide) fl_71 (fun _ h9 => h9) rfl dX9_isWord_50 ?_
              refine lv_iload_n hx hb dX9_isWord_53 rfl (lv_at hl 3 rfl) ?_
              refine lv_iadd hx hb dX9_isWord_54 ?_
              obtain ⟨hi_18, h⟩ := h
              refine va_iald hx hb hK hP 1 1 rfl rfl hi_18 dX9_isWord_55 ?_
              refine lv_goto (tgt := 60) hx hb dX9_isWord_56 (by decide) ?_
              exact kJ60_10 _ _ h (lv_sub hl [0, 1, 3] rfl)
    exact kT22_4 n22_4 _ _ _ h (lv_sub hl [2, 3, 1, 0] rfl)
  refine lv_icmp_gt (tgt := 18) hx hb dX9_isWord_11 (by decide) (fun c_19 => ?_) (fun c_19 => ?_)
  · have h := h.1 c_19
    refine lv_iconst (v := 0) hx hb dX9_isWord_18 (by decide) ?_
    exact kJ19_1 _ _ h (lv_sub hl [0, 1] rfl)
  · have h := h.2 c_19
    refine lv_iconst (v := 1) hx hb dX9_isWord_14 (by decide) ?_
    refine lv_goto (tgt := 19) hx hb dX9_isWord_15 (by decide) ?_
    exact kJ19_1 _ _ h (lv_sub hl [0, 1] rfl)
abbrev Wd_Mo_wordHere (cy : ClassId × ClassId × ClassId × ClassId) (a_this a_text a_words a_row a_isKept a_refused a_cost a_steps a_mates a_bestMates a_comes : Nat) (s_above : Int64) (s_below : Int64) (s_length : Int32) (s_at : Int32) (s_behind : Int32) (s_readFlitches : Int32) (s_readFamilies : Int32) (s_doing : Int32) (s_text : Nat → Int32) (s_words : Nat → Int32) : va_W := [(a_this, .inr (8, [.ref a_row, .ref a_isKept, .ref a_refused, .long s_above, .long s_below, .ref a_text, .int s_length, .ref a_words, .int s_at, .int s_behind, .int s_readFlitches, .int s_readFamilies, .int s_doing, .ref a_cost, .ref a_steps, .ref a_mates, .ref a_bestMates, .ref a_comes])), (a_text, .inl (cy.2.1, 150, .inl s_text)), (a_words, .inl (cy.2.1, 30, .inl s_words))]
abbrev rm_Mo_wordHere : Room := { frames := 2, cells := 0, slots := 0, locals := 43 }
def wp_Mo_wordHere (s_length : Int32) (s_at : Int32) (s_behind : Int32) (s_text : Nat → Int32) (s_words : Nat → Int32) (Q : Int32 → Prop) : Prop := ∃ n : Nat, lpw1 (fun (B2 : Int32 → Prop) (x1_1 : Int32) => ((5 ≤ x1_1 → Q (-1)) ∧ (¬ 5 ≤ x1_1 → wp_Mo_isLetter s_at s_length s_text (fun (r_4 : Int32) => jn0 (fun (J28 : Prop) => ((r_4 = 0 → J28) ∧ (¬ r_4 = 0 → wp_Mo_isWord x1_1 s_at s_behind s_text s_words (fun (r_8 : Int32) => ((r_8 = 0 → J28) ∧ (¬ r_8 = 0 → Q x1_1)))))) (∀ x1_6 : Int32, x1_6 = x1_1 + 1 → B2 x1_6))))) n 0
set_option maxHeartbeats 4000000 in
set_option maxRecDepth 100000 in
theorem co_Mo_wordHere (l : Launch) (D : va_G) (cy : ClassId × ClassId × ClassId × ClassId) (a_this a_text a_words a_row a_isKept a_refused a_cost a_steps a_mates a_bestMates a_comes : Nat) (s_above : Int64) (s_below : Int64) (s_length : Int32) (s_at : Int32) (s_behind : Int32) (s_readFlitches : Int32) (s_readFamilies : Int32) (s_doing : Int32) (s_text : Nat → Int32) (s_words : Nat → Int32) (Q : Int32 → Prop) (h : wp_Mo_wordHere s_length s_at s_behind s_text s_words Q) : RoI l yX9_wordHere wsX9_wordHere rm_Mo_wordHere D cy [.ref a_this] (Wd_Mo_wordHere cy a_this a_text a_words a_row a_isKept a_refused a_cost a_steps a_mates a_bestMates a_comes s_above s_below s_length s_at s_behind s_readFlitches s_readFamilies s_doing s_text s_words) Q := by
  refine st_metRI (cc := cX9_wordHere) (maxL := 2) RX9 (by decide) rfl rfl (Nat.le_of_ble_eq_true rfl) ?_
  intro p e s m args below meth c QQ ls F hKK hP hl hret
  have hK := hKK.1
  have hnest := hKK.2.1
  have hx := F.1
  have hb := F.2.1
  have hown := F.2.2.2.1
  have hts := F.2.2.2.2
  have in_X9 : ∀ w ∈ u_ws RX9 TX9 18, w ∈ wsX9_wordHere := (fun _ h => List.mem_cons_of_mem _ (List.mem_append_right _ h))
  have fl_71 := (hts (.fieldLink RX9 71 "RasherCaseModel" "at" "I") (List.mem_of_getElem? (i := 1) rfl))
  have hl : lv_has ls 2 [(0, .ref a_this)] := hl
  unfold wp_Mo_wordHere at h
  refine lv_iconst (v := 0) hx hb dX9_wordHere_0 (by decide) ?_
  refine lv_istore_n (lv' := [(1, .int 0), (0, .ref a_this)]) hx hb dX9_wordHere_1 rfl hl (by decide) rfl (fun ls hl => ?_)
  obtain ⟨T2_1, hz2_1, hs2_1, n2_1, h⟩ := lpw1_use h
  have kT2_1 : ∀ (n : Nat) (x1_1 : Int32) (ls : Array Slot), T2_1 n x1_1 → lv_has ls 2 [(0, .ref a_this), (1, .int x1_1)] → W p l e rm_Mo_wordHere s m args below meth c s.heap [] 0 0 QQ (F0 m 2 ls []) := by
    intro n
    induction n with
    | zero => intro x1_1 ls h; exact absurd h (hz2_1 _)
    | succ n ih2_1 =>
      intro x1_1 ls h hl
      have h := hs2_1 _ _ h
      refine lv_iload_n hx hb dX9_wordHere_2 rfl (lv_at hl 1 rfl) ?_
      refine lv_iconst (v := 5) hx hb dX9_wordHere_3 (by decide) ?_
      refine lv_icmp_ge (tgt := 34) hx hb dX9_wordHere_4 (by decide) (fun c_3 => ?_) (fun c_3 => ?_)
      · have h := h.1 c_3
        refine lv_iconst (v := (-1)) hx hb dX9_wordHere_34 (by decide) ?_
        exact hret _ _ _ h dX9_wordHere_35
      · have h := h.2 c_3
        refine lv_aload_n hx hb dX9_wordHere_7 rfl (lv_at hl 0 rfl) ?_
        refine lv_aload_n hx hb dX9_wordHere_8 rfl (lv_at hl 0 rfl) ?_
        refine va_get (D := D) (ci := 8) (v := .int s_at) (C := RX9) (T := TX9) (N := 18) hx hb hts in_X9 hown hK hP 0 rfl rfl 8 (by decide) fl_71 (fun _ h9 => h9) rfl dX9_wordHere_9 ?_
        refine st_callRI (st_runVR (n := 1) (As := [.int s_at]) (rest := []) (q0 := 0) F (co_Mo_isLetter l D cy a_this a_text a_row a_isKept a_refused a_words a_cost a_steps a_mates a_bestMates a_comes s_above s_below s_length s_at s_behind s_readFlitches s_readFamilies s_doing s_text s_at _ h) gX9_wordHere_X9_isLetter rfl (by decide +kernel) rfl hKK hP [0, 1] rfl rfl rfl rfl hl.1 rfl (Nat.le_of_ble_eq_true rfl) dX9_wordHere_12) (fun r_4 h => ?_)
        obtain ⟨J28, hJ28, h⟩ := jn0_ex h
        have kJ28_4 : ∀  (ls : Array Slot), J28 → lv_has ls 2 [(0, .ref a_this), (1, .int x1_1)] → W p l e rm_Mo_wordHere s m args below meth c s.heap [] 0 0 QQ (F0 m 28 ls []) := by
          intro  ls h hl
          have h := hJ28  h
          obtain ⟨x1_6, ex1_6⟩ : ∃ y : Int32, y = x1_1 + 1 := ⟨_, rfl⟩
          have h := h x1_6 ex1_6
          refine lv_iinc (v := x1_6) (lv' := [(1, .int x1_6), (0, .ref a_this)]) hx hb dX9_wordHere_28 hl (k := 1) rfl (by rw [ex1_6]; rfl) (by decide) rfl (fun ls hl => ?_)
          refine lv_goto (tgt := 2) hx hb dX9_wordHere_31 (by decide) ?_
          exact ih2_1 _ _ h (lv_sub hl [1, 0] rfl)
        refine lv_if_eq (tgt := 28) hx hb dX9_wordHere_15 (by decide) (fun c_7 => ?_) (fun c_7 => ?_)
        · have h := h.1 c_7
          exact kJ28_4  _ h (lv_sub hl [0, 1] rfl)
        · have h := h.2 c_7
          refine lv_aload_n hx hb dX9_wordHere_18 rfl (lv_at hl 0 rfl) ?_
          refine lv_iload_n hx hb dX9_wordHere_19 rfl (lv_at hl 1 rfl) ?_
          refine st_callRI (st_runVR (n := 1) (As := [.int x1_1]) (rest := []) (q0 := 0) F (co_Mo_isWord l D cy a_this a_text a_words a_row a_isKept a_refused a_cost a_steps a_mates a_bestMates a_comes s_above s_below s_length s_at s_behind s_readFlitches s_readFamilies s_doing s_text s_words x1_1 _ h) gX9_wordHere_X9_isWord rfl (by decide +kernel) rfl hKK hP [0, 1, 2] rfl rfl rfl rfl hl.1 rfl (Nat.le_of_ble_eq_true rfl) dX9_wordHere_20) (fun r_8 h => ?_)
          refine lv_if_eq (tgt := 28) hx hb dX9_wordHere_23 (by decide) (fun c_9 => ?_) (fun c_9 => ?_)
          · have h := h.1 c_9
            exact kJ28_4  _ h (lv_sub hl [0, 1] rfl)
          · have h := h.2 c_9
            refine lv_iload_n hx hb dX9_wordHere_26 rfl (lv_at hl 1 rfl) ?_
            exact hret _ _ _ h dX9_wordHere_27
  exact kT2_1 n2_1 _ _ h (lv_sub hl [1, 0] rfl)
abbrev Wd_Mo_number (cy : ClassId × ClassId × ClassId × ClassId) (a_this a_text a_row a_isKept a_refused a_words a_cost a_steps a_mates a_bestMates a_comes : Nat) (s_above : Int64) (s_below : Int64) (s_length : Int32) (s_at : Int32) (s_behind : Int32) (s_readFlitches : Int32) (s_readFamilies : Int32) (s_doing : Int32) (s_text : Nat → Int32) : va_W := [(a_this, .inr (8, [.ref a_row, .ref a_isKept, .ref a_refused, .long s_above, .long s_below, .ref a_text, .int s_length, .ref a_words, .int s_at, .int s_behind, .int s_readFlitches, .int s_readFamilies, .int s_doing, .ref a_cost, .ref a_steps, .ref a_mates, .ref a_bestMates, .ref a_comes])), (a_text, .inl (cy.2.1, 150, .inl s_text))]
abbrev rm_Mo_number : Room := { frames := 3, cells := 0, slots := 0, locals := 63 }
def wp_Mo_number (x1 : Int32) (x2 : Int32) (s_length : Int32) (s_at : Int32) (s_behind : Int32) (s_text : Nat → Int32) (Q : Int32 → Int32 → Int32 → Prop) : Prop := wp_Mo_next s_length s_at s_behind s_text (fun (s_at_2 : Int32) (s_behind_3 : Int32) => wp_Mo_isFigure s_at_2 s_length s_text (fun (r_4 : Int32) => ((r_4 = 0 → Q (-1) s_at_2 s_behind_3) ∧ (¬ r_4 = 0 → (((s_behind_3 - s_at_2) ≤ 2 → vp_in s_at_2 150 ∧ ∀ x3_8 : Int32, x3_8 = ((s_text (Int32.toNatClampNeg s_at_2)) - 48) → jn1 (fun (J79 : Int32 → Prop) => ((¬ (s_behind_3 - s_at_2) = 2 → J79 x3_8) ∧ ((s_behind_3 - s_at_2) = 2 → vp_in (s_at_2 + 1) 150 ∧ J79 (((10 * x3_8) + (s_text (Int32.toNatClampNeg (s_at_2 + 1)))) - 48)))) (fun (v_9 : Int32) => wp_Mo_in v_9 x1 x2 (fun (r_11 : Int32) => ((r_11 = 0 → Q (-1) s_at_2 s_behind_3) ∧ (¬ r_11 = 0 → Q v_9 s_at_2 s_behind_3))))) ∧ (¬ (s_behind_3 - s_at_2) ≤ 2 → Q (-1) s_at_2 s_behind_3))))))
set_option maxHeartbeats 4000000 in
set_option maxRecDepth 100000 in
theorem co_Mo_number (l : Launch) (D : va_G) (cy : ClassId × ClassId × ClassId × ClassId) (a_this a_text a_row a_isKept a_refused a_words a_cost a_steps a_mates a_bestMates a_comes : Nat) (s_above : Int64) (s_below : Int64) (s_length : Int32) (s_at : Int32) (s_behind : Int32) (s_readFlitches : Int32) (s_readFamilies : Int32) (s_doing : Int32) (s_text : Nat → Int32) (x1 : Int32) (x2 : Int32) (Q : Int32 → Int32 → Int32 → Prop) (h : wp_Mo_number x1 x2 s_length s_at s_behind s_text Q) : CoI l yX9_number wsX9_number rm_Mo_number D cy [.ref a_this, .int x1, .int x2] (Wd_Mo_number cy a_this a_text a_row a_isKept a_refused a_words a_cost a_steps a_mates a_bestMates a_comes s_above s_below s_length s_at s_behind s_readFlitches s_readFamilies s_doing s_text) (fun u : Int32 × Int32 => (Wd_Mo_number cy a_this a_text a_row a_isKept a_refused a_words a_cost a_steps a_mates a_bestMates a_comes s_above s_below s_length u.1 u.2 s_readFlitches s_readFamilies s_doing s_text)) (fun (r : Int32) (u : Int32 × Int32) => Q r u.1 u.2) := by
  refine st_metI (cc := cX9_number) (maxL := 4) RX9 (by decide) rfl rfl (Nat.le_of_ble_eq_true rfl) ?_
  intro p e s m args below meth c A QQ ls F hA hKK hP hD hS hl hret
  have hK := hKK.1
  have hnest := hKK.2.1
  have hx := F.1
  have hb := F.2.1
  have hown := F.2.2.2.1
  have hts := F.2.2.2.2
  have in_X9 : ∀ w ∈ u_ws RX9 TX9 18, w ∈ wsX9_number := (fun _ h => List.mem_cons_of_mem _ (List.mem_append_right _ h))
  have fl_24 := (hts (.fieldLink RX9 24 "RasherCaseModel" "text" "[I") (List.mem_of_getElem? (i := 3) rfl))
  have fl_68 := (hts (.fieldLink RX9 68 "RasherCaseModel" "behind" "I") (List.mem_of_getElem? (i := 2) rfl))
  have fl_71 := (hts (.fieldLink RX9 71 "RasherCaseModel" "at" "I") (List.mem_of_getElem? (i := 1) rfl))
  have hl : lv_has ls 4 [(0, .ref a_this), (1, .int x1), (2, .int x2)] := hl
  unfold wp_Mo_number at h
  refine lv_aload_n hx hb dX9_number_0 rfl (lv_at hl 0 rfl) ?_
  refine st_callV (WR := []) (WSn := fun u => (Wd_Mo_number cy a_this a_text a_row a_isKept a_refused a_words a_cost a_steps a_mates a_bestMates a_comes s_above s_below s_length u.1 u.2 s_readFlitches s_readFamilies s_doing s_text)) (st_runV (n := 0) (As := []) (rest := []) (q0 := 0) F ((co_Mo_next l D cy a_this a_text a_row a_isKept a_refused a_words a_cost a_steps a_mates a_bestMates a_comes s_above s_below s_length s_at s_behind s_readFlitches s_readFamilies s_doing s_text _ h) _) rfl gX9_number_X9_next rfl (by decide +kernel) rfl hKK hP hD [0, 1] rfl rfl rfl rfl rfl hl.1 rfl (Nat.le_of_ble_eq_true rfl) dX9_number_1) hP hD hS hA [0, 1] [] [0, 1] rfl rfl rfl (fun _ => rfl) (fun u H locs h hP hD hS => ?_)
  obtain ⟨s_at_2, s_behind_3⟩ := u
  dsimp only at h hP hD
  have hP : va_P D vwCl (Wd_Mo_number cy a_this a_text a_row a_isKept a_refused a_words a_cost a_steps a_mates a_bestMates a_comes s_above s_below s_length s_at_2 s_behind_3 s_readFlitches s_readFamilies s_doing s_text) H := hP
  have hD : va_D A (Wd_Mo_number cy a_this a_text a_row a_isKept a_refused a_words a_cost a_steps a_mates a_bestMates a_comes s_above s_below s_length s_at_2 s_behind_3 s_readFlitches s_readFamilies s_doing s_text) := hD
  refine lv_aload_n hx hb dX9_number_4 rfl (lv_at hl 0 rfl) ?_
  refine lv_aload_n hx hb dX9_number_5 rfl (lv_at hl 0 rfl) ?_
  refine va_get (D := D) (ci := 8) (v := .int s_at_2) (C := RX9) (T := TX9) (N := 18) hx hb hts in_X9 hown hK hP 0 rfl rfl 8 (by decide) fl_71 (fun _ h9 => h9) rfl dX9_number_6 ?_
  refine st_callRI (st_runVR (n := 1) (As := [.int s_at_2]) (rest := []) (q0 := 0) F (co_Mo_isFigure l D cy a_this a_text a_row a_isKept a_refused a_words a_cost a_steps a_mates a_bestMates a_comes s_above s_below s_length s_at_2 s_behind_3 s_readFlitches s_readFamilies s_doing s_text s_at_2 _ h) gX9_number_X9_isFigure rfl (by decide +kernel) rfl hKK hP [0, 1] rfl rfl rfl rfl hl.1 rfl (Nat.le_of_ble_eq_true rfl) dX9_number_9) (fun r_4 h => ?_)
  refine lv_if_eq (tgt := 28) hx hb dX9_number_12 (by decide) (fun c_5 => ?_) (fun c_5 => ?_)
  · have h := h.1 c_5
    refine lv_iconst (v := (-1)) hx hb dX9_number_28 (by decide) ?_
    exact hret _ (s_at_2, s_behind_3) _ _ _ _ h hP hD hS dX9_number_29
  · have h := h.2 c_5
    refine lv_aload_n hx hb dX9_number_15 rfl (lv_at hl 0 rfl) ?_
    refine va_get (D := D) (ci := 8) (v := .int s_behind_3) (C := RX9) (T := TX9) (N := 18) hx hb hts in_X9 hown hK hP 0 rfl rfl 9 (by decide) fl_68 (fun _ h9 => h9) rfl dX9_number_16 ?_
    refine lv_aload_n hx hb dX9_number_19 rfl (lv_at hl 0 rfl) ?_
    refine va_get (D := D) (ci := 8) (v := .int s_at_2) (C := RX9) (T := TX9) (N := 18) hx hb hts in_X9 hown hK hP 0 rfl rfl 8 (by decide) fl_71 (fun _ h9 => h9) rfl dX9_number_20 ?_
    refine lv_isub hx hb dX9_number_23 ?_
    refine lv_iconst (v := 2) hx hb dX9_number_24 (by decide) ?_
    refine lv_icmp_le (tgt := 30) hx hb dX9_number_25 (by decide) (fun c_6 => ?_) (fun c_6 => ?_)
    · have h := h.1 c_6
      refine lv_aload_n hx hb dX9_number_30 rfl (lv_at hl 0 rfl) ?_
      refine va_get (D := D) (ci := 8) (v := .ref a_text) (C := RX9) (T := TX9) (N := 18) hx hb hts in_X9 hown hK hP 0 rfl rfl 5 (by decide) fl_24 (fun _ h9 => h9) rfl dX9_number_31 ?_
      refine lv_aload_n hx hb dX9_number_34 rfl (lv_at hl 0 rfl) ?_
      refine va_get (D := D) (ci := 8) (v := .int s_at_2) (C := RX9) (T := TX9) (N := 18) hx hb hts in_X9 hown hK hP 0 rfl rfl 8 (by decide) fl_71 (fun _ h9 => h9) rfl dX9_number_35 ?_
      obtain ⟨hi_7, h⟩ := h
      refine va_iald hx hb hK hP 1 1 rfl rfl hi_7 dX9_number_38 ?_
      refine lv_bipush (v := 48) hx hb dX9_number_39 (by decide) ?_
      refine lv_isub hx hb dX9_number_41 ?_
      refine lv_topi (fun x3_8 ex3_8 => ?_)
      have h := h x3_8 ex3_8
      refine lv_istore_n (lv' := [(3, .int x3_8), (0, .ref a_this), (1, .int x1), (2, .int x2)]) hx hb dX9_number_42 rfl hl (by decide) rfl (fun ls hl => ?_)
      refine lv_aload_n hx hb dX9_number_43 rfl (lv_at hl 1 rfl) ?_
      refine va_get (D := D) (ci := 8) (v := .int s_behind_3) (C := RX9) (T := TX9) (N := 18) hx hb hts in_X9 hown hK hP 0 rfl rfl 9 (by decide) fl_68 (fun _ h9 => h9) rfl dX9_number_44 ?_
      refine lv_aload_n hx hb dX9_number_47 rfl (lv_at hl 1 rfl) ?_
      refine va_get (D := D) (ci := 8) (v := .int s_at_2) (C := RX9) (T := TX9) (N := 18) hx hb hts in_X9 hown hK hP 0 rfl rfl 8 (by decide) fl_71 (fun _ h9 => h9) rfl dX9_number_48 ?_
      refine lv_isub hx hb dX9_number_51 ?_
      refine lv_iconst (v := 2) hx hb dX9_number_52 (by decide) ?_
      obtain ⟨J79, hJ79, h⟩ := jn1_ex h
      have kJ79_9 : ∀ (v_9 : Int32) (H : Heap) (locs : List Loc) (ls : Array Slot), J79 v_9 → va_P D vwCl (Wd_Mo_number cy a_this a_text a_row a_isKept a_refused a_words a_cost a_steps a_mates a_bestMates a_comes s_above s_below s_length s_at_2 s_behind_3 s_readFlitches s_readFamilies s_doing s_text) H → va_D A (Wd_Mo_number cy a_this a_text a_row a_isKept a_refused a_words a_cost a_steps a_mates a_bestMates a_comes s_above s_below s_length s_at_2 s_behind_3 s_readFlitches s_readFamilies s_doing s_text) → va_S A s.heap H locs → lv_has ls 4 [(1, .int x1), (2, .int x2)] → W p l e rm_Mo_number s m args below meth c H locs 0 0 QQ (F0 m 79 ls [.int v_9]) := by
        intro v_9 H locs ls h hP hD hS hl
        have h := hJ79 _ h
        refine lv_istore_n (lv' := [(3, .int v_9), (1, .int x1), (2, .int x2)]) hx hb dX9_number_79 rfl hl (by decide) rfl (fun ls hl => ?_)
        refine lv_iload_n hx hb dX9_number_80 rfl (lv_at hl 0 rfl) ?_
        refine lv_iload_n hx hb dX9_number_81 rfl (lv_at hl 1 rfl) ?_
        refine lv_iload_n hx hb dX9_number_82 rfl (lv_at hl 2 rfl) ?_
        refine st_callRI (st_runSR (n := 3) (As := [.int v_9, .int x1, .int x2]) (rest := []) F (co_Mo_in l D cy v_9 x1 x2 _ h) gX9_number_X9_in rfl (by decide +kernel) rfl hKK hP [] rfl rfl hl.1 rfl (Nat.le_of_ble_eq_true rfl) dX9_number_83) (fun r_11 h => ?_)
        refine lv_if_eq (tgt := 93) hx hb dX9_number_86 (by decide) (fun c_12 => ?_) (fun c_12 => ?_)
        · have h := h.1 c_12
          refine lv_iconst (v := (-1)) hx hb dX9_number_93 (by decide) ?_
          exact hret _ (s_at_2, s_behind_3) _ _ _ _ h hP hD hS dX9_number_94
        · have h := h.2 c_12
          refine lv_iload_n hx hb dX9_number_89 rfl (lv_at hl 0 rfl) ?_
          refine lv_goto (tgt := 94) hx hb dX9_number_90 (by decide) ?_
          exact hret _ (s_at_2, s_behind_3) _ _ _ _ h hP hD hS dX9_number_94
      refine lv_icmp_ne (tgt := 78) hx hb dX9_number_53 (by decide) (fun c_13 => ?_) (fun c_13 => ?_)
      · have h := h.1 c_13
        refine lv_iload_n hx hb dX9_number_78 rfl (lv_at hl 0 rfl) ?_
        exact kJ79_9 _ _ _ _ h hP hD hS (lv_sub hl [2, 3] rfl)
      · have h := h.2 c_13
        refine lv_bipush (v := 10) hx hb dX9_number_56 (by decide) ?_
        refine lv_iload_n hx hb dX9_number_58 rfl (lv_at hl 0 rfl) ?_
        refine lv_imul hx hb dX9_number_59 ?_
        refine lv_aload_n hx hb dX9_number_60 rfl (lv_at hl 1 rfl) ?_
        refine va_get (D := D) (ci := 8) (v := .ref a_text) (C := RX9) (T := TX9) (N := 18) hx hb hts in_X9 hown hK hP 0 rfl rfl 5 (by decide) fl_24 (fun _ h9 => h9) rfl dX9_number_61 ?_
        refine lv_aload_n hx hb dX9_number_64 rfl (lv_at hl 1 rfl) ?_
        refine va_get (D := D) (ci := 8) (v := .int s_at_2) (C := RX9) (T := TX9) (N := 18) hx hb hts in_X9 hown hK hP 0 rfl rfl 8 (by decide) fl_71 (fun _ h9 => h9) rfl dX9_number_65 ?_
        refine lv_iconst (v := 1) hx hb dX9_number_68 (by decide) ?_
        refine lv_iadd hx hb dX9_number_69 ?_
        obtain ⟨hi_14, h⟩ := h
        refine va_iald hx hb hK hP 1 1 rfl rfl hi_14 dX9_number_70 ?_
        refine lv_iadd hx hb dX9_number_71 ?_
        refine lv_bipush (v := 48) hx hb dX9_number_72 (by decide) ?_
        refine lv_isub hx hb dX9_number_74 ?_
        refine lv_goto (tgt := 79) hx hb dX9_number_75 (by decide) ?_
        exact kJ79_9 _ _ _ _ h hP hD hS (lv_sub hl [2, 3] rfl)
    · have h := h.2 c_6
      refine lv_iconst (v := (-1)) hx hb dX9_number_28 (by decide) ?_
      exact hret _ (s_at_2, s_behind_3) _ _ _ _ h hP hD hS dX9_number_29
