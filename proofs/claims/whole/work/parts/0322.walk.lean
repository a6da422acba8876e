abbrev Wd_Mo_look (cy : ClassId × ClassId × ClassId × ClassId) (a_this a_comes a_refused a_row a_isKept a_text a_words a_cost a_steps a_mates a_bestMates : Nat) (s_above : Int64) (s_below : Int64) (s_length : Int32) (s_at : Int32) (s_behind : Int32) (s_readFlitches : Int32) (s_readFamilies : Int32) (s_doing : Int32) (s_comes : Nat → Int32) (s_refused : Nat → Int32) (s_row : Nat → Int32) : va_W := [(a_this, .inr (8, [.ref a_row, .ref a_isKept, .ref a_refused, .long s_above, .long s_below, .ref a_text, .int s_length, .ref a_words, .int s_at, .int s_behind, .int s_readFlitches, .int s_readFamilies, .int s_doing, .ref a_cost, .ref a_steps, .ref a_mates, .ref a_bestMates, .ref a_comes])), (a_comes, .inl (cy.2.1, 6, .inl s_comes)), (a_refused, .inl (cy.2.1, 3, .inl s_refused)), (a_row, .inl (cy.2.1, 770, .inl s_row))]
abbrev rm_Mo_look : Room := { frames := 2, cells := 0, slots := 0, locals := 51 }
def wp_Mo_look (x1 : Int32) (s_comes : Nat → Int32) (s_refused : Nat → Int32) (s_row : Nat → Int32) (Q : Int32 → (Nat → Int32) → (Nat → Int32) → Prop) : Prop := wp_Mo_isFlitch x1 s_row (fun (r_1 : Int32) => ((¬ r_1 = 0 → wp_Mo_sortsOf x1 s_row (fun (r_3 : Int32) => ∃ n : Nat, lpw4 (fun (B30 : Int32 → Int32 → Int32 → (Nat → Int32) → Prop) (x3_4 : Int32) (x4_5 : Int32) (x5_6 : Int32) (s_comes_7 : Nat → Int32) => ((18 ≤ x5_6 → Q x3_4 s_comes_7 s_refused) ∧ (¬ 18 ≤ x5_6 → ((r_3 = 0 → Q x3_4 s_comes_7 s_refused) ∧ (¬ r_3 = 0 → ∃ n : Nat, lpw2 (fun (B44 : Int32 → (Nat → Int32) → Prop) (x6_11 : Int32) (s_comes_12 : Nat → Int32) => ((6 ≤ x6_11 → wp_Mo_mostAlike r_3 s_comes_12 (fun (r_15 : Int32) => jn1 (fun (J116 : Int32 → Prop) => ((x4_5 ≤ r_15 → J116 x3_4) ∧ (¬ x4_5 ≤ r_15 → J116 ((10 * (x5_6 / 2)) + (irem x5_6 2))))) (fun (v_16 : Int32) => jn1 (fun (J131 : Int32 → Prop) => ((x4_5 ≤ r_15 → J131 x4_5) ∧ (¬ x4_5 ≤ r_15 → J131 r_15))) (fun (v_18 : Int32) => ∀ x5_20 : Int32, x5_20 = x5_6 + 1 → B30 v_16 v_18 x5_20 s_comes_12)))) ∧ (¬ 6 ≤ x6_11 → vp_in (24 + x1) 770 ∧ wp_Mo_smellBy x6_11 (s_row (Int32.toNatClampNeg (24 + x1))) (x5_6 / 2) (irem x5_6 2) (fun (r_24 : Int32) => vp_in x6_11 6 ∧ ∀ s_comes_26 : Nat → Int32, s_comes_26 = upd s_comes_12 (Int32.toNatClampNeg x6_11) r_24 → ∀ x6_27 : Int32, x6_27 = x6_11 + 1 → B44 x6_27 s_comes_26)))) n 0 s_comes_7))))) n (-1) 99 0 s_comes)) ∧ (r_1 = 0 → wp_Mo_refuse (-2) s_refused (fun (r_28 : Int32) (s_refused_29 : Nat → Int32) => Q r_28 s_comes s_refused_29))))
set_option maxHeartbeats 4000000 in
set_option maxRecDepth 100000 in
theorem co_Mo_look (l : Launch) (D : va_G) (cy : ClassId × ClassId × ClassId × ClassId) (a_this a_comes a_refused a_row a_isKept a_text a_words a_cost a_steps a_mates a_bestMates : Nat) (s_above : Int64) (s_below : Int64) (s_length : Int32) (s_at : Int32) (s_behind : Int32) (s_readFlitches : Int32) (s_readFamilies : Int32) (s_doing : Int32) (s_comes : Nat → Int32) (s_refused : Nat → Int32) (s_row : Nat → Int32) (x1 : Int32) (Q : Int32 → (Nat → Int32) → (Nat → Int32) → Prop) (h : wp_Mo_look x1 s_comes s_refused s_row Q) : CoI l yX9_look wsX9_look rm_Mo_look D cy [.ref a_this, .int x1] (Wd_Mo_look cy a_this a_comes a_refused a_row a_isKept a_text a_words a_cost a_steps a_mates a_bestMates s_above s_below s_length s_at s_behind s_readFlitches s_readFamilies s_doing s_comes s_refused s_row) (fun u : (Nat → Int32) × (Nat → Int32) => (Wd_Mo_look cy a_this a_comes a_refused a_row a_isKept a_text a_words a_cost a_steps a_mates a_bestMates s_above s_below s_length s_at s_behind s_readFlitches s_readFamilies s_doing u.1 u.2 s_row)) (fun (r : Int32) (u : (Nat → Int32) × (Nat → Int32)) => Q r u.1 u.2) := by
  refine st_metI (cc := cX9_look) (maxL := 7) RX9 (by decide) rfl rfl (Nat.le_of_ble_eq_true rfl) ?_
  intro p e s m args below meth c A QQ ls F hA hKK hP hD hS hl hret
  have hK := hKK.1
  have hnest := hKK.2.1
  have hx := F.1
  have hb := F.2.1
  have hown := F.2.2.2.1
  have hts := F.2.2.2.2
  have in_X9 : ∀ w ∈ u_ws RX9 TX9 18, w ∈ wsX9_look := (fun _ h => List.mem_cons_of_mem _ (List.mem_append_right _ h))
  have fl_7 := (hts (.fieldLink RX9 7 "RasherCaseModel" "row" "[I") (List.mem_of_getElem? (i := 2) rfl))
  have fl_42 := (hts (.fieldLink RX9 42 "RasherCaseModel" "comes" "[I") (List.mem_of_getElem? (i := 1) rfl))
  have hl : lv_has ls 7 [(0, .ref a_this), (1, .int x1)] := hl
  unfold wp_Mo_look at h
  refine lv_aload_n hx hb dX9_look_0 rfl (lv_at hl 0 rfl) ?_
  refine lv_iload_n hx hb dX9_look_1 rfl (lv_at hl 1 rfl) ?_
  refine st_callRI (st_runVR (n := 1) (As := [.int x1]) (rest := []) (q0 := 0) F (co_Mo_isFlitch l D cy a_this a_row a_isKept a_refused a_text a_words a_cost a_steps a_mates a_bestMates a_comes s_above s_below s_length s_at s_behind s_readFlitches s_readFamilies s_doing s_row x1 _ h) gX9_look_X9_isFlitch rfl (by decide +kernel) rfl hKK hP [0, 3] rfl rfl rfl rfl hl.1 rfl (Nat.le_of_ble_eq_true rfl) dX9_look_2) (fun r_1 h => ?_)
  refine lv_if_ne (tgt := 15) hx hb dX9_look_5 (by decide) (fun c_2 => ?_) (fun c_2 => ?_)
  · have h := h.1 c_2
    refine lv_aload_n hx hb dX9_look_15 rfl (lv_at hl 0 rfl) ?_
    refine lv_iload_n hx hb dX9_look_16 rfl (lv_at hl 1 rfl) ?_
    refine st_callRI (st_runVR (n := 1) (As := [.int x1]) (rest := []) (q0 := 0) F (co_Mo_sortsOf l D cy a_this a_row a_isKept a_refused a_text a_words a_cost a_steps a_mates a_bestMates a_comes s_above s_below s_length s_at s_behind s_readFlitches s_readFamilies s_doing s_row x1 _ h) gX9_look_X9_sortsOf rfl (by decide +kernel) rfl hKK hP [0, 3] rfl rfl rfl rfl hl.1 rfl (Nat.le_of_ble_eq_true rfl) dX9_look_17) (fun r_3 h => ?_)
    refine lv_istore_n (lv' := [(2, .int r_3), (0, .ref a_this), (1, .int x1)]) hx hb dX9_look_20 rfl hl (by decide) rfl (fun ls hl => ?_)
    refine lv_iconst (v := (-1)) hx hb dX9_look_21 (by decide) ?_
    refine lv_istore_n (lv' := [(3, .int (-1)), (2, .int r_3), (0, .ref a_this), (1, .int x1)]) hx hb dX9_look_22 rfl hl (by decide) rfl (fun ls hl => ?_)
    refine lv_bipush (v := 99) hx hb dX9_look_23 (by decide) ?_
    refine lv_istore (lv' := [(4, .int 99), (3, .int (-1)), (2, .int r_3), (0, .ref a_this), (1, .int x1)]) hx hb dX9_look_25 hl (by decide) rfl (fun ls hl => ?_)
    refine lv_iconst (v := 0) hx hb dX9_look_27 (by decide) ?_
    refine lv_istore (lv' := [(5, .int 0), (4, .int 99), (3, .int (-1)), (2, .int r_3), (0, .ref a_this), (1, .int x1)]) hx hb dX9_look_28 hl (by decide) rfl (fun ls hl => ?_)
    obtain ⟨T30_7, hz30_7, hs30_7, n30_7, h⟩ := lpw4_use h
    have kT30_7 : ∀ (n : Nat) (x3_4 : Int32) (x4_5 : Int32) (x5_6 : Int32) (s_comes_7 : Nat → Int32) (H : Heap) (locs : List Loc) (ls : Array Slot), T30_7 n x3_4 x4_5 x5_6 s_comes_7 → va_P D vwCl (Wd_Mo_look cy a_this a_comes a_refused a_row a_isKept a_text a_words a_cost a_steps a_mates a_bestMates s_above s_below s_length s_at s_behind s_readFlitches s_readFamilies s_doing s_comes_7 s_refused s_row) H → va_D A (Wd_Mo_look cy a_this a_comes a_refused a_row a_isKept a_text a_words a_cost a_steps a_mates a_bestMates s_above s_below s_length s_at s_behind s_readFlitches s_readFamilies s_doing s_comes_7 s_refused s_row) → va_S A s.heap H locs → lv_has ls 7 [(0, .ref a_this), (1, .int x1), (2, .int r_3), (3, .int x3_4), (4, .int x4_5), (5, .int x5_6)] → W p l e rm_Mo_look s m args below meth c H locs 0 0 QQ (F0 m 30 ls []) := by
      intro n
      induction n with
      | zero => intro x3_4 x4_5 x5_6 s_comes_7 H locs ls h; exact absurd h (hz30_7 _ _ _ _)
      | succ n ih30_7 =>
        intro x3_4 x4_5 x5_6 s_comes_7 H locs ls h hP hD hS hl
        have h := hs30_7 _ _ _ _ _ h
        refine lv_iload hx hb dX9_look_30 (lv_at hl 5 rfl) ?_
        refine lv_bipush (v := 18) hx hb dX9_look_32 (by decide) ?_
        refine lv_icmp_ge (tgt := 139) hx hb dX9_look_34 (by decide) (fun c_9 => ?_) (fun c_9 => ?_)
        · have h := h.1 c_9
          refine lv_iload_n hx hb dX9_look_139 rfl (lv_at hl 3 rfl) ?_
          exact hret _ (s_comes_7, s_refused) _ _ _ _ h hP hD hS dX9_look_140
        · have h := h.2 c_9
          refine lv_iload_n hx hb dX9_look_37 rfl (lv_at hl 2 rfl) ?_
          refine lv_if_eq (tgt := 139) hx hb dX9_look_38 (by decide) (fun c_10 => ?_) (fun c_10 => ?_)
          · have h := h.1 c_10
            refine lv_iload_n hx hb dX9_look_139 rfl (lv_at hl 3 rfl) ?_
            exact hret _ (s_comes_7, s_refused) _ _ _ _ h hP hD hS dX9_look_140
          · have h := h.2 c_10
            refine lv_iconst (v := 0) hx hb dX9_look_41 (by decide) ?_
            refine lv_istore (lv' := [(6, .int 0), (0, .ref a_this), (1, .int x1), (2, .int r_3), (3, .int x3_4), (4, .int x4_5), (5, .int x5_6)]) hx hb dX9_look_42 hl (by decide) rfl (fun ls hl => ?_)
            obtain ⟨T44_12, hz44_12, hs44_12, n44_12, h⟩ := lpw2_use h
            have kT44_12 : ∀ (n : Nat) (x6_11 : Int32) (s_comes_12 : Nat → Int32) (H : Heap) (locs : List Loc) (ls : Array Slot), T44_12 n x6_11 s_comes_12 → va_P D vwCl (Wd_Mo_look cy a_this a_comes a_refused a_row a_isKept a_text a_words a_cost a_steps a_mates a_bestMates s_above s_below s_length s_at s_behind s_readFlitches s_readFamilies s_doing s_comes_12 s_refused s_row) H → va_D A (Wd_Mo_look cy a_this a_comes a_refused a_row a_isKept a_text a_words a_cost a_steps a_mates a_bestMates s_above s_below s_length s_at s_behind s_readFlitches s_readFamilies s_doing s_comes_12 s_refused s_row) → va_S A s.heap H locs → lv_has ls 7 [(0, .ref a_this), (1, .int x1), (2, .int r_3), (3, .int x3_4), (4, .int x4_5), (5, .int x5_6), (6, .int x6_11)] → W p l e rm_Mo_look s m args below meth c H locs 0 0 QQ (F0 m 44 ls []) := by
              intro n
              induction n with
              | zero => intro x6_11 s_comes_12 H locs ls h; exact absurd h (hz44_12 _ _)
              | succ n ih44_12 =>
                intro x6_11 s_comes_12 H locs ls h hP hD hS hl
                have h := hs44_12 _ _ _ h
                refine lv_iload hx hb dX9_look_44 (lv_at hl 6 rfl) ?_
                refine lv_bipush (v := 6) hx hb dX9_look_46 (by decide) ?_
                refine lv_icmp_ge (tgt := 86) hx hb dX9_look_48 (by decide) (fun c_14 => ?_) (fun c_14 => ?_)
                · have h := h.1 c_14
                  refine lv_aload_n hx hb dX9_look_86 rfl (lv_at hl 0 rfl) ?_
                  refine lv_iload_n hx hb dX9_look_87 rfl (lv_at hl 2 rfl) ?_
                  refine st_callRI (st_runVR (n := 1) (As := [.int r_3]) (rest := []) (q0 := 0) F (co_Mo_mostAlike l D cy a_this a_comes a_row a_isKept a_refused a_text a_words a_cost a_steps a_mates a_bestMates s_above s_below s_length s_at s_behind s_readFlitches s_readFamilies s_doing s_comes_12 r_3 _ h) gX9_look_X9_mostAlike rfl (by decide +kernel) rfl hKK hP [0, 1] rfl rfl rfl rfl hl.1 rfl (Nat.le_of_ble_eq_true rfl) dX9_look_88) (fun r_15 h => ?_)
                  refine lv_istore (lv' := [(6, .int r_15), (0, .ref a_this), (1, .int x1), (2, .int r_3), (3, .int x3_4), (4, .int x4_5), (5, .int x5_6)]) hx hb dX9_look_91 hl (by decide) rfl (fun ls hl => ?_)
                  refine lv_iload hx hb dX9_look_93 (lv_at hl 0 rfl) ?_
                  refine lv_iload hx hb dX9_look_95 (lv_at hl 5 rfl) ?_
                  obtain ⟨J116, hJ116, h⟩ := jn1_ex h
                  have kJ116_16 : ∀ (v_16 : Int32) (H : Heap) (locs : List Loc) (ls : Array Slot), J116 v_16 → va_P D vwCl (Wd_Mo_look cy a_this a_comes a_refused a_row a_isKept a_text a_words a_cost a_steps a_mates a_bestMates s_above s_below s_length s_at s_behind s_readFlitches s_readFamilies s_doing s_comes_12 s_refused s_row) H → va_D A (Wd_Mo_look cy a_this a_comes a_refused a_row a_isKept a_text a_words a_cost a_steps a_mates a_bestMates s_above s_below s_length s_at s_behind s_readFlitches s_readFamilies s_doing s_comes_12 s_refused s_row) → va_S A s.heap H locs → lv_has ls 7 [(0, .ref a_this), (1, .int x1), (2, .int r_3), (4, .int x4_5), (5, .int x5_6), (6, .int r_15)] → W p l e rm_Mo_look s m args below meth c H locs 0 0 QQ (F0 m 116 ls [.int v_16]) := by
                    intro v_16 H locs ls h hP hD hS hl
                    have h := hJ116 _ h
                    refine lv_istore_n (lv' := [(3, .int v_16), (0, .ref a_this), (1, .int x1), (2, .int r_3), (4, .int x4_5), (5, .int x5_6), (6, .int r_15)]) hx hb dX9_look_116 rfl hl (by decide) rfl (fun ls hl => ?_)
                    refine lv_iload hx hb dX9_look_117 (lv_at hl 6 rfl) ?_
                    refine lv_iload hx hb dX9_look_119 (lv_at hl 4 rfl) ?_
                    obtain ⟨J131, hJ131, h⟩ := jn1_ex h
                    have kJ131_18 : ∀ (v_18 : Int32) (H : Heap) (locs : List Loc) (ls : Array Slot), J131 v_18 → va_P D vwCl (Wd_Mo_look cy a_this a_comes a_refused a_row a_isKept a_text a_words a_cost a_steps a_mates a_bestMates s_above s_below s_length s_at s_behind s_readFlitches s_readFamilies s_doing s_comes_12 s_refused s_row) H → va_D A (Wd_Mo_look cy a_this a_comes a_refused a_row a_isKept a_text a_words a_cost a_steps a_mates a_bestMates s_above s_below s_length s_at s_behind s_readFlitches s_readFamilies s_doing s_comes_12 s_refused s_row) → va_S A s.heap H locs → lv_has ls 7 [(0, .ref a_this), (1, .int x1), (2, .int r_3), (3, .int v_16), (5, .int x5_6)] → W p l e rm_Mo_look s m args below meth c H locs 0 0 QQ (F0 m 131 ls [.int v_18]) := by
                      intro v_18 H locs ls h hP hD hS hl
                      have h := hJ131 _ h
                      refine lv_istore (lv' := [(4, .int v_18), (0, .ref a_this), (1, .int x1), (2, .int r_3), (3, .int v_16), (5, .int x5_6)]) hx hb dX9_look_131 hl (by decide) rfl (fun ls hl => ?_)
                      obtain ⟨x5_20, ex5_20⟩ : ∃ y : Int32, y = x5_6 + 1 := ⟨_, rfl⟩
                      have h := h x5_20 ex5_20
                      refine lv_iinc (v := x5_20) (lv' := [(5, .int x5_20), (4, .int v_18), (0, .ref a_this), (1, .int x1), (2, .int r_3), (3, .int v_16)]) hx hb dX9_look_133 hl (k := 5) rfl (by rw [ex5_20]; rfl) (by decide) rfl (fun ls hl => ?_)
                      refine lv_goto (tgt := 30) hx hb dX9_look_136 (by decide) ?_
                      exact ih30_7 _ _ _ _ _ _ _ h hP hD hS (lv_sub hl [2, 3, 4, 5, 1, 0] rfl)
                    refine lv_icmp_ge (tgt := 129) hx hb dX9_look_121 (by decide) (fun c_21 => ?_) (fun c_21 => ?_)
                    · have h := h.1 c_21
                      refine lv_iload hx hb dX9_look_129 (lv_at hl 4 rfl) ?_
                      exact kJ131_18 _ _ _ _ h hP hD hS (lv_sub hl [1, 2, 3, 0, 5] rfl)
                    · have h := h.2 c_21
                      refine lv_iload hx hb dX9_look_124 (lv_at hl 6 rfl) ?_
                      refine lv_goto (tgt := 131) hx hb dX9_look_126 (by decide) ?_
                      exact kJ131_18 _ _ _ _ h hP hD hS (lv_sub hl [1, 2, 3, 0, 5] rfl)
                  refine lv_icmp_ge (tgt := 115) hx hb dX9_look_97 (by decide) (fun c_22 => ?_) (fun c_22 => ?_)
                  · have h := h.1 c_22
                    refine lv_iload_n hx hb dX9_look_115 rfl (lv_at hl 4 rfl) ?_
                    exact kJ116_16 _ _ _ _ h hP hD hS (lv_sub hl [1, 2, 3, 5, 6, 0] rfl)
                  · have h := h.2 c_22
                    refine lv_bipush (v := 10) hx hb dX9_look_100 (by decide) ?_
                    refine lv_iload hx hb dX9_look_102 (lv_at hl 6 rfl) ?_
                    refine lv_iconst (v := 2) hx hb dX9_look_104 (by decide) ?_
                    refine lv_idiv hx hb dX9_look_105 (by decide) ?_
                    refine lv_imul hx hb dX9_look_106 ?_
                    refine lv_iload hx hb dX9_look_107 (lv_at hl 6 rfl) ?_
                    refine lv_iconst (v := 2) hx hb dX9_look_109 (by decide) ?_
                    refine lv_irem hx hb dX9_look_110 (by decide) ?_
                    refine lv_iadd hx hb dX9_look_111 ?_
                    refine lv_goto (tgt := 116) hx hb dX9_look_112 (by decide) ?_
                    exact kJ116_16 _ _ _ _ h hP hD hS (lv_sub hl [1, 2, 3, 5, 6, 0] rfl)
                · have h := h.2 c_14
                  refine lv_aload_n hx hb dX9_look_51 rfl (lv_at hl 0 rfl) ?_
                  refine va_get (D := D) (ci := 8) (v := .ref a_comes) (C := RX9) (T := TX9) (N := 18) hx hb hts in_X9 hown hK hP 0 rfl rfl 17 (by decide) fl_42 (fun _ h9 => h9) rfl dX9_look_52 ?_
                  refine lv_iload hx hb dX9_look_55 (lv_at hl 6 rfl) ?_
                  refine lv_iload hx hb dX9_look_57 (lv_at hl 6 rfl) ?_
                  refine lv_aload_n hx hb dX9_look_59 rfl (lv_at hl 0 rfl) ?_
                  refine va_get (D := D) (ci := 8) (v := .ref a_row) (C := RX9) (T := TX9) (N := 18) hx hb hts in_X9 hown hK hP 0 rfl rfl 0 (by decide) fl_7 (fun _ h9 => h9) rfl dX9_look_60 ?_
                  refine lv_bipush (v := 24) hx hb dX9_look_63 (by decide) ?_
                  refine lv_iload_n hx hb dX9_look_65 rfl (lv_at hl 1 rfl) ?_
                  refine lv_iadd hx hb dX9_look_66 ?_
                  obtain ⟨hi_23, h⟩ := h
                  refine va_iald hx hb hK hP 3 1 rfl rfl hi_23 dX9_look_67 ?_
                  refine lv_iload hx hb dX9_look_68 (lv_at hl 5 rfl) ?_
                  refine lv_iconst (v := 2) hx hb dX9_look_70 (by decide) ?_
                  refine lv_idiv hx hb dX9_look_71 (by decide) ?_
                  refine lv_iload hx hb dX9_look_72 (lv_at hl 5 rfl) ?_
                  refine lv_iconst (v := 2) hx hb dX9_look_74 (by decide) ?_
                  refine lv_irem hx hb dX9_look_75 (by decide) ?_
                  refine st_callRI (st_runSR (n := 4) (As := [.int x6_11, .int (s_row (Int32.toNatClampNeg (24 + x1))), .int (x5_6 / 2), .int (irem x5_6 2)]) (rest := [.int x6_11, .ref a_comes]) F (co_Mo_smellBy l D cy x6_11 (s_row (Int32.toNatClampNeg (24 + x1))) (x5_6 / 2) (irem x5_6 2) _ h) gX9_look_X9_smellBy rfl (by decide +kernel) rfl hKK hP [] rfl rfl hl.1 rfl (Nat.le_of_ble_eq_true rfl) dX9_look_76) (fun r_24 h => ?_)
                  obtain ⟨hi_25, h⟩ := h
                  refine va_iast hx hb hK hP hD hS 1 1 rfl rfl hi_25 dX9_look_79 (fun H locs hP hD hS => ?_)
                  obtain ⟨s_comes_26, es_comes_26⟩ : ∃ f : Nat → Int32, f = upd s_comes_12 (Int32.toNatClampNeg x6_11) r_24 := ⟨_, rfl⟩
                  have hP : va_P D vwCl (Wd_Mo_look cy a_this a_comes a_refused a_row a_isKept a_text a_words a_cost a_steps a_mates a_bestMates s_above s_below s_length s_at s_behind s_readFlitches s_readFamilies s_doing s_comes_26 s_refused s_row) H := by rw [es_comes_26]; exact hP
                  have hD : va_D A (Wd_Mo_look cy a_this a_comes a_refused a_row a_isKept a_text a_words a_cost a_steps a_mates a_bestMates s_above s_below s_length s_at s_behind s_readFlitches s_readFamilies s_doing s_comes_26 s_refused s_row) := by rw [es_comes_26]; exact hD
                  have h := h s_comes_26 es_comes_26
                  obtain ⟨x6_27, ex6_27⟩ : ∃ y : Int32, y = x6_11 + 1 := ⟨_, rfl⟩
                  have h := h x6_27 ex6_27
                  refine lv_iinc (v := x6_27) (lv' := [(6, .int x6_27), (0, .ref a_this), (1, .int x1), (2, .int r_3), (3, .int x3_4), (4, .int x4_5), (5, .int x5_6)]) hx hb dX9_look_80 hl (k := 6) rfl (by rw [ex6_27]; rfl) (by decide) rfl (fun ls hl => ?_)
                  refine lv_goto (tgt := 44) hx hb dX9_look_83 (by decide) ?_
                  exact ih44_12 _ _ _ _ _ h hP hD hS (lv_sub hl [1, 2, 3, 4, 5, 6, 0] rfl)
            exact kT44_12 n44_12 _ _ _ _ _ h hP hD hS (lv_sub hl [1, 2, 3, 4, 5, 6, 0] rfl)
    exact kT30_7 n30_7 _ _ _ _ _ _ _ h hP hD hS (lv_sub hl [4, 5, 3, 2, 1, 0] rfl)
  · have h := h.2 c_2
    refine lv_aload_n hx hb dX9_look_8 rfl (lv_at hl 0 rfl) ?_
    refine lv_bipush (v := (-2)) hx hb dX9_look_9 (by decide) ?_
    refine st_callI (WR := [1, 3].filterMap (fun i => (Wd_Mo_look cy a_this a_comes a_refused a_row a_isKept a_text a_words a_cost a_steps a_mates a_bestMates s_above s_below s_length s_at s_behind s_readFlitches s_readFamilies s_doing s_comes s_refused s_row)[i]?)) (WSn := fun u => (Wd_Mo_look cy a_this a_comes a_refused a_row a_isKept a_text a_words a_cost a_steps a_mates a_bestMates s_above s_below s_length s_at s_behind s_readFlitches s_readFamilies s_doing s_comes u s_row)) (st_runV (n := 1) (As := [.int (-2)]) (rest := []) (q0 := 0) F ((co_Mo_refuse l D cy a_this a_refused a_row a_isKept a_text a_words a_cost a_steps a_mates a_bestMates a_comes s_above s_below s_length s_at s_behind s_readFlitches s_readFamilies s_doing s_refused (-2) _ h) _) rfl gX9_look_X9_refuse rfl (by decide +kernel) rfl hKK hP hD [0, 2] rfl rfl rfl rfl rfl hl.1 rfl (Nat.le_of_ble_eq_true rfl) dX9_look_11) hP hD hS hA [0, 2] [1, 3] [2, 0, 3, 1] rfl rfl rfl (fun _ => rfl) (fun r_28 u H locs h hP hD hS => ?_)
    obtain ⟨s_refused_29, rfl⟩ : ∃ z, z = u := ⟨_, rfl⟩
    have hP : va_P D vwCl (Wd_Mo_look cy a_this a_comes a_refused a_row a_isKept a_text a_words a_cost a_steps a_mates a_bestMates s_above s_below s_length s_at s_behind s_readFlitches s_readFamilies s_doing s_comes s_refused_29 s_row) H := hP
    have hD : va_D A (Wd_Mo_look cy a_this a_comes a_refused a_row a_isKept a_text a_words a_cost a_steps a_mates a_bestMates s_above s_below s_length s_at s_behind s_readFlitches s_readFamilies s_doing s_comes s_refused_29 s_row) := hD
    exact hret _ (s_comes, s_refused_29) _ _ _ _ h hP hD hS dX9_look_14
abbrev Wd_Mo_kindsOf (cy : ClassId × ClassId × ClassId × ClassId) (a_this a_row a_isKept a_refused a_text a_words a_cost a_steps a_mates a_bestMates a_comes : Nat) (s_above : Int64) (s_below : Int64) (s_length : Int32) (s_at : Int32) (s_behind : Int32) (s_readFlitches : Int32) (s_readFamilies : Int32) (s_doing : Int32) (s_row : Nat → Int32) : va_W := [(a_this, .inr (8, [.ref a_row, .ref a_isKept, .ref a_refused, .long s_above, .long s_below, .ref a_text, .int s_length, .ref a_words, .int s_at, .int s_behind, .int s_readFlitches, .int s_readFamilies, .int s_doing, .ref a_cost, .ref a_steps, .ref a_mates, .ref a_bestMates, .ref a_comes])), (a_row, .inl (cy.2.1, 770, .inl s_row))]
abbrev rm_Mo_kindsOf : Room := { frames := 1, cells := 0, slots := 0, locals := 25 }
def wp_Mo_kindsOf (x1 : Int32) (s_row : Nat → Int32) (Q : Int32 → Prop) : Prop := ∃ n : Nat, lpw2 (fun (B6 : Int32 → Int32 → Prop) (x2_1 : Int32) (x3_2 : Int32) => (((90 + (4 * (s_row (Int32.toNatClampNeg 89)))) ≤ x3_2 → Q x2_1) ∧ (¬ (90 + (4 * (s_row (Int32.toNatClampNeg 89)))) ≤ x3_2 → ∃ n : Nat, lpw2 (fun (B25 : Int32 → Int32 → Prop) (x2_5 : Int32) (x4_6 : Int32) => ((6 ≤ x4_6 → ∀ x3_9 : Int32, x3_9 = x3_2 + 4 → B6 x2_5 x3_9) ∧ (¬ 6 ≤ x4_6 → vp_in x3_2 770 ∧ jn1 (fun (J79 : Int32 → Prop) => jn0 (fun (J74 : Prop) => ((¬ (s_row (Int32.toNatClampNeg x3_2)) = x1 → J74) ∧ ((s_row (Int32.toNatClampNeg x3_2)) = x1 → vp_in (x3_2 + 1) 770 ∧ vp_in (x3_2 + 2) 770 ∧ wp_Mo_takesBy x4_6 (s_row (Int32.toNatClampNeg (x3_2 + 1))) (s_row (Int32.toNatClampNeg (x3_2 + 2))) (fun (r_22 : Int32) => vp_in (x3_2 + 3) 770 ∧ ((¬ r_22 = (s_row (Int32.toNatClampNeg (x3_2 + 3))) → J79 0) ∧ (r_22 = (s_row (Int32.toNatClampNeg (x3_2 + 3))) → J74)))))) (J79 1)) (fun (v_11 : Int32) => jn1 (fun (J98 : Int32 → Prop) => ((v_11 = 0 → J98 ((ishl 1 x4_6) ^^^ (-1))) ∧ (¬ v_11 = 0 → J98 63))) (fun (v_13 : Int32) => ∀ x2_15 : Int32, x2_15 = (x2_5 &&& v_13) → ∀ x4_16 : Int32, x4_16 = x4_6 + 1 → B25 x2_15 x4_16))))) n x2_1 0))) n 63 90
set_option maxHeartbeats 4000000 in
set_option maxRecDepth 100000 in
theorem co_Mo_kindsOf (l : Launch) (D : va_G) (cy : ClassId × ClassId × ClassId × ClassId) (a_this a_row a_isKept a_refused a_text a_words a_cost a_steps a_mates a_bestMates a_comes : Nat) (s_above : Int64) (s_below : Int64) (s_length : Int32) (s_at : Int32) (s_behind : Int32) (s_readFlitches : Int32) (s_readFamilies : Int32) (s_doing : Int32) (s_row : Nat → Int32) (x1 : Int32) (Q : Int32 → Prop) (h : wp_Mo_kindsOf x1 s_row Q) : RoI l yX9_kindsOf wsX9_kindsOf rm_Mo_kindsOf D cy [.ref a_this, .int x1] (Wd_Mo_kindsOf cy a_this a_row a_isKept a_refused a_text a_words a_cost a_steps a_mates a_bestMates a_comes s_above s_below s_length s_at s_behind s_readFlitches s_readFamilies s_doing s_row) Q := by
  refine st_metRI (cc := cX9_kindsOf) (maxL := 6) RX9 (by decide) rfl rfl (Nat.le_of_ble_eq_true rfl) ?_
  intro p e s m args below meth c QQ ls F hKK hP hl hret
  have hK := hKK.1
  have hnest := hKK.2.1
  have hx := F.1
  have hb := F.2.1
  have hown := F.2.2.2.1
  have hts := F.2.2.2.2
  have in_X9 : ∀ w ∈ u_ws RX9 TX9 18, w ∈ wsX9_kindsOf := (fun _ h => List.mem_cons_of_mem _ (List.mem_append_right _ h))
  have fl_7 := (hts (.fieldLink RX9 7 "RasherCaseModel" "row" "[I") (List.mem_of_getElem? (i := 1) rfl))
  have hl : lv_has ls 6 [(0, .ref a_this), (1, .int x1)] := hl
  unfold wp_Mo_kindsOf at h
  refine lv_bipush (v := 63) hx hb dX9_kindsOf_0 (by decide) ?_
  refine lv_istore_n (lv' := [(2, .int 63), (0, .ref a_this), (1, .int x1)]) hx hb dX9_kindsOf_2 rfl hl (by decide) rfl (fun ls hl => ?_)
  refine lv_bipush (v := 90) hx hb dX9_kindsOf_3 (by decide) ?_
  refine lv_istore_n (lv' := [(3, .int 90), (2, .int 63), (0, .ref a_this), (1, .int x1)]) hx hb dX9_kindsOf_5 rfl hl (by decide) rfl (fun ls hl => ?_)
  obtain ⟨T6_2, hz6_2, hs6_2, n6_2, h⟩ := lpw2_use h
  have kT6_2 : ∀ (n : Nat) (x2_1 : Int32) (x3_2 : Int32) (ls : Array Slot), T6_2 n x2_1 x3_2 → lv_has ls 6 [(0, .ref a_this), (1, .int x1), (2, .int x2_1), (3, .int x3_2)] → W p l e rm_Mo_kindsOf s m args below meth c s.heap [] 0 0 QQ (F0 m 6 ls []) := by
    intro n
    induction n with
    | zero => intro x2_1 x3_2 ls h; exact absurd h (hz6_2 _ _)
    | succ n ih6_2 =>
      intro x2_1 x3_2 ls h hl
      have h := hs6_2 _ _ _ h
      refine lv_iload_n hx hb dX9_kindsOf_6 rfl (lv_at hl 3 rfl) ?_
      refine lv_bipush (v := 90) hx hb dX9_kindsOf_7 (by decide) ?_
      refine lv_iconst (v := 4) hx hb dX9_kindsOf_9 (by decide) ?_
      refine lv_aload_n hx hb dX9_kindsOf_10 rfl (lv_at hl 0 rfl) ?_
      refine va_get (D := D) (ci := 8) (v := .ref a_row) (C := RX9) (T := TX9) (N := 18) hx hb hts in_X9 hown hK hP 0 rfl rfl 0 (by decide) fl_7 (fun _ h9 => h9) rfl dX9_kindsOf_11 ?_
      refine lv_bipush (v := 89) hx hb dX9_kindsOf_14 (by decide) ?_
      refine va_iald hx hb hK hP 1 1 rfl rfl (by unfold vp_in; decide) dX9_kindsOf_16 ?_
      refine lv_imul hx hb dX9_kindsOf_17 ?_
      refine lv_iadd hx hb dX9_kindsOf_18 ?_
      refine lv_icmp_ge (tgt := 112) hx hb dX9_kindsOf_19 (by decide) (fun c_4 => ?_) (fun c_4 => ?_)
      · have h := h.1 c_4
        refine lv_iload_n hx hb dX9_kindsOf_112 rfl (lv_at hl 2 rfl) ?_
        exact hret _ _ _ h dX9_kindsOf_113
      · have h := h.2 c_4
        refine lv_iconst (v := 0) hx hb dX9_kindsOf_22 (by decide) ?_
        refine lv_istore (lv' := [(4, .int 0), (0, .ref a_this), (1, .int x1), (2, .int x2_1), (3, .int x3_2)]) hx hb dX9_kindsOf_23 hl (by decide) rfl (fun ls hl => ?_)
        obtain ⟨T25_6, hz25_6, hs25_6, n25_6, h⟩ := lpw2_use h
        have kT25_6 : ∀ (n : Nat) (x2_5 : Int32) (x4_6 : Int32) (ls : Array Slot), T25_6 n x2_5 x4_6 → lv_has ls 6 [(0, .ref a_this), (1, .int x1), (2, .int x2_5), (3, .int x3_2), (4, .int x4_6)] → W p l e rm_Mo_kindsOf s m args below meth c s.heap [] 0 0 QQ (F0 m 25 ls []) := by
          intro n
          induction n with
          | zero => intro x2_5 x4_6 ls h; exact absurd h (hz25_6 _ _)
          | succ n ih25_6 =>
            intro x2_5 x4_6 ls h hl
            have h := hs25_6 _ _ _ h
            refine lv_iload hx hb dX9_kindsOf_25 (lv_at hl 4 rfl) ?_
            refine lv_bipush (v := 6) hx hb dX9_kindsOf_27 (by decide) ?_
            refine lv_icmp_ge (tgt := 106) hx hb dX9_kindsOf_29 (by decide) (fun c_8 => ?_) (fun c_8 => ?_)
            · have h := h.1 c_8
              obtain ⟨x3_9, ex3_9⟩ : ∃ y : Int32, y = x3_2 + 4 := ⟨_, rfl⟩
              have h := h x3_9 ex3_9
              refine lv_iinc (v := x3_9) (lv' := [(3, .int x3_9), (0, .ref a_this), (1, .int x1), (2, .int x2_5), (4, .int x4_6)]) hx hb dX9_kindsOf_106 hl (k := 3) rfl (by rw [ex3_9]; rfl) (by decide) rfl (fun ls hl => ?_)
              refine lv_goto (tgt := 6) hx hb dX9_kindsOf_109 (by decide) ?_
              exact ih6_2 _ _ _ h (lv_sub hl [1, 2, 3, 0] rfl)
            · have h := h.2 c_8
              refine lv_aload_n hx hb dX9_kindsOf_32 rfl (lv_at hl 0 rfl) ?_
              refine va_get (D := D) (ci := 8) (v := .ref a_row) (C := RX9) (T := TX9) (N := 18) hx hb hts in_X9 hown hK hP 0 rfl rfl 0 (by decide) fl_7 (fun _ h9 => h9) rfl dX9_kindsOf_33 ?_
              refine lv_iload_n hx hb dX9_kindsOf_36 rfl (lv_at hl 3 rfl) ?_
              obtain ⟨hi_10, h⟩ := h
              refine va_iald hx hb hK hP 1 1 rfl rfl hi_10 dX9_kindsOf_37 ?_
              refine lv_iload_n hx hb dX9_kindsOf_38 rfl (lv_at hl 1 rfl) ?_
              obtain ⟨J79, hJ79, h⟩ := jn1_ex h
              have kJ79_11 : ∀ (v_11 : Int32) (ls : Array Slot), J79 v_11 → lv_has ls 6 [(0, .ref a_this), (1, .int x1), (2, .int x2_5), (3, .int x3_2), (4, .int x4_6)] → W p l e rm_Mo_kindsOf s m args below meth c s.heap [] 0 0 QQ (F0 m 79 ls [.int v_11]) := by
                intro v_11 ls h hl
                have h := hJ79 _ h
                refine lv_istore (lv' := [(5, .int v_11), (0, .ref a_this), (1, .int x1), (2, .int x2_5), (3, .int x3_2), (4, .int x4_6)]) hx hb dX9_kindsOf_79 hl (by decide) rfl (fun ls hl => ?_)
                refine lv_iload_n hx hb dX9_kindsOf_81 rfl (lv_at hl 3 rfl) ?_
                refine lv_iload hx hb dX9_kindsOf_82 (lv_at hl 0 rfl) ?_
                obtain ⟨J98, hJ98, h⟩ := jn1_ex h
                have kJ98_13 : ∀ (v_13 : Int32) (ls : Array Slot), J98 v_13 → lv_has ls 6 [(0, .ref a_this), (1, .int x1), (3, .int x3_2), (4, .int x4_6)] → W p l e rm_Mo_kindsOf s m args below meth c s.heap [] 0 0 QQ (F0 m 98 ls [.int v_13, .int x2_5]) := by
                  intro v_13 ls h hl
                  have h := hJ98 _ h
                  refine lv_iand hx hb dX9_kindsOf_98 ?_
                  refine lv_topi (fun x2_15 ex2_15 => ?_)
                  have h := h x2_15 ex2_15
                  refine lv_istore_n (lv' := [(2, .int x2_15), (0, .ref a_this), (1, .int x1), (3, .int x3_2), (4, .int x4_6)]) hx hb dX9_kindsOf_99 rfl hl (by decide) rfl (fun ls hl => ?_)
                  obtain ⟨x4_16, ex4_16⟩ : ∃ y : Int32, y = x4_6 + 1 := ⟨_, rfl⟩
                  have h := h x4_16 ex4_16
                  refine lv_iinc (v := x4_16) (lv' := [(4, .int x4_16), (2, .int x2_15), (0, .ref a_this), (1, .int x1), (3, .int x3_2)]) hx hb dX9_kindsOf_100 hl (k := 4) rfl (by rw [ex4_16]; rfl) (by decide) rfl (fun ls hl => ?_)
                  refine lv_goto (tgt := 25) hx hb dX9_kindsOf_103 (by decide) ?_
                  exact ih25_6 _ _ _ h (lv_sub hl [2, 3, 1, 4, 0] rfl)
                refine lv_if_eq (tgt := 92) hx hb dX9_kindsOf_84 (by decide) (fun c_17 => ?_) (fun c_17 => ?_)
                · have h := h.1 c_17
                  refine lv_iconst (v := 1) hx hb dX9_kindsOf_92 (by decide) ?_
                  refine lv_iload hx hb dX9_kindsOf_93 (lv_at hl 5 rfl) ?_
                  refine lv_ishl hx hb dX9_kindsOf_95 ?_
                  refine lv_iconst (v := (-1)) hx hb dX9_kindsOf_96 (by decide) ?_
                  refine lv_ixor hx hb dX9_kindsOf_97 ?_
                  exact kJ98_13 _ _ h (lv_sub hl [1, 2, 4, 5] rfl)
                · have h := h.2 c_17
                  refine lv_bipush (v := 63) hx hb dX9_kindsOf_87 (by decide) ?_
                  refine lv_goto (tgt := 98) hx hb dX9_kindsOf_89 (by decide) ?_
                  exact kJ98_13 _ _ h (lv_sub hl [1, 2, 4, 5] rfl)
              obtain ⟨J74, hJ74, h⟩ := jn0_ex h
              have kJ74_17 : ∀  (ls : Array Slot), J74 → lv_has ls 6 [(0, .ref a_this), (1, .int x1), (2, .int x2_5), (3, .int x3_2), (4, .int x4_6)] → W p l e rm_Mo_kindsOf s m args below meth c s.heap [] 0 0 QQ (F0 m 74 ls []) := by
                intro  ls h hl
                have h := hJ74  h
                refine lv_iconst (v := 1) hx hb dX9_kindsOf_74 (by decide) ?_
                refine lv_goto (tgt := 79) hx hb dX9_kindsOf_75 (by decide) ?_
                exact kJ79_11 _ _ h (lv_sub hl [0, 1, 2, 3, 4] rfl)
              refine lv_icmp_ne (tgt := 74) hx hb dX9_kindsOf_39 (by decide) (fun c_19 => ?_) (fun c_19 => ?_)
              · have h := h.1 c_19
                exact kJ74_17  _ h (lv_sub hl [0, 1, 2, 3, 4] rfl)
              · have h := h.2 c_19
                refine lv_iload hx hb dX9_kindsOf_42 (lv_at hl 4 rfl) ?_
                refine lv_aload_n hx hb dX9_kindsOf_44 rfl (lv_at hl 0 rfl) ?_
                refine va_get (D := D) (ci := 8) (v := .ref a_row) (C := RX9) (T := TX9) (N := 18) hx hb hts in_X9 hown hK hP 0 rfl rfl 0 (by decide) fl_7 (fun _ h9 => h9) rfl dX9_kindsOf_45 ?_
                refine lv_iload_n hx hb dX9_kindsOf_48 rfl (lv_at hl 3 rfl) ?_
                refine lv_iconst (v := 1) hx hb dX9_kindsOf_49 (by decide) ?_
                refine lv_iadd hx hb dX9_kindsOf_50 ?_
                obtain ⟨hi_20, h⟩ := h
                refine va_iald hx hb hK hP 1 1 rfl rfl hi_20 dX9_kindsOf_51 ?_
                refine lv_aload_n hx hb dX9_kindsOf_52 rfl (lv_at hl 0 rfl) ?_
                refine va_get (D := D) (ci := 8) (v := .ref a_row) (C := RX9) (T := TX9) (N := 18) hx hb hts in_X9 hown hK hP 0 rfl rfl 0 (by decide) fl_7 (fun _ h9 => h9) rfl dX9_kindsOf_53 ?_
                refine lv_iload_n hx hb dX9_kindsOf_56 rfl (lv_at hl 3 rfl) ?_
                refine lv_iconst (v := 2) hx hb dX9_kindsOf_57 (by decide) ?_
                refine lv_iadd hx hb dX9_kindsOf_58 ?_
                obtain ⟨hi_21, h⟩ := h
                refine va_iald hx hb hK hP 1 1 rfl rfl hi_21 dX9_kindsOf_59 ?_
                refine st_callRI (st_runSR (n := 3) (As := [.int x4_6, .int (s_row (Int32.toNatClampNeg (x3_2 + 1))), .int (s_row (Int32.toNatClampNeg (x3_2 + 2)))]) (rest := []) F (co_Mo_takesBy l D cy x4_6 (s_row (Int32.toNatClampNeg (x3_2 + 1))) (s_row (Int32.toNatClampNeg (x3_2 + 2))) _ h) gX9_kindsOf_X9_takesBy rfl (by decide +kernel) rfl hKK hP [] rfl rfl hl.1 rfl (Nat.le_of_ble_eq_true rfl) dX9_kindsOf_60) (fun r_22 h => ?_)
                refine lv_aload_n hx hb dX9_kindsOf_63 rfl (lv_at hl 0 rfl) ?_
                refine va_get (D := D) (ci := 8) (v := .ref a_row) (C := RX9) (T := TX9) (N := 18) hx hb hts in_X9 hown hK hP 0 rfl rfl 0 (by decide) fl_7 (fun _ h9 => h9) rfl dX9_kindsOf_64 ?_
                refine lv_iload_n hx hb dX9_kindsOf_67 rfl (lv_at hl 3 rfl) ?_
                refine lv_iconst (v := 3) hx hb dX9_kindsOf_68 (by decide) ?_
                refine lv_iadd hx hb dX9_kindsOf_69 ?_
                obtain ⟨hi_23, h⟩ := h
                refine va_iald hx hb hK hP 1 1 rfl rfl hi_23 dX9_kindsOf_70 ?_
                refine lv_icmp_ne (tgt := 78) hx hb dX9_kindsOf_71 (by decide) (fun c_24 => ?_) (fun c_24 => ?_)
                · have h := h.1 c_24
                  refine lv_iconst (v := 0) hx hb dX9_kindsOf_78 (by decide) ?_
                  exact kJ79_11 _ _ h (lv_sub hl [0, 1, 2, 3, 4] rfl)
                · have h := h.2 c_24
                  exact kJ74_17  _ h (lv_sub hl [0, 1, 2, 3, 4] rfl)
        exact kT25_6 n25_6 _ _ _ h (lv_sub hl [1, 2, 3, 4, 0] rfl)
  exact kT6_2 n6_2 _ _ _ h (lv_sub hl [2, 3, 1, 0] rfl)
abbrev Wd_Mo_kinds (cy : ClassId × ClassId × ClassId × ClassId) (a_this a_refused a_row a_isKept a_text a_words a_cost a_steps a_mates a_bestMates a_comes : Nat) (s_above : Int64) (s_below : Int64) (s_length : Int32) (s_at : Int32) (s_behind : Int32) (s_readFlitches : Int32) (s_readFamilies : Int32) (s_doing : Int32) (s_refused : Nat → Int32) (s_row : Nat → Int32) : va_W := [(a_this, .inr (8, [.ref a_row, .ref a_isKept, .ref a_refused, .long s_above, .long s_below, .ref a_text, .int s_length, .ref a_words, .int s_at, .int s_behind, .int s_readFlitches, .int s_readFamilies, .int s_doing, .ref a_cost, .ref a_steps, .ref a_mates, .ref a_bestMates, .ref a_comes])), (a_refused, .inl (cy.2.1, 3, .inl s_refused)), (a_row, .inl (cy.2.1, 770, .inl s_row))]
abbrev rm_Mo_kinds : Room := { frames := 2, cells := 0, slots := 0, locals := 50 }
def wp_Mo_kinds (x1 : Int32) (s_refused : Nat → Int32) (s_row : Nat → Int32) (Q : Int32 → (Nat → Int32) → Prop) : Prop := wp_Mo_isFamily x1 s_row (fun (r_1 : Int32) => ((r_1 = 0 → wp_Mo_refuse (-2) s_refused (fun (r_3 : Int32) (s_refused_4 : Nat → Int32) => Q r_3 s_refused_4)) ∧ (¬ r_1 = 0 → wp_Mo_kindsOf x1 s_row (fun (r_5 : Int32) => Q r_5 s_refused))))
set_option maxHeartbeats 4000000 in
set_option maxRecDepth 100000 in
theorem co_Mo_kinds (l : Launch) (D : va_G) (cy : ClassId × ClassId × ClassId × ClassId) (a_this a_refused a_row a_isKept a_text a_words a_cost a_steps a_mates a_bestMates a_comes : Nat) (s_above : Int64) (s_below : Int64) (s_length : Int32) (s_at : Int32) (s_behind : Int32) (s_readFlitches : Int32) (s_readFamilies : Int32) (s_doing : Int32) (s_refused : Nat → Int32) (s_row : Nat → Int32) (x1 : Int32) (Q : Int32 → (Nat → Int32) → Prop) (h : wp_Mo_kinds x1 s_refused s_row Q) : CoI l yX9_kinds wsX9_kinds rm_Mo_kinds D cy [.ref a_this, .int x1] (Wd_Mo_kinds cy a_this a_refused a_row a_isKept a_text a_words a_cost a_steps a_mates a_bestMates a_comes s_above s_below s_length s_at s_behind s_readFlitches s_readFamilies s_doing s_refused s_row) (fun u : (Nat → Int32) => (Wd_Mo_kinds cy a_this a_refused a_row a_isKept a_text a_words a_cost a_steps a_mates a_bestMates a_comes s_above s_below s_length s_at s_behind s_readFlitches s_readFamilies s_doing u s_row)) (fun (r : Int32) (u : (Nat → Int32)) => Q r u) := by
  refine st_metI (cc := cX9_kinds) (maxL := 2) RX9 (by decide) rfl rfl (Nat.le_of_ble_eq_true rfl) ?_
  intro p e s m args below meth c A QQ ls F hA hKK hP hD hS hl hret
  have hK := hKK.1
  have hnest := hKK.2.1
  have hx := F.1
  have hb := F.2.1
  have hown := F.2.2.2.1
  have hts := F.2.2.2.2
  have hl : lv_has ls 2 [(0, .ref a_this), (1, .int x1)] := hl
  unfold wp_Mo_kinds at h
  refine lv_aload_n hx hb dX9_kinds_0 rfl (lv_at hl 0 rfl) ?_
  refine lv_iload_n hx hb dX9_kinds_1 rfl (lv_at hl 1 rfl) ?_
  refine st_callRI (st_runVR (n := 1) (As := [.int x1]) (rest := []) (q0 := 0) F (co_Mo_isFamily l D cy a_this a_row a_isKept a_refused a_text a_words a_cost a_steps a_mates a_bestMates a_comes s_above s_below s_length s_at s_behind s_readFlitches s_readFamilies s_doing s_row x1 _ h) gX9_kinds_X9_isFamily rfl (by decide +kernel) rfl hKK hP [0, 2] rfl rfl rfl rfl hl.1 rfl (Nat.le_of_ble_eq_true rfl) dX9_kinds_2) (fun r_1 h => ?_)
  refine lv_if_eq (tgt := 16) hx hb dX9_kinds_5 (by decide) (fun c_2 => ?_) (fun c_2 => ?_)
  · have h := h.1 c_2
    refine lv_aload_n hx hb dX9_kinds_16 rfl (lv_at hl 0 rfl) ?_
    refine lv_bipush (v := (-2)) hx hb dX9_kinds_17 (by decide) ?_
    refine st_callI (WR := [2].filterMap (fun i => (Wd_Mo_kinds cy a_this a_refused a_row a_isKept a_text a_words a_cost a_steps a_mates a_bestMates a_comes s_above s_below s_length s_at s_behind s_readFlitches s_readFamilies s_doing s_refused s_row)[i]?)) (WSn := fun u => (Wd_Mo_kinds cy a_this a_refused a_row a_isKept a_text a_words a_cost a_steps a_mates a_bestMates a_comes s_above s_below s_length s_at s_behind s_readFlitches s_readFamilies s_doing u s_row)) (st_runV (n := 1) (As := [.int (-2)]) (rest := []) (q0 := 0) F ((co_Mo_refuse l D cy a_this a_refused a_row a_isKept a_text a_words a_cost a_steps a_mates a_bestMates a_comes s_above s_below s_length s_at s_behind s_readFlitches s_readFamilies s_doing s_refused (-2) _ h) _) rfl gX9_kinds_X9_refuse rfl (by decide +kernel) rfl hKK hP hD [0, 1] rfl rfl rfl rfl rfl hl.1 rfl (Nat.le_of_ble_eq_true rfl) dX9_kinds_19) hP hD hS hA [0, 1] [2] [1, 2, 0] rfl rfl rfl (fun _ => rfl) (fun r_3 u H locs h hP hD hS => ?_)
    obtain ⟨s_refused_4, rfl⟩ : ∃ z, z = u := ⟨_, rfl⟩
    have hP : va_P D vwCl (Wd_Mo_kinds cy a_this a_refused a_row a_isKept a_text a_words a_cost a_steps a_mates a_bestMates a_comes s_above s_below s_length s_at s_behind s_readFlitches s_readFamilies s_doing s_refused_4 s_row) H := hP
    have hD : va_D A (Wd_Mo_kinds cy a_this a_refused a_row a_isKept a_text a_words a_cost a_steps a_mates a_bestMates a_comes s_above s_below s_length s_at s_behind s_readFlitches s_readFamilies s_doing s_refused_4 s_row) := hD
    exact hret _ (s_refused_4) _ _ _ _ h hP hD hS dX9_kinds_22
  · have h := h.2 c_2
    refine lv_aload_n hx hb dX9_kinds_8 rfl (lv_at hl 0 rfl) ?_
    refine lv_iload_n hx hb dX9_kinds_9 rfl (lv_at hl 1 rfl) ?_
    refine st_callRI (st_runVR (n := 1) (As := [.int x1]) (rest := []) (q0 := 0) F (co_Mo_kindsOf l D cy a_this a_row a_isKept a_refused a_text a_words a_cost a_steps a_mates a_bestMates a_comes s_above s_below s_length s_at s_behind s_readFlitches s_readFamilies s_doing s_row x1 _ h) gX9_kinds_X9_kindsOf rfl (by decide +kernel) rfl hKK hP [0, 2] rfl rfl rfl rfl hl.1 rfl (Nat.le_of_ble_eq_true rfl) dX9_kinds_10) (fun r_5 h => ?_)
    refine lv_goto (tgt := 22) hx hb dX9_kinds_13 (by decide) ?_
    exact hret _ (s_refused) _ _ _ _ h hP hD hS dX9_kinds_22
abbrev Wd_Mo_ask (cy : ClassId × ClassId × ClassId × ClassId) (a_this a_comes a_refused a_row a_isKept a_text a_words a_cost a_steps a_mates a_bestMates : Nat) (s_above : Int64) (s_below : Int64) (s_length : Int32) (s_at : Int32) (s_behind : Int32) (s_readFlitches : Int32) (s_readFamilies : Int32) (s_doing : Int32) (s_comes : Nat → Int32) (s_refused : Nat → Int32) (s_row : Nat → Int32) : va_W := [(a_this, .inr (8, [.ref a_row, .ref a_isKept, .ref a_refused, .long s_above, .long s_below, .ref a_text, .int s_length, .ref a_words, .int s_at, .int s_behind, .int s_readFlitches, .int s_readFamilies, .int s_doing, .ref a_cost, .ref a_steps, .ref a_mates, .ref a_bestMates, .ref a_comes])), (a_comes, .inl (cy.2.1, 6, .inl s_comes)), (a_refused, .inl (cy.2.1, 3, .inl s_refused)), (a_row, .inl (cy.2.1, 770, .inl s_row))]
abbrev rm_Mo_ask : Room := { frames := 2, cells := 0, slots := 0, locals := 50 }
def wp_Mo_ask (x1 : Int32) (s_comes : Nat → Int32) (s_refused : Nat → Int32) (s_row : Nat → Int32) (Q : Int32 → (Nat → Int32) → (Nat → Int32) → Prop) : Prop := wp_Mo_isFamily x1 s_row (fun (r_1 : Int32) => ((¬ r_1 = 0 → wp_Mo_kindsOf x1 s_row (fun (r_3 : Int32) => ∃ n : Nat, lpw4 (fun (B30 : Int32 → Int32 → Int32 → (Nat → Int32) → Prop) (x3_4 : Int32) (x4_5 : Int32) (x5_6 : Int32) (s_comes_7 : Nat → Int32) => ((122 ≤ x5_6 → Q x3_4 s_comes_7 s_refused) ∧ (¬ 122 ≤ x5_6 → ((r_3 = 0 → Q x3_4 s_comes_7 s_refused) ∧ (¬ r_3 = 0 → ∃ n : Nat, lpw2 (fun (B44 : Int32 → (Nat → Int32) → Prop) (x6_11 : Int32) (s_comes_12 : Nat → Int32) => ((6 ≤ x6_11 → wp_Mo_mostAlike r_3 s_comes_12 (fun (r_15 : Int32) => jn1 (fun (J111 : Int32 → Prop) => ((x4_5 ≤ r_15 → J111 x3_4) ∧ (¬ x4_5 ≤ r_15 → J111 ((100 * (x5_6 / 61)) + (irem x5_6 61))))) (fun (v_16 : Int32) => jn1 (fun (J126 : Int32 → Prop) => ((x4_5 ≤ r_15 → J126 x4_5) ∧ (¬ x4_5 ≤ r_15 → J126 r_15))) (fun (v_18 : Int32) => ∀ x5_20 : Int32, x5_20 = x5_6 + 1 → B30 v_16 v_18 x5_20 s_comes_12)))) ∧ (¬ 6 ≤ x6_11 → wp_Mo_takesBy x6_11 (irem x5_6 61) (x5_6 / 61) (fun (r_23 : Int32) => vp_in x6_11 6 ∧ ∀ s_comes_25 : Nat → Int32, s_comes_25 = upd s_comes_12 (Int32.toNatClampNeg x6_11) r_23 → ∀ x6_26 : Int32, x6_26 = x6_11 + 1 → B44 x6_26 s_comes_25)))) n 0 s_comes_7))))) n (-1) 99 0 s_comes)) ∧ (r_1 = 0 → wp_Mo_refuse (-2) s_refused (fun (r_27 : Int32) (s_refused_28 : Nat → Int32) => Q r_27 s_comes s_refused_28))))
set_option maxHeartbeats 4000000 in
set_option maxRecDepth 100000 in
theorem co_Mo_ask (l : Launch) (D : va_G) (cy : ClassId × ClassId × ClassId × ClassId) (a_this a_comes a_refused a_row a_isKept a_text a_words a_cost a_steps a_mates a_bestMates : Nat) (s_above : Int64) (s_below : Int64) (s_length : Int32) (s_at : Int32) (s_behind : Int32) (s_readFlitches : Int32) (s_readFamilies : Int32) (s_doing : Int32) (s_comes : Nat → Int32) (s_refused : Nat → Int32) (s_row : Nat → Int32) (x1 : Int32) (Q : Int32 → (Nat → Int32) → (Nat → Int32) → Prop) (h : wp_Mo_ask x1 s_comes s_refused s_row Q) : CoI l yX9_ask wsX9_ask rm_Mo_ask D cy [.ref a_this, .int x1] (Wd_Mo_ask cy a_this a_comes a_refused a_row a_isKept a_text a_words a_cost a_steps a_mates a_bestMates s_above s_below s_length s_at s_behind s_readFlitches s_readFamilies s_doing s_comes s_refused s_row) (fun u : (Nat → Int32) × (Nat → Int32) => (Wd_Mo_ask cy a_this a_comes a_refused a_row a_isKept a_text a_words a_cost a_steps a_mates a_bestMates s_above s_below s_length s_at s_behind s_readFlitches s_readFamilies s_doing u.1 u.2 s_row)) (fun (r : Int32) (u : (Nat → Int32) × (Nat → Int32)) => Q r u.1 u.2) := by
  refine st_metI (cc := cX9_ask) (maxL := 7) RX9 (by decide) rfl rfl (Nat.le_of_ble_eq_true rfl) ?_
  intro p e s m args below meth c A QQ ls F hA hKK hP hD hS hl hret
  have hK := hKK.1
  have hnest := hKK.2.1
  have hx := F.1
  have hb := F.2.1
  have hown := F.2.2.2.1
  have hts := F.2.2.2.2
  have in_X9 : ∀ w ∈ u_ws RX9 TX9 18, w ∈ wsX9_ask := (fun _ h => List.mem_cons_of_mem _ (List.mem_append_right _ h))
  have fl_42 := (hts (.fieldLink RX9 42 "RasherCaseModel" "comes" "[I") (List.mem_of_getElem? (i := 1) rfl))
  have hl : lv_has ls 7 [(0, .ref a_this), (1, .int x1)] := hl
  unfold wp_Mo_ask at h
  refine lv_aload_n hx hb dX9_ask_0 rfl (lv_at hl 0 rfl) ?_
  refine lv_iload_n hx hb dX9_ask_1 rfl (lv_at hl 1 rfl) ?_
  refine st_callRI (st_runVR (n := 1) (As := [.int x1]) (rest := []) (q0 := 0) F (co_Mo_isFamily l D cy a_this a_row a_isKept a_refused a_text a_words a_cost a_steps a_mates a_bestMates a_comes s_above s_below s_length s_at s_behind s_readFlitches s_readFamilies s_doing s_row x1 _ h) gX9_ask_X9_isFamily rfl (by decide +kernel) rfl hKK hP [0, 3] rfl rfl rfl rfl hl.1 rfl (Nat.le_of_ble_eq_true rfl) dX9_ask_2) (fun r_1 h => ?_)
  refine lv_if_ne (tgt := 15) hx hb dX9_ask_5 (by decide) (fun c_2 => ?_) (fun c_2 => ?_)
  · have h := h.1 c_2
    refine lv_aload_n hx hb dX9_ask_15 rfl (lv_at hl 0 rfl) ?_
    refine lv_iload_n hx hb dX9_ask_16 rfl (lv_at hl 1 rfl) ?_
    refine st_callRI (st_runVR (n := 1) (As := [.int x1]) (rest := []) (q0 := 0) F (co_Mo_kindsOf l D cy a_this a_row a_isKept a_refused a_text a_words a_cost a_steps a_mates a_bestMates a_comes s_above s_below s_length s_at s_behind s_readFlitches s_readFamilies s_doing s_row x1 _ h) gX9_ask_X9_kindsOf rfl (by decide +kernel) rfl hKK hP [0, 3] rfl rfl rfl rfl hl.1 rfl (Nat.le_of_ble_eq_true rfl) dX9_ask_17) (fun r_3 h => ?_)
    refine lv_istore_n (lv' := [(2, .int r_3), (0, .ref a_this), (1, .int x1)]) hx hb dX9_ask_20 rfl hl (by decide) rfl (fun ls hl => ?_)
    refine lv_iconst (v := (-1)) hx hb dX9_ask_21 (by decide) ?_
    refine lv_istore_n (lv' := [(3, .int (-1)), (2, .int r_3), (0, .ref a_this), (1, .int x1)]) hx hb dX9_ask_22 rfl hl (by decide) rfl (fun ls hl => ?_)
    refine lv_bipush (v := 99) hx hb dX9_ask_23 (by decide) ?_
    refine lv_istore (lv' := [(4, .int 99), (3, .int (-1)), (2, .int r_3), (0, .ref a_this), (1, .int x1)]) hx hb dX9_ask_25 hl (by decide) rfl (fun ls hl => ?_)
    refine lv_iconst (v := 0) hx hb dX9_ask_27 (by decide) ?_
    refine lv_istore (lv' := [(5, .int 0), (4, .int 99), (3, .int (-1)), (2, .int r_3), (0, .ref a_this), (1, .int x1)]) hx hb dX9_ask_28 hl (by decide) rfl (fun ls hl => ?_)
    obtain ⟨T30_7, hz30_7, hs30_7, n30_7, h⟩ := lpw4_use h
    have kT30_7 : ∀ (n : Nat) (x3_4 : Int32) (x4_5 : Int32) (x5_6 : Int32) (s_comes_7 : Nat → Int32) (H : Heap) (locs : List Loc) (ls : Array Slot), T30_7 n x3_4 x4_5 x5_6 s_comes_7 → va_P D vwCl (Wd_Mo_ask cy a_this a_comes a_refused a_row a_isKept a_text a_words a_cost a_steps a_mates a_bestMates s_above s_below s_length s_at s_behind s_readFlitches s_readFamilies s_doing s_comes_7 s_refused s_row) H → va_D A (Wd_Mo_ask cy a_this a_comes a_refused a_row a_isKept a_text a_words a_cost a_steps a_mates a_bestMates s_above s_below s_length s_at s_behind s_readFlitches s_readFamilies s_doing s_comes_7 s_refused s_row) → va_S A s.heap H locs → lv_has ls 7 [(0, .ref a_this), (2, .int r_3), (3, .int x3_4), (4, .int x4_5), (5, .int x5_6)] → W p l e rm_Mo_ask s m args below meth c H locs 0 0 QQ (F0 m 30 ls []) := by
      intro n
      induction n with
      | zero => intro x3_4 x4_5 x5_6 s_comes_7 H locs ls h; exact absurd h (hz30_7 _ _ _ _)
      | succ n ih30_7 =>
        intro x3_4 x4_5 x5_6 s_comes_7 H locs ls h hP hD hS hl
        have h := hs30_7 _ _ _ _ _ h
        refine lv_iload hx hb dX9_ask_30 (lv_at hl 4 rfl) ?_
        refine lv_bipush (v := 122) hx hb dX9_ask_32 (by decide) ?_
        refine lv_icmp_ge (tgt := 134) hx hb dX9_ask_34 (by decide) (fun c_9 => ?_) (fun c_9 => ?_)
        · have h := h.1 c_9
          refine lv_iload_n hx hb dX9_ask_134 rfl (lv_at hl 2 rfl) ?_
          exact hret _ (s_comes_7, s_refused) _ _ _ _ h hP hD hS dX9_ask_135
        · have h := h.2 c_9
          refine lv_iload_n hx hb dX9_ask_37 rfl (lv_at hl 1 rfl) ?_
          refine lv_if_eq (tgt := 134) hx hb dX9_ask_38 (by decide) (fun c_10 => ?_) (fun c_10 => ?_)
          · have h := h.1 c_10
            refine lv_iload_n hx hb dX9_ask_134 rfl (lv_at hl 2 rfl) ?_
            exact hret _ (s_comes_7, s_refused) _ _ _ _ h hP hD hS dX9_ask_135
          · have h := h.2 c_10
            refine lv_iconst (v := 0) hx hb dX9_ask_41 (by decide) ?_
            refine lv_istore (lv' := [(6, .int 0), (0, .ref a_this), (2, .int r_3), (3, .int x3_4), (4, .int x4_5), (5, .int x5_6)]) hx hb dX9_ask_42 hl (by decide) rfl (fun ls hl => ?_)
            obtain ⟨T44_12, hz44_12, hs44_12, n44_12, h⟩ := lpw2_use h
            have kT44_12 : ∀ (n : Nat) (x6_11 : Int32) (s_comes_12 : Nat → Int32) (H : Heap) (locs : List Loc) (ls : Array Slot), T44_12 n x6_11 s_comes_12 → va_P D vwCl (Wd_Mo_ask cy a_this a_comes a_refused a_row a_isKept a_text a_words a_cost a_steps a_mates a_bestMates s_above s_below s_length s_at s_behind s_readFlitches s_readFamilies s_doing s_comes_12 s_refused s_row) H → va_D A (Wd_Mo_ask cy a_this a_comes a_refused a_row a_isKept a_text a_words a_cost a_steps a_mates a_bestMates s_above s_below s_length s_at s_behind s_readFlitches s_readFamilies s_doing s_comes_12 s_refused s_row) → va_S A s.heap H locs → lv_has ls 7 [(0, .ref a_this), (2, .int r_3), (3, .int x3_4), (4, .int x4_5), (5, .int x5_6), (6, .int x6_11)] → W p l e rm_Mo_ask s m args below meth c H locs 0 0 QQ (F0 m 44 ls []) := by
              intro n
              induction n with
              | zero => intro x6_11 s_comes_12 H locs ls h; exact absurd h (hz44_12 _ _)
              | succ n ih44_12 =>
                intro x6_11 s_comes_12 H locs ls h hP hD hS hl
                have h := hs44_12 _ _ _ h
                refine lv_iload hx hb dX9_ask_44 (lv_at hl 5 rfl) ?_
                refine lv_bipush (v := 6) hx hb dX9_ask_46 (by decide) ?_
                refine lv_icmp_ge (tgt := 79) hx hb dX9_ask_48 (by decide) (fun c_14 => ?_) (fun c_14 => ?_)
                · have h := h.1 c_14
                  refine lv_aload_n hx hb dX9_ask_79 rfl (lv_at hl 0 rfl) ?_
                  refine lv_iload_n hx hb dX9_ask_80 rfl (lv_at hl 1 rfl) ?_
                  refine st_callRI (st_runVR (n := 1) (As := [.int r_3]) (rest := []) (q0 := 0) F (co_Mo_mostAlike l D cy a_this a_comes a_row a_isKept a_refused a_text a_words a_cost a_steps a_mates a_bestMates s_above s_below s_length s_at s_behind s_readFlitches s_readFamilies s_doing s_comes_12 r_3 _ h) gX9_ask_X9_mostAlike rfl (by decide +kernel) rfl hKK hP [0, 1] rfl rfl rfl rfl hl.1 rfl (Nat.le_of_ble_eq_true rfl) dX9_ask_81) (fun r_15 h => ?_)
                  refine lv_istore (lv' := [(6, .int r_15), (0, .ref a_this), (2, .int r_3), (3, .int x3_4), (4, .int x4_5), (5, .int x5_6)]) hx hb dX9_ask_84 hl (by decide) rfl (fun ls hl => ?_)
                  refine lv_iload hx hb dX9_ask_86 (lv_at hl 0 rfl) ?_
                  refine lv_iload hx hb dX9_ask_88 (lv_at hl 4 rfl) ?_
                  obtain ⟨J111, hJ111, h⟩ := jn1_ex h
                  have kJ111_16 : ∀ (v_16 : Int32) (H : Heap) (locs : List Loc) (ls : Array Slot), J111 v_16 → va_P D vwCl (Wd_Mo_ask cy a_this a_comes a_refused a_row a_isKept a_text a_words a_cost a_steps a_mates a_bestMates s_above s_below s_length s_at s_behind s_readFlitches s_readFamilies s_doing s_comes_12 s_refused s_row) H → va_D A (Wd_Mo_ask cy a_this a_comes a_refused a_row a_isKept a_text a_words a_cost a_steps a_mates a_bestMates s_above s_below s_length s_at s_behind s_readFlitches s_readFamilies s_doing s_comes_12 s_refused s_row) → va_S A s.heap H locs → lv_has ls 7 [(0, .ref a_this), (2, .int r_3), (4, .int x4_5), (5, .int x5_6), (6, .int r_15)] → W p l e rm_Mo_ask s m args below meth c H locs 0 0 QQ (F0 m 111 ls [.int v_16]) := by
                    intro v_16 H locs ls h hP hD hS hl
                    have h := hJ111 _ h
                    refine lv_istore_n (lv' := [(3, .int v_16), (0, .ref a_this), (2, .int r_3), (4, .int x4_5), (5, .int x5_6), (6, .int r_15)]) hx hb dX9_ask_111 rfl hl (by decide) rfl (fun ls hl => ?_)
                    refine lv_iload hx hb dX9_ask_112 (lv_at hl 5 rfl) ?_
                    refine lv_iload hx hb dX9_ask_114 (lv_at hl 3 rfl) ?_
                    obtain ⟨J126, hJ126, h⟩ := jn1_ex h
                    have kJ126_18 : ∀ (v_18 : Int32) (H : Heap) (locs : List Loc) (ls : Array Slot), J126 v_18 → va_P D vwCl (Wd_Mo_ask cy a_this a_comes a_refused a_row a_isKept a_text a_words a_cost a_steps a_mates a_bestMates s_above s_below s_length s_at s_behind s_readFlitches s_readFamilies s_doing s_comes_12 s_refused s_row) H → va_D A (Wd_Mo_ask cy a_this a_comes a_refused a_row a_isKept a_text a_words a_cost a_steps a_mates a_bestMates s_above s_below s_length s_at s_behind s_readFlitches s_readFamilies s_doing s_comes_12 s_refused s_row) → va_S A s.heap H locs → lv_has ls 7 [(0, .ref a_this), (2, .int r_3), (3, .int v_16), (5, .int x5_6)] → W p l e rm_Mo_ask s m args below meth c H locs 0 0 QQ (F0 m 126 ls [.int v_18]) := by
                      intro v_18 H locs ls h hP hD hS hl
                      have h := hJ126 _ h
                      refine lv_istore (lv' := [(4, .int v_18), (0, .ref a_this), (2, .int r_3), (3, .int v_16), (5, .int x5_6)]) hx hb dX9_ask_126 hl (by decide) rfl (fun ls hl => ?_)
                      obtain ⟨x5_20, ex5_20⟩ : ∃ y : Int32, y = x5_6 + 1 := ⟨_, rfl⟩
                      have h := h x5_20 ex5_20
                      refine lv_iinc (v := x5_20) (lv' := [(5, .int x5_20), (4, .int v_18), (0, .ref a_this), (2, .int r_3), (3, .int v_16)]) hx hb dX9_ask_128 hl (k := 4) rfl (by rw [ex5_20]; rfl) (by decide) rfl (fun ls hl => ?_)
                      refine lv_goto (tgt := 30) hx hb dX9_ask_131 (by decide) ?_
                      exact ih30_7 _ _ _ _ _ _ _ h hP hD hS (lv_sub hl [2, 3, 4, 1, 0] rfl)
                    refine lv_icmp_ge (tgt := 124) hx hb dX9_ask_116 (by decide) (fun c_21 => ?_) (fun c_21 => ?_)
                    · have h := h.1 c_21
                      refine lv_iload hx hb dX9_ask_124 (lv_at hl 3 rfl) ?_
                      exact kJ126_18 _ _ _ _ h hP hD hS (lv_sub hl [1, 2, 0, 4] rfl)
                    · have h := h.2 c_21
                      refine lv_iload hx hb dX9_ask_119 (lv_at hl 5 rfl) ?_
                      refine lv_goto (tgt := 126) hx hb dX9_ask_121 (by decide) ?_
                      exact kJ126_18 _ _ _ _ h hP hD hS (lv_sub hl [1, 2, 0, 4] rfl)
                  refine lv_icmp_ge (tgt := 110) hx hb dX9_ask_90 (by decide) (fun c_22 => ?_) (fun c_22 => ?_)
                  · have h := h.1 c_22
                    refine lv_iload_n hx hb dX9_ask_110 rfl (lv_at hl 3 rfl) ?_
                    exact kJ111_16 _ _ _ _ h hP hD hS (lv_sub hl [1, 2, 4, 5, 0] rfl)
                  · have h := h.2 c_22
                    refine lv_bipush (v := 100) hx hb dX9_ask_93 (by decide) ?_
                    refine lv_iload hx hb dX9_ask_95 (lv_at hl 5 rfl) ?_
                    refine lv_bipush (v := 61) hx hb dX9_ask_97 (by decide) ?_
                    refine lv_idiv hx hb dX9_ask_99 (by decide) ?_
                    refine lv_imul hx hb dX9_ask_100 ?_
                    refine lv_iload hx hb dX9_ask_101 (lv_at hl 5 rfl) ?_
                    refine lv_bipush (v := 61) hx hb dX9_ask_103 (by decide) ?_
                    refine lv_irem hx hb dX9_ask_105 (by decide) ?_
                    refine lv_iadd hx hb dX9_ask_106 ?_
                    refine lv_goto (tgt := 111) hx hb dX9_ask_107 (by decide) ?_
                    exact kJ111_16 _ _ _ _ h hP hD hS (lv_sub hl [1, 2, 4, 5, 0] rfl)
                · have h := h.2 c_14
                  refine lv_aload_n hx hb dX9_ask_51 rfl (lv_at hl 0 rfl) ?_
                  refine va_get (D := D) (ci := 8) (v := .ref a_comes) (C := RX9) (T := TX9) (N := 18) hx hb hts in_X9 hown hK hP 0 rfl rfl 17 (by decide) fl_42 (fun _ h9 => h9) rfl dX9_ask_52 ?_
                  refine lv_iload hx hb dX9_ask_55 (lv_at hl 5 rfl) ?_
                  refine lv_iload hx hb dX9_ask_57 (lv_at hl 5 rfl) ?_
                  refine lv_iload hx hb dX9_ask_59 (lv_at hl 4 rfl) ?_
                  refine lv_bipush (v := 61) hx hb dX9_ask_61 (by decide) ?_
                  refine lv_irem hx hb dX9_ask_63 (by decide) ?_
                  refine lv_iload hx hb dX9_ask_64 (lv_at hl 4 rfl) ?_
                  refine lv_bipush (v := 61) hx hb dX9_ask_66 (by decide) ?_
                  refine lv_idiv hx hb dX9_ask_68 (by decide) ?_
                  refine st_callRI (st_runSR (n := 3) (As := [.int x6_11, .int (irem x5_6 61), .int (x5_6 / 61)]) (rest := [.int x6_11, .ref a_comes]) F (co_Mo_takesBy l D cy x6_11 (irem x5_6 61) (x5_6 / 61) _ h) gX9_ask_X9_takesBy rfl (by decide +kernel) rfl hKK hP [] rfl rfl hl.1 rfl (Nat.le_of_ble_eq_true rfl) dX9_ask_69) (fun r_23 h => ?_)
                  obtain ⟨hi_24, h⟩ := h
                  refine va_iast hx hb hK hP hD hS 1 1 rfl rfl hi_24 dX9_ask_72 (fun H locs hP hD hS => ?_)
                  obtain ⟨s_comes_25, es_comes_25⟩ : ∃ f : Nat → Int32, f = upd s_comes_12 (Int32.toNatClampNeg x6_11) r_23 := ⟨_, rfl⟩
                  have hP : va_P D vwCl (Wd_Mo_ask cy a_this a_comes a_refused a_row a_isKept a_text a_words a_cost a_steps a_mates a_bestMates s_above s_below s_length s_at s_behind s_readFlitches s_readFamilies s_doing s_comes_25 s_refused s_row) H := by rw [es_comes_25]; exact hP
                  have hD : va_D A (Wd_Mo_ask cy a_this a_comes a_refused a_row a_isKept a_text a_words a_cost a_steps a_mates a_bestMates s_above s_below s_length s_at s_behind s_readFlitches s_readFamilies s_doing s_comes_25 s_refused s_row) := by rw [es_comes_25]; exact hD
                  have h := h s_comes_25 es_comes_25
                  obtain ⟨x6_26, ex6_26⟩ : ∃ y : Int32, y = x6_11 + 1 := ⟨_, rfl⟩
                  have h := h x6_26 ex6_26
                  refine lv_iinc (v := x6_26) (lv' := [(6, .int x6_26), (0, .ref a_this), (2, .int r_3), (3, .int x3_4), (4, .int x4_5), (5, .int x5_6)]) hx hb dX9_ask_73 hl (k := 5) rfl (by rw [ex6_26]; rfl) (by decide) rfl (fun ls hl => ?_)
                  refine lv_goto (tgt := 44) hx hb dX9_ask_76 (by decide) ?_
                  exact ih44_12 _ _ _ _ _ h hP hD hS (lv_sub hl [1, 2, 3, 4, 5, 0] rfl)
            exact kT44_12 n44_12 _ _ _ _ _ h hP hD hS (lv_sub hl [1, 2, 3, 4, 5, 0] rfl)
    exact kT30_7 n30_7 _ _ _ _ _ _ _ h hP hD hS (lv_sub hl [4, 3, 2, 1, 0] rfl)
  · have h := h.2 c_2
    refine lv_aload_n hx hb dX9_ask_8 rfl (lv_at hl 0 rfl) ?_
    refine lv_bipush (v := (-2)) hx hb dX9_ask_9 (by decide) ?_
    refine st_callI (WR := [1, 3].filterMap (fun i => (Wd_Mo_ask cy a_this a_comes a_refused a_row a_isKept a_text a_words a_cost a_steps a_mates a_bestMates s_above s_below s_length s_at s_behind s_readFlitches s_readFamilies s_doing s_comes s_refused s_row)[i]?)) (WSn := fun u => (Wd_Mo_ask cy a_this a_comes a_refused a_row a_isKept a_text a_words a_cost a_steps a_mates a_bestMates s_above s_below s_length s_at s_behind s_readFlitches s_readFamilies s_doing s_comes u s_row)) (st_runV (n := 1) (As := [.int (-2)]) (rest := []) (q0 := 0) F ((co_Mo_refuse l D cy a_this a_refused a_row a_isKept a_text a_words a_cost a_steps a_mates a_bestMates a_comes s_above s_below s_length s_at s_behind s_readFlitches s_readFamilies s_doing s_refused (-2) _ h) _) rfl gX9_ask_X9_refuse rfl (by decide +kernel) rfl hKK hP hD [0, 2] rfl rfl rfl rfl rfl hl.1 rfl (Nat.le_of_ble_eq_true rfl) dX9_ask_11) hP hD hS hA [0, 2] [1, 3] [2, 0, 3, 1] rfl rfl rfl (fun _ => rfl) (fun r_27 u H locs h hP hD hS => ?_)
    obtain ⟨s_refused_28, rfl⟩ : ∃ z, z = u := ⟨_, rfl⟩
    have hP : va_P D vwCl (Wd_Mo_ask cy a_this a_comes a_refused a_row a_isKept a_text a_words a_cost a_steps a_mates a_bestMates s_above s_below s_length s_at s_behind s_readFlitches s_readFamilies s_doing s_comes s_refused_28 s_row) H := hP
    have hD : va_D A (Wd_Mo_ask cy a_this a_comes a_refused a_row a_isKept a_text a_words a_cost a_steps a_mates a_bestMates s_above s_below s_length s_at s_behind s_readFlitches s_readFamilies s_doing s_comes s_refused_28 s_row) := hD
    exact hret _ (s_comes, s_refused_28) _ _ _ _ h hP hD hS dX9_ask_14
abbrev Wd_Mo_gets (cy : ClassId × ClassId × ClassId × ClassId) (a_this a_row a_isKept a_refused a_text a_words a_cost a_steps a_mates a_bestMates a_comes : Nat) (s_above : Int64) (s_below : Int64) (s_length : Int32) (s_at : Int32) (s_behind : Int32) (s_readFlitches : Int32) (s_readFamilies : Int32) (s_doing : Int32) (s_row : Nat → Int32) : va_W := [(a_this, .inr (8, [.ref a_row, .ref a_isKept, .ref a_refused, .long s_above, .long s_below, .ref a_text, .int s_length, .ref a_words, .int s_at, .int s_behind, .int s_readFlitches, .int s_readFamilies, .int s_doing, .ref a_cost, .ref a_steps, .ref a_mates, .ref a_bestMates, .ref a_comes])), (a_row, .inl (cy.2.1, 770, .inl s_row))]
abbrev rm_Mo_gets : Room := { frames := 4, cells := 0, slots := 0, locals := 88 }
def wp_Mo_gets (x1 : Int32) (x2 : Int32) (x3 : Int32) (s_row : Nat → Int32) (Q : Int32 → Prop) : Prop := jn0 (fun (J25 : Prop) => ((x2 = 0 → J25) ∧ (¬ x2 = 0 → ((x3 = 0 → J25) ∧ (¬ x3 = 0 → vp_in (0 + x1) 770 ∧ wp_Mo_takesToday x1 s_row (fun (r_7 : Int32) => Q ((s_row (Int32.toNatClampNeg (0 + x1))) - r_7))))))) (((x2 = 0 → ((x3 = 0 → Q 12) ∧ (¬ x3 = 0 → Q 9))) ∧ (¬ x2 = 0 → Q 20)))
set_option maxHeartbeats 4000000 in
set_option maxRecDepth 100000 in
theorem co_Mo_gets (l : Launch) (D : va_G) (cy : ClassId × ClassId × ClassId × ClassId) (a_this a_row a_isKept a_refused a_text a_words a_cost a_steps a_mates a_bestMates a_comes : Nat) (s_above : Int64) (s_below : Int64) (s_length : Int32) (s_at : Int32) (s_behind : Int32) (s_readFlitches : Int32) (s_readFamilies : Int32) (s_doing : Int32) (s_row : Nat → Int32) (x1 : Int32) (x2 : Int32) (x3 : Int32) (Q : Int32 → Prop) (h : wp_Mo_gets x1 x2 x3 s_row Q) : RoI l yX9_gets wsX9_gets rm_Mo_gets D cy [.ref a_this, .int x1, .int x2, .int x3] (Wd_Mo_gets cy a_this a_row a_isKept a_refused a_text a_words a_cost a_steps a_mates a_bestMates a_comes s_above s_below s_length s_at s_behind s_readFlitches s_readFamilies s_doing s_row) Q := by
  refine st_metRI (cc := cX9_gets) (maxL := 4) RX9 (by decide) rfl rfl (Nat.le_of_ble_eq_true rfl) ?_
  intro p e s m args below meth c QQ ls F hKK hP hl hret
  have hK := hKK.1
  have hnest := hKK.2.1
  have hx := F.1
  have hb := F.2.1
  have hown := F.2.2.2.1
  have hts := F.2.2.2.2
  have in_X9 : ∀ w ∈ u_ws RX9 TX9 18, w ∈ wsX9_gets := (fun _ h => List.mem_cons_of_mem _ (List.mem_append_right _ h))
  have fl_7 := (hts (.fieldLink RX9 7 "RasherCaseModel" "row" "[I") (List.mem_of_getElem? (i := 1) rfl))
  have hl : lv_has ls 4 [(0, .ref a_this), (1, .int x1), (2, .int x2), (3, .int x3)] := hl
  unfold wp_Mo_gets at h
  refine lv_iload_n hx hb dX9_gets_0 rfl (lv_at hl 2 rfl) ?_
  obtain ⟨J25, hJ25, h⟩ := jn0_ex h
  have kJ25_0 : ∀  (ls : Array Slot), J25 → lv_has ls 4 [(2, .int x2), (3, .int x3)] → W p l e rm_Mo_gets s m args below meth c s.heap [] 0 0 QQ (F0 m 25 ls []) := by
    intro  ls h hl
    have h := hJ25  h
    refine lv_iload_n hx hb dX9_gets_25 rfl (lv_at hl 0 rfl) ?_
    refine lv_if_eq (tgt := 34) hx hb dX9_gets_26 (by decide) (fun c_2 => ?_) (fun c_2 => ?_)
    · have h := h.1 c_2
      refine lv_iload_n hx hb dX9_gets_34 rfl (lv_at hl 1 rfl) ?_
      refine lv_if_eq (tgt := 43) hx hb dX9_gets_35 (by decide) (fun c_3 => ?_) (fun c_3 => ?_)
      · have h := h.1 c_3
        refine lv_bipush (v := 12) hx hb dX9_gets_43 (by decide) ?_
        exact hret _ _ _ h dX9_gets_45
      · have h := h.2 c_3
        refine lv_bipush (v := 9) hx hb dX9_gets_38 (by decide) ?_
        refine lv_goto (tgt := 45) hx hb dX9_gets_40 (by decide) ?_
        exact hret _ _ _ h dX9_gets_45
    · have h := h.2 c_2
      refine lv_bipush (v := 20) hx hb dX9_gets_29 (by decide) ?_
      refine lv_goto (tgt := 45) hx hb dX9_gets_31 (by decide) ?_
      exact hret _ _ _ h dX9_gets_45
  refine lv_if_eq (tgt := 25) hx hb dX9_gets_1 (by decide) (fun c_4 => ?_) (fun c_4 => ?_)
  · have h := h.1 c_4
    exact kJ25_0  _ h (lv_sub hl [2, 3] rfl)
  · have h := h.2 c_4
    refine lv_iload_n hx hb dX9_gets_4 rfl (lv_at hl 3 rfl) ?_
    refine lv_if_eq (tgt := 25) hx hb dX9_gets_5 (by decide) (fun c_5 => ?_) (fun c_5 => ?_)
    · have h := h.1 c_5
      exact kJ25_0  _ h (lv_sub hl [2, 3] rfl)
    · have h := h.2 c_5
      refine lv_aload_n hx hb dX9_gets_8 rfl (lv_at hl 0 rfl) ?_
      refine va_get (D := D) (ci := 8) (v := .ref a_row) (C := RX9) (T := TX9) (N := 18) hx hb hts in_X9 hown hK hP 0 rfl rfl 0 (by decide) fl_7 (fun _ h9 => h9) rfl dX9_gets_9 ?_
      refine lv_iconst (v := 0) hx hb dX9_gets_12 (by decide) ?_
      refine lv_iload_n hx hb dX9_gets_13 rfl (lv_at hl 1 rfl) ?_
      refine lv_iadd hx hb dX9_gets_14 ?_
      obtain ⟨hi_6, h⟩ := h
      refine va_iald hx hb hK hP 1 1 rfl rfl hi_6 dX9_gets_15 ?_
      refine lv_aload_n hx hb dX9_gets_16 rfl (lv_at hl 0 rfl) ?_
      refine lv_iload_n hx hb dX9_gets_17 rfl (lv_at hl 1 rfl) ?_
      refine st_callRI (st_runVR (n := 1) (As := [.int x1]) (rest := [.int (s_row (Int32.toNatClampNeg (0 + x1)))]) (q0 := 0) F (co_Mo_takesToday l D cy a_this a_row a_isKept a_refused a_text a_words a_cost a_steps a_mates a_bestMates a_comes s_above s_below s_length s_at s_behind s_readFlitches s_readFamilies s_doing s_row x1 _ h) gX9_gets_X9_takesToday rfl (by decide +kernel) rfl hKK hP [0, 1] rfl rfl rfl rfl hl.1 rfl (Nat.le_of_ble_eq_true rfl) dX9_gets_18) (fun r_7 h => ?_)
      refine lv_isub hx hb dX9_gets_21 ?_
      refine lv_goto (tgt := 45) hx hb dX9_gets_22 (by decide) ?_
      exact hret _ _ _ h dX9_gets_45
abbrev Wd_Mo_brothers (cy : ClassId × ClassId × ClassId × ClassId) (a_this a_refused a_row a_isKept a_text a_words a_cost a_steps a_mates a_bestMates a_comes : Nat) (s_above : Int64) (s_below : Int64) (s_length : Int32) (s_at : Int32) (s_behind : Int32) (s_readFlitches : Int32) (s_readFamilies : Int32) (s_doing : Int32) (s_refused : Nat → Int32) (s_row : Nat → Int32) : va_W := [(a_this, .inr (8, [.ref a_row, .ref a_isKept, .ref a_refused, .long s_above, .long s_below, .ref a_text, .int s_length, .ref a_words, .int s_at, .int s_behind, .int s_readFlitches, .int s_readFamilies, .int s_doing, .ref a_cost, .ref a_steps, .ref a_mates, .ref a_bestMates, .ref a_comes])), (a_refused, .inl (cy.2.1, 3, .inl s_refused)), (a_row, .inl (cy.2.1, 770, .inl s_row))]
abbrev rm_Mo_brothers : Room := { frames := 5, cells := 0, slots := 0, locals := 111 }
def wp_Mo_brothers (x1 : Int32) (x2 : Int32) (s_refused : Nat → Int32) (s_row : Nat → Int32) (Q : Int32 → (Nat → Int32) → Prop) : Prop := wp_Mo_isFamily x1 s_row (fun (r_1 : Int32) => jn0 (fun (J16 : Prop) => ((r_1 = 0 → J16) ∧ (¬ r_1 = 0 → wp_Mo_isFamily x2 s_row (fun (r_6 : Int32) => ((¬ r_6 = 0 → vp_in (35 + x1) 770 ∧ vp_in (35 + x2) 770 ∧ jn0 (fun (J72 : Prop) => (((s_row (Int32.toNatClampNeg (35 + x1))) = (s_row (Int32.toNatClampNeg (35 + x2))) → J72) ∧ (¬ (s_row (Int32.toNatClampNeg (35 + x1))) = (s_row (Int32.toNatClampNeg (35 + x2))) → wp_Mo_has (s_row (Int32.toNatClampNeg 7)) x1 (fun (r_14 : Int32) => ((¬ r_14 = 0 → J72) ∧ (r_14 = 0 → wp_Mo_has (s_row (Int32.toNatClampNeg 7)) x2 (fun (r_16 : Int32) => ((r_16 = 0 → ∃ n : Nat, lpw2 (fun (B84 : Int32 → Int32 → Prop) (x3_18 : Int32) (x4_19 : Int32) => ((4 ≤ x4_19 → Q x3_18 s_refused) ∧ (¬ 4 ≤ x4_19 → wp_Mo_has x4_19 0 (fun (r_22 : Int32) => wp_Mo_has x4_19 1 (fun (r_23 : Int32) => wp_Mo_gets x1 r_22 r_23 s_row (fun (r_24 : Int32) => jn1 (fun (J127 : Int32 → Prop) => ((¬ r_22 = 0 → J127 0) ∧ (r_22 = 0 → J127 1))) (fun (v_25 : Int32) => wp_Mo_gets x1 v_25 r_23 s_row (fun (r_27 : Int32) => jn1 (fun (J169 : Int32 → Prop) => jn0 (fun (J168 : Prop) => ((r_24 < r_27 → J168) ∧ (¬ r_24 < r_27 → wp_Mo_gets x2 r_23 r_22 s_row (fun (r_37 : Int32) => jn1 (fun (J156 : Int32 → Prop) => ((¬ r_23 = 0 → J156 0) ∧ (r_23 = 0 → J156 1))) (fun (v_38 : Int32) => wp_Mo_gets x2 v_38 r_22 s_row (fun (r_40 : Int32) => ((r_37 < r_40 → J168) ∧ (¬ r_37 < r_40 → J169 1)))))))) (J169 0)) (fun (v_28 : Int32) => jn1 (fun (J185 : Int32 → Prop) => ((v_28 = 0 → J185 0) ∧ (¬ v_28 = 0 → J185 (ishl 1 x4_19)))) (fun (v_30 : Int32) => ∀ x3_32 : Int32, x3_32 = (x3_18 ||| v_30) → ∀ x4_33 : Int32, x4_33 = x4_19 + 1 → B84 x3_32 x4_33)))))))))) n 0 0) ∧ (¬ r_16 = 0 → J72))))))))) (wp_Mo_refuse (-3) s_refused (fun (r_11 : Int32) (s_refused_12 : Nat → Int32) => Q r_11 s_refused_12))) ∧ (r_6 = 0 → J16)))))) (wp_Mo_refuse (-2) s_refused (fun (r_3 : Int32) (s_refused_4 : Nat → Int32) => Q r_3 s_refused_4)))
set_option maxHeartbeats 4000000 in
set_option maxRecDepth 100000 in
theorem co_Mo_brothers (l : Launch) (D : va_G) (cy : ClassId × ClassId × ClassId × ClassId) (a_this a_refused a_row a_isKept a_text a_words a_cost a_steps a_mates a_bestMates a_comes : Nat) (s_above : Int64) (s_below : Int64) (s_length : Int32) (s_at : Int32) (s_behind : Int32) (s_readFlitches : Int32) (s_readFamilies : Int32) (s_doing : Int32) (s_refused : Nat → Int32) (s_row : Nat → Int32) (x1 : Int32) (x2 : Int32) (Q : Int32 → (Nat → Int32) → Prop) (h : wp_Mo_brothers x1 x2 s_refused s_row Q) : CoI l yX9_brothers wsX9_brothers rm_Mo_brothers D cy [.ref a_this, .int x1, .int x2] (Wd_Mo_brothers cy a_this a_refused a_row a_isKept a_text a_words a_cost a_steps a_mates a_bestMates a_comes s_above s_below s_length s_at s_behind s_readFlitches s_readFamilies s_doing s_refused s_row) (fun u : (Nat → Int32) => (Wd_Mo_brothers cy a_this a_refused a_row a_isKept a_text a_words a_cost a_steps a_mates a_bestMates a_comes s_above s_below s_length s_at s_behind s_readFlitches s_readFamilies s_doing u s_row)) (fun (r : Int32) (u : (Nat → Int32)) => Q r u) := by
  refine st_metI (cc := cX9_brothers) (maxL := 8) RX9 (by decide) rfl rfl (Nat.le_of_ble_eq_true rfl) ?_
  intro p e s m args below meth c A QQ ls F hA hKK hP hD hS hl hret
  have hK := hKK.1
  have hnest := hKK.2.1
  have hx := F.1
  have hb := F.2.1
  have hown := F.2.2.2.1
  have hts := F.2.2.2.2
  have in_X9 : ∀ w ∈ u_ws RX9 TX9 18, w ∈ wsX9_brothers := (fun _ h => List.mem_cons_of_mem _ (List.mem_append_right _ h))
  have fl_7 := (hts (.fieldLink RX9 7 "RasherCaseModel" "row" "[I") (List.mem_of_getElem? (i := 1) rfl))
  have hl : lv_has ls 8 [(0, .ref a_this), (1, .int x1), (2, .int x2)] := hl
  unfold wp_Mo_brothers at h
  refine lv_aload_n hx hb dX9_brothers_0 rfl (lv_at hl 0 rfl) ?_
  refine lv_iload_n hx hb dX9_brothers_1 rfl (lv_at hl 1 rfl) ?_
  refine st_callRI (st_runVR (n := 1) (As := [.int x1]) (rest := []) (q0 := 0) F (co_Mo_isFamily l D cy a_this a_row a_isKept a_refused a_text a_words a_cost a_steps a_mates a_bestMates a_comes s_above s_below s_length s_at s_behind s_readFlitches s_readFamilies s_doing s_row x1 _ h) gX9_brothers_X9_isFamily rfl (by decide +kernel) rfl hKK hP [0, 2] rfl rfl rfl rfl hl.1 rfl (Nat.le_of_ble_eq_true rfl) dX9_brothers_2) (fun r_1 h => ?_)
  obtain ⟨J16, hJ16, h⟩ := jn0_ex h
  have kJ16_1 : ∀  (H : Heap) (locs : List Loc) (ls : Array Slot), J16 → va_P D vwCl (Wd_Mo_brothers cy a_this a_refused a_row a_isKept a_text a_words a_cost a_steps a_mates a_bestMates a_comes s_above s_below s_length s_at s_behind s_readFlitches s_readFamilies s_doing s_refused s_row) H → va_D A (Wd_Mo_brothers cy a_this a_refused a_row a_isKept a_text a_words a_cost a_steps a_mates a_bestMates a_comes s_above s_below s_length s_at s_behind s_readFlitches s_readFamilies s_doing s_refused s_row) → va_S A s.heap H locs → lv_has ls 8 [(0, .ref a_this)] → W p l e rm_Mo_brothers s m args below meth c H locs 0 0 QQ (F0 m 16 ls []) := by
    intro  H locs ls h hP hD hS hl
    have h := hJ16  h
    refine lv_aload_n hx hb dX9_brothers_16 rfl (lv_at hl 0 rfl) ?_
    refine lv_bipush (v := (-2)) hx hb dX9_brothers_17 (by decide) ?_
    refine st_callI (WR := [2].filterMap (fun i => (Wd_Mo_brothers cy a_this a_refused a_row a_isKept a_text a_words a_cost a_steps a_mates a_bestMates a_comes s_above s_below s_length s_at s_behind s_readFlitches s_readFamilies s_doing s_refused s_row)[i]?)) (WSn := fun u => (Wd_Mo_brothers cy a_this a_refused a_row a_isKept a_text a_words a_cost a_steps a_mates a_bestMates a_comes s_above s_below s_length s_at s_behind s_readFlitches s_readFamilies s_doing u s_row)) (st_runV (n := 1) (As := [.int (-2)]) (rest := []) (q0 := 0) F ((co_Mo_refuse l D cy a_this a_refused a_row a_isKept a_text a_words a_cost a_steps a_mates a_bestMates a_comes s_above s_below s_length s_at s_behind s_readFlitches s_readFamilies s_doing s_refused (-2) _ h) _) rfl gX9_brothers_X9_refuse rfl (by decide +kernel) rfl hKK hP hD [0, 1] rfl rfl rfl rfl rfl hl.1 rfl (Nat.le_of_ble_eq_true rfl) dX9_brothers_19) hP hD hS hA [0, 1] [2] [1, 2, 0] rfl rfl rfl (fun _ => rfl) (fun r_3 u H locs h hP hD hS => ?_)
    obtain ⟨s_refused_4, rfl⟩ : ∃ z, z = u := ⟨_, rfl⟩
    have hP : va_P D vwCl (Wd_Mo_brothers cy a_this a_refused a_row a_isKept a_text a_words a_cost a_steps a_mates a_bestMates a_comes s_above s_below s_length s_at s_behind s_readFlitches s_readFamilies s_doing s_refused_4 s_row) H := hP
    have hD : va_D A (Wd_Mo_brothers cy a_this a_refused a_row a_isKept a_text a_words a_cost a_steps a_mates a_bestMates a_comes s_above s_below s_length s_at s_behind s_readFlitches s_readFamilies s_doing s_refused_4 s_row) := hD
    exact hret _ (s_refused_4) _ _ _ _ h hP hD hS dX9_brothers_22
  refine lv_if_eq (tgt := 16) hx hb dX9_brothers_5 (by decide) (fun c_5 => ?_) (fun c_5 => ?_)
  · have h := h.1 c_5
    exact kJ16_1  _ _ _ h hP hD hS (lv_sub hl [0] rfl)
  · have h := h.2 c_5
    refine lv_aload_n hx hb dX9_brothers_8 rfl (lv_at hl 0 rfl) ?_
    refine lv_iload_n hx hb dX9_brothers_9 rfl (lv_at hl 2 rfl) ?_
    refine st_callRI (st_runVR (n := 1) (As := [.int x2]) (rest := []) (q0 := 0) F (co_Mo_isFamily l D cy a_this a_row a_isKept a_refused a_text a_words a_cost a_steps a_mates a_bestMates a_comes s_above s_below s_length s_at s_behind s_readFlitches s_readFamilies s_doing s_row x2 _ h) gX9_brothers_X9_isFamily rfl (by decide +kernel) rfl hKK hP [0, 2] rfl rfl rfl rfl hl.1 rfl (Nat.le_of_ble_eq_true rfl) dX9_brothers_10) (fun r_6 h => ?_)
    refine lv_if_ne (tgt := 23) hx hb dX9_brothers_13 (by decide) (fun c_7 => ?_) (fun c_7 => ?_)
    · have h := h.1 c_7
      refine lv_aload_n hx hb dX9_brothers_23 rfl (lv_at hl 0 rfl) ?_
      refine va_get (D := D) (ci := 8) (v := .ref a_row) (C := RX9) (T := TX9) (N := 18) hx hb hts in_X9 hown hK hP 0 rfl rfl 0 (by decide) fl_7 (fun _ h9 => h9) rfl dX9_brothers_24 ?_
      refine lv_bipush (v := 35) hx hb dX9_brothers_27 (by decide) ?_
      refine lv_iload_n hx hb dX9_brothers_29 rfl (lv_at hl 1 rfl) ?_
      refine lv_iadd hx hb dX9_brothers_30 ?_
      obtain ⟨hi_8, h⟩ := h
      refine va_iald hx hb hK hP 2 1 rfl rfl hi_8 dX9_brothers_31 ?_
      refine lv_aload_n hx hb dX9_brothers_32 rfl (lv_at hl 0 rfl) ?_
      refine va_get (D := D) (ci := 8) (v := .ref a_row) (C := RX9) (T := TX9) (N := 18) hx hb hts in_X9 hown hK hP 0 rfl rfl 0 (by decide) fl_7 (fun _ h9 => h9) rfl dX9_brothers_33 ?_
      refine lv_bipush (v := 35) hx hb dX9_brothers_36 (by decide) ?_
      refine lv_iload_n hx hb dX9_brothers_38 rfl (lv_at hl 2 rfl) ?_
      refine lv_iadd hx hb dX9_brothers_39 ?_
      obtain ⟨hi_9, h⟩ := h
      refine va_iald hx hb hK hP 2 1 rfl rfl hi_9 dX9_brothers_40 ?_
      obtain ⟨J72, hJ72, h⟩ := jn0_ex h
      have kJ72_9 : ∀  (H : Heap) (locs : List Loc) (ls : Array Slot), J72 → va_P D vwCl (Wd_Mo_brothers cy a_this a_refused a_row a_isKept a_text a_words a_cost a_steps a_mates a_bestMates a_comes s_above s_below s_length s_at s_behind s_readFlitches s_readFamilies s_doing s_refused s_row) H → va_D A (Wd_Mo_brothers cy a_this a_refused a_row a_isKept a_text a_words a_cost a_steps a_mates a_bestMates a_comes s_above s_below s_length s_at s_behind s_readFlitches s_readFamilies s_doing s_refused s_row) → va_S A s.heap H locs → lv_has ls 8 [(0, .ref a_this)] → W p l e rm_Mo_brothers s m args below meth c H locs 0 0 QQ (F0 m 72 ls []) := by
        intro  H locs ls h hP hD hS hl
        have h := hJ72  h
        refine lv_aload_n hx hb dX9_brothers_72 rfl (lv_at hl 0 rfl) ?_
        refine lv_bipush (v := (-3)) hx hb dX9_brothers_73 (by decide) ?_
        refine st_callI (WR := [2].filterMap (fun i => (Wd_Mo_brothers cy a_this a_refused a_row a_isKept a_text a_words a_cost a_steps a_mates a_bestMates a_comes s_above s_below s_length s_at s_behind s_readFlitches s_readFamilies s_doing s_refused s_row)[i]?)) (WSn := fun u => (Wd_Mo_brothers cy a_this a_refused a_row a_isKept a_text a_words a_cost a_steps a_mates a_bestMates a_comes s_above s_below s_length s_at s_behind s_readFlitches s_readFamilies s_doing u s_row)) (st_runV (n := 1) (As := [.int (-3)]) (rest := []) (q0 := 0) F ((co_Mo_refuse l D cy a_this a_refused a_row a_isKept a_text a_words a_cost a_steps a_mates a_bestMates a_comes s_above s_below s_length s_at s_behind s_readFlitches s_readFamilies s_doing s_refused (-3) _ h) _) rfl gX9_brothers_X9_refuse rfl (by decide +kernel) rfl hKK hP hD [0, 1] rfl rfl rfl rfl rfl hl.1 rfl (Nat.le_of_ble_eq_true rfl) dX9_brothers_75) hP hD hS hA [0, 1] [2] [1, 2, 0] rfl rfl rfl (fun _ => rfl) (fun r_11 u H locs h hP hD hS => ?_)
        obtain ⟨s_refused_12, rfl⟩ : ∃ z, z = u := ⟨_, rfl⟩
        have hP : va_P D vwCl (Wd_Mo_brothers cy a_this a_refused a_row a_isKept a_text a_words a_cost a_steps a_mates a_bestMates a_comes s_above s_below s_length s_at s_behind s_readFlitches s_readFamilies s_doing s_refused_12 s_row) H := hP
        have hD : va_D A (Wd_Mo_brothers cy a_this a_refused a_row a_isKept a_text a_words a_cost a_steps a_mates a_bestMates a_comes s_above s_below s_length s_at s_behind s_readFlitches s_readFamilies s_doing s_refused_12 s_row) := hD
        exact hret _ (s_refused_12) _ _ _ _ h hP hD hS dX9_brothers_78
      refine lv_icmp_eq (tgt := 72) hx hb dX9_brothers_41 (by decide) (fun c_13 => ?_) (fun c_13 => ?_)
      · have h := h.1 c_13
        exact kJ72_9  _ _ _ h hP hD hS (lv_sub hl [0] rfl)
      · have h := h.2 c_13
        refine lv_aload_n hx hb dX9_brothers_44 rfl (lv_at hl 0 rfl) ?_
        refine va_get (D := D) (ci := 8) (v := .ref a_row) (C := RX9) (T := TX9) (N := 18) hx hb hts in_X9 hown hK hP 0 rfl rfl 0 (by decide) fl_7 (fun _ h9 => h9) rfl dX9_brothers_45 ?_
        refine lv_bipush (v := 7) hx hb dX9_brothers_48 (by decide) ?_
        refine va_iald hx hb hK hP 2 1 rfl rfl (by unfold vp_in; decide) dX9_brothers_50 ?_
        refine lv_iload_n hx hb dX9_brothers_51 rfl (lv_at hl 1 rfl) ?_
        refine st_callRI (st_runSR (n := 2) (As := [.int (s_row (Int32.toNatClampNeg 7)), .int x1]) (rest := []) F (co_Mo_has l D cy (s_row (Int32.toNatClampNeg 7)) x1 _ h) gX9_brothers_X9_has rfl (by decide +kernel) rfl hKK hP [] rfl rfl hl.1 rfl (Nat.le_of_ble_eq_true rfl) dX9_brothers_52) (fun r_14 h => ?_)
        refine lv_if_ne (tgt := 72) hx hb dX9_brothers_55 (by decide) (fun c_15 => ?_) (fun c_15 => ?_)
        · have h := h.1 c_15
          exact kJ72_9  _ _ _ h hP hD hS (lv_sub hl [0] rfl)
        · have h := h.2 c_15
          refine lv_aload_n hx hb dX9_brothers_58 rfl (lv_at hl 0 rfl) ?_
          refine va_get (D := D) (ci := 8) (v := .ref a_row) (C := RX9) (T := TX9) (N := 18) hx hb hts in_X9 hown hK hP 0 rfl rfl 0 (by decide) fl_7 (fun _ h9 => h9) rfl dX9_brothers_59 ?_
          refine lv_bipush (v := 7) hx hb dX9_brothers_62 (by decide) ?_
          refine va_iald hx hb hK hP 2 1 rfl rfl (by unfold vp_in; decide) dX9_brothers_64 ?_
          refine lv_iload_n hx hb dX9_brothers_65 rfl (lv_at hl 2 rfl) ?_
          refine st_callRI (st_runSR (n := 2) (As := [.int (s_row (Int32.toNatClampNeg 7)), .int x2]) (rest := []) F (co_Mo_has l D cy (s_row (Int32.toNatClampNeg 7)) x2 _ h) gX9_brothers_X9_has rfl (by decide +kernel) rfl hKK hP [] rfl rfl hl.1 rfl (Nat.le_of_ble_eq_true rfl) dX9_brothers_66) (fun r_16 h => ?_)
          refine lv_if_eq (tgt := 79) hx hb dX9_brothers_69 (by decide) (fun c_17 => ?_) (fun c_17 => ?_)
          · have h := h.1 c_17
            refine lv_iconst (v := 0) hx hb dX9_brothers_79 (by decide) ?_
            refine lv_istore_n (lv' := [(3, .int 0), (0, .ref a_this), (1, .int x1), (2, .int x2)]) hx hb dX9_brothers_80 rfl hl (by decide) rfl (fun ls hl => ?_)
            refine lv_iconst (v := 0) hx hb dX9_brothers_81 (by decide) ?_
            refine lv_istore (lv' := [(4, .int 0), (3, .int 0), (0, .ref a_this), (1, .int x1), (2, .int x2)]) hx hb dX9_brothers_82 hl (by decide) rfl (fun ls hl => ?_)
            obtain ⟨T84_19, hz84_19, hs84_19, n84_19, h⟩ := lpw2_use h
            have kT84_19 : ∀ (n : Nat) (x3_18 : Int32) (x4_19 : Int32) (H : Heap) (locs : List Loc) (ls : Array Slot), T84_19 n x3_18 x4_19 → va_P D vwCl (Wd_Mo_brothers cy a_this a_refused a_row a_isKept a_text a_words a_cost a_steps a_mates a_bestMates a_comes s_above s_below s_length s_at s_behind s_readFlitches s_readFamilies s_doing s_refused s_row) H → va_D A (Wd_Mo_brothers cy a_this a_refused a_row a_isKept a_text a_words a_cost a_steps a_mates a_bestMates a_comes s_above s_below s_length s_at s_behind s_readFlitches s_readFamilies s_doing s_refused s_row) → va_S A s.heap H locs → lv_has ls 8 [(0, .ref a_this), (1, .int x1), (2, .int x2), (3, .int x3_18), (4, .int x4_19)] → W p l e rm_Mo_brothers s m args below meth c H locs 0 0 QQ (F0 m 84 ls []) := by
              intro n
              induction n with
              | zero => intro x3_18 x4_19 H locs ls h; exact absurd h (hz84_19 _ _)
              | succ n ih84_19 =>
                intro x3_18 x4_19 H locs ls h hP hD hS hl
                have h := hs84_19 _ _ _ h
                refine lv_iload hx hb dX9_brothers_84 (lv_at hl 4 rfl) ?_
                refine lv_iconst (v := 4) hx hb dX9_brothers_86 (by decide) ?_
                refine lv_icmp_ge (tgt := 193) hx hb dX9_brothers_87 (by decide) (fun c_21 => ?_) (fun c_21 => ?_)
                · have h := h.1 c_21
                  refine lv_iload_n hx hb dX9_brothers_193 rfl (lv_at hl 3 rfl) ?_
                  exact hret _ (s_refused) _ _ _ _ h hP hD hS dX9_brothers_194
                · have h := h.2 c_21
                  refine lv_iload hx hb dX9_brothers_90 (lv_at hl 4 rfl) ?_
                  refine lv_iconst (v := 0) hx hb dX9_brothers_92 (by decide) ?_
                  refine st_callRI (st_runSR (n := 2) (As := [.int x4_19, .int 0]) (rest := []) F (co_Mo_has l D cy x4_19 0 _ h) gX9_brothers_X9_has rfl (by decide +kernel) rfl hKK hP [] rfl rfl hl.1 rfl (Nat.le_of_ble_eq_true rfl) dX9_brothers_93) (fun r_22 h => ?_)
                  refine lv_istore (lv' := [(5, .int r_22), (0, .ref a_this), (1, .int x1), (2, .int x2), (3, .int x3_18), (4, .int x4_19)]) hx hb dX9_brothers_96 hl (by decide) rfl (fun ls hl => ?_)
                  refine lv_iload hx hb dX9_brothers_98 (lv_at hl 5 rfl) ?_
                  refine lv_iconst (v := 1) hx hb dX9_brothers_100 (by decide) ?_
                  refine st_callRI (st_runSR (n := 2) (As := [.int x4_19, .int 1]) (rest := []) F (co_Mo_has l D cy x4_19 1 _ h) gX9_brothers_X9_has rfl (by decide +kernel) rfl hKK hP [] rfl rfl hl.1 rfl (Nat.le_of_ble_eq_true rfl) dX9_brothers_101) (fun r_23 h => ?_)
                  refine lv_istore (lv' := [(6, .int r_23), (5, .int r_22), (0, .ref a_this), (1, .int x1), (2, .int x2), (3, .int x3_18), (4, .int x4_19)]) hx hb dX9_brothers_104 hl (by decide) rfl (fun ls hl => ?_)
                  refine lv_aload_n hx hb dX9_brothers_106 rfl (lv_at hl 2 rfl) ?_
                  refine lv_iload_n hx hb dX9_brothers_107 rfl (lv_at hl 3 rfl) ?_
                  refine lv_iload hx hb dX9_brothers_108 (lv_at hl 1 rfl) ?_
                  refine lv_iload hx hb dX9_brothers_110 (lv_at hl 0 rfl) ?_
                  refine st_callRI (st_runVR (n := 3) (As := [.int x1, .int r_22, .int r_23]) (rest := []) (q0 := 0) F (co_Mo_gets l D cy a_this a_row a_isKept a_refused a_text a_words a_cost a_steps a_mates a_bestMates a_comes s_above s_below s_length s_at s_behind s_readFlitches s_readFamilies s_doing s_row x1 r_22 r_23 _ h) gX9_brothers_X9_gets rfl (by decide +kernel) rfl hKK hP [0, 2] rfl rfl rfl rfl hl.1 rfl (Nat.le_of_ble_eq_true rfl) dX9_brothers_112) (fun r_24 h => ?_)
                  refine lv_aload_n hx hb dX9_brothers_115 rfl (lv_at hl 2 rfl) ?_
                  refine lv_iload_n hx hb dX9_brothers_116 rfl (lv_at hl 3 rfl) ?_
                  refine lv_iload hx hb dX9_brothers_117 (lv_at hl 1 rfl) ?_
                  obtain ⟨J127, hJ127, h⟩ := jn1_ex h
                  have kJ127_25 : ∀ (v_25 : Int32) (H : Heap) (locs : List Loc) (ls : Array Slot), J127 v_25 → va_P D vwCl (Wd_Mo_brothers cy a_this a_refused a_row a_isKept a_text a_words a_cost a_steps a_mates a_bestMates a_comes s_above s_below s_length s_at s_behind s_readFlitches s_readFamilies s_doing s_refused s_row) H → va_D A (Wd_Mo_brothers cy a_this a_refused a_row a_isKept a_text a_words a_cost a_steps a_mates a_bestMates a_comes s_above s_below s_length s_at s_behind s_readFlitches s_readFamilies s_doing s_refused s_row) → va_S A s.heap H locs → lv_has ls 8 [(0, .ref a_this), (1, .int x1), (2, .int x2), (3, .int x3_18), (4, .int x4_19), (5, .int r_22), (6, .int r_23)] → W p l e rm_Mo_brothers s m args below meth c H locs 0 0 QQ (F0 m 127 ls [.int v_25, .int x1, .ref a_this, .int r_24]) := by
                    intro v_25 H locs ls h hP hD hS hl
                    have h := hJ127 _ h
                    refine lv_iload hx hb dX9_brothers_127 (lv_at hl 6 rfl) ?_
                    refine st_callRI (st_runVR (n := 3) (As := [.int x1, .int v_25, .int r_23]) (rest := [.int r_24]) (q0 := 0) F (co_Mo_gets l D cy a_this a_row a_isKept a_refused a_text a_words a_cost a_steps a_mates a_bestMates a_comes s_above s_below s_length s_at s_behind s_readFlitches s_readFamilies s_doing s_row x1 v_25 r_23 _ h) gX9_brothers_X9_gets rfl (by decide +kernel) rfl hKK hP [0, 2] rfl rfl rfl rfl hl.1 rfl (Nat.le_of_ble_eq_true rfl) dX9_brothers_129) (fun r_27 h => ?_)
                    obtain ⟨J169, hJ169, h⟩ := jn1_ex h
                    have kJ169_28 : ∀ (v_28 : Int32) (H : Heap) (locs : List Loc) (ls : Array Slot), J169 v_28 → va_P D vwCl (Wd_Mo_brothers cy a_this a_refused a_row a_isKept a_text a_words a_cost a_steps a_mates a_bestMates a_comes s_above s_below s_length s_at s_behind s_readFlitches s_readFamilies s_doing s_refused s_row) H → va_D A (Wd_Mo_brothers cy a_this a_refused a_row a_isKept a_text a_words a_cost a_steps a_mates a_bestMates a_comes s_above s_below s_length s_at s_behind s_readFlitches s_readFamilies s_doing s_refused s_row) → va_S A s.heap H locs → lv_has ls 8 [(0, .ref a_this), (1, .int x1), (2, .int x2), (3, .int x3_18), (4, .int x4_19)] → W p l e rm_Mo_brothers s m args below meth c H locs 0 0 QQ (F0 m 169 ls [.int v_28]) := by
                      intro v_28 H locs ls h hP hD hS hl
                      have h := hJ169 _ h
                      refine lv_istore (lv' := [(7, .int v_28), (0, .ref a_this), (1, .int x1), (2, .int x2), (3, .int x3_18), (4, .int x4_19)]) hx hb dX9_brothers_169 hl (by decide) rfl (fun ls hl => ?_)
                      refine lv_iload_n hx hb dX9_brothers_171 rfl (lv_at hl 4 rfl) ?_
                      refine lv_iload hx hb dX9_brothers_172 (lv_at hl 0 rfl) ?_
                      obtain ⟨J185, hJ185, h⟩ := jn1_ex h
                      have kJ185_30 : ∀ (v_30 : Int32) (H : Heap) (locs : List Loc) (ls : Array Slot), J185 v_30 → va_P D vwCl (Wd_Mo_brothers cy a_this a_refused a_row a_isKept a_text a_words a_cost a_steps a_mates a_bestMates a_comes s_above s_below s_length s_at s_behind s_readFlitches s_readFamilies s_doing s_refused s_row) H → va_D A (Wd_Mo_brothers cy a_this a_refused a_row a_isKept a_text a_words a_cost a_steps a_mates a_bestMates a_comes s_above s_below s_length s_at s_behind s_readFlitches s_readFamilies s_doing s_refused s_row) → va_S A s.heap H locs → lv_has ls 8 [(0, .ref a_this), (1, .int x1), (2, .int x2), (4, .int x4_19)] → W p l e rm_Mo_brothers s m args below meth c H locs 0 0 QQ (F0 m 185 ls [.int v_30, .int x3_18]) := by
                        intro v_30 H locs ls h hP hD hS hl
                        have h := hJ185 _ h
                        refine lv_ior hx hb dX9_brothers_185 ?_
                        refine lv_topi (fun x3_32 ex3_32 => ?_)
                        have h := h x3_32 ex3_32
                        refine lv_istore_n (lv' := [(3, .int x3_32), (0, .ref a_this), (1, .int x1), (2, .int x2), (4, .int x4_19)]) hx hb dX9_brothers_186 rfl hl (by decide) rfl (fun ls hl => ?_)
                        obtain ⟨x4_33, ex4_33⟩ : ∃ y : Int32, y = x4_19 + 1 := ⟨_, rfl⟩
                        have h := h x4_33 ex4_33
                        refine lv_iinc (v := x4_33) (lv' := [(4, .int x4_33), (3, .int x3_32), (0, .ref a_this), (1, .int x1), (2, .int x2)]) hx hb dX9_brothers_187 hl (k := 4) rfl (by rw [ex4_33]; rfl) (by decide) rfl (fun ls hl => ?_)
                        refine lv_goto (tgt := 84) hx hb dX9_brothers_190 (by decide) ?_
                        exact ih84_19 _ _ _ _ _ h hP hD hS (lv_sub hl [2, 3, 4, 1, 0] rfl)
                      refine lv_if_eq (tgt := 184) hx hb dX9_brothers_174 (by decide) (fun c_34 => ?_) (fun c_34 => ?_)
                      · have h := h.1 c_34
                        refine lv_iconst (v := 0) hx hb dX9_brothers_184 (by decide) ?_
                        exact kJ185_30 _ _ _ _ h hP hD hS (lv_sub hl [1, 2, 3, 5] rfl)
                      · have h := h.2 c_34
                        refine lv_iconst (v := 1) hx hb dX9_brothers_177 (by decide) ?_
                        refine lv_iload hx hb dX9_brothers_178 (lv_at hl 5 rfl) ?_
                        refine lv_ishl hx hb dX9_brothers_180 ?_
                        refine lv_goto (tgt := 185) hx hb dX9_brothers_181 (by decide) ?_
                        exact kJ185_30 _ _ _ _ h hP hD hS (lv_sub hl [1, 2, 3, 5] rfl)
                    obtain ⟨J168, hJ168, h⟩ := jn0_ex h
                    have kJ168_34 : ∀  (H : Heap) (locs : List Loc) (ls : Array Slot), J168 → va_P D vwCl (Wd_Mo_brothers cy a_this a_refused a_row a_isKept a_text a_words a_cost a_steps a_mates a_bestMates a_comes s_above s_below s_length s_at s_behind s_readFlitches s_readFamilies s_doing s_refused s_row) H → va_D A (Wd_Mo_brothers cy a_this a_refused a_row a_isKept a_text a_words a_cost a_steps a_mates a_bestMates a_comes s_above s_below s_length s_at s_behind s_readFlitches s_readFamilies s_doing s_refused s_row) → va_S A s.heap H locs → lv_has ls 8 [(0, .ref a_this), (1, .int x1), (2, .int x2), (3, .int x3_18), (4, .int x4_19)] → W p l e rm_Mo_brothers s m args below meth c H locs 0 0 QQ (F0 m 168 ls []) := by
                      intro  H locs ls h hP hD hS hl
                      have h := hJ168  h
                      refine lv_iconst (v := 0) hx hb dX9_brothers_168 (by decide) ?_
                      exact kJ169_28 _ _ _ _ h hP hD hS (lv_sub hl [0, 1, 2, 3, 4] rfl)
                    refine lv_icmp_lt (tgt := 168) hx hb dX9_brothers_132 (by decide) (fun c_36 => ?_) (fun c_36 => ?_)
                    · have h := h.1 c_36
                      exact kJ168_34  _ _ _ h hP hD hS (lv_sub hl [0, 1, 2, 3, 4] rfl)
                    · have h := h.2 c_36
                      refine lv_aload_n hx hb dX9_brothers_135 rfl (lv_at hl 0 rfl) ?_
                      refine lv_iload_n hx hb dX9_brothers_136 rfl (lv_at hl 2 rfl) ?_
                      refine lv_iload hx hb dX9_brothers_137 (lv_at hl 6 rfl) ?_
                      refine lv_iload hx hb dX9_brothers_139 (lv_at hl 5 rfl) ?_
                      refine st_callRI (st_runVR (n := 3) (As := [.int x2, .int r_23, .int r_22]) (rest := []) (q0 := 0) F (co_Mo_gets l D cy a_this a_row a_isKept a_refused a_text a_words a_cost a_steps a_mates a_bestMates a_comes s_above s_below s_length s_at s_behind s_readFlitches s_readFamilies s_doing s_row x2 r_23 r_22 _ h) gX9_brothers_X9_gets rfl (by decide +kernel) rfl hKK hP [0, 2] rfl rfl rfl rfl hl.1 rfl (Nat.le_of_ble_eq_true rfl) dX9_brothers_141) (fun r_37 h => ?_)
                      refine lv_aload_n hx hb dX9_brothers_144 rfl (lv_at hl 0 rfl) ?_
                      refine lv_iload_n hx hb dX9_brothers_145 rfl (lv_at hl 2 rfl) ?_
                      refine lv_iload hx hb dX9_brothers_146 (lv_at hl 6 rfl) ?_
                      obtain ⟨J156, hJ156, h⟩ := jn1_ex h
                      have kJ156_38 : ∀ (v_38 : Int32) (H : Heap) (locs : List Loc) (ls : Array Slot), J156 v_38 → va_P D vwCl (Wd_Mo_brothers cy a_this a_refused a_row a_isKept a_text a_words a_cost a_steps a_mates a_bestMates a_comes s_above s_below s_length s_at s_behind s_readFlitches s_readFamilies s_doing s_refused s_row) H → va_D A (Wd_Mo_brothers cy a_this a_refused a_row a_isKept a_text a_words a_cost a_steps a_mates a_bestMates a_comes s_above s_below s_length s_at s_behind s_readFlitches s_readFamilies s_doing s_refused s_row) → va_S A s.heap H locs → lv_has ls 8 [(0, .ref a_this), (1, .int x1), (2, .int x2), (3, .int x3_18), (4, .int x4_19), (5, .int r_22)] → W p l e rm_Mo_brothers s m args below meth c H locs 0 0 QQ (F0 m 156 ls [.int v_38, .int x2, .ref a_this, .int r_37]) := by
                        intro v_38 H locs ls h hP hD hS hl
                        have h := hJ156 _ h
                        refine lv_iload hx hb dX9_brothers_156 (lv_at hl 5 rfl) ?_
                        refine st_callRI (st_runVR (n := 3) (As := [.int x2, .int v_38, .int r_22]) (rest := [.int r_37]) (q0 := 0) F (co_Mo_gets l D cy a_this a_row a_isKept a_refused a_text a_words a_cost a_steps a_mates a_bestMates a_comes s_above s_below s_length s_at s_behind s_readFlitches s_readFamilies s_doing s_row x2 v_38 r_22 _ h) gX9_brothers_X9_gets rfl (by decide +kernel) rfl hKK hP [0, 2] rfl rfl rfl rfl hl.1 rfl (Nat.le_of_ble_eq_true rfl) dX9_brothers_158) (fun r_40 h => ?_)
                        refine lv_icmp_lt (tgt := 168) hx hb dX9_brothers_161 (by decide) (fun c_41 => ?_) (fun c_41 => ?_)
                        · have h := h.1 c_41
                          exact kJ168_34  _ _ _ h hP hD hS (lv_sub hl [0, 1, 2, 3, 4] rfl)
                        · have h := h.2 c_41
                          refine lv_iconst (v := 1) hx hb dX9_brothers_164 (by decide) ?_
                          refine lv_goto (tgt := 169) hx hb dX9_brothers_165 (by decide) ?_
                          exact kJ169_28 _ _ _ _ h hP hD hS (lv_sub hl [0, 1, 2, 3, 4] rfl)
                      refine lv_if_ne (tgt := 155) hx hb dX9_brothers_148 (by decide) (fun c_42 => ?_) (fun c_42 => ?_)
                      · have h := h.1 c_42
                        refine lv_iconst (v := 0) hx hb dX9_brothers_155 (by decide) ?_
                        exact kJ156_38 _ _ _ _ h hP hD hS (lv_sub hl [0, 1, 2, 3, 4, 5] rfl)
                      · have h := h.2 c_42
                        refine lv_iconst (v := 1) hx hb dX9_brothers_151 (by decide) ?_
                        refine lv_goto (tgt := 156) hx hb dX9_brothers_152 (by decide) ?_
                        exact kJ156_38 _ _ _ _ h hP hD hS (lv_sub hl [0, 1, 2, 3, 4, 5] rfl)
                  refine lv_if_ne (tgt := 126) hx hb dX9_brothers_119 (by decide) (fun c_43 => ?_) (fun c_43 => ?_)
                  · have h := h.1 c_43
                    refine lv_iconst (v := 0) hx hb dX9_brothers_126 (by decide) ?_
                    exact kJ127_25 _ _ _ _ h hP hD hS (lv_sub hl [2, 3, 4, 5, 6, 1, 0] rfl)
                  · have h := h.2 c_43
                    refine lv_iconst (v := 1) hx hb dX9_brothers_122 (by decide) ?_
                    refine lv_goto (tgt := 127) hx hb dX9_brothers_123 (by decide) ?_
                    exact kJ127_25 _ _ _ _ h hP hD hS (lv_sub hl [2, 3, 4, 5, 6, 1, 0] rfl)
            exact kT84_19 n84_19 _ _ _ _ _ h hP hD hS (lv_sub hl [2, 3, 4, 1, 0] rfl)
          · have h := h.2 c_17
            exact kJ72_9  _ _ _ h hP hD hS (lv_sub hl [0] rfl)
    · have h := h.2 c_7
      exact kJ16_1  _ _ _ h hP hD hS (lv_sub hl [0] rfl)
abbrev Wd_Mo_tellPart (cy : ClassId × ClassId × ClassId × ClassId) (a_this a_row a_isKept a_refused a_text a_words a_cost a_steps a_mates a_bestMates a_comes : Nat) (s_above : Int64) (s_below : Int64) (s_length : Int32) (s_at : Int32) (s_behind : Int32) (s_readFlitches : Int32) (s_readFamilies : Int32) (s_doing : Int32) : va_W := [(a_this, .inr (8, [.ref a_row, .ref a_isKept, .ref a_refused, .long s_above, .long s_below, .ref a_text, .int s_length, .ref a_words, .int s_at, .int s_behind, .int s_readFlitches, .int s_readFamilies, .int s_doing, .ref a_cost, .ref a_steps, .ref a_mates, .ref a_bestMates, .ref a_comes]))]
abbrev rm_Mo_tellPart : Room := { frames := 0, cells := 0, slots := 0, locals := 0 }
def wp_Mo_tellPart (x1 : Int64) (x3 : Int64) (s_above : Int64) (s_below : Int64) (Q : Int64 → Int64 → Prop) : Prop := ∃ n : Nat, lpw2 (fun (B6 : Int64 → Int64 → Prop) (x5_1 : Int64) (x7_2 : Int64) => (((lg_cmp x7_2 0) = 0 → ¬ x5_1 = 0 ∧ ∀ s_above_6 : Int64, s_above_6 = (x1 / x5_1) → ¬ x5_1 = 0 ∧ ∀ s_below_8 : Int64, s_below_8 = (x3 / x5_1) → Q s_above_6 s_below_8) ∧ (¬ (lg_cmp x7_2 0) = 0 → ¬ x7_2 = 0 ∧ ∀ x9_10 : Int64, x9_10 = (lrem x5_1 x7_2) → B6 x7_2 x9_10))) n x1 x3
set_option maxHeartbeats 4000000 in
set_option maxRecDepth 100000 in
theorem co_Mo_tellPart (l : Launch) (D : va_G) (cy : ClassId × ClassId × ClassId × ClassId) (a_this a_row a_isKept a_refused a_text a_words a_cost a_steps a_mates a_bestMates a_comes : Nat) (s_above : Int64) (s_below : Int64) (s_length : Int32) (s_at : Int32) (s_behind : Int32) (s_readFlitches : Int32) (s_readFamilies : Int32) (s_doing : Int32) (x1 : Int64) (x3 : Int64) (Q : Int64 → Int64 → Prop) (h : wp_Mo_tellPart x1 x3 s_above s_below Q) : CoV l yX9_tellPart wsX9_tellPart rm_Mo_tellPart D cy [.ref a_this, .long x1, .long x3] (Wd_Mo_tellPart cy a_this a_row a_isKept a_refused a_text a_words a_cost a_steps a_mates a_bestMates a_comes s_above s_below s_length s_at s_behind s_readFlitches s_readFamilies s_doing) (fun u : Int64 × Int64 => (Wd_Mo_tellPart cy a_this a_row a_isKept a_refused a_text a_words a_cost a_steps a_mates a_bestMates a_comes u.1 u.2 s_length s_at s_behind s_readFlitches s_readFamilies s_doing)) (fun (u : Int64 × Int64) => Q u.1 u.2) := by
  refine st_metV (cc := cX9_tellPart) (maxL := 11) RX9 (by decide) rfl rfl (Nat.le_of_ble_eq_true rfl) ?_
  intro p e s m args below meth c A QQ ls F hA hKK hP hD hS hl hret
  have hK := hKK.1
  have hnest := hKK.2.1
  have hx := F.1
  have hb := F.2.1
  have hown := F.2.2.2.1
  have hts := F.2.2.2.2
  have in_X9 : ∀ w ∈ u_ws RX9 TX9 18, w ∈ wsX9_tellPart := (fun _ h => List.mem_cons_of_mem _ (List.mem_append_right _ h))
  have fl_20 := (hts (.fieldLink RX9 20 "RasherCaseModel" "below" "J") (List.mem_of_getElem? (i := 2) rfl))
  have fl_234 := (hts (.fieldLink RX9 234 "RasherCaseModel" "above" "J") (List.mem_of_getElem? (i := 1) rfl))
  have hl : lv_has ls 11 [(0, .ref a_this), (1, .long x1), (3, .long x3)] := hl
  unfold wp_Mo_tellPart at h
  refine lv_lload_n hx hb dX9_tellPart_0 rfl (lv_at hl 1 rfl) ?_
  refine lv_lstore (lv' := [(5, .long x1), (0, .ref a_this), (1, .long x1), (3, .long x3)]) hx hb dX9_tellPart_1 hl (by decide) rfl (fun ls hl => ?_)
  refine lv_lload_n hx hb dX9_tellPart_3 rfl (lv_at hl 3 rfl) ?_
  refine lv_lstore (lv' := [(7, .long x3), (5, .long x1), (0, .ref a_this), (1, .long x1), (3, .long x3)]) hx hb dX9_tellPart_4 hl (by decide) rfl (fun ls hl => ?_)
  obtain ⟨T6_2, hz6_2, hs6_2, n6_2, h⟩ := lpw2_use h
  have kT6_2 : ∀ (n : Nat) (x5_1 : Int64) (x7_2 : Int64) (H : Heap) (locs : List Loc) (ls : Array Slot), T6_2 n x5_1 x7_2 → va_P D vwCl (Wd_Mo_tellPart cy a_this a_row a_isKept a_refused a_text a_words a_cost a_steps a_mates a_bestMates a_comes s_above s_below s_length s_at s_behind s_readFlitches s_readFamilies s_doing) H → va_D A (Wd_Mo_tellPart cy a_this a_row a_isKept a_refused a_text a_words a_cost a_steps a_mates a_bestMates a_comes s_above s_below s_length s_at s_behind s_readFlitches s_readFamilies s_doing) → va_S A s.heap H locs → lv_has ls 11 [(0, .ref a_this), (1, .long x1), (3, .long x3), (5, .long x5_1), (7, .long x7_2)] → W p l e rm_Mo_tellPart s m args below meth c H locs 0 0 QQ (F0 m 6 ls []) := by
    intro n
    induction n with
    | zero => intro x5_1 x7_2 H locs ls h; exact absurd h (hz6_2 _ _)
    | succ n ih6_2 =>
      intro x5_1 x7_2 H locs ls h hP hD hS hl
      have h := hs6_2 _ _ _ h
      refine lv_lload hx hb dX9_tellPart_6 (lv_at hl 4 rfl) ?_
      refine lv_lconst (v := 0) hx hb dX9_tellPart_8 (by decide) ?_
      refine W.lcmp hx hb dX9_tellPart_9 ?_
      refine lv_if_eq (tgt := 31) hx hb dX9_tellPart_10 (by decide) (fun c_4 => ?_) (fun c_4 => ?_)
      · have h := h.1 c_4
        refine lv_aload_n hx hb dX9_tellPart_31 rfl (lv_at hl 0 rfl) ?_
        refine lv_lload_n hx hb dX9_tellPart_32 rfl (lv_at hl 1 rfl) ?_
        refine lv_lload hx hb dX9_tellPart_33 (lv_at hl 3 rfl) ?_
        obtain ⟨hz_5, h⟩ := h
        refine lv_ldiv hx hb dX9_tellPart_35 hz_5 ?_
        refine lv_topl (fun s_above_6 es_above_6 => ?_)
        have h := h s_above_6 es_above_6
        refine va_put (D := D) (ci := 8) (v := .long s_above_6) (ty := .long) (C := RX9) (T := TX9) (N := 18) hx hb hts in_X9 tyX9 tyX9_ok nmX9 hown hK hP hD hS 0 rfl rfl 3 (by decide) fl_234 (fun _ h9 => h9) rfl (tyX9_ok 3 (by decide)) rfl rfl (Nat.le_of_ble_eq_true rfl) dX9_tellPart_36 (fun H locs hP hD hS => ?_)
        have hP : va_P D vwCl (Wd_Mo_tellPart cy a_this a_row a_isKept a_refused a_text a_words a_cost a_steps a_mates a_bestMates a_comes s_above_6 s_below s_length s_at s_behind s_readFlitches s_readFamilies s_doing) H := hP
        have hD : va_D A (Wd_Mo_tellPart cy a_this a_row a_isKept a_refused a_text a_words a_cost a_steps a_mates a_bestMates a_comes s_above_6 s_below s_length s_at s_behind s_readFlitches s_readFamilies s_doing) := hD
        refine lv_aload_n hx hb dX9_tellPart_39 rfl (lv_at hl 0 rfl) ?_
        refine lv_lload_n hx hb dX9_tellPart_40 rfl (lv_at hl 2 rfl) ?_
        refine lv_lload hx hb dX9_tellPart_41 (lv_at hl 3 rfl) ?_
        obtain ⟨hz_7, h⟩ := h
        refine lv_ldiv hx hb dX9_tellPart_43 hz_7 ?_
        refine lv_topl (fun s_below_8 es_below_8 => ?_)
        have h := h s_below_8 es_below_8
        refine va_put (D := D) (ci := 8) (v := .long s_below_8) (ty := .long) (C := RX9) (T := TX9) (N := 18) hx hb hts in_X9 tyX9 tyX9_ok nmX9 hown hK hP hD hS 0 rfl rfl 4 (by decide) fl_20 (fun _ h9 => h9) rfl (tyX9_ok 4 (by decide)) rfl rfl (Nat.le_of_ble_eq_true rfl) dX9_tellPart_44 (fun H locs hP hD hS => ?_)
        have hP : va_P D vwCl (Wd_Mo_tellPart cy a_this a_row a_isKept a_refused a_text a_words a_cost a_steps a_mates a_bestMates a_comes s_above_6 s_below_8 s_length s_at s_behind s_readFlitches s_readFamilies s_doing) H := hP
        have hD : va_D A (Wd_Mo_tellPart cy a_this a_row a_isKept a_refused a_text a_words a_cost a_steps a_mates a_bestMates a_comes s_above_6 s_below_8 s_length s_at s_behind s_readFlitches s_readFamilies s_doing) := hD
        exact hret (s_above_6, s_below_8) _ _ _ _ h hP hD hS dX9_tellPart_47
      · have h := h.2 c_4
        refine lv_lload hx hb dX9_tellPart_13 (lv_at hl 3 rfl) ?_
        refine lv_lload hx hb dX9_tellPart_15 (lv_at hl 4 rfl) ?_
        obtain ⟨hz_9, h⟩ := h
        refine lv_lrem hx hb dX9_tellPart_17 hz_9 ?_
        refine lv_topl (fun x9_10 ex9_10 => ?_)
        have h := h x9_10 ex9_10
        refine lv_lstore (lv' := [(9, .long x9_10), (0, .ref a_this), (1, .long x1), (3, .long x3), (5, .long x5_1), (7, .long x7_2)]) hx hb dX9_tellPart_18 hl (by decide) rfl (fun ls hl => ?_)
        refine lv_lload hx hb dX9_tellPart_20 (lv_at hl 5 rfl) ?_
        refine lv_lstore (lv' := [(5, .long x7_2), (9, .long x9_10), (0, .ref a_this), (1, .long x1), (3, .long x3), (7, .long x7_2)]) hx hb dX9_tellPart_22 hl (by decide) rfl (fun ls hl => ?_)
        refine lv_lload hx hb dX9_tellPart_24 (lv_at hl 1 rfl) ?_
        refine lv_lstore (lv' := [(7, .long x9_10), (5, .long x7_2), (9, .long x9_10), (0, .ref a_this), (1, .long x1), (3, .long x3)]) hx hb dX9_tellPart_26 hl (by decide) rfl (fun ls hl => ?_)
        refine lv_goto (tgt := 6) hx hb dX9_tellPart_28 (by decide) ?_
        exact ih6_2 _ _ _ _ _ h hP hD hS (lv_sub hl [3, 4, 5, 1, 0] rfl)
  exact kT6_2 n6_2 _ _ _ _ _ h hP hD hS (lv_sub hl [2, 3, 4, 1, 0] rfl)
abbrev Wd_Mo_mornings (cy : ClassId × ClassId × ClassId × ClassId) (a_this a_refused a_row a_isKept a_text a_words a_cost a_steps a_mates a_bestMates a_comes : Nat) (s_above : Int64) (s_below : Int64) (s_length : Int32) (s_at : Int32) (s_behind : Int32) (s_readFlitches : Int32) (s_readFamilies : Int32) (s_doing : Int32) (s_refused : Nat → Int32) (s_row : Nat → Int32) : va_W := [(a_this, .inr (8, [.ref a_row, .ref a_isKept, .ref a_refused, .long s_above, .long s_below, .ref a_text, .int s_length, .ref a_words, .int s_at, .int s_behind, .int s_readFlitches, .int s_readFamilies, .int s_doing, .ref a_cost, .ref a_steps, .ref a_mates, .ref a_bestMates, .ref a_comes])), (a_refused, .inl (cy.2.1, 3, .inl s_refused)), (a_row, .inl (cy.2.1, 770, .inl s_row))]
abbrev rm_Mo_mornings : Room := { frames := 4, cells := 0, slots := 0, locals := 92 }
def wp_Mo_mornings (x1 : Int32) (x2 : Int32) (x3 : Int32) (s_above : Int64) (s_below : Int64) (s_refused : Nat → Int32) (s_row : Nat → Int32) (Q : Int32 → Int64 → Int64 → (Nat → Int32) → (Nat → Int32) → Prop) : Prop := wp_Mo_isFamily x1 s_row (fun (r_1 : Int32) => jn0 (fun (J28 : Prop) => ((r_1 = 0 → J28) ∧ (¬ r_1 = 0 → wp_Mo_in x2 0 6 (fun (r_6 : Int32) => ((r_6 = 0 → J28) ∧ (¬ r_6 = 0 → wp_Mo_in x3 0 10 (fun (r_8 : Int32) => ((¬ r_8 = 0 → ∃ n : Nat, lpw4 (fun (B44 : Int64 → Int64 → Int32 → (Nat → Int32) → Prop) (x4_10 : Int64) (x6_11 : Int64) (x8_12 : Int32) (s_row_13 : Nat → Int32) => (((ishl 1 x2) ≤ x8_12 → wp_Mo_tellPart x4_10 x6_11 s_above s_below (fun (s_above_17 : Int64) (s_below_18 : Int64) => Q 1 s_above_17 s_below_18 s_refused s_row_13)) ∧ (¬ (ishl 1 x2) ≤ x8_12 → wp_Mo_layTried s_row_13 (fun (s_row_20 : Nat → Int32) => ∃ n : Nat, lpw3 (fun (B62 : Int64 → Int32 → (Nat → Int32) → Prop) (x9_21 : Int64) (x11_22 : Int32) (s_row_23 : Nat → Int32) => ((x2 ≤ x11_22 → wp_Mo_has (s_row_23 (Int32.toNatClampNeg 760)) x1 (fun (r_26 : Int32) => jn1 (fun (J136 : Int64 → Prop) => ((r_26 = 0 → J136 0) ∧ (¬ r_26 = 0 → J136 x9_21))) (fun (v_27 : Int64) => ∀ x4_29 : Int64, x4_29 = (x4_10 + v_27) → ∀ x6_30 : Int64, x6_30 = (x6_11 + x9_21) → ∀ x8_31 : Int32, x8_31 = x8_12 + 1 → B44 x4_29 x6_30 x8_31 s_row_23))) ∧ (¬ x2 ≤ x11_22 → wp_Mo_has x8_12 x11_22 (fun (r_33 : Int32) => jn1 (fun (J90 : Int64 → Prop) => ((r_33 = 0 → J90 (Int32.toInt64 (10 - x3))) ∧ (¬ r_33 = 0 → J90 (Int32.toInt64 x3)))) (fun (v_34 : Int64) => ∀ x9_36 : Int64, x9_36 = (x9_21 * v_34) → wp_Mo_has x8_12 x11_22 (fun (r_37 : Int32) => wp_Mo_passes 753 r_37 s_row_23 (fun (s_row_39 : Nat → Int32) => ∀ x11_40 : Int32, x11_40 = x11_22 + 1 → B62 x9_36 x11_40 s_row_39))))))) n 1 0 s_row_20)))) n 0 0 0 s_row) ∧ (r_8 = 0 → J28))))))))) (wp_Mo_refuse (-2) s_refused (fun (r_3 : Int32) (s_refused_4 : Nat → Int32) => Q r_3 s_above s_below s_refused_4 s_row)))
set_option maxHeartbeats 4000000 in
set_option maxRecDepth 100000 in
theorem co_Mo_mornings (l : Launch) (D : va_G) (cy : ClassId × ClassId × ClassId × ClassId) (a_this a_refused a_row a_isKept a_text a_words a_cost a_steps a_mates a_bestMates a_comes : Nat) (s_above : Int64) (s_below : Int64) (s_length : Int32) (s_at : Int32) (s_behind : Int32) (s_readFlitches : Int32) (s_readFamilies : Int32) (s_doing : Int32) (s_refused : Nat → Int32) (s_row : Nat → Int32) (x1 : Int32) (x2 : Int32) (x3 : Int32) (Q : Int32 → Int64 → Int64 → (Nat → Int32) → (Nat → Int32) → Prop) (h : wp_Mo_mornings x1 x2 x3 s_above s_below s_refused s_row Q) : CoI l yX9_mornings wsX9_mornings rm_Mo_mornings D cy [.ref a_this, .int x1, .int x2, .int x3] (Wd_Mo_mornings cy a_this a_refused a_row a_isKept a_text a_words a_cost a_steps a_mates a_bestMates a_comes s_above s_below s_length s_at s_behind s_readFlitches s_readFamilies s_doing s_refused s_row) (fun u : Int64 × Int64 × (Nat → Int32) × (Nat → Int32) => (Wd_Mo_mornings cy a_this a_refused a_row a_isKept a_text a_words a_cost a_steps a_mates a_bestMates a_comes u.1 u.2.1 s_length s_at s_behind s_readFlitches s_readFamilies s_doing u.2.2.1 u.2.2.2)) (fun (r : Int32) (u : Int64 × Int64 × (Nat → Int32) × (Nat → Int32)) => Q r u.1 u.2.1 u.2.2.1 u.2.2.2) := by
  refine st_metI (cc := cX9_mornings) (maxL := 12) RX9 (by decide) rfl rfl (Nat.le_of_ble_eq_true rfl) ?_
  intro p e s m args below meth c A QQ ls F hA hKK hP hD hS hl hret
  have hK := hKK.1
  have hnest := hKK.2.1
  have hx := F.1
  have hb := F.2.1
  have hown := F.2.2.2.1
  have hts := F.2.2.2.2
  have in_X9 : ∀ w ∈ u_ws RX9 TX9 18, w ∈ wsX9_mornings := (fun _ h => List.mem_cons_of_mem _ (List.mem_append_right _ h))
  have fl_7 := (hts (.fieldLink RX9 7 "RasherCaseModel" "row" "[I") (List.mem_of_getElem? (i := 1) rfl))
  have hl : lv_has ls 12 [(0, .ref a_this), (1, .int x1), (2, .int x2), (3, .int x3)] := hl
  unfold wp_Mo_mornings at h
  refine lv_aload_n hx hb dX9_mornings_0 rfl (lv_at hl 0 rfl) ?_
  refine lv_iload_n hx hb dX9_mornings_1 rfl (lv_at hl 1 rfl) ?_
  refine st_callRI (st_runVR (n := 1) (As := [.int x1]) (rest := []) (q0 := 0) F (co_Mo_isFamily l D cy a_this a_row a_isKept a_refused a_text a_words a_cost a_steps a_mates a_bestMates a_comes s_above s_below s_length s_at s_behind s_readFlitches s_readFamilies s_doing s_row x1 _ h) gX9_mornings_X9_isFamily rfl (by decide +kernel) rfl hKK hP [0, 2] rfl rfl rfl rfl hl.1 rfl (Nat.le_of_ble_eq_true rfl) dX9_mornings_2) (fun r_1 h => ?_)
  obtain ⟨J28, hJ28, h⟩ := jn0_ex h
  have kJ28_1 : ∀  (H : Heap) (locs : List Loc) (ls : Array Slot), J28 → va_P D vwCl (Wd_Mo_mornings cy a_this a_refused a_row a_isKept a_text a_words a_cost a_steps a_mates a_bestMates a_comes s_above s_below s_length s_at s_behind s_readFlitches s_readFamilies s_doing s_refused s_row) H → va_D A (Wd_Mo_mornings cy a_this a_refused a_row a_isKept a_text a_words a_cost a_steps a_mates a_bestMates a_comes s_above s_below s_length s_at s_behind s_readFlitches s_readFamilies s_doing s_refused s_row) → va_S A s.heap H locs → lv_has ls 12 [(0, .ref a_this)] → W p l e rm_Mo_mornings s m args below meth c H locs 0 0 QQ (F0 m 28 ls []) := by
    intro  H locs ls h hP hD hS hl
    have h := hJ28  h
    refine lv_aload_n hx hb dX9_mornings_28 rfl (lv_at hl 0 rfl) ?_
    refine lv_bipush (v := (-2)) hx hb dX9_mornings_29 (by decide) ?_
    refine st_callI (WR := [2].filterMap (fun i => (Wd_Mo_mornings cy a_this a_refused a_row a_isKept a_text a_words a_cost a_steps a_mates a_bestMates a_comes s_above s_below s_length s_at s_behind s_readFlitches s_readFamilies s_doing s_refused s_row)[i]?)) (WSn := fun u => (Wd_Mo_mornings cy a_this a_refused a_row a_isKept a_text a_words a_cost a_steps a_mates a_bestMates a_comes s_above s_below s_length s_at s_behind s_readFlitches s_readFamilies s_doing u s_row)) (st_runV (n := 1) (As := [.int (-2)]) (rest := []) (q0 := 0) F ((co_Mo_refuse l D cy a_this a_refused a_row a_isKept a_text a_words a_cost a_steps a_mates a_bestMates a_comes s_above s_below s_length s_at s_behind s_readFlitches s_readFamilies s_doing s_refused (-2) _ h) _) rfl gX9_mornings_X9_refuse rfl (by decide +kernel) rfl hKK hP hD [0, 1] rfl rfl rfl rfl rfl hl.1 rfl (Nat.le_of_ble_eq_true rfl) dX9_mornings_31) hP hD hS hA [0, 1] [2] [1, 2, 0] rfl rfl rfl (fun _ => rfl) (fun r_3 u H locs h hP hD hS => ?_)
    obtain ⟨s_refused_4, rfl⟩ : ∃ z, z = u := ⟨_, rfl⟩
    have hP : va_P D vwCl (Wd_Mo_mornings cy a_this a_refused a_row a_isKept a_text a_words a_cost a_steps a_mates a_bestMates a_comes s_above s_below s_length s_at s_behind s_readFlitches s_readFamilies s_doing s_refused_4 s_row) H := hP
    have hD : va_D A (Wd_Mo_mornings cy a_this a_refused a_row a_isKept a_text a_words a_cost a_steps a_mates a_bestMates a_comes s_above s_below s_length s_at s_behind s_readFlitches s_readFamilies s_doing s_refused_4 s_row) := hD
    exact hret _ (s_above, s_below, s_refused_4, s_row) _ _ _ _ h hP hD hS dX9_mornings_34
  refine lv_if_eq (tgt := 28) hx hb dX9_mornings_5 (by decide) (fun c_5 => ?_) (fun c_5 => ?_)
  · have h := h.1 c_5
    exact kJ28_1  _ _ _ h hP hD hS (lv_sub hl [0] rfl)
  · have h := h.2 c_5
    refine lv_iload_n hx hb dX9_mornings_8 rfl (lv_at hl 2 rfl) ?_
    refine lv_iconst (v := 0) hx hb dX9_mornings_9 (by decide) ?_
    refine lv_bipush (v := 6) hx hb dX9_mornings_10 (by decide) ?_
    refine st_callRI (st_runSR (n := 3) (As := [.int x2, .int 0, .int 6]) (rest := []) F (co_Mo_in l D cy x2 0 6 _ h) gX9_mornings_X9_in rfl (by decide +kernel) rfl hKK hP [] rfl rfl hl.1 rfl (Nat.le_of_ble_eq_true rfl) dX9_mornings_12) (fun r_6 h => ?_)
    refine lv_if_eq (tgt := 28) hx hb dX9_mornings_15 (by decide) (fun c_7 => ?_) (fun c_7 => ?_)
    · have h := h.1 c_7
      exact kJ28_1  _ _ _ h hP hD hS (lv_sub hl [0] rfl)
    · have h := h.2 c_7
      refine lv_iload_n hx hb dX9_mornings_18 rfl (lv_at hl 3 rfl) ?_
      refine lv_iconst (v := 0) hx hb dX9_mornings_19 (by decide) ?_
      refine lv_bipush (v := 10) hx hb dX9_mornings_20 (by decide) ?_
      refine st_callRI (st_runSR (n := 3) (As := [.int x3, .int 0, .int 10]) (rest := []) F (co_Mo_in l D cy x3 0 10 _ h) gX9_mornings_X9_in rfl (by decide +kernel) rfl hKK hP [] rfl rfl hl.1 rfl (Nat.le_of_ble_eq_true rfl) dX9_mornings_22) (fun r_8 h => ?_)
      refine lv_if_ne (tgt := 35) hx hb dX9_mornings_25 (by decide) (fun c_9 => ?_) (fun c_9 => ?_)
      · have h := h.1 c_9
        refine lv_lconst (v := 0) hx hb dX9_mornings_35 (by decide) ?_
        refine lv_lstore (lv' := [(4, .long 0), (0, .ref a_this), (1, .int x1), (2, .int x2), (3, .int x3)]) hx hb dX9_mornings_36 hl (by decide) rfl (fun ls hl => ?_)
        refine lv_lconst (v := 0) hx hb dX9_mornings_38 (by decide) ?_
        refine lv_lstore (lv' := [(6, .long 0), (4, .long 0), (0, .ref a_this), (1, .int x1), (2, .int x2), (3, .int x3)]) hx hb dX9_mornings_39 hl (by decide) rfl (fun ls hl => ?_)
        refine lv_iconst (v := 0) hx hb dX9_mornings_41 (by decide) ?_
        refine lv_istore (lv' := [(8, .int 0), (6, .long 0), (4, .long 0), (0, .ref a_this), (1, .int x1), (2, .int x2), (3, .int x3)]) hx hb dX9_mornings_42 hl (by decide) rfl (fun ls hl => ?_)
        obtain ⟨T44_13, hz44_13, hs44_13, n44_13, h⟩ := lpw4_use h
        have kT44_13 : ∀ (n : Nat) (x4_10 : Int64) (x6_11 : Int64) (x8_12 : Int32) (s_row_13 : Nat → Int32) (H : Heap) (locs : List Loc) (ls : Array Slot), T44_13 n x4_10 x6_11 x8_12 s_row_13 → va_P D vwCl (Wd_Mo_mornings cy a_this a_refused a_row a_isKept a_text a_words a_cost a_steps a_mates a_bestMates a_comes s_above s_below s_length s_at s_behind s_readFlitches s_readFamilies s_doing s_refused s_row_13) H → va_D A (Wd_Mo_mornings cy a_this a_refused a_row a_isKept a_text a_words a_cost a_steps a_mates a_bestMates a_comes s_above s_below s_length s_at s_behind s_readFlitches s_readFamilies s_doing s_refused s_row_13) → va_S A s.heap H locs → lv_has ls 12 [(0, .ref a_this), (1, .int x1), (2, .int x2), (3, .int x3), (4, .long x4_10), (6, .long x6_11), (8, .int x8_12)] → W p l e rm_Mo_mornings s m args below meth c H locs 0 0 QQ (F0 m 44 ls []) := by
          intro n
          induction n with
          | zero => intro x4_10 x6_11 x8_12 s_row_13 H locs ls h; exact absurd h (hz44_13 _ _ _ _)
          | succ n ih44_13 =>
            intro x4_10 x6_11 x8_12 s_row_13 H locs ls h hP hD hS hl
            have h := hs44_13 _ _ _ _ _ h
            refine lv_iload hx hb dX9_mornings_44 (lv_at hl 6 rfl) ?_
            refine lv_iconst (v := 1) hx hb dX9_mornings_46 (by decide) ?_
            refine lv_iload_n hx hb dX9_mornings_47 rfl (lv_at hl 2 rfl) ?_
            refine lv_ishl hx hb dX9_mornings_48 ?_
            refine lv_icmp_ge (tgt := 152) hx hb dX9_mornings_49 (by decide) (fun c_15 => ?_) (fun c_15 => ?_)
            · have h := h.1 c_15
              refine lv_aload_n hx hb dX9_mornings_152 rfl (lv_at hl 0 rfl) ?_
              refine lv_lload hx hb dX9_mornings_153 (lv_at hl 4 rfl) ?_
              refine lv_lload hx hb dX9_mornings_155 (lv_at hl 5 rfl) ?_
              refine st_callV (WR := [1, 2].filterMap (fun i => (Wd_Mo_mornings cy a_this a_refused a_row a_isKept a_text a_words a_cost a_steps a_mates a_bestMates a_comes s_above s_below s_length s_at s_behind s_readFlitches s_readFamilies s_doing s_refused s_row_13)[i]?)) (WSn := fun u => (Wd_Mo_mornings cy a_this a_refused a_row a_isKept a_text a_words a_cost a_steps a_mates a_bestMates a_comes u.1 u.2 s_length s_at s_behind s_readFlitches s_readFamilies s_doing s_refused s_row_13)) (st_runV (n := 2) (As := [.long x4_10, .long x6_11]) (rest := []) (q0 := 0) F ((co_Mo_tellPart l D cy a_this a_row a_isKept a_refused a_text a_words a_cost a_steps a_mates a_bestMates a_comes s_above s_below s_length s_at s_behind s_readFlitches s_readFamilies s_doing x4_10 x6_11 _ h) _) rfl gX9_mornings_X9_tellPart rfl (by decide +kernel) rfl hKK hP hD [0] rfl rfl rfl rfl rfl hl.1 rfl (Nat.le_of_ble_eq_true rfl) dX9_mornings_157) hP hD hS hA [0] [1, 2] [2, 0, 1] rfl rfl rfl (fun _ => rfl) (fun u H locs h hP hD hS => ?_)
              obtain ⟨s_above_17, s_below_18⟩ := u
              dsimp only at h hP hD
              have hP : va_P D vwCl (Wd_Mo_mornings cy a_this a_refused a_row a_isKept a_text a_words a_cost a_steps a_mates a_bestMates a_comes s_above_17 s_below_18 s_length s_at s_behind s_readFlitches s_readFamilies s_doing s_refused s_row_13) H := hP
              have hD : va_D A (Wd_Mo_mornings cy a_this a_refused a_row a_isKept a_text a_words a_cost a_steps a_mates a_bestMates a_comes s_above_17 s_below_18 s_length s_at s_behind s_readFlitches s_readFamilies s_doing s_refused s_row_13) := hD
              refine lv_iconst (v := 1) hx hb dX9_mornings_160 (by decide) ?_
              exact hret _ (s_above_17, s_below_18, s_refused, s_row_13) _ _ _ _ h hP hD hS dX9_mornings_161
            · have h := h.2 c_15
              refine lv_lconst (v := 1) hx hb dX9_mornings_52 (by decide) ?_
              refine lv_lstore (lv' := [(9, .long 1), (0, .ref a_this), (1, .int x1), (2, .int x2), (3, .int x3), (4, .long x4_10), (6, .long x6_11), (8, .int x8_12)]) hx hb dX9_mornings_53 hl (by decide) rfl (fun ls hl => ?_)
              refine lv_aload_n hx hb dX9_mornings_55 rfl (lv_at hl 1 rfl) ?_
              refine st_callV (WR := [1].filterMap (fun i => (Wd_Mo_mornings cy a_this a_refused a_row a_isKept a_text a_words a_cost a_steps a_mates a_bestMates a_comes s_above s_below s_length s_at s_behind s_readFlitches s_readFamilies s_doing s_refused s_row_13)[i]?)) (WSn := fun u => (Wd_Mo_mornings cy a_this a_refused a_row a_isKept a_text a_words a_cost a_steps a_mates a_bestMates a_comes s_above s_below s_length s_at s_behind s_readFlitches s_readFamilies s_doing s_refused u)) (st_runV (n := 0) (As := []) (rest := []) (q0 := 0) F ((co_Mo_layTried l D cy a_this a_row a_isKept a_refused a_text a_words a_cost a_steps a_mates a_bestMates a_comes s_above s_below s_length s_at s_behind s_readFlitches s_readFamilies s_doing s_row_13 _ h) _) rfl gX9_mornings_X9_layTried rfl (by decide +kernel) rfl hKK hP hD [0, 2] rfl rfl rfl rfl rfl hl.1 rfl (Nat.le_of_ble_eq_true rfl) dX9_mornings_56) hP hD hS hA [0, 2] [1] [1, 0, 2] rfl rfl rfl (fun _ => rfl) (fun u H locs h hP hD hS => ?_)
              obtain ⟨s_row_20, rfl⟩ : ∃ z, z = u := ⟨_, rfl⟩
              have hP : va_P D vwCl (Wd_Mo_mornings cy a_this a_refused a_row a_isKept a_text a_words a_cost a_steps a_mates a_bestMates a_comes s_above s_below s_length s_at s_behind s_readFlitches s_readFamilies s_doing s_refused s_row_20) H := hP
              have hD : va_D A (Wd_Mo_mornings cy a_this a_refused a_row a_isKept a_text a_words a_cost a_steps a_mates a_bestMates a_comes s_above s_below s_length s_at s_behind s_readFlitches s_readFamilies s_doing s_refused s_row_20) := hD
              refine lv_iconst (v := 0) hx hb dX9_mornings_59 (by decide) ?_
              refine lv_istore (lv' := [(11, .int 0), (9, .long 1), (0, .ref a_this), (1, .int x1), (2, .int x2), (3, .int x3), (4, .long x4_10), (6, .long x6_11), (8, .int x8_12)]) hx hb dX9_mornings_60 hl (by decide) rfl (fun ls hl => ?_)
              obtain ⟨T62_23, hz62_23, hs62_23, n62_23, h⟩ := lpw3_use h
              have kT62_23 : ∀ (n : Nat) (x9_21 : Int64) (x11_22 : Int32) (s_row_23 : Nat → Int32) (H : Heap) (locs : List Loc) (ls : Array Slot), T62_23 n x9_21 x11_22 s_row_23 → va_P D vwCl (Wd_Mo_mornings cy a_this a_refused a_row a_isKept a_text a_words a_cost a_steps a_mates a_bestMates a_comes s_above s_below s_length s_at s_behind s_readFlitches s_readFamilies s_doing s_refused s_row_23) H → va_D A (Wd_Mo_mornings cy a_this a_refused a_row a_isKept a_text a_words a_cost a_steps a_mates a_bestMates a_comes s_above s_below s_length s_at s_behind s_readFlitches s_readFamilies s_doing s_refused s_row_23) → va_S A s.heap H locs → lv_has ls 12 [(0, .ref a_this), (1, .int x1), (2, .int x2), (3, .int x3), (4, .long x4_10), (6, .long x6_11), (8, .int x8_12), (9, .long x9_21), (11, .int x11_22)] → W p l e rm_Mo_mornings s m args below meth c H locs 0 0 QQ (F0 m 62 ls []) := by
                intro n
                induction n with
                | zero => intro x9_21 x11_22 s_row_23 H locs ls h; exact absurd h (hz62_23 _ _ _)
                | succ n ih62_23 =>
                  intro x9_21 x11_22 s_row_23 H locs ls h hP hD hS hl
                  have h := hs62_23 _ _ _ _ h
                  refine lv_iload hx hb dX9_mornings_62 (lv_at hl 8 rfl) ?_
                  refine lv_iload_n hx hb dX9_mornings_64 rfl (lv_at hl 2 rfl) ?_
                  refine lv_icmp_ge (tgt := 113) hx hb dX9_mornings_65 (by decide) (fun c_25 => ?_) (fun c_25 => ?_)
                  · have h := h.1 c_25
                    refine lv_lload hx hb dX9_mornings_113 (lv_at hl 4 rfl) ?_
                    refine lv_aload_n hx hb dX9_mornings_115 rfl (lv_at hl 0 rfl) ?_
                    refine va_get (D := D) (ci := 8) (v := .ref a_row) (C := RX9) (T := TX9) (N := 18) hx hb hts in_X9 hown hK hP 0 rfl rfl 0 (by decide) fl_7 (fun _ h9 => h9) rfl dX9_mornings_116 ?_
                    refine lv_sipush (v := 760) hx hb dX9_mornings_119 (by decide) ?_
                    refine va_iald hx hb hK hP 2 1 rfl rfl (by unfold vp_in; decide) dX9_mornings_122 ?_
                    refine lv_iload_n hx hb dX9_mornings_123 rfl (lv_at hl 1 rfl) ?_
                    refine st_callRI (st_runSR (n := 2) (As := [.int (s_row_23 (Int32.toNatClampNeg 760)), .int x1]) (rest := [.long x4_10]) F (co_Mo_has l D cy (s_row_23 (Int32.toNatClampNeg 760)) x1 _ h) gX9_mornings_X9_has rfl (by decide +kernel) rfl hKK hP [] rfl rfl hl.1 rfl (Nat.le_of_ble_eq_true rfl) dX9_mornings_124) (fun r_26 h => ?_)
                    obtain ⟨J136, hJ136, h⟩ := jn1_ex h
                    have kJ136_27 : ∀ (v_27 : Int64) (H : Heap) (locs : List Loc) (ls : Array Slot), J136 v_27 → va_P D vwCl (Wd_Mo_mornings cy a_this a_refused a_row a_isKept a_text a_words a_cost a_steps a_mates a_bestMates a_comes s_above s_below s_length s_at s_behind s_readFlitches s_readFamilies s_doing s_refused s_row_23) H → va_D A (Wd_Mo_mornings cy a_this a_refused a_row a_isKept a_text a_words a_cost a_steps a_mates a_bestMates a_comes s_above s_below s_length s_at s_behind s_readFlitches s_readFamilies s_doing s_refused s_row_23) → va_S A s.heap H locs → lv_has ls 12 [(0, .ref a_this), (1, .int x1), (2, .int x2), (3, .int x3), (6, .long x6_11), (8, .int x8_12), (9, .long x9_21)] → W p l e rm_Mo_mornings s m args below meth c H locs 0 0 QQ (F0 m 136 ls [.long v_27, .long x4_10]) := by
                      intro v_27 H locs ls h hP hD hS hl
                      have h := hJ136 _ h
                      refine lv_ladd hx hb dX9_mornings_136 ?_
                      refine lv_topl (fun x4_29 ex4_29 => ?_)
                      have h := h x4_29 ex4_29
                      refine lv_lstore (lv' := [(4, .long x4_29), (0, .ref a_this), (1, .int x1), (2, .int x2), (3, .int x3), (6, .long x6_11), (8, .int x8_12), (9, .long x9_21)]) hx hb dX9_mornings_137 hl (by decide) rfl (fun ls hl => ?_)
                      refine lv_lload hx hb dX9_mornings_139 (lv_at hl 5 rfl) ?_
                      refine lv_lload hx hb dX9_mornings_141 (lv_at hl 7 rfl) ?_
                      refine lv_ladd hx hb dX9_mornings_143 ?_
                      refine lv_topl (fun x6_30 ex6_30 => ?_)
                      have h := h x6_30 ex6_30
                      refine lv_lstore (lv' := [(6, .long x6_30), (4, .long x4_29), (0, .ref a_this), (1, .int x1), (2, .int x2), (3, .int x3), (8, .int x8_12), (9, .long x9_21)]) hx hb dX9_mornings_144 hl (by decide) rfl (fun ls hl => ?_)
                      obtain ⟨x8_31, ex8_31⟩ : ∃ y : Int32, y = x8_12 + 1 := ⟨_, rfl⟩
                      have h := h x8_31 ex8_31
                      refine lv_iinc (v := x8_31) (lv' := [(8, .int x8_31), (6, .long x6_30), (4, .long x4_29), (0, .ref a_this), (1, .int x1), (2, .int x2), (3, .int x3), (9, .long x9_21)]) hx hb dX9_mornings_146 hl (k := 6) rfl (by rw [ex8_31]; rfl) (by decide) rfl (fun ls hl => ?_)
                      refine lv_goto (tgt := 44) hx hb dX9_mornings_149 (by decide) ?_
                      exact ih44_13 _ _ _ _ _ _ _ h hP hD hS (lv_sub hl [3, 4, 5, 6, 2, 1, 0] rfl)
                    refine lv_if_eq (tgt := 135) hx hb dX9_mornings_127 (by decide) (fun c_32 => ?_) (fun c_32 => ?_)
                    · have h := h.1 c_32
                      refine lv_lconst (v := 0) hx hb dX9_mornings_135 (by decide) ?_
                      exact kJ136_27 _ _ _ _ h hP hD hS (lv_sub hl [0, 1, 2, 3, 5, 6, 7] rfl)
                    · have h := h.2 c_32
                      refine lv_lload hx hb dX9_mornings_130 (lv_at hl 7 rfl) ?_
                      refine lv_goto (tgt := 136) hx hb dX9_mornings_132 (by decide) ?_
                      exact kJ136_27 _ _ _ _ h hP hD hS (lv_sub hl [0, 1, 2, 3, 5, 6, 7] rfl)
                  · have h := h.2 c_25
                    refine lv_lload hx hb dX9_mornings_68 (lv_at hl 7 rfl) ?_
                    refine lv_iload hx hb dX9_mornings_70 (lv_at hl 6 rfl) ?_
                    refine lv_iload hx hb dX9_mornings_72 (lv_at hl 8 rfl) ?_
                    refine st_callRI (st_runSR (n := 2) (As := [.int x8_12, .int x11_22]) (rest := [.long x9_21]) F (co_Mo_has l D cy x8_12 x11_22 _ h) gX9_mornings_X9_has rfl (by decide +kernel) rfl hKK hP [] rfl rfl hl.1 rfl (Nat.le_of_ble_eq_true rfl) dX9_mornings_74) (fun r_33 h => ?_)
                    obtain ⟨J90, hJ90, h⟩ := jn1_ex h
                    have kJ90_34 : ∀ (v_34 : Int64) (H : Heap) (locs : List Loc) (ls : Array Slot), J90 v_34 → va_P D vwCl (Wd_Mo_mornings cy a_this a_refused a_row a_isKept a_text a_words a_cost a_steps a_mates a_bestMates a_comes s_above s_below s_length s_at s_behind s_readFlitches s_readFamilies s_doing s_refused s_row_23) H → va_D A (Wd_Mo_mornings cy a_this a_refused a_row a_isKept a_text a_words a_cost a_steps a_mates a_bestMates a_comes s_above s_below s_length s_at s_behind s_readFlitches s_readFamilies s_doing s_refused s_row_23) → va_S A s.heap H locs → lv_has ls 12 [(0, .ref a_this), (1, .int x1), (2, .int x2), (3, .int x3), (4, .long x4_10), (6, .long x6_11), (8, .int x8_12), (11, .int x11_22)] → W p l e rm_Mo_mornings s m args below meth c H locs 0 0 QQ (F0 m 90 ls [.long v_34, .long x9_21]) := by
                      intro v_34 H locs ls h hP hD hS hl
                      have h := hJ90 _ h
                      refine lv_lmul hx hb dX9_mornings_90 ?_
                      refine lv_topl (fun x9_36 ex9_36 => ?_)
                      have h := h x9_36 ex9_36
                      refine lv_lstore (lv' := [(9, .long x9_36), (0, .ref a_this), (1, .int x1), (2, .int x2), (3, .int x3), (4, .long x4_10), (6, .long x6_11), (8, .int x8_12), (11, .int x11_22)]) hx hb dX9_mornings_91 hl (by decide) rfl (fun ls hl => ?_)
                      refine lv_aload_n hx hb dX9_mornings_93 rfl (lv_at hl 1 rfl) ?_
                      refine lv_sipush (v := 753) hx hb dX9_mornings_94 (by decide) ?_
                      refine lv_iload hx hb dX9_mornings_97 (lv_at hl 7 rfl) ?_
                      refine lv_iload hx hb dX9_mornings_99 (lv_at hl 8 rfl) ?_
                      refine st_callRI (st_runSR (n := 2) (As := [.int x8_12, .int x11_22]) (rest := [.int 753, .ref a_this]) F (co_Mo_has l D cy x8_12 x11_22 _ h) gX9_mornings_X9_has rfl (by decide +kernel) rfl hKK hP [] rfl rfl hl.1 rfl (Nat.le_of_ble_eq_true rfl) dX9_mornings_101) (fun r_37 h => ?_)
                      refine st_callV (WR := [1].filterMap (fun i => (Wd_Mo_mornings cy a_this a_refused a_row a_isKept a_text a_words a_cost a_steps a_mates a_bestMates a_comes s_above s_below s_length s_at s_behind s_readFlitches s_readFamilies s_doing s_refused s_row_23)[i]?)) (WSn := fun u => (Wd_Mo_mornings cy a_this a_refused a_row a_isKept a_text a_words a_cost a_steps a_mates a_bestMates a_comes s_above s_below s_length s_at s_behind s_readFlitches s_readFamilies s_doing s_refused u)) (st_runV (n := 2) (As := [.int 753, .int r_37]) (rest := []) (q0 := 0) F ((co_Mo_passes l D cy a_this a_row a_isKept a_refused a_text a_words a_cost a_steps a_mates a_bestMates a_comes s_above s_below s_length s_at s_behind s_readFlitches s_readFamilies s_doing s_row_23 753 r_37 _ h) _) rfl gX9_mornings_X9_passes rfl (by decide +kernel) rfl hKK hP hD [0, 2] rfl rfl rfl rfl rfl hl.1 rfl (Nat.le_of_ble_eq_true rfl) dX9_mornings_104) hP hD hS hA [0, 2] [1] [1, 0, 2] rfl rfl rfl (fun _ => rfl) (fun u H locs h hP hD hS => ?_)
                      obtain ⟨s_row_39, rfl⟩ : ∃ z, z = u := ⟨_, rfl⟩
                      have hP : va_P D vwCl (Wd_Mo_mornings cy a_this a_refused a_row a_isKept a_text a_words a_cost a_steps a_mates a_bestMates a_comes s_above s_below s_length s_at s_behind s_readFlitches s_readFamilies s_doing s_refused s_row_39) H := hP
                      have hD : va_D A (Wd_Mo_mornings cy a_this a_refused a_row a_isKept a_text a_words a_cost a_steps a_mates a_bestMates a_comes s_above s_below s_length s_at s_behind s_readFlitches s_readFamilies s_doing s_refused s_row_39) := hD
                      obtain ⟨x11_40, ex11_40⟩ : ∃ y : Int32, y = x11_22 + 1 := ⟨_, rfl⟩
                      have h := h x11_40 ex11_40
                      refine lv_iinc (v := x11_40) (lv' := [(11, .int x11_40), (9, .long x9_36), (0, .ref a_this), (1, .int x1), (2, .int x2), (3, .int x3), (4, .long x4_10), (6, .long x6_11), (8, .int x8_12)]) hx hb dX9_mornings_107 hl (k := 8) rfl (by rw [ex11_40]; rfl) (by decide) rfl (fun ls hl => ?_)
                      refine lv_goto (tgt := 62) hx hb dX9_mornings_110 (by decide) ?_
                      exact ih62_23 _ _ _ _ _ _ h hP hD hS (lv_sub hl [2, 3, 4, 5, 6, 7, 8, 1, 0] rfl)
                    refine lv_if_eq (tgt := 85) hx hb dX9_mornings_77 (by decide) (fun c_41 => ?_) (fun c_41 => ?_)
                    · have h := h.1 c_41
                      refine lv_bipush (v := 10) hx hb dX9_mornings_85 (by decide) ?_
                      refine lv_iload_n hx hb dX9_mornings_87 rfl (lv_at hl 3 rfl) ?_
                      refine lv_isub hx hb dX9_mornings_88 ?_
                      refine lv_i2l hx hb dX9_mornings_89 rfl ?_
                      exact kJ90_34 _ _ _ _ h hP hD hS (lv_sub hl [0, 1, 2, 3, 4, 5, 6, 8] rfl)
                    · have h := h.2 c_41
                      refine lv_iload_n hx hb dX9_mornings_80 rfl (lv_at hl 3 rfl) ?_
                      refine lv_i2l hx hb dX9_mornings_81 rfl ?_
                      refine lv_goto (tgt := 90) hx hb dX9_mornings_82 (by decide) ?_
                      exact kJ90_34 _ _ _ _ h hP hD hS (lv_sub hl [0, 1, 2, 3, 4, 5, 6, 8] rfl)
              exact kT62_23 n62_23 _ _ _ _ _ _ h hP hD hS (lv_sub hl [2, 3, 4, 5, 6, 7, 8, 1, 0] rfl)
        exact kT44_13 n44_13 _ _ _ _ _ _ _ h hP hD hS (lv_sub hl [3, 4, 5, 6, 2, 1, 0] rfl)
      · have h := h.2 c_9
        exact kJ28_1  _ _ _ h hP hD hS (lv_sub hl [0] rfl)
