def hgN (p : Nat → Nat) (k c s : Nat) : Nat → Nat := updN (updN (updN (updN (updN (updN p (18 + p 17) k) (21 + p 17) c) (24 + p 17) s) 15 (p 15 + 2 ^ p 17)) 17 (p 17 + 1)) 114 0
theorem hgN_o (p : Nat → Nat) (k c s : Nat) {j : Nat} (h1 : j ≠ 114) (h2 : j ≠ 17) (h3 : j ≠ 15) (h4 : j ≠ 18 + p 17) (h5 : j ≠ 21 + p 17) (h6 : j ≠ 24 + p 17) : hgN p k c s j = p j := by
  unfold hgN
  rw [updN_n h1, updN_n h2, updN_n h3, updN_n h6, updN_n h5, updN_n h4]
theorem Inv.hang {p : Nat → Nat} (h : Inv p) (hl : p 17 < 3) {k c s : Nat} (hk : k < 6) (hc : c < 25) (hs1 : 1 ≤ s) (hs2 : s ≤ 20) : Inv (hgN p k c s) := by
  have h15 : p 15 < 2 ^ p 17 := by have := h.2.2.2.1.2.2.2.2.1; rwa [Nat.zero_add] at this
  obtain ⟨h1, h2, h3, h4, h5, h6, h7, h8, h9⟩ := h
  have q5 := h5.1
  have q6 := h6.1
  have q7 := h7.1
  have e : ∀ j, j ≠ 114 → j ≠ 17 → j ≠ 15 → (j < 18 ∨ 27 ≤ j) → hgN p k c s j = p j := fun j a b d f => hgN_o p k c s a b d (by omega) (by omega) (by omega)
  have e27 := e 27 (by omega) (by omega) (by omega) (by omega)
  have e17 : hgN p k c s 17 = p 17 + 1 := by unfold hgN; rw [updN_n (by omega), updN_s]
  have e15 : hgN p k c s 15 = p 15 + 2 ^ p 17 := by unfold hgN; rw [updN_n (by omega), updN_n (by omega), updN_s]
  obtain ⟨g1, g2, g3, g4, g5, g6⟩ := h4
  refine ⟨by rw [e27]; exact h1, ?_, ?_, ⟨fun j hj => ?_, fun j hj hj7 => ?_, ?_, fun j hj => ?_, ?_, ?_⟩, ?_, ?_, ?_, ?_⟩
  · unfold FlP
    rw [e17]
    refine ⟨by omega, fun j hj => ?_⟩
    show hgN p k c s (18 + j) < 6 ∧ hgN p k c s (21 + j) < 25 ∧ 1 ≤ hgN p k c s (24 + j) ∧ hgN p k c s (24 + j) ≤ 20
    by_cases q : j = p 17
    · subst q
      have a1 : hgN p k c s (18 + p 17) = k := by unfold hgN; rw [updN_n (by omega), updN_n (by omega), updN_n (by omega), updN_n (by omega), updN_n (by omega), updN_s]
      have a2 : hgN p k c s (21 + p 17) = c := by unfold hgN; rw [updN_n (by omega), updN_n (by omega), updN_n (by omega), updN_n (by omega), updN_s]
      have a3 : hgN p k c s (24 + p 17) = s := by unfold hgN; rw [updN_n (by omega), updN_n (by omega), updN_n (by omega), updN_s]
      rw [a1, a2, a3]
      exact ⟨hk, hc, hs1, hs2⟩
    · rw [hgN_o p k c s (j := 18 + j) (by omega) (by omega) (by omega) (by omega) (by omega) (by omega), hgN_o p k c s (j := 21 + j) (by omega) (by omega) (by omega) (by omega) (by omega) (by omega), hgN_o p k c s (j := 24 + j) (by omega) (by omega) (by omega) (by omega) (by omega) (by omega)]
      exact h2.2 j (by omega)
  · intro i hi
    rw [e27] at hi
    rw [e (28 + i) (by omega) (by omega) (by omega) (by omega), e (35 + i) (by omega) (by omega) (by omega) (by omega)]
    exact h3 i hi
  · rw [e27] at hj; rw [e _ (by omega) (by omega) (by omega) (by omega)]; exact g1 j hj
  · rw [e27] at hj; rw [e _ (by omega) (by omega) (by omega) (by omega)]; exact g2 j hj hj7
  · rw [e _ (by omega) (by omega) (by omega) (by omega), e27, g3]; exact lapN_cong (fun j hj => by rw [e _ (by omega) (by omega) (by omega) (by omega)])
  · rw [e27] at hj; rw [e _ (by omega) (by omega) (by omega) (by omega)]; exact g4 j hj
  · rw [show 0 + 15 = 15 from rfl, e15, e17, Nat.pow_succ]; omega
  · rw [e _ (by omega) (by omega) (by omega) (by omega)]; exact g6
  · unfold SnOk
    rw [e 42 (by omega) (by omega) (by omega) (by omega), e27]
    refine ⟨h5.1, fun j hj => ?_⟩
    rw [e (43 + 3 * j) (by omega) (by omega) (by omega) (by omega), e (44 + 3 * j) (by omega) (by omega) (by omega) (by omega), e (45 + 3 * j) (by omega) (by omega) (by omega) (by omega)]
    exact h5.2 j hj
  · unfold NtOk
    rw [e 58 (by omega) (by omega) (by omega) (by omega), e17]
    refine ⟨h6.1, fun j hj => ?_⟩
    rw [e (59 + 5 * j) (by omega) (by omega) (by omega) (by omega), e (60 + 5 * j) (by omega) (by omega) (by omega) (by omega), e (61 + 5 * j) (by omega) (by omega) (by omega) (by omega), e (62 + 5 * j) (by omega) (by omega) (by omega) (by omega), e (63 + 5 * j) (by omega) (by omega) (by omega) (by omega)]
    have := h6.2 j hj
    omega
  · unfold MkOk
    rw [e 89 (by omega) (by omega) (by omega) (by omega), e27]
    refine ⟨h7.1, fun j hj => ?_⟩
    rw [e (90 + 4 * j) (by omega) (by omega) (by omega) (by omega), e (91 + 4 * j) (by omega) (by omega) (by omega) (by omega), e (92 + 4 * j) (by omega) (by omega) (by omega) (by omega), e (93 + 4 * j) (by omega) (by omega) (by omega) (by omega)]
    exact h7.2 j hj
  · have e114 : hgN p k c s 114 = 0 := by unfold hgN; rw [updN_s]
    unfold PaOk
    rw [e114]
    exact ⟨by omega, fun j hj => absurd hj (by omega)⟩
theorem or_b3 : ∀ n, n < 3 → ∀ x, x < 2 ^ n → nI x ||| ishl 1 (nI n) = nI (x + 2 ^ n) := by decide +kernel
theorem s_hang {p : Nat → Nat} {flCell flKind flStr : Nat → Int32} {pS : Int32} (hI : Inv p) (hl : p 17 < 3) (a9 : Ar (p 17) flCell (fun k => p (21 + k))) (a10 : Ar (p 17) flKind (fun k => p (18 + k))) (a11 : Ar (p 17) flStr (fun k => p (24 + k))) {k c s : Nat} {Q : Int32 → Int32 → (Nat → Int32) → (Nat → Int32) → (Nat → Int32) → Int32 → Prop}
    (hQ : ∀ fc fk fs, Ar (p 17 + 1) fc (fun j => hgN p k c s (21 + j)) → Ar (p 17 + 1) fk (fun j => hgN p k c s (18 + j)) → Ar (p 17 + 1) fs (fun j => hgN p k c s (24 + j)) → Q (nI (p 17 + 1)) (nI (p 15 + 2 ^ p 17)) fc fk fs 0) : wp_Pa_hang (nI k) (nI c) (nI s) (nI (p 17)) (nI (p 15)) flCell flKind flStr pS Q := by
  have h15 : p 15 < 2 ^ p 17 := by have := hI.2.2.2.1.2.2.2.2.1; rwa [Nat.zero_add] at this
  have v : vp_in (nI (p 17)) 3 := vp_in_nI hl (by omega)
  have ho := or_b3 (p 17) hl (p 15) h15
  simp only [wp_Pa_hang, v, true_and, fe_e, nI_1, nI_clamp (show p 17 < 2 ^ 31 by omega), ho]
  refine hQ _ _ _ (fun j hj => ?_) (fun j hj => ?_) (fun j hj => ?_)
  · show _ = nI (hgN p k c s (21 + j))
    by_cases q : j = p 17
    · subst q
      have a2 : hgN p k c s (21 + p 17) = c := by unfold hgN; rw [updN_n (by omega), updN_n (by omega), updN_n (by omega), updN_n (by omega), updN_s]
      rw [pk_us, a2]
    · rw [pk_un q, hgN_o p k c s (by omega) (by omega) (by omega) (by omega) (by omega) (by omega)]; exact a9 j (by omega)
  · show _ = nI (hgN p k c s (18 + j))
    by_cases q : j = p 17
    · subst q
      have a1 : hgN p k c s (18 + p 17) = k := by unfold hgN; rw [updN_n (by omega), updN_n (by omega), updN_n (by omega), updN_n (by omega), updN_n (by omega), updN_s]
      rw [pk_us, a1]
    · rw [pk_un q, hgN_o p k c s (by omega) (by omega) (by omega) (by omega) (by omega) (by omega)]; exact a10 j (by omega)
  · show _ = nI (hgN p k c s (24 + j))
    by_cases q : j = p 17
    · subst q
      have a3 : hgN p k c s (24 + p 17) = s := by unfold hgN; rw [updN_n (by omega), updN_n (by omega), updN_n (by omega), updN_s]
      rw [pk_us, a3]
    · rw [pk_un q, hgN_o p k c s (by omega) (by omega) (by omega) (by omega) (by omega) (by omega)]; exact a11 j (by omega)
theorem s_addFlitch {p : Nat → Nat} {row : Nat → Int32} (hI : Inv p) (hM : MR p row 0) (hl : p 17 < 3) {k c s : Nat} {Q : (Nat → Int32) → Prop} (hQ : ∀ row', MR (hgN p k c s) row' 0 → Hi row' row → Q row') : wp_Mo_addFlitch (nI k) (nI c) (nI s) row Q := by
  have h15 : p 15 < 2 ^ p 17 := by have := hI.2.2.2.1.2.2.2.2.1; rwa [Nat.zero_add] at this
  have ho := or_b3 (p 17) hl (p 15) h15
  have e17 : row (Int32.toNatClampNeg 17) = nI (p 17) := hM.at0 (j := 17) (by omega)
  have e18 : (18 : Int32) + nI (p 17) = nI (18 + p 17) := nI_add 18 _
  have e21 : (21 : Int32) + nI (p 17) = nI (21 + p 17) := nI_add 21 _
  have e24 : (24 : Int32) + nI (p 17) = nI (24 + p 17) := nI_add 24 _
  have v18 : vp_in (nI (18 + p 17)) 770 := vp_in_nI (by omega) (by omega)
  have v21 : vp_in (nI (21 + p 17)) 770 := vp_in_nI (by omega) (by omega)
  have v24 : vp_in (nI (24 + p 17)) 770 := vp_in_nI (by omega) (by omega)
  have r15 : (upd (upd (upd row (18 + p 17) (nI k)) (21 + p 17) (nI c)) (24 + p 17) (nI s)) (Int32.toNatClampNeg 15) = nI (p 15) := by
    show (upd (upd (upd row (18 + p 17) (nI k)) (21 + p 17) (nI c)) (24 + p 17) (nI s)) 15 = _
    rw [pk_un (by omega), pk_un (by omega), pk_un (by omega)]; exact hM.at0 (by omega)
  have r17 : (upd (upd (upd (upd row (18 + p 17) (nI k)) (21 + p 17) (nI c)) (24 + p 17) (nI s)) (Int32.toNatClampNeg 15) (nI (p 15 + 2 ^ p 17))) (Int32.toNatClampNeg 17) = nI (p 17) := by
    show (upd (upd (upd (upd row (18 + p 17) (nI k)) (21 + p 17) (nI c)) (24 + p 17) (nI s)) 15 (nI (p 15 + 2 ^ p 17))) 17 = _
    rw [pk_un (by omega), pk_un (by omega), pk_un (by omega), pk_un (by omega)]; exact hM.at0 (by omega)
  simp only [wp_Mo_addFlitch, fe_e, e17, e18, e21, e24, v18, v21, v24, true_and, nI_clamp (show 18 + p 17 < 2 ^ 31 by omega), nI_clamp (show 21 + p 17 < 2 ^ 31 by omega), nI_clamp (show 24 + p 17 < 2 ^ 31 by omega), r15, ho, r17, nI_1]
  refine hQ _ ((((((hM.up (18 + p 17) k).up (21 + p 17) c).up (24 + p 17) s).up 15 (p 15 + 2 ^ p 17)).up 17 (p 17 + 1)).up 114 0) ?_
  exact (Hi.up (k := 114) (Or.inl (by omega))).tr ((Hi.up (k := 17) (Or.inl (by omega))).tr ((Hi.up (k := 15) (Or.inl (by omega))).tr ((Hi.up (Or.inl (by omega))).tr ((Hi.up (Or.inl (by omega))).tr (Hi.up (Or.inl (by omega)))))))
theorem PS.hang {p : Nat → Nat} {flC faC hu da : Int32} {faCell faKind faSide faWill flCell flKind flStr : Nat → Int32} {mS : Int32} {mN : Nat → Int32} {nS : Int32} {nN : Nat → Int32} {pS : Int32} {pN : Nat → Int32} {sS : Int32} {sN : Nat → Int32} {flCell' flKind' flStr' : Nat → Int32}
    (h : PS p flC faC hu da faCell faKind faSide faWill flCell flKind flStr mS mN nS nN pS pN sS sN) (hl : p 17 < 3) {k c s : Nat} (hk : k < 6) (hc : c < 25) (hs1 : 1 ≤ s) (hs2 : s ≤ 20) (b1 : Ar (p 17 + 1) flCell' (fun j => hgN p k c s (21 + j))) (b2 : Ar (p 17 + 1) flKind' (fun j => hgN p k c s (18 + j))) (b3 : Ar (p 17 + 1) flStr' (fun j => hgN p k c s (24 + j))) : PS (hgN p k c s) (nI (p 17 + 1)) faC (nI (p 15 + 2 ^ p 17)) da faCell faKind faSide faWill flCell' flKind' flStr' mS mN nS nN 0 pN sS sN := by
  obtain ⟨h0, ⟨a1, a2, a3, a4, a5, a6, a7, a8, a9, a10, a11⟩, hm, hn, -, hs⟩ := h
  have e : ∀ j, j ≠ 114 → j ≠ 17 → j ≠ 15 → (j < 18 ∨ 27 ≤ j) → hgN p k c s j = p j := fun j a b d f => hgN_o p k c s a b d (by omega) (by omega) (by omega)
  have e27 := e 27 (by omega) (by omega) (by omega) (by omega)
  have e17 : hgN p k c s 17 = p 17 + 1 := by unfold hgN; rw [updN_n (by omega), updN_s]
  have e15 : hgN p k c s 15 = p 15 + 2 ^ p 17 := by unfold hgN; rw [updN_n (by omega), updN_n (by omega), updN_s]
  have e114 : hgN p k c s 114 = 0 := by unfold hgN; rw [updN_s]
  have h7 := h0.1
  refine ⟨h0.hang hl hk hc hs1 hs2, ⟨by rw [e17], by rw [e27]; exact a2, by rw [e15], by rw [e 16 (by omega) (by omega) (by omega) (by omega)]; exact a4, ?_, ?_, ?_, ?_, by rw [e17]; exact b1, by rw [e17]; exact b2, by rw [e17]; exact b3⟩, hm.cong (fun j h1 h2 => e j (by omega) (by omega) (by omega) (by omega)) h0.2.2.2.2.2.2.1.1, hn.cong (fun j h1 h2 => e j (by omega) (by omega) (by omega) (by omega)) h0.2.2.2.2.2.1.1, ⟨by rw [e114]; rfl, fun k hk => absurd hk (by rw [e114]; omega)⟩, hs.cong (fun j h1 h2 => e j (by omega) (by omega) (by omega) (by omega)) h0.2.2.2.2.1.1⟩
  · intro i hi; rw [e27] at hi; rw [a5 i hi]; simp only [e (8 + i) (by omega) (by omega) (by omega) (by omega)]
  · intro i hi; rw [e27] at hi; rw [a6 i hi]; simp only [e (28 + i) (by omega) (by omega) (by omega) (by omega)]
  · intro i hi; rw [e27] at hi; rw [a7 i hi]; simp only [e (35 + i) (by omega) (by omega) (by omega) (by omega)]
  · intro i hi; rw [e27] at hi; rw [a8 i hi]; simp only [e i (by omega) (by omega) (by omega) (by omega)]
set_option maxHeartbeats 4000000 in
set_option maxRecDepth 100000 in
theorem po_flitch {x_textLength : Int32} {x_above : Int64} {x_below : Int64} {x_timesBad : Int32} {x_timesNo : Int32} {x_timesFull : Int32} {x_images_0_flitchCount : Int32} {x_images_0_familyCount : Int32} {x_images_0_hung : Int32} {x_images_0_day : Int32} {x_images_0_familyCell : Nat → Int32} {x_images_0_familyKind : Nat → Int32} {x_images_0_familySide : Nat → Int32} {x_images_0_familyWill : Nat → Int32} {x_images_0_flitchCell : Nat → Int32} {x_images_0_flitchKind : Nat → Int32} {x_images_0_flitchStrength : Nat → Int32} {x_images_0_marks_size : Int32} {x_images_0_marks_numbers : Nat → Int32} {x_images_0_notes_size : Int32} {x_images_0_notes_numbers : Nat → Int32} {x_images_0_past_size : Int32} {x_images_0_past_numbers : Nat → Int32} {x_images_0_sightings_size : Int32} {x_images_0_sightings_numbers : Nat → Int32} {x_images_1_flitchCount : Int32} {x_images_1_familyCount : Int32} {x_images_1_hung : Int32} {x_images_1_day : Int32} {x_images_1_familyCell : Nat → Int32} {x_images_1_familyKind : Nat → Int32} {x_images_1_familySide : Nat → Int32} {x_images_1_familyWill : Nat → Int32} {x_images_1_flitchCell : Nat → Int32} {x_images_1_flitchKind : Nat → Int32} {x_images_1_flitchStrength : Nat → Int32} {x_images_1_marks_size : Int32} {x_images_1_marks_numbers : Nat → Int32} {x_images_1_notes_size : Int32} {x_images_1_notes_numbers : Nat → Int32} {x_images_1_past_size : Int32} {x_images_1_past_numbers : Nat → Int32} {x_images_1_sightings_size : Int32} {x_images_1_sightings_numbers : Nat → Int32} {x_kept : Nat → Int32} {x_now_flitchCount : Int32} {x_now_familyCount : Int32} {x_now_hung : Int32} {x_now_day : Int32} {x_now_familyCell : Nat → Int32} {x_now_familyKind : Nat → Int32} {x_now_familySide : Nat → Int32} {x_now_familyWill : Nat → Int32} {x_now_flitchCell : Nat → Int32} {x_now_flitchKind : Nat → Int32} {x_now_flitchStrength : Nat → Int32} {x_now_marks_width : Int32} {x_now_marks_limit : Int32} {x_now_marks_size : Int32} {x_now_marks_numbers : Nat → Int32} {x_now_notes_width : Int32} {x_now_notes_limit : Int32} {x_now_notes_size : Int32} {x_now_notes_numbers : Nat → Int32} {x_now_past_width : Int32} {x_now_past_limit : Int32} {x_now_past_size : Int32} {x_now_past_numbers : Nat → Int32} {x_now_sightings_width : Int32} {x_now_sightings_limit : Int32} {x_now_sightings_size : Int32} {x_now_sightings_numbers : Nat → Int32} {x_text : Nat → Int32} {m_above : Int64} {m_below : Int64} {m_length : Int32} {m_isKept : Nat → Int32} {m_refused : Nat → Int32} {m_row : Nat → Int32} {m_text : Nat → Int32} {m_words : Nat → Int32} (h : Rel x_textLength x_above x_below x_timesBad x_timesNo x_timesFull x_images_0_flitchCount x_images_0_familyCount x_images_0_hung x_images_0_day x_images_0_familyCell x_images_0_familyKind x_images_0_familySide x_images_0_familyWill x_images_0_flitchCell x_images_0_flitchKind x_images_0_flitchStrength x_images_0_marks_size x_images_0_marks_numbers x_images_0_notes_size x_images_0_notes_numbers x_images_0_past_size x_images_0_past_numbers x_images_0_sightings_size x_images_0_sightings_numbers x_images_1_flitchCount x_images_1_familyCount x_images_1_hung x_images_1_day x_images_1_familyCell x_images_1_familyKind x_images_1_familySide x_images_1_familyWill x_images_1_flitchCell x_images_1_flitchKind x_images_1_flitchStrength x_images_1_marks_size x_images_1_marks_numbers x_images_1_notes_size x_images_1_notes_numbers x_images_1_past_size x_images_1_past_numbers x_images_1_sightings_size x_images_1_sightings_numbers x_kept x_now_flitchCount x_now_familyCount x_now_hung x_now_day x_now_familyCell x_now_familyKind x_now_familySide x_now_familyWill x_now_flitchCell x_now_flitchKind x_now_flitchStrength x_now_marks_width x_now_marks_limit x_now_marks_size x_now_marks_numbers x_now_notes_width x_now_notes_limit x_now_notes_size x_now_notes_numbers x_now_past_width x_now_past_limit x_now_past_size x_now_past_numbers x_now_sightings_width x_now_sightings_limit x_now_sightings_size x_now_sightings_numbers x_text m_above m_below m_length m_isKept m_refused m_row m_text m_words) (x1 : Int32) (x2 : Int32) (x3 : Int32) : wp_Rc_flitch x1 x2 x3 x_timesBad x_timesFull x_now_flitchCount x_now_hung x_now_flitchCell x_now_flitchKind x_now_flitchStrength x_now_past_size (fun (r : Int32) (x_timesBad' : Int32) (x_timesFull' : Int32) (x_now_flitchCount' : Int32) (x_now_hung' : Int32) (x_now_flitchCell' : Nat → Int32) (x_now_flitchKind' : Nat → Int32) (x_now_flitchStrength' : Nat → Int32) (x_now_past_size' : Int32) => wp_Mo_flitch x1 x2 x3 m_refused m_row (fun (r' : Int32) (m_refused' : Nat → Int32) (m_row' : Nat → Int32) => r = r' ∧ Rel x_textLength x_above x_below x_timesBad' x_timesNo x_timesFull' x_images_0_flitchCount x_images_0_familyCount x_images_0_hung x_images_0_day x_images_0_familyCell x_images_0_familyKind x_images_0_familySide x_images_0_familyWill x_images_0_flitchCell x_images_0_flitchKind x_images_0_flitchStrength x_images_0_marks_size x_images_0_marks_numbers x_images_0_notes_size x_images_0_notes_numbers x_images_0_past_size x_images_0_past_numbers x_images_0_sightings_size x_images_0_sightings_numbers x_images_1_flitchCount x_images_1_familyCount x_images_1_hung x_images_1_day x_images_1_familyCell x_images_1_familyKind x_images_1_familySide x_images_1_familyWill x_images_1_flitchCell x_images_1_flitchKind x_images_1_flitchStrength x_images_1_marks_size x_images_1_marks_numbers x_images_1_notes_size x_images_1_notes_numbers x_images_1_past_size x_images_1_past_numbers x_images_1_sightings_size x_images_1_sightings_numbers x_kept x_now_flitchCount' x_now_familyCount x_now_hung' x_now_day x_now_familyCell x_now_familyKind x_now_familySide x_now_familyWill x_now_flitchCell' x_now_flitchKind' x_now_flitchStrength' x_now_marks_width x_now_marks_limit x_now_marks_size x_now_marks_numbers x_now_notes_width x_now_notes_limit x_now_notes_size x_now_notes_numbers x_now_past_width x_now_past_limit x_now_past_size' x_now_past_numbers x_now_sightings_width x_now_sightings_limit x_now_sightings_size x_now_sightings_numbers x_text m_above m_below m_length m_isKept m_refused' m_row' m_text m_words)) := by
  obtain ⟨⟨p, hPS, hM⟩, ⟨rfl, rfl, rfl, rfl, rfl, rfl, rfl, rfl⟩, hk0, hk1, hTx, hFr, hRf, hWo⟩ := id h
  obtain ⟨hI, ⟨rfl, rfl, rfl, rfl, a5, a6, a7, a8, a9, a10, a11⟩, hm, hn, hp, hs⟩ := id hPS
  have h7 := hI.1
  have h3 := hI.2.1.1
  have e27 : m_row 27 = nI (p 27) := hM.at0 (by omega)
  have e17 : m_row 17 = nI (p 17) := hM.at0 (by omega)
  by_cases q1 : inB x1 0 5 = 0
  · simp only [wp_Rc_flitch, wp_Mo_flitch, true_implies, false_implies, not_true_eq_false, not_false_eq_true, and_true, true_and, jn0_e, w_bad, w_no, w_full, w_badApart, w_refB, w_refN, w_refF, w_badAs, w_within, w_in, w_isCell, w_isFamC, w_isFliC, w_isFamM, w_isFliM, q1]; first | exact rel_bad h | exact ⟨rfl, rel_bad h⟩
  by_cases q2 : inB x2 0 24 = 0
  · simp only [wp_Rc_flitch, wp_Mo_flitch, true_implies, false_implies, not_true_eq_false, not_false_eq_true, and_true, true_and, jn0_e, w_bad, w_no, w_full, w_badApart, w_refB, w_refN, w_refF, w_badAs, w_within, w_in, w_isCell, w_isFamC, w_isFliC, w_isFamM, w_isFliM, q1, q2]; first | exact rel_bad h | exact ⟨rfl, rel_bad h⟩
  by_cases q3 : inB x3 1 20 = 0
  · simp only [wp_Rc_flitch, wp_Mo_flitch, true_implies, false_implies, not_true_eq_false, not_false_eq_true, and_true, true_and, jn0_e, w_bad, w_no, w_full, w_badApart, w_refB, w_refN, w_refF, w_badAs, w_within, w_in, w_isCell, w_isFamC, w_isFliC, w_isFamM, w_isFliM, q1, q2, q3]; first | exact rel_bad h | exact ⟨rfl, rel_bad h⟩
  obtain ⟨k, -, hk, rfl⟩ := inB_nI (lo := 0) (hi := 5) (by omega) (by omega) q1
  obtain ⟨c, -, hc, rfl⟩ := inB_nI (lo := 0) (hi := 24) (by omega) (by omega) q2
  obtain ⟨s, hs1, hs2, rfl⟩ := inB_nI (lo := 1) (hi := 20) (by omega) (by omega) q3
  have eb : m_row (Int32.toNatClampNeg 17) = nI (p 17) := e17
  by_cases hf : p 17 = 3
  · have c1 : (nI (p 17) < 3) = False := eq_false (nI_nlt (b := 3) (by omega) (by omega))
    have c2 : (nI (p 17) = 3) = True := eq_true (by rw [hf]; rfl)
    simp only [wp_Rc_flitch, wp_Mo_flitch, true_implies, false_implies, not_true_eq_false, not_false_eq_true, and_true, true_and, jn0_e, w_bad, w_no, w_full, w_badApart, w_refB, w_refN, w_refF, w_badAs, w_within, w_in, w_isCell, w_isFamC, w_isFliC, w_isFamM, w_isFliM, q1, q2, q3, eb, c1, c2]; first | exact rel_full h | exact ⟨rfl, rel_full h⟩
  · have hf : p 17 < 3 := by omega
    have c1 : (nI (p 17) < 3) = True := eq_true (nI_lt (b := 3) (by omega) (by omega))
    have c2 : (nI (p 17) = 3) = False := eq_false (nI_ne (b := 3) (by omega) (by omega) (by omega))
    simp only [wp_Rc_flitch, wp_Mo_flitch, true_implies, false_implies, not_true_eq_false, not_false_eq_true, and_true, true_and, jn0_e, w_bad, w_no, w_full, w_badApart, w_refB, w_refN, w_refF, w_badAs, w_within, w_in, w_isCell, w_isFamC, w_isFliC, w_isFamM, w_isFliM, q1, q2, q3, eb, c1, c2]
    refine s_hang hI hf a9 a10 a11 (k := k) (c := c) (s := s) (fun fc fk fs b1 b2 b3 => ?_)
    refine s_addFlitch hI hM hf (fun row' hM' hH' => ⟨?_, ?_⟩)
    · show _ = row' 17 - 1
      rw [hM'.at0 (by omega)]
      show _ = nI (hgN p k c s 17) - 1
      rw [show hgN p k c s 17 = p 17 + 1 by unfold hgN; rw [updN_n (by omega), updN_s]]
    · exact rel_now h _ (hPS.hang hf (by omega) (by omega) hs1 hs2 b1 b2 b3) hM' hH'

def stN (p : Nat → Nat) (k sd c w : Nat) : Nat → Nat := updN (updN (updN (updN (updN (updN p (28 + p 27) k) (35 + p 27) sd) (8 + p 27) c) (p 27) w) 27 (p 27 + 1)) 114 0
theorem stN_o (p : Nat → Nat) (k sd c w : Nat) {j : Nat} (h1 : j ≠ 114) (h2 : j ≠ 27) (h3 : j ≠ p 27) (h4 : j ≠ 8 + p 27) (h5 : j ≠ 35 + p 27) (h6 : j ≠ 28 + p 27) : stN p k sd c w j = p j := by
  unfold stN
  rw [updN_n h1, updN_n h2, updN_n h3, updN_n h4, updN_n h5, updN_n h6]
theorem stN_27 (p : Nat → Nat) (k sd c w : Nat) : stN p k sd c w 27 = p 27 + 1 := by unfold stN; rw [updN_n (by omega), updN_s]
theorem stN_k {p : Nat → Nat} (hl : p 27 < 7) (k sd c w : Nat) : stN p k sd c w (28 + p 27) = k := by unfold stN; rw [updN_n (by omega), updN_n (by omega), updN_n (by omega), updN_n (by omega), updN_n (by omega), updN_s]
theorem stN_s {p : Nat → Nat} (hl : p 27 < 7) (k sd c w : Nat) : stN p k sd c w (35 + p 27) = sd := by unfold stN; rw [updN_n (by omega), updN_n (by omega), updN_n (by omega), updN_n (by omega), updN_s]
theorem stN_c {p : Nat → Nat} (hl : p 27 < 7) (k sd c w : Nat) : stN p k sd c w (8 + p 27) = c := by unfold stN; rw [updN_n (by omega), updN_n (by omega), updN_n (by omega), updN_s]
theorem stN_w {p : Nat → Nat} (hl : p 27 < 7) (k sd c w : Nat) : stN p k sd c w (p 27) = w := by unfold stN; rw [updN_n (by omega), updN_n (by omega), updN_s]
theorem Inv.settle {p : Nat → Nat} (h : Inv p) (hl : p 27 < 7) {k sd c w : Nat} (hk : k < 6) (hsd : sd < 2) (hc : c < 25) (hw1 : 1 ≤ w) (hw2 : w ≤ 99) : Inv (stN p k sd c w) := by
  obtain ⟨h1, h2, h3, h4, h5, h6, h7, h8, h9⟩ := h
  have q3 := h2.1
  have q5 := h5.1
  have q6 := h6.1
  have q7 := h7.1
  have e : ∀ j, j ≠ 114 → j ≠ 27 → (j = 7 ∨ (15 ≤ j ∧ j < 28) ∨ 42 ≤ j) → stN p k sd c w j = p j := fun j a b d => stN_o p k sd c w a b (by omega) (by omega) (by omega) (by omega)
  have e17 := e 17 (by omega) (by omega) (by omega)
  have e27 := stN_27 p k sd c w
  obtain ⟨g1, g2, g3, g4, g5, g6⟩ := h4
  have o : ∀ j, j < p 27 → stN p k sd c w j = p j := fun j hj => stN_o p k sd c w (by omega) (by omega) (by omega) (by omega) (by omega) (by omega)
  refine ⟨by rw [e27]; omega, ?_, ?_, ⟨fun j hj => ?_, fun j hj hj7 => ?_, ?_, fun j hj => ?_, ?_, ?_⟩, ?_, ?_, ?_, ?_⟩
  · unfold FlP
    rw [e17]
    refine ⟨h2.1, fun j hj => ?_⟩
    simp only [e (18 + j) (by omega) (by omega) (by omega), e (21 + j) (by omega) (by omega) (by omega), e (24 + j) (by omega) (by omega) (by omega)]
    exact h2.2 j hj
  · intro i hi
    rw [e27] at hi
    by_cases q : i = p 27
    · subst q; rw [stN_k hl, stN_s hl]; exact ⟨hk, hsd⟩
    · rw [stN_o p k sd c w (j := 28 + i) (by omega) (by omega) (by omega) (by omega) (by omega) (by omega), stN_o p k sd c w (j := 35 + i) (by omega) (by omega) (by omega) (by omega) (by omega) (by omega)]
      exact h3 i (by omega)
  · rw [e27] at hj
    rw [Nat.zero_add]
    by_cases q : j = p 27
    · rw [q, stN_w hl]; exact hw2
    · rw [o j (by omega)]; have := g1 j (by omega); rwa [Nat.zero_add] at this
  · rw [e27] at hj
    rw [Nat.zero_add, stN_o p k sd c w (by omega) (by omega) (by omega) (by omega) (by omega) (by omega)]
    have := g2 j (by omega) hj7
    rwa [Nat.zero_add] at this
  · rw [e _ (by omega) (by omega) (by omega), e27, g3]
    simp only [lapN, Nat.zero_add]
    rw [stN_w hl, if_neg (by omega), Nat.add_zero]
    exact lapN_cong (fun j hj => by rw [o j hj])
  · rw [e27] at hj
    rw [show 0 + 8 + j = 8 + j by omega]
    by_cases q : j = p 27
    · rw [q, stN_c hl]; exact hc
    · rw [stN_o p k sd c w (by omega) (by omega) (by omega) (by omega) (by omega) (by omega)]; have := g4 j (by omega); rwa [show 0 + 8 + j = 8 + j by omega] at this
  · rw [e _ (by omega) (by omega) (by omega), e17]; exact g5
  · rw [e _ (by omega) (by omega) (by omega)]; exact g6
  · unfold SnOk
    rw [e 42 (by omega) (by omega) (by omega), e27]
    refine ⟨h5.1, fun j hj => ?_⟩
    rw [e (43 + 3 * j) (by omega) (by omega) (by omega), e (44 + 3 * j) (by omega) (by omega) (by omega), e (45 + 3 * j) (by omega) (by omega) (by omega)]
    have := h5.2 j hj
    omega
  · unfold NtOk
    rw [e 58 (by omega) (by omega) (by omega), e17]
    refine ⟨h6.1, fun j hj => ?_⟩
    rw [e (59 + 5 * j) (by omega) (by omega) (by omega), e (60 + 5 * j) (by omega) (by omega) (by omega), e (61 + 5 * j) (by omega) (by omega) (by omega), e (62 + 5 * j) (by omega) (by omega) (by omega), e (63 + 5 * j) (by omega) (by omega) (by omega)]
    exact h6.2 j hj
  · unfold MkOk
    rw [e 89 (by omega) (by omega) (by omega), e27]
    refine ⟨h7.1, fun j hj => ?_⟩
    rw [e (90 + 4 * j) (by omega) (by omega) (by omega), e (91 + 4 * j) (by omega) (by omega) (by omega), e (92 + 4 * j) (by omega) (by omega) (by omega), e (93 + 4 * j) (by omega) (by omega) (by omega)]
    have := h7.2 j hj
    omega
  · have e114 : stN p k sd c w 114 = 0 := by unfold stN; rw [updN_s]
    unfold PaOk
    rw [e114]
    exact ⟨by omega, fun j hj => absurd hj (by omega)⟩
theorem s_settle {p : Nat → Nat} {faCell faKind faSide faWill : Nat → Int32} {pS : Int32} (hl : p 27 < 7) (a5 : Ar (p 27) faCell (fun i => p (8 + i))) (a6 : Ar (p 27) faKind (fun i => p (28 + i))) (a7 : Ar (p 27) faSide (fun i => p (35 + i))) (a8 : Ar (p 27) faWill p) {k sd c w : Nat} {Q : Int32 → (Nat → Int32) → (Nat → Int32) → (Nat → Int32) → (Nat → Int32) → Int32 → Prop}
    (hQ : ∀ ce kd si wi, Ar (p 27 + 1) ce (fun j => stN p k sd c w (8 + j)) → Ar (p 27 + 1) kd (fun j => stN p k sd c w (28 + j)) → Ar (p 27 + 1) si (fun j => stN p k sd c w (35 + j)) → Ar (p 27 + 1) wi (stN p k sd c w) → Q (nI (p 27 + 1)) ce kd si wi 0) : wp_Pa_settle (nI k) (nI sd) (nI c) (nI w) (nI (p 27)) faCell faKind faSide faWill pS Q := by
  have v : vp_in (nI (p 27)) 7 := vp_in_nI hl (by omega)
  simp only [wp_Pa_settle, v, true_and, fe_e, nI_1, nI_clamp (show p 27 < 2 ^ 31 by omega)]
  refine hQ _ _ _ _ (fun j hj => ?_) (fun j hj => ?_) (fun j hj => ?_) (fun j hj => ?_)
  · show _ = nI (stN p k sd c w (8 + j))
    by_cases q : j = p 27
    · rw [q, pk_us, stN_c hl]
    · rw [pk_un q, stN_o p k sd c w (by omega) (by omega) (by omega) (by omega) (by omega) (by omega)]; exact a5 j (by omega)
  · show _ = nI (stN p k sd c w (28 + j))
    by_cases q : j = p 27
    · rw [q, pk_us, stN_k hl]
    · rw [pk_un q, stN_o p k sd c w (by omega) (by omega) (by omega) (by omega) (by omega) (by omega)]; exact a6 j (by omega)
  · show _ = nI (stN p k sd c w (35 + j))
    by_cases q : j = p 27
    · rw [q, pk_us, stN_s hl]
    · rw [pk_un q, stN_o p k sd c w (by omega) (by omega) (by omega) (by omega) (by omega) (by omega)]; exact a7 j (by omega)
  · by_cases q : j = p 27
    · rw [q, pk_us, stN_w hl]
    · rw [pk_un q, stN_o p k sd c w (by omega) (by omega) (by omega) (by omega) (by omega) (by omega)]; exact a8 j (by omega)
theorem s_addFamily {p : Nat → Nat} {row : Nat → Int32} (hM : MR p row 0) (hl : p 27 < 7) {k sd c w : Nat} {Q : (Nat → Int32) → Prop} (hQ : ∀ row', MR (stN p k sd c w) row' 0 → Hi row' row → Q row') : wp_Mo_addFamily (nI k) (nI sd) (nI c) (nI w) row Q := by
  have e27 : row (Int32.toNatClampNeg 27) = nI (p 27) := hM.at0 (j := 27) (by omega)
  have e28 : (28 : Int32) + nI (p 27) = nI (28 + p 27) := nI_add 28 _
  have e35 : (35 : Int32) + nI (p 27) = nI (35 + p 27) := nI_add 35 _
  have e8 : (8 : Int32) + nI (p 27) = nI (8 + p 27) := nI_add 8 _
  have e0 : (0 : Int32) + nI (p 27) = nI (p 27) := by rw [show (0 : Int32) = nI 0 from rfl, nI_add, Nat.zero_add]
  have v28 : vp_in (nI (28 + p 27)) 770 := vp_in_nI (by omega) (by omega)
  have v35 : vp_in (nI (35 + p 27)) 770 := vp_in_nI (by omega) (by omega)
  have v8 : vp_in (nI (8 + p 27)) 770 := vp_in_nI (by omega) (by omega)
  have v0 : vp_in (nI (p 27)) 770 := vp_in_nI (by omega) (by omega)
  have r27 : (upd (upd (upd (upd row (28 + p 27) (nI k)) (35 + p 27) (nI sd)) (8 + p 27) (nI c)) (p 27) (nI w)) (Int32.toNatClampNeg 27) = nI (p 27) := by
    show (upd (upd (upd (upd row (28 + p 27) (nI k)) (35 + p 27) (nI sd)) (8 + p 27) (nI c)) (p 27) (nI w)) 27 = _
    rw [pk_un (by omega), pk_un (by omega), pk_un (by omega), pk_un (by omega)]; exact hM.at0 (by omega)
  simp only [wp_Mo_addFamily, fe_e, e27, e28, e35, e8, e0, v28, v35, v8, v0, true_and, nI_clamp (show 28 + p 27 < 2 ^ 31 by omega), nI_clamp (show 35 + p 27 < 2 ^ 31 by omega), nI_clamp (show 8 + p 27 < 2 ^ 31 by omega), nI_clamp (show p 27 < 2 ^ 31 by omega), r27, nI_1]
  refine hQ _ ((((((hM.up (28 + p 27) k).up (35 + p 27) sd).up (8 + p 27) c).up (p 27) w).up 27 (p 27 + 1)).up 114 0) ?_
  exact (Hi.up (k := 114) (Or.inl (by omega))).tr ((Hi.up (k := 27) (Or.inl (by omega))).tr ((Hi.up (Or.inl (by omega))).tr ((Hi.up (Or.inl (by omega))).tr ((Hi.up (Or.inl (by omega))).tr (Hi.up (Or.inl (by omega)))))))
theorem PS.settle {p : Nat → Nat} {flC faC hu da : Int32} {faCell faKind faSide faWill flCell flKind flStr : Nat → Int32} {mS : Int32} {mN : Nat → Int32} {nS : Int32} {nN : Nat → Int32} {pS : Int32} {pN : Nat → Int32} {sS : Int32} {sN : Nat → Int32} {ce kd si wi : Nat → Int32}
    (h : PS p flC faC hu da faCell faKind faSide faWill flCell flKind flStr mS mN nS nN pS pN sS sN) (hl : p 27 < 7) {k sd c w : Nat} (hk : k < 6) (hsd : sd < 2) (hc : c < 25) (hw1 : 1 ≤ w) (hw2 : w ≤ 99) (b1 : Ar (p 27 + 1) ce (fun j => stN p k sd c w (8 + j))) (b2 : Ar (p 27 + 1) kd (fun j => stN p k sd c w (28 + j))) (b3 : Ar (p 27 + 1) si (fun j => stN p k sd c w (35 + j))) (b4 : Ar (p 27 + 1) wi (stN p k sd c w)) : PS (stN p k sd c w) flC (nI (p 27 + 1)) hu da ce kd si wi flCell flKind flStr mS mN nS nN 0 pN sS sN := by
  obtain ⟨h0, ⟨a1, a2, a3, a4, a5, a6, a7, a8, a9, a10, a11⟩, hm, hn, -, hs⟩ := h
  have e : ∀ j, j ≠ 114 → j ≠ 27 → (j = 7 ∨ (15 ≤ j ∧ j < 28) ∨ 42 ≤ j) → stN p k sd c w j = p j := fun j a b d => stN_o p k sd c w a b (by omega) (by omega) (by omega) (by omega)
  have e17 := e 17 (by omega) (by omega) (by omega)
  have e27 := stN_27 p k sd c w
  have e114 : stN p k sd c w 114 = 0 := by unfold stN; rw [updN_s]
  have h3 := h0.2.1.1
  refine ⟨h0.settle hl hk hsd hc hw1 hw2, ⟨by rw [e17]; exact a1, by rw [e27], by rw [e 15 (by omega) (by omega) (by omega)]; exact a3, by rw [e 16 (by omega) (by omega) (by omega)]; exact a4, by rw [e27]; exact b1, by rw [e27]; exact b2, by rw [e27]; exact b3, by rw [e27]; exact b4, ?_, ?_, ?_⟩, hm.cong (fun j h1 h2 => e j (by omega) (by omega) (by omega)) h0.2.2.2.2.2.2.1.1, hn.cong (fun j h1 h2 => e j (by omega) (by omega) (by omega)) h0.2.2.2.2.2.1.1, ⟨by rw [e114]; rfl, fun k hk => absurd hk (by rw [e114]; omega)⟩, hs.cong (fun j h1 h2 => e j (by omega) (by omega) (by omega)) h0.2.2.2.2.1.1⟩
  · intro i hi; rw [e17] at hi; rw [a9 i hi]; simp only [e (21 + i) (by omega) (by omega) (by omega)]
  · intro i hi; rw [e17] at hi; rw [a10 i hi]; simp only [e (18 + i) (by omega) (by omega) (by omega)]
  · intro i hi; rw [e17] at hi; rw [a11 i hi]; simp only [e (24 + i) (by omega) (by omega) (by omega)]
set_option maxHeartbeats 4000000 in
set_option maxRecDepth 100000 in
theorem po_family {x_textLength : Int32} {x_above : Int64} {x_below : Int64} {x_timesBad : Int32} {x_timesNo : Int32} {x_timesFull : Int32} {x_images_0_flitchCount : Int32} {x_images_0_familyCount : Int32} {x_images_0_hung : Int32} {x_images_0_day : Int32} {x_images_0_familyCell : Nat → Int32} {x_images_0_familyKind : Nat → Int32} {x_images_0_familySide : Nat → Int32} {x_images_0_familyWill : Nat → Int32} {x_images_0_flitchCell : Nat → Int32} {x_images_0_flitchKind : Nat → Int32} {x_images_0_flitchStrength : Nat → Int32} {x_images_0_marks_size : Int32} {x_images_0_marks_numbers : Nat → Int32} {x_images_0_notes_size : Int32} {x_images_0_notes_numbers : Nat → Int32} {x_images_0_past_size : Int32} {x_images_0_past_numbers : Nat → Int32} {x_images_0_sightings_size : Int32} {x_images_0_sightings_numbers : Nat → Int32} {x_images_1_flitchCount : Int32} {x_images_1_familyCount : Int32} {x_images_1_hung : Int32} {x_images_1_day : Int32} {x_images_1_familyCell : Nat → Int32} {x_images_1_familyKind : Nat → Int32} {x_images_1_familySide : Nat → Int32} {x_images_1_familyWill : Nat → Int32} {x_images_1_flitchCell : Nat → Int32} {x_images_1_flitchKind : Nat → Int32} {x_images_1_flitchStrength : Nat → Int32} {x_images_1_marks_size : Int32} {x_images_1_marks_numbers : Nat → Int32} {x_images_1_notes_size : Int32} {x_images_1_notes_numbers : Nat → Int32} {x_images_1_past_size : Int32} {x_images_1_past_numbers : Nat → Int32} {x_images_1_sightings_size : Int32} {x_images_1_sightings_numbers : Nat → Int32} {x_kept : Nat → Int32} {x_now_flitchCount : Int32} {x_now_familyCount : Int32} {x_now_hung : Int32} {x_now_day : Int32} {x_now_familyCell : Nat → Int32} {x_now_familyKind : Nat → Int32} {x_now_familySide : Nat → Int32} {x_now_familyWill : Nat → Int32} {x_now_flitchCell : Nat → Int32} {x_now_flitchKind : Nat → Int32} {x_now_flitchStrength : Nat → Int32} {x_now_marks_width : Int32} {x_now_marks_limit : Int32} {x_now_marks_size : Int32} {x_now_marks_numbers : Nat → Int32} {x_now_notes_width : Int32} {x_now_notes_limit : Int32} {x_now_notes_size : Int32} {x_now_notes_numbers : Nat → Int32} {x_now_past_width : Int32} {x_now_past_limit : Int32} {x_now_past_size : Int32} {x_now_past_numbers : Nat → Int32} {x_now_sightings_width : Int32} {x_now_sightings_limit : Int32} {x_now_sightings_size : Int32} {x_now_sightings_numbers : Nat → Int32} {x_text : Nat → Int32} {m_above : Int64} {m_below : Int64} {m_length : Int32} {m_isKept : Nat → Int32} {m_refused : Nat → Int32} {m_row : Nat → Int32} {m_text : Nat → Int32} {m_words : Nat → Int32} (h : Rel x_textLength x_above x_below x_timesBad x_timesNo x_timesFull x_images_0_flitchCount x_images_0_familyCount x_images_0_hung x_images_0_day x_images_0_familyCell x_images_0_familyKind x_images_0_familySide x_images_0_familyWill x_images_0_flitchCell x_images_0_flitchKind x_images_0_flitchStrength x_images_0_marks_size x_images_0_marks_numbers x_images_0_notes_size x_images_0_notes_numbers x_images_0_past_size x_images_0_past_numbers x_images_0_sightings_size x_images_0_sightings_numbers x_images_1_flitchCount x_images_1_familyCount x_images_1_hung x_images_1_day x_images_1_familyCell x_images_1_familyKind x_images_1_familySide x_images_1_familyWill x_images_1_flitchCell x_images_1_flitchKind x_images_1_flitchStrength x_images_1_marks_size x_images_1_marks_numbers x_images_1_notes_size x_images_1_notes_numbers x_images_1_past_size x_images_1_past_numbers x_images_1_sightings_size x_images_1_sightings_numbers x_kept x_now_flitchCount x_now_familyCount x_now_hung x_now_day x_now_familyCell x_now_familyKind x_now_familySide x_now_familyWill x_now_flitchCell x_now_flitchKind x_now_flitchStrength x_now_marks_width x_now_marks_limit x_now_marks_size x_now_marks_numbers x_now_notes_width x_now_notes_limit x_now_notes_size x_now_notes_numbers x_now_past_width x_now_past_limit x_now_past_size x_now_past_numbers x_now_sightings_width x_now_sightings_limit x_now_sightings_size x_now_sightings_numbers x_text m_above m_below m_length m_isKept m_refused m_row m_text m_words) (x1 : Int32) (x2 : Int32) (x3 : Int32) (x4 : Int32) : wp_Rc_family x1 x2 x3 x4 x_timesBad x_timesFull x_now_familyCount x_now_familyCell x_now_familyKind x_now_familySide x_now_familyWill x_now_past_size (fun (r : Int32) (x_timesBad' : Int32) (x_timesFull' : Int32) (x_now_familyCount' : Int32) (x_now_familyCell' : Nat → Int32) (x_now_familyKind' : Nat → Int32) (x_now_familySide' : Nat → Int32) (x_now_familyWill' : Nat → Int32) (x_now_past_size' : Int32) => wp_Mo_family x1 x2 x3 x4 m_refused m_row (fun (r' : Int32) (m_refused' : Nat → Int32) (m_row' : Nat → Int32) => r = r' ∧ Rel x_textLength x_above x_below x_timesBad' x_timesNo x_timesFull' x_images_0_flitchCount x_images_0_familyCount x_images_0_hung x_images_0_day x_images_0_familyCell x_images_0_familyKind x_images_0_familySide x_images_0_familyWill x_images_0_flitchCell x_images_0_flitchKind x_images_0_flitchStrength x_images_0_marks_size x_images_0_marks_numbers x_images_0_notes_size x_images_0_notes_numbers x_images_0_past_size x_images_0_past_numbers x_images_0_sightings_size x_images_0_sightings_numbers x_images_1_flitchCount x_images_1_familyCount x_images_1_hung x_images_1_day x_images_1_familyCell x_images_1_familyKind x_images_1_familySide x_images_1_familyWill x_images_1_flitchCell x_images_1_flitchKind x_images_1_flitchStrength x_images_1_marks_size x_images_1_marks_numbers x_images_1_notes_size x_images_1_notes_numbers x_images_1_past_size x_images_1_past_numbers x_images_1_sightings_size x_images_1_sightings_numbers x_kept x_now_flitchCount x_now_familyCount' x_now_hung x_now_day x_now_familyCell' x_now_familyKind' x_now_familySide' x_now_familyWill' x_now_flitchCell x_now_flitchKind x_now_flitchStrength x_now_marks_width x_now_marks_limit x_now_marks_size x_now_marks_numbers x_now_notes_width x_now_notes_limit x_now_notes_size x_now_notes_numbers x_now_past_width x_now_past_limit x_now_past_size' x_now_past_numbers x_now_sightings_width x_now_sightings_limit x_now_sightings_size x_now_sightings_numbers x_text m_above m_below m_length m_isKept m_refused' m_row' m_text m_words)) := by
  obtain ⟨⟨p, hPS, hM⟩, ⟨rfl, rfl, rfl, rfl, rfl, rfl, rfl, rfl⟩, hk0, hk1, hTx, hFr, hRf, hWo⟩ := id h
  obtain ⟨hI, ⟨rfl, rfl, rfl, rfl, a5, a6, a7, a8, a9, a10, a11⟩, hm, hn, hp, hs⟩ := id hPS
  have h7 := hI.1
  have h3 := hI.2.1.1
  have e27 : m_row 27 = nI (p 27) := hM.at0 (by omega)
  have e17 : m_row 17 = nI (p 17) := hM.at0 (by omega)
  by_cases q1 : inB x1 0 5 = 0
  · simp only [wp_Rc_family, wp_Mo_family, true_implies, false_implies, not_true_eq_false, not_false_eq_true, and_true, true_and, jn0_e, w_bad, w_no, w_full, w_badApart, w_refB, w_refN, w_refF, w_badAs, w_within, w_in, w_isCell, w_isFamC, w_isFliC, w_isFamM, w_isFliM, q1]; first | exact rel_bad h | exact ⟨rfl, rel_bad h⟩
  by_cases q2 : inB x2 0 1 = 0
  · simp only [wp_Rc_family, wp_Mo_family, true_implies, false_implies, not_true_eq_false, not_false_eq_true, and_true, true_and, jn0_e, w_bad, w_no, w_full, w_badApart, w_refB, w_refN, w_refF, w_badAs, w_within, w_in, w_isCell, w_isFamC, w_isFliC, w_isFamM, w_isFliM, q1, q2]; first | exact rel_bad h | exact ⟨rfl, rel_bad h⟩
  by_cases q3 : inB x3 0 24 = 0
  · simp only [wp_Rc_family, wp_Mo_family, true_implies, false_implies, not_true_eq_false, not_false_eq_true, and_true, true_and, jn0_e, w_bad, w_no, w_full, w_badApart, w_refB, w_refN, w_refF, w_badAs, w_within, w_in, w_isCell, w_isFamC, w_isFliC, w_isFamM, w_isFliM, q1, q2, q3]; first | exact rel_bad h | exact ⟨rfl, rel_bad h⟩
  by_cases q4 : inB x4 1 99 = 0
  · simp only [wp_Rc_family, wp_Mo_family, true_implies, false_implies, not_true_eq_false, not_false_eq_true, and_true, true_and, jn0_e, w_bad, w_no, w_full, w_badApart, w_refB, w_refN, w_refF, w_badAs, w_within, w_in, w_isCell, w_isFamC, w_isFliC, w_isFamM, w_isFliM, q1, q2, q3, q4]; first | exact rel_bad h | exact ⟨rfl, rel_bad h⟩
  obtain ⟨k, -, hk, rfl⟩ := inB_nI (lo := 0) (hi := 5) (by omega) (by omega) q1
  obtain ⟨sd, -, hsd, rfl⟩ := inB_nI (lo := 0) (hi := 1) (by omega) (by omega) q2
  obtain ⟨c, -, hc, rfl⟩ := inB_nI (lo := 0) (hi := 24) (by omega) (by omega) q3
  obtain ⟨w, hw1, hw2, rfl⟩ := inB_nI (lo := 1) (hi := 99) (by omega) (by omega) q4
  have eb : m_row (Int32.toNatClampNeg 27) = nI (p 27) := e27
  by_cases hf : p 27 = 7
  · have c1 : (nI (p 27) < 7) = False := eq_false (nI_nlt (b := 7) (by omega) (by omega))
    have c2 : (nI (p 27) = 7) = True := eq_true (by rw [hf]; rfl)
    simp only [wp_Rc_family, wp_Mo_family, true_implies, false_implies, not_true_eq_false, not_false_eq_true, and_true, true_and, jn0_e, w_bad, w_no, w_full, w_badApart, w_refB, w_refN, w_refF, w_badAs, w_within, w_in, w_isCell, w_isFamC, w_isFliC, w_isFamM, w_isFliM, q1, q2, q3, q4, eb, c1, c2]; first | exact rel_full h | exact ⟨rfl, rel_full h⟩
  · have hf : p 27 < 7 := by omega
    have c1 : (nI (p 27) < 7) = True := eq_true (nI_lt (b := 7) (by omega) (by omega))
    have c2 : (nI (p 27) = 7) = False := eq_false (nI_ne (b := 7) (by omega) (by omega) (by omega))
    simp only [wp_Rc_family, wp_Mo_family, true_implies, false_implies, not_true_eq_false, not_false_eq_true, and_true, true_and, jn0_e, w_bad, w_no, w_full, w_badApart, w_refB, w_refN, w_refF, w_badAs, w_within, w_in, w_isCell, w_isFamC, w_isFliC, w_isFamM, w_isFliM, q1, q2, q3, q4, eb, c1, c2]
    refine s_settle hf a5 a6 a7 a8 (k := k) (sd := sd) (c := c) (w := w) (fun ce kd si wi b1 b2 b3 b4 => ?_)
    refine s_addFamily hM hf (fun row' hM' hH' => ⟨?_, ?_⟩)
    · show _ = row' 27 - 1
      rw [hM'.at0 (by omega)]
      show _ = nI (stN p k sd c w 27) - 1
      rw [stN_27]
    · exact rel_now h _ (hPS.settle hf (by omega) (by omega) (by omega) hw1 hw2 b1 b2 b3 b4) hM' hH'

