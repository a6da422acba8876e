theorem byte_nI0 : ∀ c, c < 128 → vp_nar .byte (i2b (nI c)) = nI c := by decide +kernel
set_option maxHeartbeats 4000000 in
set_option maxRecDepth 100000 in
theorem po_type {x_textLength : Int32} {x_above : Int64} {x_below : Int64} {x_timesBad : Int32} {x_timesNo : Int32} {x_timesFull : Int32} {x_images_0_flitchCount : Int32} {x_images_0_familyCount : Int32} {x_images_0_hung : Int32} {x_images_0_day : Int32} {x_images_0_familyCell : Nat → Int32} {x_images_0_familyKind : Nat → Int32} {x_images_0_familySide : Nat → Int32} {x_images_0_familyWill : Nat → Int32} {x_images_0_flitchCell : Nat → Int32} {x_images_0_flitchKind : Nat → Int32} {x_images_0_flitchStrength : Nat → Int32} {x_images_0_marks_size : Int32} {x_images_0_marks_numbers : Nat → Int32} {x_images_0_notes_size : Int32} {x_images_0_notes_numbers : Nat → Int32} {x_images_0_past_size : Int32} {x_images_0_past_numbers : Nat → Int32} {x_images_0_sightings_size : Int32} {x_images_0_sightings_numbers : Nat → Int32} {x_images_1_flitchCount : Int32} {x_images_1_familyCount : Int32} {x_images_1_hung : Int32} {x_images_1_day : Int32} {x_images_1_familyCell : Nat → Int32} {x_images_1_familyKind : Nat → Int32} {x_images_1_familySide : Nat → Int32} {x_images_1_familyWill : Nat → Int32} {x_images_1_flitchCell : Nat → Int32} {x_images_1_flitchKind : Nat → Int32} {x_images_1_flitchStrength : Nat → Int32} {x_images_1_marks_size : Int32} {x_images_1_marks_numbers : Nat → Int32} {x_images_1_notes_size : Int32} {x_images_1_notes_numbers : Nat → Int32} {x_images_1_past_size : Int32} {x_images_1_past_numbers : Nat → Int32} {x_images_1_sightings_size : Int32} {x_images_1_sightings_numbers : Nat → Int32} {x_kept : Nat → Int32} {x_now_flitchCount : Int32} {x_now_familyCount : Int32} {x_now_hung : Int32} {x_now_day : Int32} {x_now_familyCell : Nat → Int32} {x_now_familyKind : Nat → Int32} {x_now_familySide : Nat → Int32} {x_now_familyWill : Nat → Int32} {x_now_flitchCell : Nat → Int32} {x_now_flitchKind : Nat → Int32} {x_now_flitchStrength : Nat → Int32} {x_now_marks_width : Int32} {x_now_marks_limit : Int32} {x_now_marks_size : Int32} {x_now_marks_numbers : Nat → Int32} {x_now_notes_width : Int32} {x_now_notes_limit : Int32} {x_now_notes_size : Int32} {x_now_notes_numbers : Nat → Int32} {x_now_past_width : Int32} {x_now_past_limit : Int32} {x_now_past_size : Int32} {x_now_past_numbers : Nat → Int32} {x_now_sightings_width : Int32} {x_now_sightings_limit : Int32} {x_now_sightings_size : Int32} {x_now_sightings_numbers : Nat → Int32} {x_text : Nat → Int32} {m_above : Int64} {m_below : Int64} {m_length : Int32} {m_isKept : Nat → Int32} {m_refused : Nat → Int32} {m_row : Nat → Int32} {m_text : Nat → Int32} {m_words : Nat → Int32} (h : Rel x_textLength x_above x_below x_timesBad x_timesNo x_timesFull x_images_0_flitchCount x_images_0_familyCount x_images_0_hung x_images_0_day x_images_0_familyCell x_images_0_familyKind x_images_0_familySide x_images_0_familyWill x_images_0_flitchCell x_images_0_flitchKind x_images_0_flitchStrength x_images_0_marks_size x_images_0_marks_numbers x_images_0_notes_size x_images_0_notes_numbers x_images_0_past_size x_images_0_past_numbers x_images_0_sightings_size x_images_0_sightings_numbers x_images_1_flitchCount x_images_1_familyCount x_images_1_hung x_images_1_day x_images_1_familyCell x_images_1_familyKind x_images_1_familySide x_images_1_familyWill x_images_1_flitchCell x_images_1_flitchKind x_images_1_flitchStrength x_images_1_marks_size x_images_1_marks_numbers x_images_1_notes_size x_images_1_notes_numbers x_images_1_past_size x_images_1_past_numbers x_images_1_sightings_size x_images_1_sightings_numbers x_kept x_now_flitchCount x_now_familyCount x_now_hung x_now_day x_now_familyCell x_now_familyKind x_now_familySide x_now_familyWill x_now_flitchCell x_now_flitchKind x_now_flitchStrength x_now_marks_width x_now_marks_limit x_now_marks_size x_now_marks_numbers x_now_notes_width x_now_notes_limit x_now_notes_size x_now_notes_numbers x_now_past_width x_now_past_limit x_now_past_size x_now_past_numbers x_now_sightings_width x_now_sightings_limit x_now_sightings_size x_now_sightings_numbers x_text m_above m_below m_length m_isKept m_refused m_row m_text m_words) (x1 : Int32) : wp_Rc_type x1 x_textLength x_timesBad x_timesFull x_text (fun (r : Int32) (x_textLength' : Int32) (x_timesBad' : Int32) (x_timesFull' : Int32) (x_text' : Nat → Int32) => wp_Mo_type x1 m_length m_refused m_text (fun (r' : Int32) (m_length' : Int32) (m_refused' : Nat → Int32) (m_text' : Nat → Int32) => r = r' ∧ Rel x_textLength' x_above x_below x_timesBad' x_timesNo x_timesFull' x_images_0_flitchCount x_images_0_familyCount x_images_0_hung x_images_0_day x_images_0_familyCell x_images_0_familyKind x_images_0_familySide x_images_0_familyWill x_images_0_flitchCell x_images_0_flitchKind x_images_0_flitchStrength x_images_0_marks_size x_images_0_marks_numbers x_images_0_notes_size x_images_0_notes_numbers x_images_0_past_size x_images_0_past_numbers x_images_0_sightings_size x_images_0_sightings_numbers x_images_1_flitchCount x_images_1_familyCount x_images_1_hung x_images_1_day x_images_1_familyCell x_images_1_familyKind x_images_1_familySide x_images_1_familyWill x_images_1_flitchCell x_images_1_flitchKind x_images_1_flitchStrength x_images_1_marks_size x_images_1_marks_numbers x_images_1_notes_size x_images_1_notes_numbers x_images_1_past_size x_images_1_past_numbers x_images_1_sightings_size x_images_1_sightings_numbers x_kept x_now_flitchCount x_now_familyCount x_now_hung x_now_day x_now_familyCell x_now_familyKind x_now_familySide x_now_familyWill x_now_flitchCell x_now_flitchKind x_now_flitchStrength x_now_marks_width x_now_marks_limit x_now_marks_size x_now_marks_numbers x_now_notes_width x_now_notes_limit x_now_notes_size x_now_notes_numbers x_now_past_width x_now_past_limit x_now_past_size x_now_past_numbers x_now_sightings_width x_now_sightings_limit x_now_sightings_size x_now_sightings_numbers x_text' m_above m_below m_length' m_isKept m_refused' m_row m_text' m_words)) := by
  obtain ⟨h1, h2, h3, h4, ⟨rfl, n, hn, rfl, t, ht⟩, h6⟩ := id h
  by_cases q1 : inB x1 0 127 = 0
  · simp only [wp_Rc_type, wp_Mo_type, true_implies, false_implies, not_true_eq_false, not_false_eq_true, and_true, true_and, jn0_e, w_bad, w_no, w_full, w_badApart, w_refB, w_refN, w_refF, w_badAs, w_within, w_in, w_isCell, w_isFamC, w_isFliC, w_isFamM, w_isFliM, q1]; first | exact rel_bad h | exact ⟨rfl, rel_bad h⟩
  obtain ⟨c, -, hc, rfl⟩ := inB_nI (lo := 0) (hi := 127) (by omega) (by omega) q1
  simp only [wp_Rc_type, wp_Mo_type, true_implies, false_implies, not_true_eq_false, not_false_eq_true, and_true, true_and, jn0_e, w_bad, w_no, w_full, w_badApart, w_refB, w_refN, w_refF, w_badAs, w_within, w_in, w_isCell, w_isFamC, w_isFliC, w_isFamM, w_isFliM, q1, byte_nI0 c (by omega), fe_e, nI_clamp (show n < 2 ^ 31 by omega), nI_1]
  by_cases hl : n = 150
  · subst hl
    refine ⟨fun z => absurd z (nI_nlt (b := 150) (Nat.le_refl _) (by omega)), fun _ => ⟨fun z => absurd rfl z, fun _ => ?_⟩⟩
    first | exact rel_full h | exact ⟨rfl, rel_full h⟩
  · have hl' : n < 150 := by omega
    refine ⟨fun _ => ⟨vp_in_nI hl' (by omega), ⟨fun _ => ⟨vp_in_nI hl' (by omega), ?_⟩, fun z => absurd z (nI_ne (b := 150) (by omega) (by omega) hl)⟩⟩, fun z => absurd (nI_lt (b := 150) hl' (by omega)) z⟩
    refine ⟨h1, h2, h3, h4, ⟨rfl, n + 1, by omega, rfl, updN t n c, fun j hj => ?_⟩, h6⟩
    by_cases e : j = n
    · subst e; exact ⟨by rw [updN_s]; omega, by rw [updN_s]; simp [upd], by rw [updN_s]; simp [upd]⟩
    · obtain ⟨g1, g2, g3⟩ := ht j (by omega)
      exact ⟨by rw [updN_n e]; exact g1, by rw [updN_n e]; simp only [upd, e, if_false]; exact g2, by rw [updN_n e]; simp only [upd, e, if_false]; exact g3⟩

set_option maxHeartbeats 4000000 in
set_option maxRecDepth 100000 in
theorem po_clear {x_textLength : Int32} {x_above : Int64} {x_below : Int64} {x_timesBad : Int32} {x_timesNo : Int32} {x_timesFull : Int32} {x_images_0_flitchCount : Int32} {x_images_0_familyCount : Int32} {x_images_0_hung : Int32} {x_images_0_day : Int32} {x_images_0_familyCell : Nat → Int32} {x_images_0_familyKind : Nat → Int32} {x_images_0_familySide : Nat → Int32} {x_images_0_familyWill : Nat → Int32} {x_images_0_flitchCell : Nat → Int32} {x_images_0_flitchKind : Nat → Int32} {x_images_0_flitchStrength : Nat → Int32} {x_images_0_marks_size : Int32} {x_images_0_marks_numbers : Nat → Int32} {x_images_0_notes_size : Int32} {x_images_0_notes_numbers : Nat → Int32} {x_images_0_past_size : Int32} {x_images_0_past_numbers : Nat → Int32} {x_images_0_sightings_size : Int32} {x_images_0_sightings_numbers : Nat → Int32} {x_images_1_flitchCount : Int32} {x_images_1_familyCount : Int32} {x_images_1_hung : Int32} {x_images_1_day : Int32} {x_images_1_familyCell : Nat → Int32} {x_images_1_familyKind : Nat → Int32} {x_images_1_familySide : Nat → Int32} {x_images_1_familyWill : Nat → Int32} {x_images_1_flitchCell : Nat → Int32} {x_images_1_flitchKind : Nat → Int32} {x_images_1_flitchStrength : Nat → Int32} {x_images_1_marks_size : Int32} {x_images_1_marks_numbers : Nat → Int32} {x_images_1_notes_size : Int32} {x_images_1_notes_numbers : Nat → Int32} {x_images_1_past_size : Int32} {x_images_1_past_numbers : Nat → Int32} {x_images_1_sightings_size : Int32} {x_images_1_sightings_numbers : Nat → Int32} {x_kept : Nat → Int32} {x_now_flitchCount : Int32} {x_now_familyCount : Int32} {x_now_hung : Int32} {x_now_day : Int32} {x_now_familyCell : Nat → Int32} {x_now_familyKind : Nat → Int32} {x_now_familySide : Nat → Int32} {x_now_familyWill : Nat → Int32} {x_now_flitchCell : Nat → Int32} {x_now_flitchKind : Nat → Int32} {x_now_flitchStrength : Nat → Int32} {x_now_marks_width : Int32} {x_now_marks_limit : Int32} {x_now_marks_size : Int32} {x_now_marks_numbers : Nat → Int32} {x_now_notes_width : Int32} {x_now_notes_limit : Int32} {x_now_notes_size : Int32} {x_now_notes_numbers : Nat → Int32} {x_now_past_width : Int32} {x_now_past_limit : Int32} {x_now_past_size : Int32} {x_now_past_numbers : Nat → Int32} {x_now_sightings_width : Int32} {x_now_sightings_limit : Int32} {x_now_sightings_size : Int32} {x_now_sightings_numbers : Nat → Int32} {x_text : Nat → Int32} {m_above : Int64} {m_below : Int64} {m_length : Int32} {m_isKept : Nat → Int32} {m_refused : Nat → Int32} {m_row : Nat → Int32} {m_text : Nat → Int32} {m_words : Nat → Int32} (h : Rel x_textLength x_above x_below x_timesBad x_timesNo x_timesFull x_images_0_flitchCount x_images_0_familyCount x_images_0_hung x_images_0_day x_images_0_familyCell x_images_0_familyKind x_images_0_familySide x_images_0_familyWill x_images_0_flitchCell x_images_0_flitchKind x_images_0_flitchStrength x_images_0_marks_size x_images_0_marks_numbers x_images_0_notes_size x_images_0_notes_numbers x_images_0_past_size x_images_0_past_numbers x_images_0_sightings_size x_images_0_sightings_numbers x_images_1_flitchCount x_images_1_familyCount x_images_1_hung x_images_1_day x_images_1_familyCell x_images_1_familyKind x_images_1_familySide x_images_1_familyWill x_images_1_flitchCell x_images_1_flitchKind x_images_1_flitchStrength x_images_1_marks_size x_images_1_marks_numbers x_images_1_notes_size x_images_1_notes_numbers x_images_1_past_size x_images_1_past_numbers x_images_1_sightings_size x_images_1_sightings_numbers x_kept x_now_flitchCount x_now_familyCount x_now_hung x_now_day x_now_familyCell x_now_familyKind x_now_familySide x_now_familyWill x_now_flitchCell x_now_flitchKind x_now_flitchStrength x_now_marks_width x_now_marks_limit x_now_marks_size x_now_marks_numbers x_now_notes_width x_now_notes_limit x_now_notes_size x_now_notes_numbers x_now_past_width x_now_past_limit x_now_past_size x_now_past_numbers x_now_sightings_width x_now_sightings_limit x_now_sightings_size x_now_sightings_numbers x_text m_above m_below m_length m_isKept m_refused m_row m_text m_words) : wp_Rc_clear x_textLength (fun (r : Int32) (x_textLength' : Int32) => wp_Mo_clear m_length (fun (r' : Int32) (m_length' : Int32) => r = r' ∧ Rel x_textLength' x_above x_below x_timesBad x_timesNo x_timesFull x_images_0_flitchCount x_images_0_familyCount x_images_0_hung x_images_0_day x_images_0_familyCell x_images_0_familyKind x_images_0_familySide x_images_0_familyWill x_images_0_flitchCell x_images_0_flitchKind x_images_0_flitchStrength x_images_0_marks_size x_images_0_marks_numbers x_images_0_notes_size x_images_0_notes_numbers x_images_0_past_size x_images_0_past_numbers x_images_0_sightings_size x_images_0_sightings_numbers x_images_1_flitchCount x_images_1_familyCount x_images_1_hung x_images_1_day x_images_1_familyCell x_images_1_familyKind x_images_1_familySide x_images_1_familyWill x_images_1_flitchCell x_images_1_flitchKind x_images_1_flitchStrength x_images_1_marks_size x_images_1_marks_numbers x_images_1_notes_size x_images_1_notes_numbers x_images_1_past_size x_images_1_past_numbers x_images_1_sightings_size x_images_1_sightings_numbers x_kept x_now_flitchCount x_now_familyCount x_now_hung x_now_day x_now_familyCell x_now_familyKind x_now_familySide x_now_familyWill x_now_flitchCell x_now_flitchKind x_now_flitchStrength x_now_marks_width x_now_marks_limit x_now_marks_size x_now_marks_numbers x_now_notes_width x_now_notes_limit x_now_notes_size x_now_notes_numbers x_now_past_width x_now_past_limit x_now_past_size x_now_past_numbers x_now_sightings_width x_now_sightings_limit x_now_sightings_size x_now_sightings_numbers x_text m_above m_below m_length' m_isKept m_refused m_row m_text m_words)) := by
  obtain ⟨h1, h2, h3, h4, ⟨rfl, n, hn, rfl, t, ht⟩, h6⟩ := h
  unfold wp_Rc_clear wp_Mo_clear
  exact ⟨rfl, h1, h2, h3, h4, ⟨rfl, 0, by omega, rfl, t, fun j hj => absurd hj (by omega)⟩, h6⟩

theorem s_takenToday {p : Nat → Nat} {flC hu da : Int32} {faCell faKind faWill flCell flKind flStr : Nat → Int32} (hI : Inv p) (e1 : flC = nI (p 17)) (e3 : hu = nI (p 15)) (e4 : da = nI (p 16)) (a1 : Ar (p 27) faCell (fun i => p (8 + i))) (a2 : Ar (p 27) faKind (fun i => p (28 + i))) (a3 : Ar (p 27) faWill p) (a4 : Ar (p 17) flCell (fun k => p (21 + k))) (a5 : Ar (p 17) flKind (fun k => p (18 + k))) (a6 : Ar (p 17) flStr (fun k => p (24 + k))) {i : Nat} (hi : i < p 27) {Q : Int32 → Prop} (hQ : Q (nI (if p i = 0 then 0 else loP p i))) : wp_Pa_takenToday (nI i) flC hu da faCell faKind faWill flCell flKind flStr Q := by
  subst e1; subst e3; subst e4
  have h7 := hI.1
  have hd := hI.d9
  have hw := hI.w99 i hi
  unfold wp_Pa_takenToday
  rw [w_lapsedC (n := 0) (by omega) (a3 i hi) (by omega), nI_clamp (by omega), a1 i hi, a2 i hi]
  by_cases hz : p i = 0
  · rw [if_pos hz] at hQ ⊢
    exact ⟨fun z => absurd z (by decide), fun _ => hQ⟩
  · rw [if_neg hz] at hQ ⊢
    refine ⟨fun _ => ⟨vp_in_nI (by omega) (by omega), vp_in_nI (by omega) (by omega), ?_⟩, fun z => absurd rfl z⟩
    refine s_scentAt hI.2.1 a5 a4 a6 (by have := p15_lt hI; omega) (hI.c25 i hi) (by omega) ?_
    rw [w_loss, lsF_nI (hI.2.2.1 i hi).1 (smN_133 hI.2.1 _ _ _ (hI.c25 i hi)) (by omega)]
    exact hQ
theorem s_takesToday {p : Nat → Nat} {row : Nat → Int32} (hI : Inv p) (hM : MR p row 0) {i : Nat} (hi : i < p 27) {Q : Int32 → Prop} (hQ : Q (nI (if p i = 0 then 0 else loP p i))) : wp_Mo_takesToday (nI i) row Q := by
  have h7 := hI.1
  have hd := hI.d9
  have hSt := hM.StM hI
  unfold wp_Mo_takesToday
  show wp_Mo_has (row 7) (nI i) _
  rw [w_hasM hI hM hi]
  have e28 : (28 : Int32) + nI i = nI (28 + i) := nI_add 28 i
  have e8 : (8 : Int32) + nI i = nI (8 + i) := nI_add 8 i
  rw [e28, e8, nI_clamp (by omega), nI_clamp (by omega), hM.at0 (j := 28 + i) (by omega), hM.at0 (j := 8 + i) (by omega)]
  have e15 : row (Int32.toNatClampNeg 15) = nI (p 15) := hM.at0 (j := 15) (by omega)
  have e16 : row (Int32.toNatClampNeg 16) = nI (p 16) := hM.at0 (j := 16) (by omega)
  rw [e15, e16]
  by_cases hz : p i = 0
  · rw [if_pos hz] at hQ ⊢
    exact ⟨fun z => absurd z (by decide), fun _ => hQ⟩
  · rw [if_neg hz] at hQ ⊢
    refine ⟨fun _ => ⟨vp_in_nI (by omega) (by omega), vp_in_nI (by omega) (by omega), ?_⟩, fun z => absurd rfl z⟩
    refine s_smellOf hI.2.1 hSt.1 hSt.2.1 hSt.2.2.1 hSt.2.2.2.1 (by have := p15_lt hI; omega) (hI.c25 i hi) (by omega) ?_
    rw [w_takesBy, lsF_nI (hI.2.2.1 i hi).1 (smN_133 hI.2.1 _ _ _ (hI.c25 i hi)) (by omega)]
    exact hQ
/-- what of() tells -/
def ofN (p : Nat → Nat) (i w : Nat) : Nat := if w = 0 then p (28 + i) else if w = 1 then p (35 + i) else if w = 2 then p (8 + i) else if w = 3 then p i else (if p i = 0 then 1 else 0)
theorem s_famFact {p : Nat → Nat} {faCell faKind faSide faWill : Nat → Int32} (hI : Inv p) (a1 : Ar (p 27) faCell (fun i => p (8 + i))) (a2 : Ar (p 27) faKind (fun i => p (28 + i))) (a4 : Ar (p 27) faSide (fun i => p (35 + i))) (a3 : Ar (p 27) faWill p) {i w : Nat} (hi : i < p 27) (hw : w < 2 ^ 31) {Q : Int32 → Prop} (hQ : Q (nI (ofN p i w))) : wp_Pa_familyFact (nI i) (nI w) faCell faKind faSide faWill Q := by
  have h7 := hI.1
  have hw9 := hI.w99 i hi
  unfold wp_Pa_familyFact
  have v7 : vp_in (nI i) 7 := vp_in_nI (by omega) (by omega)
  rw [nI_clamp (by omega), a1 i hi, a2 i hi, a3 i hi, a4 i hi, w_lapsedC (n := 0) (by omega) (a3 i hi) (by omega)]
  unfold ofN at hQ
  by_cases h0 : w = 0
  · subst h0; rw [if_pos rfl] at hQ; exact ⟨fun _ => ⟨v7, hQ⟩, fun z => absurd rfl z⟩
  · rw [if_neg h0] at hQ
    refine ⟨fun z => absurd z (nI_ne (b := 0) hw (by omega) h0), fun _ => ?_⟩
    by_cases h1 : w = 1
    · subst h1; rw [if_pos rfl] at hQ; exact ⟨fun _ => ⟨v7, hQ⟩, fun z => absurd rfl z⟩
    · rw [if_neg h1] at hQ
      refine ⟨fun z => absurd z (nI_ne (b := 1) hw (by omega) h1), fun _ => ?_⟩
      by_cases h2 : w = 2
      · subst h2; rw [if_pos rfl] at hQ; exact ⟨fun _ => ⟨v7, hQ⟩, fun z => absurd rfl z⟩
      · rw [if_neg h2] at hQ
        refine ⟨fun z => absurd z (nI_ne (b := 2) hw (by omega) h2), fun _ => ?_⟩
        by_cases h3 : w = 3
        · subst h3; rw [if_pos rfl] at hQ; exact ⟨fun _ => ⟨v7, hQ⟩, fun z => absurd rfl z⟩
        · rw [if_neg h3] at hQ
          refine ⟨fun z => absurd z (nI_ne (b := 3) hw (by omega) h3), fun _ => ?_⟩
          by_cases hz : p i = 0
          · rw [if_pos hz] at hQ ⊢; exact ⟨fun z => absurd z (by decide), fun _ => hQ⟩
          · rw [if_neg hz] at hQ ⊢; exact ⟨fun _ => hQ, fun z => absurd rfl z⟩
theorem s_toldOf {p : Nat → Nat} {row : Nat → Int32} (hI : Inv p) (hM : MR p row 0) {i w : Nat} (hi : i < p 27) (hw : w < 2 ^ 31) {Q : Int32 → Prop} (hQ : Q (nI (if w ≤ 4 then ofN p i w else if p i = 0 then 0 else loP p i))) : wp_Mo_toldOf (nI i) (nI w) row Q := by
  have h7 := hI.1
  unfold wp_Mo_toldOf
  have e28 : (28 : Int32) + nI i = nI (28 + i) := nI_add 28 i
  have e35 : (35 : Int32) + nI i = nI (35 + i) := nI_add 35 i
  have e8 : (8 : Int32) + nI i = nI (8 + i) := nI_add 8 i
  have e0 : (0 : Int32) + nI i = nI i := by rw [show (0 : Int32) = nI 0 from rfl, nI_add, Nat.zero_add]
  rw [e28, e35, e8, e0, nI_clamp (by omega), nI_clamp (by omega), nI_clamp (by omega), nI_clamp (by omega), hM.at0 (j := 28 + i) (by omega), hM.at0 (j := 35 + i) (by omega), hM.at0 (j := 8 + i) (by omega), hM.at0 (j := i) (by omega)]
  unfold ofN at hQ
  by_cases h0 : w = 0
  · subst h0; exact ⟨fun _ => ⟨vp_in_nI (by omega) (by omega), hQ⟩, fun z => absurd rfl z⟩
  · rw [if_neg h0] at hQ
    refine ⟨fun z => absurd z (nI_ne (b := 0) hw (by omega) h0), fun _ => ?_⟩
    by_cases h1 : w = 1
    · subst h1; exact ⟨fun _ => ⟨vp_in_nI (by omega) (by omega), hQ⟩, fun z => absurd rfl z⟩
    · rw [if_neg h1] at hQ
      refine ⟨fun z => absurd z (nI_ne (b := 1) hw (by omega) h1), fun _ => ?_⟩
      by_cases h2 : w = 2
      · subst h2; exact ⟨fun _ => ⟨vp_in_nI (by omega) (by omega), hQ⟩, fun z => absurd rfl z⟩
      · rw [if_neg h2] at hQ
        refine ⟨fun z => absurd z (nI_ne (b := 2) hw (by omega) h2), fun _ => ?_⟩
        by_cases h3 : w = 3
        · subst h3; exact ⟨fun _ => ⟨vp_in_nI (by omega) (by omega), hQ⟩, fun z => absurd rfl z⟩
        · rw [if_neg h3] at hQ
          refine ⟨fun z => absurd z (nI_ne (b := 3) hw (by omega) h3), fun _ => ?_⟩
          by_cases h4 : w = 4
          · subst h4
            refine ⟨fun _ => ?_, fun z => absurd rfl z⟩
            have e7 : row (Int32.toNatClampNeg 7) = nI (p 7) := hM.at0 (j := 7) (by omega)
            have hb := btN_lap p (p 27) i hi
            rw [← hI.lap] at hb
            rw [e7, bit_nI (by have := lap_lt hI; omega) (by omega), hb]
            exact hQ
          · refine ⟨fun z => absurd z (nI_ne (b := 4) hw (by omega) h4), fun _ => ?_⟩
            rw [if_neg (by omega)] at hQ
            exact s_takesToday hI hM hi hQ
set_option maxHeartbeats 4000000 in
set_option maxRecDepth 100000 in
theorem po_of {x_textLength : Int32} {x_above : Int64} {x_below : Int64} {x_timesBad : Int32} {x_timesNo : Int32} {x_timesFull : Int32} {x_images_0_flitchCount : Int32} {x_images_0_familyCount : Int32} {x_images_0_hung : Int32} {x_images_0_day : Int32} {x_images_0_familyCell : Nat → Int32} {x_images_0_familyKind : Nat → Int32} {x_images_0_familySide : Nat → Int32} {x_images_0_familyWill : Nat → Int32} {x_images_0_flitchCell : Nat → Int32} {x_images_0_flitchKind : Nat → Int32} {x_images_0_flitchStrength : Nat → Int32} {x_images_0_marks_size : Int32} {x_images_0_marks_numbers : Nat → Int32} {x_images_0_notes_size : Int32} {x_images_0_notes_numbers : Nat → Int32} {x_images_0_past_size : Int32} {x_images_0_past_numbers : Nat → Int32} {x_images_0_sightings_size : Int32} {x_images_0_sightings_numbers : Nat → Int32} {x_images_1_flitchCount : Int32} {x_images_1_familyCount : Int32} {x_images_1_hung : Int32} {x_images_1_day : Int32} {x_images_1_familyCell : Nat → Int32} {x_images_1_familyKind : Nat → Int32} {x_images_1_familySide : Nat → Int32} {x_images_1_familyWill : Nat → Int32} {x_images_1_flitchCell : Nat → Int32} {x_images_1_flitchKind : Nat → Int32} {x_images_1_flitchStrength : Nat → Int32} {x_images_1_marks_size : Int32} {x_images_1_marks_numbers : Nat → Int32} {x_images_1_notes_size : Int32} {x_images_1_notes_numbers : Nat → Int32} {x_images_1_past_size : Int32} {x_images_1_past_numbers : Nat → Int32} {x_images_1_sightings_size : Int32} {x_images_1_sightings_numbers : Nat → Int32} {x_kept : Nat → Int32} {x_now_flitchCount : Int32} {x_now_familyCount : Int32} {x_now_hung : Int32} {x_now_day : Int32} {x_now_familyCell : Nat → Int32} {x_now_familyKind : Nat → Int32} {x_now_familySide : Nat → Int32} {x_now_familyWill : Nat → Int32} {x_now_flitchCell : Nat → Int32} {x_now_flitchKind : Nat → Int32} {x_now_flitchStrength : Nat → Int32} {x_now_marks_width : Int32} {x_now_marks_limit : Int32} {x_now_marks_size : Int32} {x_now_marks_numbers : Nat → Int32} {x_now_notes_width : Int32} {x_now_notes_limit : Int32} {x_now_notes_size : Int32} {x_now_notes_numbers : Nat → Int32} {x_now_past_width : Int32} {x_now_past_limit : Int32} {x_now_past_size : Int32} {x_now_past_numbers : Nat → Int32} {x_now_sightings_width : Int32} {x_now_sightings_limit : Int32} {x_now_sightings_size : Int32} {x_now_sightings_numbers : Nat → Int32} {x_text : Nat → Int32} {m_above : Int64} {m_below : Int64} {m_length : Int32} {m_isKept : Nat → Int32} {m_refused : Nat → Int32} {m_row : Nat → Int32} {m_text : Nat → Int32} {m_words : Nat → Int32} (h : Rel x_textLength x_above x_below x_timesBad x_timesNo x_timesFull x_images_0_flitchCount x_images_0_familyCount x_images_0_hung x_images_0_day x_images_0_familyCell x_images_0_familyKind x_images_0_familySide x_images_0_familyWill x_images_0_flitchCell x_images_0_flitchKind x_images_0_flitchStrength x_images_0_marks_size x_images_0_marks_numbers x_images_0_notes_size x_images_0_notes_numbers x_images_0_past_size x_images_0_past_numbers x_images_0_sightings_size x_images_0_sightings_numbers x_images_1_flitchCount x_images_1_familyCount x_images_1_hung x_images_1_day x_images_1_familyCell x_images_1_familyKind x_images_1_familySide x_images_1_familyWill x_images_1_flitchCell x_images_1_flitchKind x_images_1_flitchStrength x_images_1_marks_size x_images_1_marks_numbers x_images_1_notes_size x_images_1_notes_numbers x_images_1_past_size x_images_1_past_numbers x_images_1_sightings_size x_images_1_sightings_numbers x_kept x_now_flitchCount x_now_familyCount x_now_hung x_now_day x_now_familyCell x_now_familyKind x_now_familySide x_now_familyWill x_now_flitchCell x_now_flitchKind x_now_flitchStrength x_now_marks_width x_now_marks_limit x_now_marks_size x_now_marks_numbers x_now_notes_width x_now_notes_limit x_now_notes_size x_now_notes_numbers x_now_past_width x_now_past_limit x_now_past_size x_now_past_numbers x_now_sightings_width x_now_sightings_limit x_now_sightings_size x_now_sightings_numbers x_text m_above m_below m_length m_isKept m_refused m_row m_text m_words) (x1 : Int32) (x2 : Int32) : wp_Rc_of x1 x2 x_timesBad x_now_flitchCount x_now_familyCount x_now_hung x_now_day x_now_familyCell x_now_familyKind x_now_familySide x_now_familyWill x_now_flitchCell x_now_flitchKind x_now_flitchStrength (fun (r : Int32) (x_timesBad' : Int32) => wp_Mo_of x1 x2 m_refused m_row (fun (r' : Int32) (m_refused' : Nat → Int32) => r = r' ∧ Rel x_textLength x_above x_below x_timesBad' x_timesNo x_timesFull x_images_0_flitchCount x_images_0_familyCount x_images_0_hung x_images_0_day x_images_0_familyCell x_images_0_familyKind x_images_0_familySide x_images_0_familyWill x_images_0_flitchCell x_images_0_flitchKind x_images_0_flitchStrength x_images_0_marks_size x_images_0_marks_numbers x_images_0_notes_size x_images_0_notes_numbers x_images_0_past_size x_images_0_past_numbers x_images_0_sightings_size x_images_0_sightings_numbers x_images_1_flitchCount x_images_1_familyCount x_images_1_hung x_images_1_day x_images_1_familyCell x_images_1_familyKind x_images_1_familySide x_images_1_familyWill x_images_1_flitchCell x_images_1_flitchKind x_images_1_flitchStrength x_images_1_marks_size x_images_1_marks_numbers x_images_1_notes_size x_images_1_notes_numbers x_images_1_past_size x_images_1_past_numbers x_images_1_sightings_size x_images_1_sightings_numbers x_kept x_now_flitchCount x_now_familyCount x_now_hung x_now_day x_now_familyCell x_now_familyKind x_now_familySide x_now_familyWill x_now_flitchCell x_now_flitchKind x_now_flitchStrength x_now_marks_width x_now_marks_limit x_now_marks_size x_now_marks_numbers x_now_notes_width x_now_notes_limit x_now_notes_size x_now_notes_numbers x_now_past_width x_now_past_limit x_now_past_size x_now_past_numbers x_now_sightings_width x_now_sightings_limit x_now_sightings_size x_now_sightings_numbers x_text m_above m_below m_length m_isKept m_refused' m_row m_text m_words)) := by
  obtain ⟨⟨p, hPS, hM⟩, ⟨rfl, rfl, rfl, rfl, rfl, rfl, rfl, rfl⟩, hk0, hk1, hTx, hFr, hRf, hWo⟩ := id h
  obtain ⟨hI, ⟨rfl, rfl, rfl, rfl, a5, a6, a7, a8, a9, a10, a11⟩, hm, hn, hp, hs⟩ := id hPS
  have h7 := hI.1
  have h3 := hI.2.1.1
  have e27 : m_row 27 = nI (p 27) := hM.at0 (by omega)
  have e17 : m_row 17 = nI (p 17) := hM.at0 (by omega)
  by_cases q1 : inB x1 0 (nI (p 27) - 1) = 0
  · simp only [wp_Rc_of, wp_Mo_of, true_implies, false_implies, not_true_eq_false, not_false_eq_true, and_true, true_and, jn0_e, w_bad, w_no, w_full, w_badApart, w_refB, w_refN, w_refF, w_badAs, w_within, w_in, w_isCell, w_isFamC, w_isFliC, w_isFamM, w_isFliM, e27, q1]; first | exact rel_bad h | exact ⟨rfl, rel_bad h⟩
  by_cases q2 : inB x2 0 5 = 0
  · simp only [wp_Rc_of, wp_Mo_of, true_implies, false_implies, not_true_eq_false, not_false_eq_true, and_true, true_and, jn0_e, w_bad, w_no, w_full, w_badApart, w_refB, w_refN, w_refF, w_badAs, w_within, w_in, w_isCell, w_isFamC, w_isFliC, w_isFamM, w_isFliM, e27, q1, q2]; first | exact rel_bad h | exact ⟨rfl, rel_bad h⟩
  obtain ⟨i, hi, rfl⟩ := inB_pl (by omega) q1
  obtain ⟨w, -, hw, rfl⟩ := inB_nI (lo := 0) (hi := 5) (by omega) (by omega) q2
  simp only [wp_Rc_of, wp_Mo_of, true_implies, false_implies, not_true_eq_false, not_false_eq_true, and_true, true_and, jn0_e, w_bad, w_no, w_full, w_badApart, w_refB, w_refN, w_refF, w_badAs, w_within, w_in, w_isCell, w_isFamC, w_isFliC, w_isFamM, w_isFliM, e27, q1, q2]
  have hmo : wp_Mo_toldOf (nI i) (nI w) m_row (fun r_8 => nI (if w ≤ 4 then ofN p i w else if p i = 0 then 0 else loP p i) = r_8 ∧ _) := s_toldOf hI hM hi (by omega) ⟨rfl, h⟩
  by_cases h5 : w = 5
  · subst h5
    refine ⟨fun z => absurd rfl z, fun _ => ?_⟩
    exact s_takenToday hI rfl rfl rfl a5 a6 a8 a9 a10 a11 hi hmo
  · refine ⟨fun _ => ?_, fun z => absurd z (nI_ne (b := 5) (by omega) (by omega) h5)⟩
    rw [if_pos (by omega)] at hmo
    exact s_famFact hI a5 a6 a7 a8 hi (by omega) hmo

def abN (p : Nat → Nat) (k w : Nat) : Nat := if w = 0 then p (18 + k) else if w = 1 then p (21 + k) else if w = 2 then p (24 + k) else btN (p 15) k
theorem s_fliFact {p : Nat → Nat} {hu : Int32} {flCell flKind flStr : Nat → Int32} (hI : Inv p) (e3 : hu = nI (p 15)) (a4 : Ar (p 17) flCell (fun k => p (21 + k))) (a5 : Ar (p 17) flKind (fun k => p (18 + k))) (a6 : Ar (p 17) flStr (fun k => p (24 + k))) {k w : Nat} (hk : k < p 17) (hw : w < 2 ^ 31) {Q : Int32 → Prop} (hQ : Q (nI (abN p k w))) : wp_Pa_flitchFact (nI k) (nI w) hu flCell flKind flStr Q := by
  subst e3
  have h3 := hI.2.1.1
  unfold wp_Pa_flitchFact wp_Pa_hungBit
  have v3 : vp_in (nI k) 3 := vp_in_nI (by omega) (by omega)
  rw [nI_clamp (by omega), a4 k hk, a5 k hk, a6 k hk, bit_nI (by have := p15_lt hI; omega) (by omega)]
  unfold abN at hQ
  by_cases h0 : w = 0
  · subst h0; rw [if_pos rfl] at hQ; exact ⟨fun _ => ⟨v3, hQ⟩, fun z => absurd rfl z⟩
  · rw [if_neg h0] at hQ
    refine ⟨fun z => absurd z (nI_ne (b := 0) hw (by omega) h0), fun _ => ?_⟩
    by_cases h1 : w = 1
    · subst h1; rw [if_pos rfl] at hQ; exact ⟨fun _ => ⟨v3, hQ⟩, fun z => absurd rfl z⟩
    · rw [if_neg h1] at hQ
      refine ⟨fun z => absurd z (nI_ne (b := 1) hw (by omega) h1), fun _ => ?_⟩
      by_cases h2 : w = 2
      · subst h2; rw [if_pos rfl] at hQ; exact ⟨fun _ => ⟨v3, hQ⟩, fun z => absurd rfl z⟩
      · rw [if_neg h2] at hQ
        exact ⟨fun z => absurd z (nI_ne (b := 2) hw (by omega) h2), fun _ => hQ⟩
theorem s_toldAbout {p : Nat → Nat} {row : Nat → Int32} (hI : Inv p) (hM : MR p row 0) {k w : Nat} (hk : k < p 17) (hw : w < 2 ^ 31) {Q : Int32 → Prop} (hQ : Q (nI (abN p k w))) : wp_Mo_toldAbout (nI k) (nI w) row Q := by
  have h3 := hI.2.1.1
  unfold wp_Mo_toldAbout
  have e18 : (18 : Int32) + nI k = nI (18 + k) := nI_add 18 k
  have e21 : (21 : Int32) + nI k = nI (21 + k) := nI_add 21 k
  have e24 : (24 : Int32) + nI k = nI (24 + k) := nI_add 24 k
  have e15 : row (Int32.toNatClampNeg 15) = nI (p 15) := hM.at0 (j := 15) (by omega)
  rw [e18, e21, e24, e15, nI_clamp (by omega), nI_clamp (by omega), nI_clamp (by omega), hM.at0 (j := 18 + k) (by omega), hM.at0 (j := 21 + k) (by omega), hM.at0 (j := 24 + k) (by omega), bit_nI (by have := p15_lt hI; omega) (by omega)]
  unfold abN at hQ
  by_cases h0 : w = 0
  · subst h0; rw [if_pos rfl] at hQ; exact ⟨fun z => absurd rfl z, fun _ => ⟨vp_in_nI (by omega) (by omega), hQ⟩⟩
  · rw [if_neg h0] at hQ
    refine ⟨fun _ => ?_, fun z => absurd z (nI_ne (b := 0) hw (by omega) h0)⟩
    by_cases h1 : w = 1
    · subst h1; rw [if_pos rfl] at hQ; exact ⟨fun z => absurd rfl z, fun _ => ⟨vp_in_nI (by omega) (by omega), hQ⟩⟩
    · rw [if_neg h1] at hQ
      refine ⟨fun _ => ?_, fun z => absurd z (nI_ne (b := 1) hw (by omega) h1)⟩
      by_cases h2 : w = 2
      · subst h2; rw [if_pos rfl] at hQ; exact ⟨fun z => absurd rfl z, fun _ => ⟨vp_in_nI (by omega) (by omega), hQ⟩⟩
      · rw [if_neg h2] at hQ
        exact ⟨fun _ => hQ, fun z => absurd z (nI_ne (b := 2) hw (by omega) h2)⟩
set_option maxHeartbeats 4000000 in
set_option maxRecDepth 100000 in
theorem po_about {x_textLength : Int32} {x_above : Int64} {x_below : Int64} {x_timesBad : Int32} {x_timesNo : Int32} {x_timesFull : Int32} {x_images_0_flitchCount : Int32} {x_images_0_familyCount : Int32} {x_images_0_hung : Int32} {x_images_0_day : Int32} {x_images_0_familyCell : Nat → Int32} {x_images_0_familyKind : Nat → Int32} {x_images_0_familySide : Nat → Int32} {x_images_0_familyWill : Nat → Int32} {x_images_0_flitchCell : Nat → Int32} {x_images_0_flitchKind : Nat → Int32} {x_images_0_flitchStrength : Nat → Int32} {x_images_0_marks_size : Int32} {x_images_0_marks_numbers : Nat → Int32} {x_images_0_notes_size : Int32} {x_images_0_notes_numbers : Nat → Int32} {x_images_0_past_size : Int32} {x_images_0_past_numbers : Nat → Int32} {x_images_0_sightings_size : Int32} {x_images_0_sightings_numbers : Nat → Int32} {x_images_1_flitchCount : Int32} {x_images_1_familyCount : Int32} {x_images_1_hung : Int32} {x_images_1_day : Int32} {x_images_1_familyCell : Nat → Int32} {x_images_1_familyKind : Nat → Int32} {x_images_1_familySide : Nat → Int32} {x_images_1_familyWill : Nat → Int32} {x_images_1_flitchCell : Nat → Int32} {x_images_1_flitchKind : Nat → Int32} {x_images_1_flitchStrength : Nat → Int32} {x_images_1_marks_size : Int32} {x_images_1_marks_numbers : Nat → Int32} {x_images_1_notes_size : Int32} {x_images_1_notes_numbers : Nat → Int32} {x_images_1_past_size : Int32} {x_images_1_past_numbers : Nat → Int32} {x_images_1_sightings_size : Int32} {x_images_1_sightings_numbers : Nat → Int32} {x_kept : Nat → Int32} {x_now_flitchCount : Int32} {x_now_familyCount : Int32} {x_now_hung : Int32} {x_now_day : Int32} {x_now_familyCell : Nat → Int32} {x_now_familyKind : Nat → Int32} {x_now_familySide : Nat → Int32} {x_now_familyWill : Nat → Int32} {x_now_flitchCell : Nat → Int32} {x_now_flitchKind : Nat → Int32} {x_now_flitchStrength : Nat → Int32} {x_now_marks_width : Int32} {x_now_marks_limit : Int32} {x_now_marks_size : Int32} {x_now_marks_numbers : Nat → Int32} {x_now_notes_width : Int32} {x_now_notes_limit : Int32} {x_now_notes_size : Int32} {x_now_notes_numbers : Nat → Int32} {x_now_past_width : Int32} {x_now_past_limit : Int32} {x_now_past_size : Int32} {x_now_past_numbers : Nat → Int32} {x_now_sightings_width : Int32} {x_now_sightings_limit : Int32} {x_now_sightings_size : Int32} {x_now_sightings_numbers : Nat → Int32} {x_text : Nat → Int32} {m_above : Int64} {m_below : Int64} {m_length : Int32} {m_isKept : Nat → Int32} {m_refused : Nat → Int32} {m_row : Nat → Int32} {m_text : Nat → Int32} {m_words : Nat → Int32} (h : Rel x_textLength x_above x_below x_timesBad x_timesNo x_timesFull x_images_0_flitchCount x_images_0_familyCount x_images_0_hung x_images_0_day x_images_0_familyCell x_images_0_familyKind x_images_0_familySide x_images_0_familyWill x_images_0_flitchCell x_images_0_flitchKind x_images_0_flitchStrength x_images_0_marks_size x_images_0_marks_numbers x_images_0_notes_size x_images_0_notes_numbers x_images_0_past_size x_images_0_past_numbers x_images_0_sightings_size x_images_0_sightings_numbers x_images_1_flitchCount x_images_1_familyCount x_images_1_hung x_images_1_day x_images_1_familyCell x_images_1_familyKind x_images_1_familySide x_images_1_familyWill x_images_1_flitchCell x_images_1_flitchKind x_images_1_flitchStrength x_images_1_marks_size x_images_1_marks_numbers x_images_1_notes_size x_images_1_notes_numbers x_images_1_past_size x_images_1_past_numbers x_images_1_sightings_size x_images_1_sightings_numbers x_kept x_now_flitchCount x_now_familyCount x_now_hung x_now_day x_now_familyCell x_now_familyKind x_now_familySide x_now_familyWill x_now_flitchCell x_now_flitchKind x_now_flitchStrength x_now_marks_width x_now_marks_limit x_now_marks_size x_now_marks_numbers x_now_notes_width x_now_notes_limit x_now_notes_size x_now_notes_numbers x_now_past_width x_now_past_limit x_now_past_size x_now_past_numbers x_now_sightings_width x_now_sightings_limit x_now_sightings_size x_now_sightings_numbers x_text m_above m_below m_length m_isKept m_refused m_row m_text m_words) (x1 : Int32) (x2 : Int32) : wp_Rc_about x1 x2 x_timesBad x_now_flitchCount x_now_hung x_now_flitchCell x_now_flitchKind x_now_flitchStrength (fun (r : Int32) (x_timesBad' : Int32) => wp_Mo_about x1 x2 m_refused m_row (fun (r' : Int32) (m_refused' : Nat → Int32) => r = r' ∧ Rel x_textLength x_above x_below x_timesBad' x_timesNo x_timesFull x_images_0_flitchCount x_images_0_familyCount x_images_0_hung x_images_0_day x_images_0_familyCell x_images_0_familyKind x_images_0_familySide x_images_0_familyWill x_images_0_flitchCell x_images_0_flitchKind x_images_0_flitchStrength x_images_0_marks_size x_images_0_marks_numbers x_images_0_notes_size x_images_0_notes_numbers x_images_0_past_size x_images_0_past_numbers x_images_0_sightings_size x_images_0_sightings_numbers x_images_1_flitchCount x_images_1_familyCount x_images_1_hung x_images_1_day x_images_1_familyCell x_images_1_familyKind x_images_1_familySide x_images_1_familyWill x_images_1_flitchCell x_images_1_flitchKind x_images_1_flitchStrength x_images_1_marks_size x_images_1_marks_numbers x_images_1_notes_size x_images_1_notes_numbers x_images_1_past_size x_images_1_past_numbers x_images_1_sightings_size x_images_1_sightings_numbers x_kept x_now_flitchCount x_now_familyCount x_now_hung x_now_day x_now_familyCell x_now_familyKind x_now_familySide x_now_familyWill x_now_flitchCell x_now_flitchKind x_now_flitchStrength x_now_marks_width x_now_marks_limit x_now_marks_size x_now_marks_numbers x_now_notes_width x_now_notes_limit x_now_notes_size x_now_notes_numbers x_now_past_width x_now_past_limit x_now_past_size x_now_past_numbers x_now_sightings_width x_now_sightings_limit x_now_sightings_size x_now_sightings_numbers x_text m_above m_below m_length m_isKept m_refused' m_row m_text m_words)) := by
  obtain ⟨⟨p, hPS, hM⟩, ⟨rfl, rfl, rfl, rfl, rfl, rfl, rfl, rfl⟩, hk0, hk1, hTx, hFr, hRf, hWo⟩ := id h
  obtain ⟨hI, ⟨rfl, rfl, rfl, rfl, a5, a6, a7, a8, a9, a10, a11⟩, hm, hn, hp, hs⟩ := id hPS
  have h7 := hI.1
  have h3 := hI.2.1.1
  have e27 : m_row 27 = nI (p 27) := hM.at0 (by omega)
  have e17 : m_row 17 = nI (p 17) := hM.at0 (by omega)
  by_cases q1 : inB x1 0 (nI (p 17) - 1) = 0
  · simp only [wp_Rc_about, wp_Mo_about, true_implies, false_implies, not_true_eq_false, not_false_eq_true, and_true, true_and, jn0_e, w_bad, w_no, w_full, w_badApart, w_refB, w_refN, w_refF, w_badAs, w_within, w_in, w_isCell, w_isFamC, w_isFliC, w_isFamM, w_isFliM, e17, q1]; first | exact rel_bad h | exact ⟨rfl, rel_bad h⟩
  by_cases q2 : inB x2 0 3 = 0
  · simp only [wp_Rc_about, wp_Mo_about, true_implies, false_implies, not_true_eq_false, not_false_eq_true, and_true, true_and, jn0_e, w_bad, w_no, w_full, w_badApart, w_refB, w_refN, w_refF, w_badAs, w_within, w_in, w_isCell, w_isFamC, w_isFliC, w_isFamM, w_isFliM, e17, q1, q2]; first | exact rel_bad h | exact ⟨rfl, rel_bad h⟩
  obtain ⟨k, hk, rfl⟩ := inB_pl (by omega) q1
  obtain ⟨w, -, hw, rfl⟩ := inB_nI (lo := 0) (hi := 3) (by omega) (by omega) q2
  simp only [wp_Rc_about, wp_Mo_about, true_implies, false_implies, not_true_eq_false, not_false_eq_true, and_true, true_and, jn0_e, w_bad, w_no, w_full, w_badApart, w_refB, w_refN, w_refF, w_badAs, w_within, w_in, w_isCell, w_isFamC, w_isFliC, w_isFamM, w_isFliM, e17, q1, q2]
  exact s_fliFact hI rfl a9 a10 a11 hk (by omega) (s_toldAbout hI hM hk (by omega) ⟨rfl, h⟩)

set_option maxHeartbeats 4000000 in
set_option maxRecDepth 100000 in
theorem po_smell {x_textLength : Int32} {x_above : Int64} {x_below : Int64} {x_timesBad : Int32} {x_timesNo : Int32} {x_timesFull : Int32} {x_images_0_flitchCount : Int32} {x_images_0_familyCount : Int32} {x_images_0_hung : Int32} {x_images_0_day : Int32} {x_images_0_familyCell : Nat → Int32} {x_images_0_familyKind : Nat → Int32} {x_images_0_familySide : Nat → Int32} {x_images_0_familyWill : Nat → Int32} {x_images_0_flitchCell : Nat → Int32} {x_images_0_flitchKind : Nat → Int32} {x_images_0_flitchStrength : Nat → Int32} {x_images_0_marks_size : Int32} {x_images_0_marks_numbers : Nat → Int32} {x_images_0_notes_size : Int32} {x_images_0_notes_numbers : Nat → Int32} {x_images_0_past_size : Int32} {x_images_0_past_numbers : Nat → Int32} {x_images_0_sightings_size : Int32} {x_images_0_sightings_numbers : Nat → Int32} {x_images_1_flitchCount : Int32} {x_images_1_familyCount : Int32} {x_images_1_hung : Int32} {x_images_1_day : Int32} {x_images_1_familyCell : Nat → Int32} {x_images_1_familyKind : Nat → Int32} {x_images_1_familySide : Nat → Int32} {x_images_1_familyWill : Nat → Int32} {x_images_1_flitchCell : Nat → Int32} {x_images_1_flitchKind : Nat → Int32} {x_images_1_flitchStrength : Nat → Int32} {x_images_1_marks_size : Int32} {x_images_1_marks_numbers : Nat → Int32} {x_images_1_notes_size : Int32} {x_images_1_notes_numbers : Nat → Int32} {x_images_1_past_size : Int32} {x_images_1_past_numbers : Nat → Int32} {x_images_1_sightings_size : Int32} {x_images_1_sightings_numbers : Nat → Int32} {x_kept : Nat → Int32} {x_now_flitchCount : Int32} {x_now_familyCount : Int32} {x_now_hung : Int32} {x_now_day : Int32} {x_now_familyCell : Nat → Int32} {x_now_familyKind : Nat → Int32} {x_now_familySide : Nat → Int32} {x_now_familyWill : Nat → Int32} {x_now_flitchCell : Nat → Int32} {x_now_flitchKind : Nat → Int32} {x_now_flitchStrength : Nat → Int32} {x_now_marks_width : Int32} {x_now_marks_limit : Int32} {x_now_marks_size : Int32} {x_now_marks_numbers : Nat → Int32} {x_now_notes_width : Int32} {x_now_notes_limit : Int32} {x_now_notes_size : Int32} {x_now_notes_numbers : Nat → Int32} {x_now_past_width : Int32} {x_now_past_limit : Int32} {x_now_past_size : Int32} {x_now_past_numbers : Nat → Int32} {x_now_sightings_width : Int32} {x_now_sightings_limit : Int32} {x_now_sightings_size : Int32} {x_now_sightings_numbers : Nat → Int32} {x_text : Nat → Int32} {m_above : Int64} {m_below : Int64} {m_length : Int32} {m_isKept : Nat → Int32} {m_refused : Nat → Int32} {m_row : Nat → Int32} {m_text : Nat → Int32} {m_words : Nat → Int32} (h : Rel x_textLength x_above x_below x_timesBad x_timesNo x_timesFull x_images_0_flitchCount x_images_0_familyCount x_images_0_hung x_images_0_day x_images_0_familyCell x_images_0_familyKind x_images_0_familySide x_images_0_familyWill x_images_0_flitchCell x_images_0_flitchKind x_images_0_flitchStrength x_images_0_marks_size x_images_0_marks_numbers x_images_0_notes_size x_images_0_notes_numbers x_images_0_past_size x_images_0_past_numbers x_images_0_sightings_size x_images_0_sightings_numbers x_images_1_flitchCount x_images_1_familyCount x_images_1_hung x_images_1_day x_images_1_familyCell x_images_1_familyKind x_images_1_familySide x_images_1_familyWill x_images_1_flitchCell x_images_1_flitchKind x_images_1_flitchStrength x_images_1_marks_size x_images_1_marks_numbers x_images_1_notes_size x_images_1_notes_numbers x_images_1_past_size x_images_1_past_numbers x_images_1_sightings_size x_images_1_sightings_numbers x_kept x_now_flitchCount x_now_familyCount x_now_hung x_now_day x_now_familyCell x_now_familyKind x_now_familySide x_now_familyWill x_now_flitchCell x_now_flitchKind x_now_flitchStrength x_now_marks_width x_now_marks_limit x_now_marks_size x_now_marks_numbers x_now_notes_width x_now_notes_limit x_now_notes_size x_now_notes_numbers x_now_past_width x_now_past_limit x_now_past_size x_now_past_numbers x_now_sightings_width x_now_sightings_limit x_now_sightings_size x_now_sightings_numbers x_text m_above m_below m_length m_isKept m_refused m_row m_text m_words) (x1 : Int32) (x2 : Int32) : wp_Rc_smell x1 x2 x_timesBad x_now_flitchCount x_now_hung x_now_day x_now_flitchCell x_now_flitchKind x_now_flitchStrength (fun (r : Int32) (x_timesBad' : Int32) => wp_Mo_smell x1 x2 m_refused m_row (fun (r' : Int32) (m_refused' : Nat → Int32) => r = r' ∧ Rel x_textLength x_above x_below x_timesBad' x_timesNo x_timesFull x_images_0_flitchCount x_images_0_familyCount x_images_0_hung x_images_0_day x_images_0_familyCell x_images_0_familyKind x_images_0_familySide x_images_0_familyWill x_images_0_flitchCell x_images_0_flitchKind x_images_0_flitchStrength x_images_0_marks_size x_images_0_marks_numbers x_images_0_notes_size x_images_0_notes_numbers x_images_0_past_size x_images_0_past_numbers x_images_0_sightings_size x_images_0_sightings_numbers x_images_1_flitchCount x_images_1_familyCount x_images_1_hung x_images_1_day x_images_1_familyCell x_images_1_familyKind x_images_1_familySide x_images_1_familyWill x_images_1_flitchCell x_images_1_flitchKind x_images_1_flitchStrength x_images_1_marks_size x_images_1_marks_numbers x_images_1_notes_size x_images_1_notes_numbers x_images_1_past_size x_images_1_past_numbers x_images_1_sightings_size x_images_1_sightings_numbers x_kept x_now_flitchCount x_now_familyCount x_now_hung x_now_day x_now_familyCell x_now_familyKind x_now_familySide x_now_familyWill x_now_flitchCell x_now_flitchKind x_now_flitchStrength x_now_marks_width x_now_marks_limit x_now_marks_size x_now_marks_numbers x_now_notes_width x_now_notes_limit x_now_notes_size x_now_notes_numbers x_now_past_width x_now_past_limit x_now_past_size x_now_past_numbers x_now_sightings_width x_now_sightings_limit x_now_sightings_size x_now_sightings_numbers x_text m_above m_below m_length m_isKept m_refused' m_row m_text m_words)) := by
  obtain ⟨⟨p, hPS, hM⟩, ⟨rfl, rfl, rfl, rfl, rfl, rfl, rfl, rfl⟩, hk0, hk1, hTx, hFr, hRf, hWo⟩ := id h
  obtain ⟨hI, ⟨rfl, rfl, rfl, rfl, a5, a6, a7, a8, a9, a10, a11⟩, hm, hn, hp, hs⟩ := id hPS
  have h7 := hI.1
  have h3 := hI.2.1.1
  have e27 : m_row 27 = nI (p 27) := hM.at0 (by omega)
  have e17 : m_row 17 = nI (p 17) := hM.at0 (by omega)
  by_cases q1 : inB x1 0 24 = 0
  · simp only [wp_Rc_smell, wp_Mo_smell, true_implies, false_implies, not_true_eq_false, not_false_eq_true, and_true, true_and, jn0_e, w_bad, w_no, w_full, w_badApart, w_refB, w_refN, w_refF, w_badAs, w_within, w_in, w_isCell, w_isFamC, w_isFliC, w_isFamM, w_isFliM, q1]; first | exact rel_bad h | exact ⟨rfl, rel_bad h⟩
  by_cases q2 : inB x2 0 60 = 0
  · simp only [wp_Rc_smell, wp_Mo_smell, true_implies, false_implies, not_true_eq_false, not_false_eq_true, and_true, true_and, jn0_e, w_bad, w_no, w_full, w_badApart, w_refB, w_refN, w_refF, w_badAs, w_within, w_in, w_isCell, w_isFamC, w_isFliC, w_isFamM, w_isFliM, q1, q2]; first | exact rel_bad h | exact ⟨rfl, rel_bad h⟩
  obtain ⟨c, -, hc, rfl⟩ := inB_nI (lo := 0) (hi := 24) (by omega) (by omega) q1
  obtain ⟨m, -, hmm, rfl⟩ := inB_nI (lo := 0) (hi := 60) (by omega) (by omega) q2
  have hd := hI.d9
  have h15 := p15_lt hI
  have hSt := hM.StM hI
  have e15 : m_row (Int32.toNatClampNeg 15) = nI (p 15) := hM.at0 (j := 15) (by omega)
  have e16 : m_row (Int32.toNatClampNeg 16) = nI (p 16) := hM.at0 (j := 16) (by omega)
  simp only [wp_Rc_smell, wp_Mo_smell, true_implies, false_implies, not_true_eq_false, not_false_eq_true, and_true, true_and, jn0_e, w_bad, w_no, w_full, w_badApart, w_refB, w_refN, w_refF, w_badAs, w_within, w_in, w_isCell, w_isFamC, w_isFliC, w_isFamM, w_isFliM, q1, q2, e15, e16, nI_add]
  refine s_scentAt hI.2.1 a10 a9 a11 (by omega) (by omega) (by omega) ?_
  exact s_smellOf hI.2.1 hSt.1 hSt.2.1 hSt.2.2.1 hSt.2.2.2.1 (by omega) (by omega) (by omega) ⟨rfl, h⟩

