set_option maxHeartbeats 4000000 in
set_option maxRecDepth 100000 in
theorem po_then {x_textLength : Int32} {x_above : Int64} {x_below : Int64} {x_timesBad : Int32} {x_timesNo : Int32} {x_timesFull : Int32} {x_foresight_taken : Nat → Int32} {x_images_0_flitchCount : Int32} {x_images_0_familyCount : Int32} {x_images_0_hung : Int32} {x_images_0_day : Int32} {x_images_0_familyCell : Nat → Int32} {x_images_0_familyKind : Nat → Int32} {x_images_0_familySide : Nat → Int32} {x_images_0_familyWill : Nat → Int32} {x_images_0_flitchCell : Nat → Int32} {x_images_0_flitchKind : Nat → Int32} {x_images_0_flitchStrength : Nat → Int32} {x_images_0_marks_size : Int32} {x_images_0_marks_numbers : Nat → Int32} {x_images_0_notes_size : Int32} {x_images_0_notes_numbers : Nat → Int32} {x_images_0_past_size : Int32} {x_images_0_past_numbers : Nat → Int32} {x_images_0_sightings_size : Int32} {x_images_0_sightings_numbers : Nat → Int32} {x_images_1_flitchCount : Int32} {x_images_1_familyCount : Int32} {x_images_1_hung : Int32} {x_images_1_day : Int32} {x_images_1_familyCell : Nat → Int32} {x_images_1_familyKind : Nat → Int32} {x_images_1_familySide : Nat → Int32} {x_images_1_familyWill : Nat → Int32} {x_images_1_flitchCell : Nat → Int32} {x_images_1_flitchKind : Nat → Int32} {x_images_1_flitchStrength : Nat → Int32} {x_images_1_marks_size : Int32} {x_images_1_marks_numbers : Nat → Int32} {x_images_1_notes_size : Int32} {x_images_1_notes_numbers : Nat → Int32} {x_images_1_past_size : Int32} {x_images_1_past_numbers : Nat → Int32} {x_images_1_sightings_size : Int32} {x_images_1_sightings_numbers : Nat → Int32} {x_kept : Nat → Int32} {x_now_flitchCount : Int32} {x_now_familyCount : Int32} {x_now_hung : Int32} {x_now_day : Int32} {x_now_familyCell : Nat → Int32} {x_now_familyKind : Nat → Int32} {x_now_familySide : Nat → Int32} {x_now_familyWill : Nat → Int32} {x_now_flitchCell : Nat → Int32} {x_now_flitchKind : Nat → Int32} {x_now_flitchStrength : Nat → Int32} {x_now_marks_width : Int32} {x_now_marks_limit : Int32} {x_now_marks_size : Int32} {x_now_marks_numbers : Nat → Int32} {x_now_notes_width : Int32} {x_now_notes_limit : Int32} {x_now_notes_size : Int32} {x_now_notes_numbers : Nat → Int32} {x_now_past_width : Int32} {x_now_past_limit : Int32} {x_now_past_size : Int32} {x_now_past_numbers : Nat → Int32} {x_now_sightings_width : Int32} {x_now_sightings_limit : Int32} {x_now_sightings_size : Int32} {x_now_sightings_numbers : Nat → Int32} {x_text : Nat → Int32} {m_above : Int64} {m_below : Int64} {m_length : Int32} {m_isKept : Nat → Int32} {m_refused : Nat → Int32} {m_row : Nat → Int32} {m_text : Nat → Int32} {m_words : Nat → Int32} (h : Rel x_textLength x_above x_below x_timesBad x_timesNo x_timesFull x_images_0_flitchCount x_images_0_familyCount x_images_0_hung x_images_0_day x_images_0_familyCell x_images_0_familyKind x_images_0_familySide x_images_0_familyWill x_images_0_flitchCell x_images_0_flitchKind x_images_0_flitchStrength x_images_0_marks_size x_images_0_marks_numbers x_images_0_notes_size x_images_0_notes_numbers x_images_0_past_size x_images_0_past_numbers x_images_0_sightings_size x_images_0_sightings_numbers x_images_1_flitchCount x_images_1_familyCount x_images_1_hung x_images_1_day x_images_1_familyCell x_images_1_familyKind x_images_1_familySide x_images_1_familyWill x_images_1_flitchCell x_images_1_flitchKind x_images_1_flitchStrength x_images_1_marks_size x_images_1_marks_numbers x_images_1_notes_size x_images_1_notes_numbers x_images_1_past_size x_images_1_past_numbers x_images_1_sightings_size x_images_1_sightings_numbers x_kept x_now_flitchCount x_now_familyCount x_now_hung x_now_day x_now_familyCell x_now_familyKind x_now_familySide x_now_familyWill x_now_flitchCell x_now_flitchKind x_now_flitchStrength x_now_marks_width x_now_marks_limit x_now_marks_size x_now_marks_numbers x_now_notes_width x_now_notes_limit x_now_notes_size x_now_notes_numbers x_now_past_width x_now_past_limit x_now_past_size x_now_past_numbers x_now_sightings_width x_now_sightings_limit x_now_sightings_size x_now_sightings_numbers x_text m_above m_below m_length m_isKept m_refused m_row m_text m_words) (x1 : Int32) (x2 : Int32) : wp_Rc_then x1 x2 x_timesBad x_foresight_taken x_now_flitchCount x_now_familyCount x_now_hung x_now_day x_now_familyCell x_now_familyKind x_now_familyWill x_now_flitchCell x_now_flitchKind x_now_flitchStrength (fun (r : Int32) (x_timesBad' : Int32) (x_foresight_taken' : Nat → Int32) => wp_Mo_then x1 x2 m_refused m_row (fun (r' : Int32) (m_refused' : Nat → Int32) (m_row' : Nat → Int32) => r = r' ∧ Rel x_textLength x_above x_below x_timesBad' x_timesNo x_timesFull x_images_0_flitchCount x_images_0_familyCount x_images_0_hung x_images_0_day x_images_0_familyCell x_images_0_familyKind x_images_0_familySide x_images_0_familyWill x_images_0_flitchCell x_images_0_flitchKind x_images_0_flitchStrength x_images_0_marks_size x_images_0_marks_numbers x_images_0_notes_size x_images_0_notes_numbers x_images_0_past_size x_images_0_past_numbers x_images_0_sightings_size x_images_0_sightings_numbers x_images_1_flitchCount x_images_1_familyCount x_images_1_hung x_images_1_day x_images_1_familyCell x_images_1_familyKind x_images_1_familySide x_images_1_familyWill x_images_1_flitchCell x_images_1_flitchKind x_images_1_flitchStrength x_images_1_marks_size x_images_1_marks_numbers x_images_1_notes_size x_images_1_notes_numbers x_images_1_past_size x_images_1_past_numbers x_images_1_sightings_size x_images_1_sightings_numbers x_kept x_now_flitchCount x_now_familyCount x_now_hung x_now_day x_now_familyCell x_now_familyKind x_now_familySide x_now_familyWill x_now_flitchCell x_now_flitchKind x_now_flitchStrength x_now_marks_width x_now_marks_limit x_now_marks_size x_now_marks_numbers x_now_notes_width x_now_notes_limit x_now_notes_size x_now_notes_numbers x_now_past_width x_now_past_limit x_now_past_size x_now_past_numbers x_now_sightings_width x_now_sightings_limit x_now_sightings_size x_now_sightings_numbers x_text m_above m_below m_length m_isKept m_refused' m_row' m_text m_words)) := by
  obtain ⟨⟨p, hPS, hM⟩, ⟨rfl, rfl, rfl, rfl, rfl, rfl, rfl, rfl⟩, hk0, hk1, hTx, hFr, hRf, hWo⟩ := id h
  obtain ⟨hI, ⟨rfl, rfl, rfl, rfl, a5, a6, a7, a8, a9, a10, a11⟩, hm, hn, hp, hs⟩ := id hPS
  have h7 := hI.1
  have h3 := hI.2.1.1
  have e27 : m_row 27 = nI (p 27) := hM.at0 (by omega)
  have e17 : m_row 17 = nI (p 17) := hM.at0 (by omega)
  have hd := hI.d9
  have h15 := p15_lt hI
  by_cases q1 : inB x1 0 (nI (p 27) - 1) = 0
  · simp only [wp_Rc_then, wp_Mo_then, true_implies, false_implies, not_true_eq_false, not_false_eq_true, and_true, true_and, jn0_e, w_bad, w_no, w_full, w_badApart, w_refB, w_refN, w_refF, w_badAs, w_within, w_in, w_isCell, w_isFamC, w_isFliC, w_isFamM, w_isFliM, e27, q1]; first | exact rel_bad h | exact ⟨rfl, rel_bad h⟩
  by_cases q2 : inB x2 0 60 = 0
  · simp only [wp_Rc_then, wp_Mo_then, true_implies, false_implies, not_true_eq_false, not_false_eq_true, and_true, true_and, jn0_e, w_bad, w_no, w_full, w_badApart, w_refB, w_refN, w_refF, w_badAs, w_within, w_in, w_isCell, w_isFamC, w_isFliC, w_isFamM, w_isFliM, e27, q1, q2]; first | exact rel_bad h | exact ⟨rfl, rel_bad h⟩
  obtain ⟨i, hi, rfl⟩ := inB_pl (by omega) q1
  obtain ⟨n, -, hn, rfl⟩ := inB_nI (lo := 0) (hi := 60) (by omega) (by omega) q2
  have hw := hI.w99 i hi
  have hk := (hI.2.2.1 i hi).1
  have hc := hI.c25 i hi
  have v7 : vp_in (nI i) 7 := vp_in_nI (by omega) (by omega)
  have e753 : (753 : Int32) + nI i = nI (753 + i) := nI_add 753 i
  simp only [wp_Rc_then, wp_Mo_then, wp_Fs_willAfter, true_implies, false_implies, not_true_eq_false, not_false_eq_true, and_true, true_and, jn0_e, w_bad, w_no, w_full, w_badApart, w_refB, w_refN, w_refF, w_badAs, w_within, w_in, w_isCell, w_isFamC, w_isFliC, w_isFamM, w_isFliM, e27, q1, q2, v7, nI_clamp (show i < 2 ^ 31 by omega), a5 i hi, a6 i hi, a8 i hi, e753, nI_clamp (show 753 + i < 2 ^ 31 by omega), nI_clamp (show n < 2 ^ 31 by omega)]
  refine s_reckon hI a9 a10 a11 hk hc (by omega) hn (fun tk htk => ⟨vp_in_nI (by omega) (by omega), ?_⟩)
  have ht := tkT_le hI (h := p 15) (d := p 16) hk hc n
  rw [htk n (Nat.le_refl _), wear_nI hw (by omega)]
  refine s_layTried (fun row1 r1 hL1 => ?_)
  refine s_passTried hI (hL1.mr hM) (tried_Sg hI hM r1) hI.w99 hI.c25 (by omega) (by omega) (by omega) (fun row2 hS2 hL2 => ⟨vp_in_nI (by omega) (by omega), ?_, ?_⟩)
  · exact (hS2.1 i hi).symm
  · exact rel_now h p hPS ((hL2.tr hL1).mr hM) (hL2.tr hL1).hi

theorem whN_le (f : Nat → Nat) (w n : Nat) : whN f w n ≤ n + 1 := fsN_le _ _
theorem s_lapseWithin {p : Nat → Nat} {flCell flKind flStr faKind faWill tk0 : Nat → Int32} (hI : Inv p) (a6 : Ar (p 27) faKind (fun i => p (28 + i))) (a8 : Ar (p 27) faWill p) (a9 : Ar (p 17) flCell (fun k => p (21 + k))) (a10 : Ar (p 17) flKind (fun k => p (18 + k))) (a11 : Ar (p 17) flStr (fun k => p (24 + k))) {i c n : Nat} (hi : i < p 27) (hc : c < 25) (hn : n ≤ 60) {Q : Int32 → (Nat → Int32) → Prop}
    (hQ : ∀ tk, Q (if whN (tkT p (p (28 + i)) c (p 15) (p 16)) (p i) n = n + 1 then -1 else nI (whN (tkT p (p (28 + i)) c (p 15) (p 16)) (p i) n)) tk) : wp_Fs_lapseWithin (nI i) (nI c) (nI n) (nI (p 17)) (nI (p 15)) (nI (p 16)) faKind faWill flCell flKind flStr tk0 Q := by
  have h7 := hI.1
  have h15 := p15_lt hI
  have hk := (hI.2.2.1 i hi).1
  have hw := hI.w99 i hi
  unfold wp_Fs_lapseWithin
  rw [nI_clamp (by omega), a6 i hi, a8 i hi]
  refine ⟨vp_in_nI (by omega) (by omega), s_reckon hI a9 a10 a11 hk hc (by omega) hn (fun tk htk => ⟨vp_in_nI (by omega) (by omega), ?_⟩)⟩
  exact s_firstLapse hn (by omega) (fun t ht => by have := tkT_le hI (h := p 15) (d := p 16) hk hc t; omega) htk (hQ tk)
set_option maxHeartbeats 4000000 in
set_option maxRecDepth 100000 in
theorem po_when {x_textLength : Int32} {x_above : Int64} {x_below : Int64} {x_timesBad : Int32} {x_timesNo : Int32} {x_timesFull : Int32} {x_foresight_taken : Nat → Int32} {x_images_0_flitchCount : Int32} {x_images_0_familyCount : Int32} {x_images_0_hung : Int32} {x_images_0_day : Int32} {x_images_0_familyCell : Nat → Int32} {x_images_0_familyKind : Nat → Int32} {x_images_0_familySide : Nat → Int32} {x_images_0_familyWill : Nat → Int32} {x_images_0_flitchCell : Nat → Int32} {x_images_0_flitchKind : Nat → Int32} {x_images_0_flitchStrength : Nat → Int32} {x_images_0_marks_size : Int32} {x_images_0_marks_numbers : Nat → Int32} {x_images_0_notes_size : Int32} {x_images_0_notes_numbers : Nat → Int32} {x_images_0_past_size : Int32} {x_images_0_past_numbers : Nat → Int32} {x_images_0_sightings_size : Int32} {x_images_0_sightings_numbers : Nat → Int32} {x_images_1_flitchCount : Int32} {x_images_1_familyCount : Int32} {x_images_1_hung : Int32} {x_images_1_day : Int32} {x_images_1_familyCell : Nat → Int32} {x_images_1_familyKind : Nat → Int32} {x_images_1_familySide : Nat → Int32} {x_images_1_familyWill : Nat → Int32} {x_images_1_flitchCell : Nat → Int32} {x_images_1_flitchKind : Nat → Int32} {x_images_1_flitchStrength : Nat → Int32} {x_images_1_marks_size : Int32} {x_images_1_marks_numbers : Nat → Int32} {x_images_1_notes_size : Int32} {x_images_1_notes_numbers : Nat → Int32} {x_images_1_past_size : Int32} {x_images_1_past_numbers : Nat → Int32} {x_images_1_sightings_size : Int32} {x_images_1_sightings_numbers : Nat → Int32} {x_kept : Nat → Int32} {x_now_flitchCount : Int32} {x_now_familyCount : Int32} {x_now_hung : Int32} {x_now_day : Int32} {x_now_familyCell : Nat → Int32} {x_now_familyKind : Nat → Int32} {x_now_familySide : Nat → Int32} {x_now_familyWill : Nat → Int32} {x_now_flitchCell : Nat → Int32} {x_now_flitchKind : Nat → Int32} {x_now_flitchStrength : Nat → Int32} {x_now_marks_width : Int32} {x_now_marks_limit : Int32} {x_now_marks_size : Int32} {x_now_marks_numbers : Nat → Int32} {x_now_notes_width : Int32} {x_now_notes_limit : Int32} {x_now_notes_size : Int32} {x_now_notes_numbers : Nat → Int32} {x_now_past_width : Int32} {x_now_past_limit : Int32} {x_now_past_size : Int32} {x_now_past_numbers : Nat → Int32} {x_now_sightings_width : Int32} {x_now_sightings_limit : Int32} {x_now_sightings_size : Int32} {x_now_sightings_numbers : Nat → Int32} {x_text : Nat → Int32} {m_above : Int64} {m_below : Int64} {m_length : Int32} {m_isKept : Nat → Int32} {m_refused : Nat → Int32} {m_row : Nat → Int32} {m_text : Nat → Int32} {m_words : Nat → Int32} (h : Rel x_textLength x_above x_below x_timesBad x_timesNo x_timesFull x_images_0_flitchCount x_images_0_familyCount x_images_0_hung x_images_0_day x_images_0_familyCell x_images_0_familyKind x_images_0_familySide x_images_0_familyWill x_images_0_flitchCell x_images_0_flitchKind x_images_0_flitchStrength x_images_0_marks_size x_images_0_marks_numbers x_images_0_notes_size x_images_0_notes_numbers x_images_0_past_size x_images_0_past_numbers x_images_0_sightings_size x_images_0_sightings_numbers x_images_1_flitchCount x_images_1_familyCount x_images_1_hung x_images_1_day x_images_1_familyCell x_images_1_familyKind x_images_1_familySide x_images_1_familyWill x_images_1_flitchCell x_images_1_flitchKind x_images_1_flitchStrength x_images_1_marks_size x_images_1_marks_numbers x_images_1_notes_size x_images_1_notes_numbers x_images_1_past_size x_images_1_past_numbers x_images_1_sightings_size x_images_1_sightings_numbers x_kept x_now_flitchCount x_now_familyCount x_now_hung x_now_day x_now_familyCell x_now_familyKind x_now_familySide x_now_familyWill x_now_flitchCell x_now_flitchKind x_now_flitchStrength x_now_marks_width x_now_marks_limit x_now_marks_size x_now_marks_numbers x_now_notes_width x_now_notes_limit x_now_notes_size x_now_notes_numbers x_now_past_width x_now_past_limit x_now_past_size x_now_past_numbers x_now_sightings_width x_now_sightings_limit x_now_sightings_size x_now_sightings_numbers x_text m_above m_below m_length m_isKept m_refused m_row m_text m_words) (x1 : Int32) : wp_Rc_when x1 x_timesBad x_foresight_taken x_now_flitchCount x_now_familyCount x_now_hung x_now_day x_now_familyCell x_now_familyKind x_now_familyWill x_now_flitchCell x_now_flitchKind x_now_flitchStrength (fun (r : Int32) (x_timesBad' : Int32) (x_foresight_taken' : Nat → Int32) => wp_Mo_when x1 m_refused m_row (fun (r' : Int32) (m_refused' : Nat → Int32) (m_row' : Nat → Int32) => r = r' ∧ Rel x_textLength x_above x_below x_timesBad' x_timesNo x_timesFull x_images_0_flitchCount x_images_0_familyCount x_images_0_hung x_images_0_day x_images_0_familyCell x_images_0_familyKind x_images_0_familySide x_images_0_familyWill x_images_0_flitchCell x_images_0_flitchKind x_images_0_flitchStrength x_images_0_marks_size x_images_0_marks_numbers x_images_0_notes_size x_images_0_notes_numbers x_images_0_past_size x_images_0_past_numbers x_images_0_sightings_size x_images_0_sightings_numbers x_images_1_flitchCount x_images_1_familyCount x_images_1_hung x_images_1_day x_images_1_familyCell x_images_1_familyKind x_images_1_familySide x_images_1_familyWill x_images_1_flitchCell x_images_1_flitchKind x_images_1_flitchStrength x_images_1_marks_size x_images_1_marks_numbers x_images_1_notes_size x_images_1_notes_numbers x_images_1_past_size x_images_1_past_numbers x_images_1_sightings_size x_images_1_sightings_numbers x_kept x_now_flitchCount x_now_familyCount x_now_hung x_now_day x_now_familyCell x_now_familyKind x_now_familySide x_now_familyWill x_now_flitchCell x_now_flitchKind x_now_flitchStrength x_now_marks_width x_now_marks_limit x_now_marks_size x_now_marks_numbers x_now_notes_width x_now_notes_limit x_now_notes_size x_now_notes_numbers x_now_past_width x_now_past_limit x_now_past_size x_now_past_numbers x_now_sightings_width x_now_sightings_limit x_now_sightings_size x_now_sightings_numbers x_text m_above m_below m_length m_isKept m_refused' m_row' m_text m_words)) := by
  obtain ⟨⟨p, hPS, hM⟩, ⟨rfl, rfl, rfl, rfl, rfl, rfl, rfl, rfl⟩, hk0, hk1, hTx, hFr, hRf, hWo⟩ := id h
  obtain ⟨hI, ⟨rfl, rfl, rfl, rfl, a5, a6, a7, a8, a9, a10, a11⟩, hm, hn, hp, hs⟩ := id hPS
  have h7 := hI.1
  have h3 := hI.2.1.1
  have e27 : m_row 27 = nI (p 27) := hM.at0 (by omega)
  have e17 : m_row 17 = nI (p 17) := hM.at0 (by omega)
  have hd := hI.d9
  have h15 := p15_lt hI
  by_cases q1 : inB x1 0 (nI (p 27) - 1) = 0
  · simp only [wp_Rc_when, wp_Mo_when, true_implies, false_implies, not_true_eq_false, not_false_eq_true, and_true, true_and, jn0_e, w_bad, w_no, w_full, w_badApart, w_refB, w_refN, w_refF, w_badAs, w_within, w_in, w_isCell, w_isFamC, w_isFliC, w_isFamM, w_isFliM, e27, q1]; first | exact rel_bad h | exact ⟨rfl, rel_bad h⟩
  obtain ⟨i, hi, rfl⟩ := inB_pl (by omega) q1
  have hc := hI.c25 i hi
  have v7 : vp_in (nI i) 7 := vp_in_nI (by omega) (by omega)
  simp only [wp_Rc_when, wp_Mo_when, true_implies, false_implies, not_true_eq_false, not_false_eq_true, and_true, true_and, jn0_e, w_bad, w_no, w_full, w_badApart, w_refB, w_refN, w_refF, w_badAs, w_within, w_in, w_isCell, w_isFamC, w_isFliC, w_isFamM, w_isFliM, e27, q1, v7, nI_clamp (show i < 2 ^ 31 by omega), a5 i hi]
  refine s_lapseWithin (n := 60) hI a6 a8 a9 a10 a11 hi hc (by omega) (fun tk => ?_)
  refine s_layTried (fun row1 r1 hL1 => ?_)
  refine s_whenTried hI (hL1.mr hM) (tried_Sg hI hM r1) hI.w99 hI.c25 (by omega) (by omega) hi (fun row2 hL2 => ?_)
  have hr := rel_now h p hPS ((hL2.tr hL1).mr hM) (hL2.tr hL1).hi
  have hle := whN_le (tkT p (p (28 + i)) (p (8 + i)) (p 15) (p 16)) (p i) 60
  by_cases e : whN (tkT p (p (28 + i)) (p (8 + i)) (p 15) (p 16)) (p i) 60 = 61
  · simp only [e, if_true, show 60 + 1 = 61 from rfl]
    exact ⟨fun z => absurd trivial z, fun _ => ⟨trivial, hr⟩⟩
  · simp only [e, if_false, show 60 + 1 = 61 from rfl]
    exact ⟨fun _ => ⟨trivial, hr⟩, fun z => absurd z (nI_ne (b := 99999) (by omega) (by omega) (by omega))⟩

def anyN (P : Nat → Bool) : Nat → Bool
  | 0 => false
  | n + 1 => anyN P n || P n
theorem anyN_cong {P R : Nat → Bool} : ∀ n, (∀ i, i < n → P i = R i) → anyN P n = anyN R n
  | 0, _ => rfl
  | n + 1, h => by simp only [anyN]; rw [anyN_cong n (fun i hi => h i (by omega)), h n (by omega)]
/-- who holds, by side -/
def hdN (p : Nat → Nat) (w : Nat → Nat) (s n : Nat) : Bool := anyN (fun i => decide (w i ≠ 0 ∧ p (35 + i) = s)) n
def mkB (a b : Bool) : Int32 := cond a (cond b 3 1) (cond b 2 0)
def rgI (a b : Bool) : Int32 := if a = b then -1 else if a = true then 0 else 1
theorem mkB_0 : ∀ a b : Bool, mkB a b ||| ishl 1 (nI 0) = mkB true b ∧ mkB a b ||| ishl 1 (nI 1) = mkB a true ∧ (mkB a b = 1 ↔ (a = true ∧ b = false)) ∧ (mkB a b = 2 ↔ (a = false ∧ b = true)) ∧ (mkB a b = 3 ↔ (a = true ∧ b = true)) := by decide +kernel
def laI (p : Nat → Nat) (n i : Nat) : Int32 := if whN (tkT p (p (28 + i)) (p (8 + i)) (p 15) (p 16)) (p i) n = n + 1 then -1 else nI (whN (tkT p (p (28 + i)) (p (8 + i)) (p 15) (p 16)) (p i) n)
def wtN (p : Nat → Nat) (t i : Nat) : Nat := p i - tkT p (p (28 + i)) (p (8 + i)) (p 15) (p 16) t
theorem s_reckonLapses {p : Nat → Nat} {flCell flKind flStr faKind faCell faWill tk0 la0 : Nat → Int32} (hI : Inv p) (a5 : Ar (p 27) faCell (fun i => p (8 + i))) (a6 : Ar (p 27) faKind (fun i => p (28 + i))) (a8 : Ar (p 27) faWill p) (a9 : Ar (p 17) flCell (fun k => p (21 + k))) (a10 : Ar (p 17) flKind (fun k => p (18 + k))) (a11 : Ar (p 17) flStr (fun k => p (24 + k))) {n : Nat} (hn : n ≤ 60) {Q : (Nat → Int32) → (Nat → Int32) → Prop}
    (hQ : ∀ la tk, (∀ i, i < p 27 → la i = laI p n i) → Q la tk) : wp_Fs_reckonLapses (nI n) la0 (nI (p 17)) (nI (p 27)) (nI (p 15)) (nI (p 16)) faCell faKind faWill flCell flKind flStr tk0 Q := by
  have h7 := hI.1
  have h15 := p15_lt hI
  unfold wp_Fs_reckonLapses
  refine lpw3_rule (fun x la _ => ∃ j, x = nI j ∧ j ≤ p 27 ∧ ∀ i, i < j → la i = laI p n i) (fun x _ _ => 8 - x.toNatClampNeg) ?_ 0 la0 tk0 ⟨0, rfl, Nat.zero_le _, fun i hi => absurd hi (by omega)⟩
  intro B x la tk hx hB
  obtain ⟨j, rfl, hj, hl⟩ := hx
  by_cases e : j = p 27
  · subst e
    exact ⟨fun _ => hQ la tk hl, fun q => absurd (nI_le (Nat.le_refl _) (by omega)) q⟩
  have hj : j < p 27 := by omega
  have hk := (hI.2.2.1 j hj).1
  have hw := hI.w99 j hj
  have hc := hI.c25 j hj
  refine ⟨fun q => absurd q (nI_ge hj (by omega)), fun _ => ⟨vp_in_nI (by omega) (by omega), vp_in_nI (by omega) (by omega), ?_⟩⟩
  rw [nI_clamp (by omega), a5 j hj, a6 j hj, a8 j hj]
  refine s_reckon hI a9 a10 a11 hk hc (by omega) hn (fun tk htk => ⟨vp_in_nI (by omega) (by omega), ?_⟩)
  refine s_firstLapse hn (by omega) (fun t ht => by have := tkT_le hI (h := p 15) (d := p 16) hk hc t; omega) htk ⟨vp_in_nI (by omega) (by omega), ?_⟩
  intro la1 ela1 x1 ex1
  subst ela1; subst ex1
  rw [nI_1]
  refine hB _ _ _ ⟨j + 1, rfl, by omega, fun i hi => ?_⟩ (by rw [nI_clamp (by omega), nI_clamp (by omega)]; omega)
  by_cases ei : i = j
  · subst ei; rw [pk_us]; rfl
  · rw [pk_un ei]; exact hl i (by omega)
theorem laI_hold {p : Nat → Nat} {n t i : Nat} (hn : n ≤ 60) (ht : t ≤ n) : (laI p n i = -1 ∨ ¬ laI p n i ≤ nI t) ↔ wtN p t i ≠ 0 := by
  unfold laI wtN
  obtain ⟨h1, h2⟩ := fsN_spec (fun t => decide (p i ≤ tkT p (p (28 + i)) (p (8 + i)) (p 15) (p 16) t)) (n + 1)
  have h3 := fsN_le (fun t => decide (p i ≤ tkT p (p (28 + i)) (p (8 + i)) (p 15) (p 16) t)) (n + 1)
  obtain ⟨j, hj⟩ : ∃ j, j = fsN (fun t => decide (p i ≤ tkT p (p (28 + i)) (p (8 + i)) (p 15) (p 16) t)) (n + 1) := ⟨_, rfl⟩
  have ej : whN (tkT p (p (28 + i)) (p (8 + i)) (p 15) (p 16)) (p i) n = j := hj.symm
  rw [← hj] at h1 h2 h3
  rw [ej]
  by_cases e : j = n + 1
  · rw [if_pos e]
    have := of_decide_eq_false (h1 t (by omega))
    exact ⟨fun _ => by omega, fun _ => Or.inl rfl⟩
  · rw [if_neg e]
    have h4 := of_decide_eq_true (h2 (by omega))
    have hne : ¬ nI j = -1 := fun q => by
      have a := congrArg Int32.toInt q
      rw [nI_toInt (by omega)] at a
      have e1 : (-1 : Int32).toInt = -1 := rfl
      omega
    constructor
    · intro q
      rcases q with q | q
      · exact absurd q hne
      · have q' : ¬ j ≤ t := fun z => q ((nI_leI (by omega) (by omega)).mpr z)
        have := of_decide_eq_false (h1 t (by omega))
        omega
    · intro q
      refine Or.inr (fun z => ?_)
      have z' := (nI_leI (by omega) (by omega)).mp z
      have := tkT_mono p (p (28 + i)) (p (8 + i)) (p 15) (p 16) t z'
      omega
theorem s_holdingSides {p : Nat → Nat} {faSide la : Nat → Int32} (hI : Inv p) (a7 : Ar (p 27) faSide (fun i => p (35 + i))) {n t : Nat} (hn : n ≤ 60) (ht : t ≤ n) (hl : ∀ i, i < p 27 → la i = laI p n i) {Q : Int32 → Prop}
    (hQ : Q (mkB (hdN p (wtN p t) 0 (p 27)) (hdN p (wtN p t) 1 (p 27)))) : wp_Fs_holdingSides (nI t) la (nI (p 27)) faSide Q := by
  have h7 := hI.1
  unfold wp_Fs_holdingSides
  refine lpw2_run (fun j => mkB (hdN p (wtN p t) 0 j) (hdN p (wtN p t) 1 j)) nI (p 27) ?_ ?_ 0 (Nat.zero_le _)
  · intro B j hj hB
    refine ⟨fun q => absurd q (nI_ge hj (by omega)), fun _ => ⟨vp_in_nI (by omega) (by omega), ?_⟩⟩
    have v7 : vp_in (nI j) 7 := vp_in_nI (by omega) (by omega)
    have hb := laI_hold (p := p) (n := n) (t := t) (i := j) hn ht
    have hs := (hI.2.2.1 j hj).2
    simp only [jn1_e, jn0_e, v7, true_and, nI_clamp (show j < 2 ^ 31 by omega), hl j hj, fe_e, nI_1, a7 j hj]
    obtain ⟨m0, m1, -⟩ := mkB_0 (hdN p (wtN p t) 0 j) (hdN p (wtN p t) 1 j)
    have e0 : hdN p (wtN p t) 0 (j + 1) = (hdN p (wtN p t) 0 j || decide (wtN p t j ≠ 0 ∧ p (35 + j) = 0)) := rfl
    have e1 : hdN p (wtN p t) 1 (j + 1) = (hdN p (wtN p t) 1 j || decide (wtN p t j ≠ 0 ∧ p (35 + j) = 1)) := rfl
    simp only [e0, e1] at hB
    have yes : wtN p t j ≠ 0 → B (mkB (hdN p (wtN p t) 0 j) (hdN p (wtN p t) 1 j) ||| ishl 1 (nI (p (35 + j)))) (nI (j + 1)) := by
      intro hw
      rcases (show p (35 + j) = 0 ∨ p (35 + j) = 1 by omega) with e | e
      · rw [e, m0]; simp [hw, e] at hB; exact hB
      · rw [e, m1]; simp [hw, e] at hB; exact hB
    refine ⟨fun q => yes (hb.mp (Or.inl q)), fun q => ⟨fun q2 => ?_, fun q2 => yes (hb.mp (Or.inr q2))⟩⟩
    have hz : wtN p t j = 0 := Classical.not_not.mp (fun z => (hb.mpr z).elim (fun y => q y) (fun y => y q2))
    simp [hz] at hB
    exact hB
  · intro B
    exact ⟨fun _ => hQ, fun q => absurd (nI_le (Nat.le_refl _) (by omega)) q⟩
theorem s_rightAfter {p : Nat → Nat} {flCell flKind flStr faKind faCell faSide faWill tk0 la0 : Nat → Int32} (hI : Inv p) (a5 : Ar (p 27) faCell (fun i => p (8 + i))) (a6 : Ar (p 27) faKind (fun i => p (28 + i))) (a7 : Ar (p 27) faSide (fun i => p (35 + i))) (a8 : Ar (p 27) faWill p) (a9 : Ar (p 17) flCell (fun k => p (21 + k))) (a10 : Ar (p 17) flKind (fun k => p (18 + k))) (a11 : Ar (p 17) flStr (fun k => p (24 + k))) {n : Nat} (hn : n ≤ 60) {Q : Int32 → (Nat → Int32) → (Nat → Int32) → Prop}
    (hQ : ∀ la tk, Q (rgI (hdN p (wtN p n) 0 (p 27)) (hdN p (wtN p n) 1 (p 27))) la tk) : wp_Fs_rightAfter (nI n) la0 (nI (p 17)) (nI (p 27)) (nI (p 15)) (nI (p 16)) faCell faKind faSide faWill flCell flKind flStr tk0 Q := by
  unfold wp_Fs_rightAfter
  refine s_reckonLapses hI a5 a6 a8 a9 a10 a11 hn (fun la tk hl => ?_)
  refine s_holdingSides hI a7 hn (Nat.le_refl _) hl ?_
  obtain ⟨-, -, m1, m2, -⟩ := mkB_0 (hdN p (wtN p n) 0 (p 27)) (hdN p (wtN p n) 1 (p 27))
  have hQ' := hQ la tk
  unfold rgI at hQ'
  refine ⟨fun q => ⟨fun q2 => ?_, fun q2 => ?_⟩, fun q => ?_⟩
  · have : hdN p (wtN p n) 0 (p 27) = hdN p (wtN p n) 1 (p 27) := by
      rw [m1] at q
      rw [m2] at q2
      cases ha : hdN p (wtN p n) 0 (p 27) <;> cases hb : hdN p (wtN p n) 1 (p 27) <;> simp_all
    rw [if_pos this] at hQ'
    exact hQ'
  · obtain ⟨ha, hb⟩ := m2.mp q2
    rw [ha, hb] at hQ'
    exact hQ'
  · obtain ⟨ha, hb⟩ := m1.mp q
    rw [ha, hb] at hQ'
    exact hQ'
theorem s_rightIn {p : Nat → Nat} {row : Nat → Int32} {w ce : Nat → Nat} {b h d : Nat} (hb : b = 0 ∨ b = 753) (hI : Inv p) (hM : MR p row 0) (hS : SgM (p 27) row b w ce h d) {Q : Int32 → Prop} (hQ : Q (rgI (hdN p w 0 (p 27)) (hdN p w 1 (p 27)))) : wp_Mo_rightIn (nI b) row Q := by
  have h7 := hI.1
  have e27 : row (Int32.toNatClampNeg 27) = nI (p 27) := hM.at0 (j := 27) (by omega)
  unfold wp_Mo_rightIn
  simp only [e27]
  refine lpw3_run (fun j => if hdN p w 0 j = true then 1 else 0) (fun j => if hdN p w 1 j = true then 1 else 0) nI (p 27) ?_ ?_ 0 (Nat.zero_le _)
  · intro B j hj hB
    refine ⟨fun q => absurd q (nI_ge hj (by omega)), fun _ => ?_⟩
    have eb7 : nI b + 7 = nI (b + 7) := nI_add b 7
    have e35 : (35 : Int32) + nI j = nI (35 + j) := nI_add 35 j
    have hl := lapN_lt w (p 27)
    have h128 : (2 : Nat) ^ (p 27) ≤ 128 := Nat.le_trans (Nat.pow_le_pow_right (by omega) h7) (by decide)
    have eh : row (b + 7) = nI (lapN w (p 27)) := hS.2.1
    have es : row (35 + j) = nI (p (35 + j)) := hM.at0 (by omega)
    have v1 : vp_in (nI (b + 7)) 770 := vp_in_nI (by omega) (by omega)
    have v2 : vp_in (nI (35 + j)) 770 := vp_in_nI (by omega) (by omega)
    have hs := (hI.2.2.1 j hj).2
    have e0 : hdN p w 0 (j + 1) = (hdN p w 0 j || decide (w j ≠ 0 ∧ p (35 + j) = 0)) := rfl
    have e1 : hdN p w 1 (j + 1) = (hdN p w 1 j || decide (w j ≠ 0 ∧ p (35 + j) = 1)) := rfl
    simp only [e0, e1] at hB
    simp only [eb7, e35, v1, v2, true_and, w_has, nI_clamp (show b + 7 < 2 ^ 31 by omega), nI_clamp (show 35 + j < 2 ^ 31 by omega), eh, es, bit_is (show lapN w (p 27) < 256 by omega) (show j < 8 by omega), btN_lap w (p 27) j hj, jn1_e, jn0_e, fe_e, nI_1]
    have c10 : ¬ ((1 : Int32) = 0) := by decide
    by_cases hz : w j = 0
    · simp [hz] at hB
      cases ha : hdN p w 0 j <;> cases hc : hdN p w 1 j <;> simp [ha, hc] at hB <;> simp [hz] <;> exact hB
    · rcases (show p (35 + j) = 0 ∨ p (35 + j) = 1 by omega) with e | e
      · simp [hz, e] at hB
        have ee : ¬ (nI 0 = 1) := by decide
        have ee2 : nI 0 = 0 := rfl
        cases ha : hdN p w 0 j <;> cases hc : hdN p w 1 j <;> simp [ha, hc] at hB <;> simp [hz, e, ee, ee2] <;> exact hB
      · simp [hz, e] at hB
        have ee : ¬ (nI 1 = 0) := by decide
        have ee2 : nI 1 = 1 := rfl
        cases ha : hdN p w 0 j <;> cases hc : hdN p w 1 j <;> simp [ha, hc] at hB <;> simp [hz, e, ee, ee2] <;> exact hB
  · intro B
    refine ⟨fun _ => ?_, fun q => absurd (nI_le (Nat.le_refl _) (by omega)) q⟩
    unfold rgI at hQ
    cases ha : hdN p w 0 (p 27) <;> cases hc : hdN p w 1 (p 27) <;> simp [ha, hc] at hQ ⊢ <;> exact hQ
set_option maxHeartbeats 4000000 in
set_option maxRecDepth 100000 in
theorem po_right {x_textLength : Int32} {x_above : Int64} {x_below : Int64} {x_timesBad : Int32} {x_timesNo : Int32} {x_timesFull : Int32} {x_foresight_lapses : Nat → Int32} {x_foresight_taken : Nat → Int32} {x_images_0_flitchCount : Int32} {x_images_0_familyCount : Int32} {x_images_0_hung : Int32} {x_images_0_day : Int32} {x_images_0_familyCell : Nat → Int32} {x_images_0_familyKind : Nat → Int32} {x_images_0_familySide : Nat → Int32} {x_images_0_familyWill : Nat → Int32} {x_images_0_flitchCell : Nat → Int32} {x_images_0_flitchKind : Nat → Int32} {x_images_0_flitchStrength : Nat → Int32} {x_images_0_marks_size : Int32} {x_images_0_marks_numbers : Nat → Int32} {x_images_0_notes_size : Int32} {x_images_0_notes_numbers : Nat → Int32} {x_images_0_past_size : Int32} {x_images_0_past_numbers : Nat → Int32} {x_images_0_sightings_size : Int32} {x_images_0_sightings_numbers : Nat → Int32} {x_images_1_flitchCount : Int32} {x_images_1_familyCount : Int32} {x_images_1_hung : Int32} {x_images_1_day : Int32} {x_images_1_familyCell : Nat → Int32} {x_images_1_familyKind : Nat → Int32} {x_images_1_familySide : Nat → Int32} {x_images_1_familyWill : Nat → Int32} {x_images_1_flitchCell : Nat → Int32} {x_images_1_flitchKind : Nat → Int32} {x_images_1_flitchStrength : Nat → Int32} {x_images_1_marks_size : Int32} {x_images_1_marks_numbers : Nat → Int32} {x_images_1_notes_size : Int32} {x_images_1_notes_numbers : Nat → Int32} {x_images_1_past_size : Int32} {x_images_1_past_numbers : Nat → Int32} {x_images_1_sightings_size : Int32} {x_images_1_sightings_numbers : Nat → Int32} {x_kept : Nat → Int32} {x_now_flitchCount : Int32} {x_now_familyCount : Int32} {x_now_hung : Int32} {x_now_day : Int32} {x_now_familyCell : Nat → Int32} {x_now_familyKind : Nat → Int32} {x_now_familySide : Nat → Int32} {x_now_familyWill : Nat → Int32} {x_now_flitchCell : Nat → Int32} {x_now_flitchKind : Nat → Int32} {x_now_flitchStrength : Nat → Int32} {x_now_marks_width : Int32} {x_now_marks_limit : Int32} {x_now_marks_size : Int32} {x_now_marks_numbers : Nat → Int32} {x_now_notes_width : Int32} {x_now_notes_limit : Int32} {x_now_notes_size : Int32} {x_now_notes_numbers : Nat → Int32} {x_now_past_width : Int32} {x_now_past_limit : Int32} {x_now_past_size : Int32} {x_now_past_numbers : Nat → Int32} {x_now_sightings_width : Int32} {x_now_sightings_limit : Int32} {x_now_sightings_size : Int32} {x_now_sightings_numbers : Nat → Int32} {x_text : Nat → Int32} {m_above : Int64} {m_below : Int64} {m_length : Int32} {m_isKept : Nat → Int32} {m_refused : Nat → Int32} {m_row : Nat → Int32} {m_text : Nat → Int32} {m_words : Nat → Int32} (h : Rel x_textLength x_above x_below x_timesBad x_timesNo x_timesFull x_images_0_flitchCount x_images_0_familyCount x_images_0_hung x_images_0_day x_images_0_familyCell x_images_0_familyKind x_images_0_familySide x_images_0_familyWill x_images_0_flitchCell x_images_0_flitchKind x_images_0_flitchStrength x_images_0_marks_size x_images_0_marks_numbers x_images_0_notes_size x_images_0_notes_numbers x_images_0_past_size x_images_0_past_numbers x_images_0_sightings_size x_images_0_sightings_numbers x_images_1_flitchCount x_images_1_familyCount x_images_1_hung x_images_1_day x_images_1_familyCell x_images_1_familyKind x_images_1_familySide x_images_1_familyWill x_images_1_flitchCell x_images_1_flitchKind x_images_1_flitchStrength x_images_1_marks_size x_images_1_marks_numbers x_images_1_notes_size x_images_1_notes_numbers x_images_1_past_size x_images_1_past_numbers x_images_1_sightings_size x_images_1_sightings_numbers x_kept x_now_flitchCount x_now_familyCount x_now_hung x_now_day x_now_familyCell x_now_familyKind x_now_familySide x_now_familyWill x_now_flitchCell x_now_flitchKind x_now_flitchStrength x_now_marks_width x_now_marks_limit x_now_marks_size x_now_marks_numbers x_now_notes_width x_now_notes_limit x_now_notes_size x_now_notes_numbers x_now_past_width x_now_past_limit x_now_past_size x_now_past_numbers x_now_sightings_width x_now_sightings_limit x_now_sightings_size x_now_sightings_numbers x_text m_above m_below m_length m_isKept m_refused m_row m_text m_words) : wp_Rc_right x_foresight_lapses x_foresight_taken x_now_flitchCount x_now_familyCount x_now_hung x_now_day x_now_familyCell x_now_familyKind x_now_familySide x_now_familyWill x_now_flitchCell x_now_flitchKind x_now_flitchStrength (fun (r : Int32) (x_foresight_lapses' : Nat → Int32) (x_foresight_taken' : Nat → Int32) => wp_Mo_right m_row (fun (r' : Int32)  => r = r' ∧ Rel x_textLength x_above x_below x_timesBad x_timesNo x_timesFull x_images_0_flitchCount x_images_0_familyCount x_images_0_hung x_images_0_day x_images_0_familyCell x_images_0_familyKind x_images_0_familySide x_images_0_familyWill x_images_0_flitchCell x_images_0_flitchKind x_images_0_flitchStrength x_images_0_marks_size x_images_0_marks_numbers x_images_0_notes_size x_images_0_notes_numbers x_images_0_past_size x_images_0_past_numbers x_images_0_sightings_size x_images_0_sightings_numbers x_images_1_flitchCount x_images_1_familyCount x_images_1_hung x_images_1_day x_images_1_familyCell x_images_1_familyKind x_images_1_familySide x_images_1_familyWill x_images_1_flitchCell x_images_1_flitchKind x_images_1_flitchStrength x_images_1_marks_size x_images_1_marks_numbers x_images_1_notes_size x_images_1_notes_numbers x_images_1_past_size x_images_1_past_numbers x_images_1_sightings_size x_images_1_sightings_numbers x_kept x_now_flitchCount x_now_familyCount x_now_hung x_now_day x_now_familyCell x_now_familyKind x_now_familySide x_now_familyWill x_now_flitchCell x_now_flitchKind x_now_flitchStrength x_now_marks_width x_now_marks_limit x_now_marks_size x_now_marks_numbers x_now_notes_width x_now_notes_limit x_now_notes_size x_now_notes_numbers x_now_past_width x_now_past_limit x_now_past_size x_now_past_numbers x_now_sightings_width x_now_sightings_limit x_now_sightings_size x_now_sightings_numbers x_text m_above m_below m_length m_isKept m_refused m_row m_text m_words)) := by
  obtain ⟨⟨p, hPS, hM⟩, ⟨rfl, rfl, rfl, rfl, rfl, rfl, rfl, rfl⟩, hk0, hk1, hTx, hFr, hRf, hWo⟩ := id h
  obtain ⟨hI, ⟨rfl, rfl, rfl, rfl, a5, a6, a7, a8, a9, a10, a11⟩, hm, hn, hp, hs⟩ := id hPS
  have h7 := hI.1
  have h3 := hI.2.1.1
  have e27 : m_row 27 = nI (p 27) := hM.at0 (by omega)
  have e17 : m_row 17 = nI (p 17) := hM.at0 (by omega)
  simp only [wp_Rc_right, wp_Mo_right]
  refine s_rightAfter (n := 0) hI a5 a6 a7 a8 a9 a10 a11 (by omega) (fun la tk => ?_)
  refine s_rightIn (b := 0) (Or.inl rfl) hI hM (hM.SgM hI) ⟨?_, h⟩
  have e : wtN p 0 = p := by funext i; unfold wtN; simp [tkT]
  rw [e]

