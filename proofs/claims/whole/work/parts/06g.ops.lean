def etN42 (p : Nat → Nat) (v1 v2 v3 : Nat) : Nat → Nat := updN (updN (updN (updN p (43 + 3 * p 42) v1) (44 + 3 * p 42) v2) (45 + 3 * p 42) v3) 42 (p 42 + 1)
theorem etN42_o (p : Nat → Nat) (v1 v2 v3 : Nat) {j : Nat} (h : j ≠ 42) (h2 : j < 43 + 3 * p 42 ∨ 46 + 3 * p 42 ≤ j) : etN42 p v1 v2 v3 j = p j := by
  unfold etN42
  simp only [updN]
  rw [if_neg h, if_neg (by omega), if_neg (by omega), if_neg (by omega)]
theorem etN42_s (p : Nat → Nat) (v1 v2 v3 : Nat) : etN42 p v1 v2 v3 42 = p 42 + 1 := by
  unfold etN42
  rw [updN_s]
theorem etN42_0 (p : Nat → Nat) (v1 v2 v3 : Nat) : etN42 p v1 v2 v3 (43 + 3 * p 42) = v1 := by
  unfold etN42
  rw [updN_n (by omega), updN_n (by omega), updN_n (by omega), updN_s]
theorem etN42_1 (p : Nat → Nat) (v1 v2 v3 : Nat) : etN42 p v1 v2 v3 (44 + 3 * p 42) = v2 := by
  unfold etN42
  rw [updN_n (by omega), updN_n (by omega), updN_s]
theorem etN42_2 (p : Nat → Nat) (v1 v2 v3 : Nat) : etN42 p v1 v2 v3 (45 + 3 * p 42) = v3 := by
  unfold etN42
  rw [updN_n (by omega), updN_s]
theorem Inv.ivetN42 {p : Nat → Nat} (h : Inv p) (hl : p 42 < 5) {v1 v2 v3 : Nat} (c1 : v1 < p 27) (c2 : v2 ≤ 60) (c3 : v3 < 2) : Inv (etN42 p v1 v2 v3) := by
  obtain ⟨h1, h2, h3, h4, h5, h6, h7, h8, h9⟩ := h
  have q3 := h2.1
  have q5 := h5.1
  have q6 := h6.1
  have q7 := h7.1
  have e : ∀ j, j ≠ 42 → (j < 43 ∨ 58 ≤ j) → etN42 p v1 v2 v3 j = p j := fun j a c => etN42_o p v1 v2 v3 a (by omega)
  have e27 := e 27 (by omega) (by omega)
  have e17 := e 17 (by omega) (by omega)
  refine ⟨by rw [e27]; exact h1, ?_, ?_, h4.cong e27 e17 h1 (fun j hj => by rw [Nat.zero_add]; exact e j (by omega) (by omega)), ?_, ?_, ?_, ?_⟩
  · unfold FlP
    rw [e17]
    refine ⟨h2.1, fun k hk => ?_⟩
    simp only [e (18 + k) (by omega) (by omega), e (21 + k) (by omega) (by omega), e (24 + k) (by omega) (by omega)]
    exact h2.2 k hk
  · intro i hi
    rw [e27] at hi
    rw [e (28 + i) (by omega) (by omega), e (35 + i) (by omega) (by omega)]
    exact h3 i hi
  · unfold SnOk
    rw [etN42_s, e27]
    refine ⟨by omega, fun j hj => ?_⟩
    by_cases q : j = p 42
    · subst q
      rw [etN42_0, etN42_1, etN42_2]
      exact ⟨c1, c2, c3⟩
    · rw [etN42_o p v1 v2 v3 (j := 43 + 3 * j) (by omega) (by omega), etN42_o p v1 v2 v3 (j := 44 + 3 * j) (by omega) (by omega), etN42_o p v1 v2 v3 (j := 45 + 3 * j) (by omega) (by omega)]
      exact h5.2 j (by omega)
  · unfold NtOk
    rw [e 58 (by omega) (by omega), e17]
    refine ⟨h6.1, fun j hj => ?_⟩
    rw [e (59 + 5 * j) (by omega) (by omega), e (60 + 5 * j) (by omega) (by omega), e (61 + 5 * j) (by omega) (by omega), e (62 + 5 * j) (by omega) (by omega), e (63 + 5 * j) (by omega) (by omega)]
    exact h6.2 j hj
  · unfold MkOk
    rw [e 89 (by omega) (by omega), e27]
    refine ⟨h7.1, fun j hj => ?_⟩
    rw [e (90 + 4 * j) (by omega) (by omega), e (91 + 4 * j) (by omega) (by omega), e (92 + 4 * j) (by omega) (by omega), e (93 + 4 * j) (by omega) (by omega)]
    exact h7.2 j hj
  · unfold PaOk
    rw [e 114 (by omega) (by omega)]
    exact ⟨h8, fun j hj => (h9 j hj).cong e27 e17 h1 (fun i hi => e _ (by omega) (by omega))⟩
theorem CRs.ent {p : Nat → Nat} {sz : Int32} {nu : Nat → Int32} (h : CRs p sz nu) (v1 v2 v3 : Nat) : CRs (etN42 p v1 v2 v3) (nI (p 42 + 1)) (upd (upd (upd nu (3 * p 42) (nI v1)) (3 * p 42 + 1) (nI v2)) (3 * p 42 + 2) (nI v3)) := by
  refine ⟨by rw [etN42_s], ?_⟩
  rw [etN42_s]
  intro j hj
  by_cases q : j < 3 * p 42
  · rw [pk_un (by omega), pk_un (by omega), pk_un (by omega)]
    show nu j = nI (etN42 p v1 v2 v3 (43 + j))
    rw [etN42_o p v1 v2 v3 (by omega) (by omega)]
    exact h.2 j q
  · rcases (show j = 3 * p 42 + 0 ∨ j = 3 * p 42 + 1 ∨ j = 3 * p 42 + 2 by omega) with rfl | rfl | rfl
    · show _ = nI (etN42 p v1 v2 v3 (43 + 3 * p 42))
      rw [etN42_0, pk_un (by omega), pk_un (by omega), Nat.add_zero, pk_us]
    · show _ = nI (etN42 p v1 v2 v3 (43 + (3 * p 42 + 1)))
      rw [show 43 + (3 * p 42 + 1) = 44 + 3 * p 42 by omega, etN42_1, pk_un (by omega), pk_us]
    · show _ = nI (etN42 p v1 v2 v3 (43 + (3 * p 42 + 2)))
      rw [show 43 + (3 * p 42 + 2) = 45 + 3 * p 42 by omega, etN42_2, pk_us]
set_option maxHeartbeats 4000000 in
set_option maxRecDepth 100000 in
theorem po_seen {x_textLength : Int32} {x_above : Int64} {x_below : Int64} {x_timesBad : Int32} {x_timesNo : Int32} {x_timesFull : Int32} {x_images_0_flitchCount : Int32} {x_images_0_familyCount : Int32} {x_images_0_hung : Int32} {x_images_0_day : Int32} {x_images_0_familyCell : Nat → Int32} {x_images_0_familyKind : Nat → Int32} {x_images_0_familySide : Nat → Int32} {x_images_0_familyWill : Nat → Int32} {x_images_0_flitchCell : Nat → Int32} {x_images_0_flitchKind : Nat → Int32} {x_images_0_flitchStrength : Nat → Int32} {x_images_0_marks_size : Int32} {x_images_0_marks_numbers : Nat → Int32} {x_images_0_notes_size : Int32} {x_images_0_notes_numbers : Nat → Int32} {x_images_0_past_size : Int32} {x_images_0_past_numbers : Nat → Int32} {x_images_0_sightings_size : Int32} {x_images_0_sightings_numbers : Nat → Int32} {x_images_1_flitchCount : Int32} {x_images_1_familyCount : Int32} {x_images_1_hung : Int32} {x_images_1_day : Int32} {x_images_1_familyCell : Nat → Int32} {x_images_1_familyKind : Nat → Int32} {x_images_1_familySide : Nat → Int32} {x_images_1_familyWill : Nat → Int32} {x_images_1_flitchCell : Nat → Int32} {x_images_1_flitchKind : Nat → Int32} {x_images_1_flitchStrength : Nat → Int32} {x_images_1_marks_size : Int32} {x_images_1_marks_numbers : Nat → Int32} {x_images_1_notes_size : Int32} {x_images_1_notes_numbers : Nat → Int32} {x_images_1_past_size : Int32} {x_images_1_past_numbers : Nat → Int32} {x_images_1_sightings_size : Int32} {x_images_1_sightings_numbers : Nat → Int32} {x_kept : Nat → Int32} {x_now_flitchCount : Int32} {x_now_familyCount : Int32} {x_now_hung : Int32} {x_now_day : Int32} {x_now_familyCell : Nat → Int32} {x_now_familyKind : Nat → Int32} {x_now_familySide : Nat → Int32} {x_now_familyWill : Nat → Int32} {x_now_flitchCell : Nat → Int32} {x_now_flitchKind : Nat → Int32} {x_now_flitchStrength : Nat → Int32} {x_now_marks_width : Int32} {x_now_marks_limit : Int32} {x_now_marks_size : Int32} {x_now_marks_numbers : Nat → Int32} {x_now_notes_width : Int32} {x_now_notes_limit : Int32} {x_now_notes_size : Int32} {x_now_notes_numbers : Nat → Int32} {x_now_past_width : Int32} {x_now_past_limit : Int32} {x_now_past_size : Int32} {x_now_past_numbers : Nat → Int32} {x_now_sightings_width : Int32} {x_now_sightings_limit : Int32} {x_now_sightings_size : Int32} {x_now_sightings_numbers : Nat → Int32} {x_text : Nat → Int32} {m_above : Int64} {m_below : Int64} {m_length : Int32} {m_isKept : Nat → Int32} {m_refused : Nat → Int32} {m_row : Nat → Int32} {m_text : Nat → Int32} {m_words : Nat → Int32} (h : Rel x_textLength x_above x_below x_timesBad x_timesNo x_timesFull x_images_0_flitchCount x_images_0_familyCount x_images_0_hung x_images_0_day x_images_0_familyCell x_images_0_familyKind x_images_0_familySide x_images_0_familyWill x_images_0_flitchCell x_images_0_flitchKind x_images_0_flitchStrength x_images_0_marks_size x_images_0_marks_numbers x_images_0_notes_size x_images_0_notes_numbers x_images_0_past_size x_images_0_past_numbers x_images_0_sightings_size x_images_0_sightings_numbers x_images_1_flitchCount x_images_1_familyCount x_images_1_hung x_images_1_day x_images_1_familyCell x_images_1_familyKind x_images_1_familySide x_images_1_familyWill x_images_1_flitchCell x_images_1_flitchKind x_images_1_flitchStrength x_images_1_marks_size x_images_1_marks_numbers x_images_1_notes_size x_images_1_notes_numbers x_images_1_past_size x_images_1_past_numbers x_images_1_sightings_size x_images_1_sightings_numbers x_kept x_now_flitchCount x_now_familyCount x_now_hung x_now_day x_now_familyCell x_now_familyKind x_now_familySide x_now_familyWill x_now_flitchCell x_now_flitchKind x_now_flitchStrength x_now_marks_width x_now_marks_limit x_now_marks_size x_now_marks_numbers x_now_notes_width x_now_notes_limit x_now_notes_size x_now_notes_numbers x_now_past_width x_now_past_limit x_now_past_size x_now_past_numbers x_now_sightings_width x_now_sightings_limit x_now_sightings_size x_now_sightings_numbers x_text m_above m_below m_length m_isKept m_refused m_row m_text m_words) (x1 : Int32) (x2 : Int32) (x3 : Int32) : wp_Rc_seen x1 x2 x3 x_timesBad x_timesFull x_now_familyCount x_now_sightings_width x_now_sightings_limit x_now_sightings_size x_now_sightings_numbers (fun (r : Int32) (x_timesBad' : Int32) (x_timesFull' : Int32) (x_now_sightings_size' : Int32) (x_now_sightings_numbers' : Nat → Int32) => wp_Mo_seen x1 x2 x3 m_refused m_row (fun (r' : Int32) (m_refused' : Nat → Int32) (m_row' : Nat → Int32) => r = r' ∧ Rel x_textLength x_above x_below x_timesBad' x_timesNo x_timesFull' x_images_0_flitchCount x_images_0_familyCount x_images_0_hung x_images_0_day x_images_0_familyCell x_images_0_familyKind x_images_0_familySide x_images_0_familyWill x_images_0_flitchCell x_images_0_flitchKind x_images_0_flitchStrength x_images_0_marks_size x_images_0_marks_numbers x_images_0_notes_size x_images_0_notes_numbers x_images_0_past_size x_images_0_past_numbers x_images_0_sightings_size x_images_0_sightings_numbers x_images_1_flitchCount x_images_1_familyCount x_images_1_hung x_images_1_day x_images_1_familyCell x_images_1_familyKind x_images_1_familySide x_images_1_familyWill x_images_1_flitchCell x_images_1_flitchKind x_images_1_flitchStrength x_images_1_marks_size x_images_1_marks_numbers x_images_1_notes_size x_images_1_notes_numbers x_images_1_past_size x_images_1_past_numbers x_images_1_sightings_size x_images_1_sightings_numbers x_kept x_now_flitchCount x_now_familyCount x_now_hung x_now_day x_now_familyCell x_now_familyKind x_now_familySide x_now_familyWill x_now_flitchCell x_now_flitchKind x_now_flitchStrength x_now_marks_width x_now_marks_limit x_now_marks_size x_now_marks_numbers x_now_notes_width x_now_notes_limit x_now_notes_size x_now_notes_numbers x_now_past_width x_now_past_limit x_now_past_size x_now_past_numbers x_now_sightings_width x_now_sightings_limit x_now_sightings_size' x_now_sightings_numbers' x_text m_above m_below m_length m_isKept m_refused' m_row' m_text m_words)) := by
  obtain ⟨⟨p, hPS, hM⟩, ⟨rfl, rfl, rfl, rfl, rfl, rfl, rfl, rfl⟩, hk0, hk1, hTx, hFr, hRf, hWo⟩ := id h
  obtain ⟨hI, ⟨rfl, rfl, rfl, rfl, a5, a6, a7, a8, a9, a10, a11⟩, hm, hn, hp, hs⟩ := id hPS
  have h7 := hI.1
  have h3 := hI.2.1.1
  have e27 : m_row 27 = nI (p 27) := hM.at0 (by omega)
  have e17 : m_row 17 = nI (p 17) := hM.at0 (by omega)
  by_cases q1 : inB x1 0 (nI (p 27) - 1) = 0
  · simp only [wp_Rc_seen, wp_Mo_seen, true_implies, false_implies, not_true_eq_false, not_false_eq_true, and_true, true_and, jn0_e, w_bad, w_no, w_full, w_badApart, w_refB, w_refN, w_refF, w_badAs, w_within, w_in, w_isCell, w_isFamC, w_isFliC, w_isFamM, w_isFliM, e27, e17, q1]; first | exact rel_bad h | exact ⟨rfl, rel_bad h⟩
  by_cases q2 : inB x2 0 60 = 0
  · simp only [wp_Rc_seen, wp_Mo_seen, true_implies, false_implies, not_true_eq_false, not_false_eq_true, and_true, true_and, jn0_e, w_bad, w_no, w_full, w_badApart, w_refB, w_refN, w_refF, w_badAs, w_within, w_in, w_isCell, w_isFamC, w_isFliC, w_isFamM, w_isFliM, e27, e17, q1, q2]; first | exact rel_bad h | exact ⟨rfl, rel_bad h⟩
  by_cases q3 : inB x3 0 1 = 0
  · simp only [wp_Rc_seen, wp_Mo_seen, true_implies, false_implies, not_true_eq_false, not_false_eq_true, and_true, true_and, jn0_e, w_bad, w_no, w_full, w_badApart, w_refB, w_refN, w_refF, w_badAs, w_within, w_in, w_isCell, w_isFamC, w_isFliC, w_isFamM, w_isFliM, e27, e17, q1, q2, q3]; first | exact rel_bad h | exact ⟨rfl, rel_bad h⟩
  obtain ⟨v1, w1, rfl⟩ := inB_pl (by omega) q1
  obtain ⟨v2, u2, w2, rfl⟩ := inB_nI (lo := 0) (hi := 60) (by omega) (by omega) q2
  obtain ⟨v3, u3, w3, rfl⟩ := inB_nI (lo := 0) (hi := 1) (by omega) (by omega) q3
  have hA := hPS.2.1
  have b42 := hI.2.2.2.2.1.1
  have b58 := hI.2.2.2.2.2.1.1
  have b89 := hI.2.2.2.2.2.2.1.1
  have eb : m_row (Int32.toNatClampNeg 42) = nI (p 42) := hM.at0 (j := 42) (by omega)
  have es := hs.1
  have z10 : ((1 : Int32) = 0) = False := by decide
  by_cases hf : p 42 = 5
  · have c1 : (nI (p 42) < 5) = False := eq_false (nI_nlt (b := 5) (by omega) (by omega))
    have c2 : (nI (p 42) = 5) = True := eq_true (by rw [hf]; rfl)
    simp only [wp_Rc_seen, wp_Mo_seen, true_implies, false_implies, not_true_eq_false, not_false_eq_true, and_true, true_and, jn0_e, w_bad, w_no, w_full, w_badApart, w_refB, w_refN, w_refF, w_badAs, w_within, w_in, w_isCell, w_isFamC, w_isFliC, w_isFamM, w_isFliM, e27, e17, q1, q2, q3, wp_Rc_entered, wp_Rw_isFull, eb, es, c1, c2, z10]
    rw [← es]; first | exact rel_full h | exact ⟨rfl, rel_full h⟩
  · have hf : p 42 < 5 := by omega
    have c1 : (nI (p 42) < 5) = True := eq_true (nI_lt (b := 5) (by omega) (by omega))
    have c2 : (nI (p 42) = 5) = False := eq_false (nI_ne (b := 5) (by omega) (by omega) (by omega))
    have i0 : nI (p 42) * 3 + 0 = nI (3 * p 42) := by rw [show nI (p 42) * 3 = nI (3 * p 42) by rw [show (3 : Int32) = nI 3 from rfl, pk_mul, Nat.mul_comm]]; exact nI_add _ 0
    have vi0 : vp_in (nI (3 * p 42)) 15 := vp_in_nI (by omega) (by omega)
    have i1 : nI (p 42) * 3 + 1 = nI (3 * p 42 + 1) := by rw [show nI (p 42) * 3 = nI (3 * p 42) by rw [show (3 : Int32) = nI 3 from rfl, pk_mul, Nat.mul_comm]]; exact nI_add _ 1
    have vi1 : vp_in (nI (3 * p 42 + 1)) 15 := vp_in_nI (by omega) (by omega)
    have i2 : nI (p 42) * 3 + 2 = nI (3 * p 42 + 2) := by rw [show nI (p 42) * 3 = nI (3 * p 42) by rw [show (3 : Int32) = nI 3 from rfl, pk_mul, Nat.mul_comm]]; exact nI_add _ 2
    have vi2 : vp_in (nI (3 * p 42 + 2)) 15 := vp_in_nI (by omega) (by omega)
    have j0 : (43 : Int32) + 3 * nI (p 42) = nI (43 + 3 * p 42) := by rw [show (3 : Int32) * nI (p 42) = nI (3 * p 42) from pk_mul 3 _]; exact nI_add 43 _
    have wj0 : vp_in (nI (43 + 3 * p 42)) 770 := vp_in_nI (by omega) (by omega)
    have j1 : nI (43 + 3 * p 42) + 1 = nI (44 + 3 * p 42) := by rw [show nI (43 + 3 * p 42) + 1 = nI (43 + 3 * p 42 + 1) from nI_add _ 1]; congr 1; omega
    have wj1 : vp_in (nI (44 + 3 * p 42)) 770 := vp_in_nI (by omega) (by omega)
    have j2 : nI (43 + 3 * p 42) + 2 = nI (45 + 3 * p 42) := by rw [show nI (43 + 3 * p 42) + 2 = nI (43 + 3 * p 42 + 2) from nI_add _ 2]; congr 1; omega
    have wj2 : vp_in (nI (45 + 3 * p 42)) 770 := vp_in_nI (by omega) (by omega)
    have eR : (upd (upd (upd m_row (43 + 3 * p 42) (nI v1)) (44 + 3 * p 42) (nI v2)) (45 + 3 * p 42) (nI v3)) (Int32.toNatClampNeg 42) = nI (p 42) := by
      show (upd (upd (upd m_row (43 + 3 * p 42) (nI v1)) (44 + 3 * p 42) (nI v2)) (45 + 3 * p 42) (nI v3)) 42 = _
      rw [pk_un (by omega), pk_un (by omega), pk_un (by omega)]
      exact hM.at0 (by omega)
    simp only [wp_Rc_seen, wp_Mo_seen, true_implies, false_implies, not_true_eq_false, not_false_eq_true, and_true, true_and, jn0_e, w_bad, w_no, w_full, w_badApart, w_refB, w_refN, w_refF, w_badAs, w_within, w_in, w_isCell, w_isFamC, w_isFliC, w_isFamM, w_isFliM, e27, e17, q1, q2, q3, wp_Rc_entered, wp_Rw_isFull, wp_Rw_enter, w_put, jn1_e, fe_e, eb, es, c1, c2, i0, vi0, nI_clamp (show 3 * p 42 < 2 ^ 31 by omega), i1, vi1, nI_clamp (show 3 * p 42 + 1 < 2 ^ 31 by omega), i2, vi2, nI_clamp (show 3 * p 42 + 2 < 2 ^ 31 by omega), j0, wj0, nI_clamp (show 43 + 3 * p 42 < 2 ^ 31 by omega), j1, wj1, nI_clamp (show 44 + 3 * p 42 < 2 ^ 31 by omega), j2, wj2, nI_clamp (show 45 + 3 * p 42 < 2 ^ 31 by omega), eR, nI_1, show ((3 : Int32) ≤ 3) = True by decide, show ((3 : Int32) ≤ 4) = True by decide]
    refine ⟨pk_us.symm, ?_⟩
    exact rel_now h (etN42 p v1 v2 v3) ⟨hI.ivetN42 hf w1 w2 (by omega), hA.cong h7 h3 (fun j hj => etN42_o p _ _ _ (by omega) (by omega)), hm.cong (fun j _ _ => etN42_o p _ _ _ (by omega) (by omega)) b89, hn.cong (fun j _ _ => etN42_o p _ _ _ (by omega) (by omega)) b58, hp.cong (etN42_o p _ _ _ (by omega) (by omega)) (fun j _ => etN42_o p _ _ _ (by omega) (by omega)), hs.ent _ _ _⟩ ((((hM.up (43 + 3 * p 42) v1).up (44 + 3 * p 42) v2).up (45 + 3 * p 42) v3).up 42 (p 42 + 1)) ((((Hi.up (k := 42) (Or.inl (by omega))).tr (Hi.up (Or.inl (by omega)))).tr (Hi.up (Or.inl (by omega)))).tr (Hi.up (Or.inl (by omega))))

def etN58 (p : Nat → Nat) (v1 v2 v3 v4 v5 : Nat) : Nat → Nat := updN (updN (updN (updN (updN (updN p (59 + 5 * p 58) v1) (60 + 5 * p 58) v2) (61 + 5 * p 58) v3) (62 + 5 * p 58) v4) (63 + 5 * p 58) v5) 58 (p 58 + 1)
theorem etN58_o (p : Nat → Nat) (v1 v2 v3 v4 v5 : Nat) {j : Nat} (h : j ≠ 58) (h2 : j < 59 + 5 * p 58 ∨ 64 + 5 * p 58 ≤ j) : etN58 p v1 v2 v3 v4 v5 j = p j := by
  unfold etN58
  simp only [updN]
  rw [if_neg h, if_neg (by omega), if_neg (by omega), if_neg (by omega), if_neg (by omega), if_neg (by omega)]
theorem etN58_s (p : Nat → Nat) (v1 v2 v3 v4 v5 : Nat) : etN58 p v1 v2 v3 v4 v5 58 = p 58 + 1 := by
  unfold etN58
  rw [updN_s]
theorem etN58_0 (p : Nat → Nat) (v1 v2 v3 v4 v5 : Nat) : etN58 p v1 v2 v3 v4 v5 (59 + 5 * p 58) = v1 := by
  unfold etN58
  rw [updN_n (by omega), updN_n (by omega), updN_n (by omega), updN_n (by omega), updN_n (by omega), updN_s]
theorem etN58_1 (p : Nat → Nat) (v1 v2 v3 v4 v5 : Nat) : etN58 p v1 v2 v3 v4 v5 (60 + 5 * p 58) = v2 := by
  unfold etN58
  rw [updN_n (by omega), updN_n (by omega), updN_n (by omega), updN_n (by omega), updN_s]
theorem etN58_2 (p : Nat → Nat) (v1 v2 v3 v4 v5 : Nat) : etN58 p v1 v2 v3 v4 v5 (61 + 5 * p 58) = v3 := by
  unfold etN58
  rw [updN_n (by omega), updN_n (by omega), updN_n (by omega), updN_s]
theorem etN58_3 (p : Nat → Nat) (v1 v2 v3 v4 v5 : Nat) : etN58 p v1 v2 v3 v4 v5 (62 + 5 * p 58) = v4 := by
  unfold etN58
  rw [updN_n (by omega), updN_n (by omega), updN_s]
theorem etN58_4 (p : Nat → Nat) (v1 v2 v3 v4 v5 : Nat) : etN58 p v1 v2 v3 v4 v5 (63 + 5 * p 58) = v5 := by
  unfold etN58
  rw [updN_n (by omega), updN_s]
theorem Inv.ivetN58 {p : Nat → Nat} (h : Inv p) (hl : p 58 < 6) {v1 v2 v3 v4 v5 : Nat} (c1 : v1 < p 17) (c2 : 1 ≤ v2) (c2b : v2 ≤ 20) (c3 : v3 ≤ 8) (c4 : v4 ≤ 99) (c5 : v5 ≤ 60) : Inv (etN58 p v1 v2 v3 v4 v5) := by
  obtain ⟨h1, h2, h3, h4, h5, h6, h7, h8, h9⟩ := h
  have q3 := h2.1
  have q5 := h5.1
  have q6 := h6.1
  have q7 := h7.1
  have e : ∀ j, j ≠ 58 → (j < 59 ∨ 89 ≤ j) → etN58 p v1 v2 v3 v4 v5 j = p j := fun j a c => etN58_o p v1 v2 v3 v4 v5 a (by omega)
  have e27 := e 27 (by omega) (by omega)
  have e17 := e 17 (by omega) (by omega)
  refine ⟨by rw [e27]; exact h1, ?_, ?_, h4.cong e27 e17 h1 (fun j hj => by rw [Nat.zero_add]; exact e j (by omega) (by omega)), ?_, ?_, ?_, ?_⟩
  · unfold FlP
    rw [e17]
    refine ⟨h2.1, fun k hk => ?_⟩
    simp only [e (18 + k) (by omega) (by omega), e (21 + k) (by omega) (by omega), e (24 + k) (by omega) (by omega)]
    exact h2.2 k hk
  · intro i hi
    rw [e27] at hi
    rw [e (28 + i) (by omega) (by omega), e (35 + i) (by omega) (by omega)]
    exact h3 i hi
  · unfold SnOk
    rw [e 42 (by omega) (by omega), e27]
    refine ⟨h5.1, fun j hj => ?_⟩
    rw [e (43 + 3 * j) (by omega) (by omega), e (44 + 3 * j) (by omega) (by omega), e (45 + 3 * j) (by omega) (by omega)]
    exact h5.2 j hj
  · unfold NtOk
    rw [etN58_s, e17]
    refine ⟨by omega, fun j hj => ?_⟩
    by_cases q : j = p 58
    · subst q
      rw [etN58_0, etN58_1, etN58_2, etN58_3, etN58_4]
      exact ⟨c1, c2, c2b, c3, c4, c5⟩
    · rw [etN58_o p v1 v2 v3 v4 v5 (j := 59 + 5 * j) (by omega) (by omega), etN58_o p v1 v2 v3 v4 v5 (j := 60 + 5 * j) (by omega) (by omega), etN58_o p v1 v2 v3 v4 v5 (j := 61 + 5 * j) (by omega) (by omega), etN58_o p v1 v2 v3 v4 v5 (j := 62 + 5 * j) (by omega) (by omega), etN58_o p v1 v2 v3 v4 v5 (j := 63 + 5 * j) (by omega) (by omega)]
      exact h6.2 j (by omega)
  · unfold MkOk
    rw [e 89 (by omega) (by omega), e27]
    refine ⟨h7.1, fun j hj => ?_⟩
    rw [e (90 + 4 * j) (by omega) (by omega), e (91 + 4 * j) (by omega) (by omega), e (92 + 4 * j) (by omega) (by omega), e (93 + 4 * j) (by omega) (by omega)]
    exact h7.2 j hj
  · unfold PaOk
    rw [e 114 (by omega) (by omega)]
    exact ⟨h8, fun j hj => (h9 j hj).cong e27 e17 h1 (fun i hi => e _ (by omega) (by omega))⟩
theorem CRn.ent {p : Nat → Nat} {sz : Int32} {nu : Nat → Int32} (h : CRn p sz nu) (v1 v2 v3 v4 v5 : Nat) : CRn (etN58 p v1 v2 v3 v4 v5) (nI (p 58 + 1)) (upd (upd (upd (upd (upd nu (5 * p 58) (nI v1)) (5 * p 58 + 1) (nI v2)) (5 * p 58 + 2) (nI v3)) (5 * p 58 + 3) (nI v4)) (5 * p 58 + 4) (nI v5)) := by
  refine ⟨by rw [etN58_s], ?_⟩
  rw [etN58_s]
  intro j hj
  by_cases q : j < 5 * p 58
  · rw [pk_un (by omega), pk_un (by omega), pk_un (by omega), pk_un (by omega), pk_un (by omega)]
    show nu j = nI (etN58 p v1 v2 v3 v4 v5 (59 + j))
    rw [etN58_o p v1 v2 v3 v4 v5 (by omega) (by omega)]
    exact h.2 j q
  · rcases (show j = 5 * p 58 + 0 ∨ j = 5 * p 58 + 1 ∨ j = 5 * p 58 + 2 ∨ j = 5 * p 58 + 3 ∨ j = 5 * p 58 + 4 by omega) with rfl | rfl | rfl | rfl | rfl
    · show _ = nI (etN58 p v1 v2 v3 v4 v5 (59 + 5 * p 58))
      rw [etN58_0, pk_un (by omega), pk_un (by omega), pk_un (by omega), pk_un (by omega), Nat.add_zero, pk_us]
    · show _ = nI (etN58 p v1 v2 v3 v4 v5 (59 + (5 * p 58 + 1)))
      rw [show 59 + (5 * p 58 + 1) = 60 + 5 * p 58 by omega, etN58_1, pk_un (by omega), pk_un (by omega), pk_un (by omega), pk_us]
    · show _ = nI (etN58 p v1 v2 v3 v4 v5 (59 + (5 * p 58 + 2)))
      rw [show 59 + (5 * p 58 + 2) = 61 + 5 * p 58 by omega, etN58_2, pk_un (by omega), pk_un (by omega), pk_us]
    · show _ = nI (etN58 p v1 v2 v3 v4 v5 (59 + (5 * p 58 + 3)))
      rw [show 59 + (5 * p 58 + 3) = 62 + 5 * p 58 by omega, etN58_3, pk_un (by omega), pk_us]
    · show _ = nI (etN58 p v1 v2 v3 v4 v5 (59 + (5 * p 58 + 4)))
      rw [show 59 + (5 * p 58 + 4) = 63 + 5 * p 58 by omega, etN58_4, pk_us]
set_option maxHeartbeats 4000000 in
set_option maxRecDepth 100000 in
theorem po_note {x_textLength : Int32} {x_above : Int64} {x_below : Int64} {x_timesBad : Int32} {x_timesNo : Int32} {x_timesFull : Int32} {x_images_0_flitchCount : Int32} {x_images_0_familyCount : Int32} {x_images_0_hung : Int32} {x_images_0_day : Int32} {x_images_0_familyCell : Nat → Int32} {x_images_0_familyKind : Nat → Int32} {x_images_0_familySide : Nat → Int32} {x_images_0_familyWill : Nat → Int32} {x_images_0_flitchCell : Nat → Int32} {x_images_0_flitchKind : Nat → Int32} {x_images_0_flitchStrength : Nat → Int32} {x_images_0_marks_size : Int32} {x_images_0_marks_numbers : Nat → Int32} {x_images_0_notes_size : Int32} {x_images_0_notes_numbers : Nat → Int32} {x_images_0_past_size : Int32} {x_images_0_past_numbers : Nat → Int32} {x_images_0_sightings_size : Int32} {x_images_0_sightings_numbers : Nat → Int32} {x_images_1_flitchCount : Int32} {x_images_1_familyCount : Int32} {x_images_1_hung : Int32} {x_images_1_day : Int32} {x_images_1_familyCell : Nat → Int32} {x_images_1_familyKind : Nat → Int32} {x_images_1_familySide : Nat → Int32} {x_images_1_familyWill : Nat → Int32} {x_images_1_flitchCell : Nat → Int32} {x_images_1_flitchKind : Nat → Int32} {x_images_1_flitchStrength : Nat → Int32} {x_images_1_marks_size : Int32} {x_images_1_marks_numbers : Nat → Int32} {x_images_1_notes_size : Int32} {x_images_1_notes_numbers : Nat → Int32} {x_images_1_past_size : Int32} {x_images_1_past_numbers : Nat → Int32} {x_images_1_sightings_size : Int32} {x_images_1_sightings_numbers : Nat → Int32} {x_kept : Nat → Int32} {x_now_flitchCount : Int32} {x_now_familyCount : Int32} {x_now_hung : Int32} {x_now_day : Int32} {x_now_familyCell : Nat → Int32} {x_now_familyKind : Nat → Int32} {x_now_familySide : Nat → Int32} {x_now_familyWill : Nat → Int32} {x_now_flitchCell : Nat → Int32} {x_now_flitchKind : Nat → Int32} {x_now_flitchStrength : Nat → Int32} {x_now_marks_width : Int32} {x_now_marks_limit : Int32} {x_now_marks_size : Int32} {x_now_marks_numbers : Nat → Int32} {x_now_notes_width : Int32} {x_now_notes_limit : Int32} {x_now_notes_size : Int32} {x_now_notes_numbers : Nat → Int32} {x_now_past_width : Int32} {x_now_past_limit : Int32} {x_now_past_size : Int32} {x_now_past_numbers : Nat → Int32} {x_now_sightings_width : Int32} {x_now_sightings_limit : Int32} {x_now_sightings_size : Int32} {x_now_sightings_numbers : Nat → Int32} {x_text : Nat → Int32} {m_above : Int64} {m_below : Int64} {m_length : Int32} {m_isKept : Nat → Int32} {m_refused : Nat → Int32} {m_row : Nat → Int32} {m_text : Nat → Int32} {m_words : Nat → Int32} (h : Rel x_textLength x_above x_below x_timesBad x_timesNo x_timesFull x_images_0_flitchCount x_images_0_familyCount x_images_0_hung x_images_0_day x_images_0_familyCell x_images_0_familyKind x_images_0_familySide x_images_0_familyWill x_images_0_flitchCell x_images_0_flitchKind x_images_0_flitchStrength x_images_0_marks_size x_images_0_marks_numbers x_images_0_notes_size x_images_0_notes_numbers x_images_0_past_size x_images_0_past_numbers x_images_0_sightings_size x_images_0_sightings_numbers x_images_1_flitchCount x_images_1_familyCount x_images_1_hung x_images_1_day x_images_1_familyCell x_images_1_familyKind x_images_1_familySide x_images_1_familyWill x_images_1_flitchCell x_images_1_flitchKind x_images_1_flitchStrength x_images_1_marks_size x_images_1_marks_numbers x_images_1_notes_size x_images_1_notes_numbers x_images_1_past_size x_images_1_past_numbers x_images_1_sightings_size x_images_1_sightings_numbers x_kept x_now_flitchCount x_now_familyCount x_now_hung x_now_day x_now_familyCell x_now_familyKind x_now_familySide x_now_familyWill x_now_flitchCell x_now_flitchKind x_now_flitchStrength x_now_marks_width x_now_marks_limit x_now_marks_size x_now_marks_numbers x_now_notes_width x_now_notes_limit x_now_notes_size x_now_notes_numbers x_now_past_width x_now_past_limit x_now_past_size x_now_past_numbers x_now_sightings_width x_now_sightings_limit x_now_sightings_size x_now_sightings_numbers x_text m_above m_below m_length m_isKept m_refused m_row m_text m_words) (x1 : Int32) (x2 : Int32) (x3 : Int32) (x4 : Int32) (x5 : Int32) : wp_Rc_note x1 x2 x3 x4 x5 x_timesBad x_timesFull x_now_flitchCount x_now_notes_width x_now_notes_limit x_now_notes_size x_now_notes_numbers (fun (r : Int32) (x_timesBad' : Int32) (x_timesFull' : Int32) (x_now_notes_size' : Int32) (x_now_notes_numbers' : Nat → Int32) => wp_Mo_note x1 x2 x3 x4 x5 m_refused m_row (fun (r' : Int32) (m_refused' : Nat → Int32) (m_row' : Nat → Int32) => r = r' ∧ Rel x_textLength x_above x_below x_timesBad' x_timesNo x_timesFull' x_images_0_flitchCount x_images_0_familyCount x_images_0_hung x_images_0_day x_images_0_familyCell x_images_0_familyKind x_images_0_familySide x_images_0_familyWill x_images_0_flitchCell x_images_0_flitchKind x_images_0_flitchStrength x_images_0_marks_size x_images_0_marks_numbers x_images_0_notes_size x_images_0_notes_numbers x_images_0_past_size x_images_0_past_numbers x_images_0_sightings_size x_images_0_sightings_numbers x_images_1_flitchCount x_images_1_familyCount x_images_1_hung x_images_1_day x_images_1_familyCell x_images_1_familyKind x_images_1_familySide x_images_1_familyWill x_images_1_flitchCell x_images_1_flitchKind x_images_1_flitchStrength x_images_1_marks_size x_images_1_marks_numbers x_images_1_notes_size x_images_1_notes_numbers x_images_1_past_size x_images_1_past_numbers x_images_1_sightings_size x_images_1_sightings_numbers x_kept x_now_flitchCount x_now_familyCount x_now_hung x_now_day x_now_familyCell x_now_familyKind x_now_familySide x_now_familyWill x_now_flitchCell x_now_flitchKind x_now_flitchStrength x_now_marks_width x_now_marks_limit x_now_marks_size x_now_marks_numbers x_now_notes_width x_now_notes_limit x_now_notes_size' x_now_notes_numbers' x_now_past_width x_now_past_limit x_now_past_size x_now_past_numbers x_now_sightings_width x_now_sightings_limit x_now_sightings_size x_now_sightings_numbers x_text m_above m_below m_length m_isKept m_refused' m_row' m_text m_words)) := by
  obtain ⟨⟨p, hPS, hM⟩, ⟨rfl, rfl, rfl, rfl, rfl, rfl, rfl, rfl⟩, hk0, hk1, hTx, hFr, hRf, hWo⟩ := id h
  obtain ⟨hI, ⟨rfl, rfl, rfl, rfl, a5, a6, a7, a8, a9, a10, a11⟩, hm, hn, hp, hs⟩ := id hPS
  have h7 := hI.1
  have h3 := hI.2.1.1
  have e27 : m_row 27 = nI (p 27) := hM.at0 (by omega)
  have e17 : m_row 17 = nI (p 17) := hM.at0 (by omega)
  by_cases q1 : inB x1 0 (nI (p 17) - 1) = 0
  · simp only [wp_Rc_note, wp_Mo_note, true_implies, false_implies, not_true_eq_false, not_false_eq_true, and_true, true_and, jn0_e, w_bad, w_no, w_full, w_badApart, w_refB, w_refN, w_refF, w_badAs, w_within, w_in, w_isCell, w_isFamC, w_isFliC, w_isFamM, w_isFliM, e27, e17, q1]; first | exact rel_bad h | exact ⟨rfl, rel_bad h⟩
  by_cases q2 : inB x2 1 20 = 0
  · simp only [wp_Rc_note, wp_Mo_note, true_implies, false_implies, not_true_eq_false, not_false_eq_true, and_true, true_and, jn0_e, w_bad, w_no, w_full, w_badApart, w_refB, w_refN, w_refF, w_badAs, w_within, w_in, w_isCell, w_isFamC, w_isFliC, w_isFamM, w_isFliM, e27, e17, q1, q2]; first | exact rel_bad h | exact ⟨rfl, rel_bad h⟩
  by_cases q3 : inB x3 0 8 = 0
  · simp only [wp_Rc_note, wp_Mo_note, true_implies, false_implies, not_true_eq_false, not_false_eq_true, and_true, true_and, jn0_e, w_bad, w_no, w_full, w_badApart, w_refB, w_refN, w_refF, w_badAs, w_within, w_in, w_isCell, w_isFamC, w_isFliC, w_isFamM, w_isFliM, e27, e17, q1, q2, q3]; first | exact rel_bad h | exact ⟨rfl, rel_bad h⟩
  by_cases q4 : inB x4 0 99 = 0
  · simp only [wp_Rc_note, wp_Mo_note, true_implies, false_implies, not_true_eq_false, not_false_eq_true, and_true, true_and, jn0_e, w_bad, w_no, w_full, w_badApart, w_refB, w_refN, w_refF, w_badAs, w_within, w_in, w_isCell, w_isFamC, w_isFliC, w_isFamM, w_isFliM, e27, e17, q1, q2, q3, q4]; first | exact rel_bad h | exact ⟨rfl, rel_bad h⟩
  by_cases q5 : inB x5 0 60 = 0
  · simp only [wp_Rc_note, wp_Mo_note, true_implies, false_implies, not_true_eq_false, not_false_eq_true, and_true, true_and, jn0_e, w_bad, w_no, w_full, w_badApart, w_refB, w_refN, w_refF, w_badAs, w_within, w_in, w_isCell, w_isFamC, w_isFliC, w_isFamM, w_isFliM, e27, e17, q1, q2, q3, q4, q5]; first | exact rel_bad h | exact ⟨rfl, rel_bad h⟩
  obtain ⟨v1, w1, rfl⟩ := inB_pl (by omega) q1
  obtain ⟨v2, u2, w2, rfl⟩ := inB_nI (lo := 1) (hi := 20) (by omega) (by omega) q2
  obtain ⟨v3, u3, w3, rfl⟩ := inB_nI (lo := 0) (hi := 8) (by omega) (by omega) q3
  obtain ⟨v4, u4, w4, rfl⟩ := inB_nI (lo := 0) (hi := 99) (by omega) (by omega) q4
  obtain ⟨v5, u5, w5, rfl⟩ := inB_nI (lo := 0) (hi := 60) (by omega) (by omega) q5
  have hA := hPS.2.1
  have b42 := hI.2.2.2.2.1.1
  have b58 := hI.2.2.2.2.2.1.1
  have b89 := hI.2.2.2.2.2.2.1.1
  have eb : m_row (Int32.toNatClampNeg 58) = nI (p 58) := hM.at0 (j := 58) (by omega)
  have es := hn.1
  have z10 : ((1 : Int32) = 0) = False := by decide
  by_cases hf : p 58 = 6
  · have c1 : (nI (p 58) < 6) = False := eq_false (nI_nlt (b := 6) (by omega) (by omega))
    have c2 : (nI (p 58) = 6) = True := eq_true (by rw [hf]; rfl)
    simp only [wp_Rc_note, wp_Mo_note, true_implies, false_implies, not_true_eq_false, not_false_eq_true, and_true, true_and, jn0_e, w_bad, w_no, w_full, w_badApart, w_refB, w_refN, w_refF, w_badAs, w_within, w_in, w_isCell, w_isFamC, w_isFliC, w_isFamM, w_isFliM, e27, e17, q1, q2, q3, q4, q5, wp_Rc_entered, wp_Rw_isFull, eb, es, c1, c2, z10]
    rw [← es]; first | exact rel_full h | exact ⟨rfl, rel_full h⟩
  · have hf : p 58 < 6 := by omega
    have c1 : (nI (p 58) < 6) = True := eq_true (nI_lt (b := 6) (by omega) (by omega))
    have c2 : (nI (p 58) = 6) = False := eq_false (nI_ne (b := 6) (by omega) (by omega) (by omega))
    have i0 : nI (p 58) * 5 + 0 = nI (5 * p 58) := by rw [show nI (p 58) * 5 = nI (5 * p 58) by rw [show (5 : Int32) = nI 5 from rfl, pk_mul, Nat.mul_comm]]; exact nI_add _ 0
    have vi0 : vp_in (nI (5 * p 58)) 30 := vp_in_nI (by omega) (by omega)
    have i1 : nI (p 58) * 5 + 1 = nI (5 * p 58 + 1) := by rw [show nI (p 58) * 5 = nI (5 * p 58) by rw [show (5 : Int32) = nI 5 from rfl, pk_mul, Nat.mul_comm]]; exact nI_add _ 1
    have vi1 : vp_in (nI (5 * p 58 + 1)) 30 := vp_in_nI (by omega) (by omega)
    have i2 : nI (p 58) * 5 + 2 = nI (5 * p 58 + 2) := by rw [show nI (p 58) * 5 = nI (5 * p 58) by rw [show (5 : Int32) = nI 5 from rfl, pk_mul, Nat.mul_comm]]; exact nI_add _ 2
    have vi2 : vp_in (nI (5 * p 58 + 2)) 30 := vp_in_nI (by omega) (by omega)
    have i3 : nI (p 58) * 5 + 3 = nI (5 * p 58 + 3) := by rw [show nI (p 58) * 5 = nI (5 * p 58) by rw [show (5 : Int32) = nI 5 from rfl, pk_mul, Nat.mul_comm]]; exact nI_add _ 3
    have vi3 : vp_in (nI (5 * p 58 + 3)) 30 := vp_in_nI (by omega) (by omega)
    have i4 : nI (p 58) * 5 + 4 = nI (5 * p 58 + 4) := by rw [show nI (p 58) * 5 = nI (5 * p 58) by rw [show (5 : Int32) = nI 5 from rfl, pk_mul, Nat.mul_comm]]; exact nI_add _ 4
    have vi4 : vp_in (nI (5 * p 58 + 4)) 30 := vp_in_nI (by omega) (by omega)
    have j0 : (59 : Int32) + 5 * nI (p 58) = nI (59 + 5 * p 58) := by rw [show (5 : Int32) * nI (p 58) = nI (5 * p 58) from pk_mul 5 _]; exact nI_add 59 _
    have wj0 : vp_in (nI (59 + 5 * p 58)) 770 := vp_in_nI (by omega) (by omega)
    have j1 : nI (59 + 5 * p 58) + 1 = nI (60 + 5 * p 58) := by rw [show nI (59 + 5 * p 58) + 1 = nI (59 + 5 * p 58 + 1) from nI_add _ 1]; congr 1; omega
    have wj1 : vp_in (nI (60 + 5 * p 58)) 770 := vp_in_nI (by omega) (by omega)
    have j2 : nI (59 + 5 * p 58) + 2 = nI (61 + 5 * p 58) := by rw [show nI (59 + 5 * p 58) + 2 = nI (59 + 5 * p 58 + 2) from nI_add _ 2]; congr 1; omega
    have wj2 : vp_in (nI (61 + 5 * p 58)) 770 := vp_in_nI (by omega) (by omega)
    have j3 : nI (59 + 5 * p 58) + 3 = nI (62 + 5 * p 58) := by rw [show nI (59 + 5 * p 58) + 3 = nI (59 + 5 * p 58 + 3) from nI_add _ 3]; congr 1; omega
    have wj3 : vp_in (nI (62 + 5 * p 58)) 770 := vp_in_nI (by omega) (by omega)
    have j4 : nI (59 + 5 * p 58) + 4 = nI (63 + 5 * p 58) := by rw [show nI (59 + 5 * p 58) + 4 = nI (59 + 5 * p 58 + 4) from nI_add _ 4]; congr 1; omega
    have wj4 : vp_in (nI (63 + 5 * p 58)) 770 := vp_in_nI (by omega) (by omega)
    have eR : (upd (upd (upd (upd (upd m_row (59 + 5 * p 58) (nI v1)) (60 + 5 * p 58) (nI v2)) (61 + 5 * p 58) (nI v3)) (62 + 5 * p 58) (nI v4)) (63 + 5 * p 58) (nI v5)) (Int32.toNatClampNeg 58) = nI (p 58) := by
      show (upd (upd (upd (upd (upd m_row (59 + 5 * p 58) (nI v1)) (60 + 5 * p 58) (nI v2)) (61 + 5 * p 58) (nI v3)) (62 + 5 * p 58) (nI v4)) (63 + 5 * p 58) (nI v5)) 58 = _
      rw [pk_un (by omega), pk_un (by omega), pk_un (by omega), pk_un (by omega), pk_un (by omega)]
      exact hM.at0 (by omega)
    simp only [wp_Rc_note, wp_Mo_note, true_implies, false_implies, not_true_eq_false, not_false_eq_true, and_true, true_and, jn0_e, w_bad, w_no, w_full, w_badApart, w_refB, w_refN, w_refF, w_badAs, w_within, w_in, w_isCell, w_isFamC, w_isFliC, w_isFamM, w_isFliM, e27, e17, q1, q2, q3, q4, q5, wp_Rc_entered, wp_Rw_isFull, wp_Rw_enter, w_put, jn1_e, fe_e, eb, es, c1, c2, i0, vi0, nI_clamp (show 5 * p 58 < 2 ^ 31 by omega), i1, vi1, nI_clamp (show 5 * p 58 + 1 < 2 ^ 31 by omega), i2, vi2, nI_clamp (show 5 * p 58 + 2 < 2 ^ 31 by omega), i3, vi3, nI_clamp (show 5 * p 58 + 3 < 2 ^ 31 by omega), i4, vi4, nI_clamp (show 5 * p 58 + 4 < 2 ^ 31 by omega), j0, wj0, nI_clamp (show 59 + 5 * p 58 < 2 ^ 31 by omega), j1, wj1, nI_clamp (show 60 + 5 * p 58 < 2 ^ 31 by omega), j2, wj2, nI_clamp (show 61 + 5 * p 58 < 2 ^ 31 by omega), j3, wj3, nI_clamp (show 62 + 5 * p 58 < 2 ^ 31 by omega), j4, wj4, nI_clamp (show 63 + 5 * p 58 < 2 ^ 31 by omega), eR, nI_1, show ((5 : Int32) ≤ 3) = False by decide, show ((5 : Int32) ≤ 4) = False by decide]
    refine ⟨pk_us.symm, ?_⟩
    exact rel_now h (etN58 p v1 v2 v3 v4 v5) ⟨hI.ivetN58 hf w1 u2 w2 w3 w4 w5, hA.cong h7 h3 (fun j hj => etN58_o p _ _ _ _ _ (by omega) (by omega)), hm.cong (fun j _ _ => etN58_o p _ _ _ _ _ (by omega) (by omega)) b89, hn.ent _ _ _ _ _, hp.cong (etN58_o p _ _ _ _ _ (by omega) (by omega)) (fun j _ => etN58_o p _ _ _ _ _ (by omega) (by omega)), hs.cong (fun j _ _ => etN58_o p _ _ _ _ _ (by omega) (by omega)) b42⟩ ((((((hM.up (59 + 5 * p 58) v1).up (60 + 5 * p 58) v2).up (61 + 5 * p 58) v3).up (62 + 5 * p 58) v4).up (63 + 5 * p 58) v5).up 58 (p 58 + 1)) ((((((Hi.up (k := 58) (Or.inl (by omega))).tr (Hi.up (Or.inl (by omega)))).tr (Hi.up (Or.inl (by omega)))).tr (Hi.up (Or.inl (by omega)))).tr (Hi.up (Or.inl (by omega)))).tr (Hi.up (Or.inl (by omega))))

def etN89 (p : Nat → Nat) (v1 v2 v3 v4 : Nat) : Nat → Nat := updN (updN (updN (updN (updN p (90 + 4 * p 89) v1) (91 + 4 * p 89) v2) (92 + 4 * p 89) v3) (93 + 4 * p 89) v4) 89 (p 89 + 1)
theorem etN89_o (p : Nat → Nat) (v1 v2 v3 v4 : Nat) {j : Nat} (h : j ≠ 89) (h2 : j < 90 + 4 * p 89 ∨ 94 + 4 * p 89 ≤ j) : etN89 p v1 v2 v3 v4 j = p j := by
  unfold etN89
  simp only [updN]
  rw [if_neg h, if_neg (by omega), if_neg (by omega), if_neg (by omega), if_neg (by omega)]
theorem etN89_s (p : Nat → Nat) (v1 v2 v3 v4 : Nat) : etN89 p v1 v2 v3 v4 89 = p 89 + 1 := by
  unfold etN89
  rw [updN_s]
theorem etN89_0 (p : Nat → Nat) (v1 v2 v3 v4 : Nat) : etN89 p v1 v2 v3 v4 (90 + 4 * p 89) = v1 := by
  unfold etN89
  rw [updN_n (by omega), updN_n (by omega), updN_n (by omega), updN_n (by omega), updN_s]
theorem etN89_1 (p : Nat → Nat) (v1 v2 v3 v4 : Nat) : etN89 p v1 v2 v3 v4 (91 + 4 * p 89) = v2 := by
  unfold etN89
  rw [updN_n (by omega), updN_n (by omega), updN_n (by omega), updN_s]
theorem etN89_2 (p : Nat → Nat) (v1 v2 v3 v4 : Nat) : etN89 p v1 v2 v3 v4 (92 + 4 * p 89) = v3 := by
  unfold etN89
  rw [updN_n (by omega), updN_n (by omega), updN_s]
theorem etN89_3 (p : Nat → Nat) (v1 v2 v3 v4 : Nat) : etN89 p v1 v2 v3 v4 (93 + 4 * p 89) = v4 := by
  unfold etN89
  rw [updN_n (by omega), updN_s]
theorem Inv.ivetN89 {p : Nat → Nat} (h : Inv p) (hl : p 89 < 6) {v1 v2 v3 v4 : Nat} (c1 : v1 < p 27) (c2 : v2 ≤ 60) (c3 : v3 ≤ 99) (c4 : v4 ≤ 40) : Inv (etN89 p v1 v2 v3 v4) := by
  obtain ⟨h1, h2, h3, h4, h5, h6, h7, h8, h9⟩ := h
  have q3 := h2.1
  have q5 := h5.1
  have q6 := h6.1
  have q7 := h7.1
  have e : ∀ j, j ≠ 89 → (j < 90 ∨ 114 ≤ j) → etN89 p v1 v2 v3 v4 j = p j := fun j a c => etN89_o p v1 v2 v3 v4 a (by omega)
  have e27 := e 27 (by omega) (by omega)
  have e17 := e 17 (by omega) (by omega)
  refine ⟨by rw [e27]; exact h1, ?_, ?_, h4.cong e27 e17 h1 (fun j hj => by rw [Nat.zero_add]; exact e j (by omega) (by omega)), ?_, ?_, ?_, ?_⟩
  · unfold FlP
    rw [e17]
    refine ⟨h2.1, fun k hk => ?_⟩
    simp only [e (18 + k) (by omega) (by omega), e (21 + k) (by omega) (by omega), e (24 + k) (by omega) (by omega)]
    exact h2.2 k hk
  · intro i hi
    rw [e27] at hi
    rw [e (28 + i) (by omega) (by omega), e (35 + i) (by omega) (by omega)]
    exact h3 i hi
  · unfold SnOk
    rw [e 42 (by omega) (by omega), e27]
    refine ⟨h5.1, fun j hj => ?_⟩
    rw [e (43 + 3 * j) (by omega) (by omega), e (44 + 3 * j) (by omega) (by omega), e (45 + 3 * j) (by omega) (by omega)]
    exact h5.2 j hj
  · unfold NtOk
    rw [e 58 (by omega) (by omega), e17]
    refine ⟨h6.1, fun j hj => ?_⟩
    rw [e (59 + 5 * j) (by omega) (by omega), e (60 + 5 * j) (by omega) (by omega), e (61 + 5 * j) (by omega) (by omega), e (62 + 5 * j) (by omega) (by omega), e (63 + 5 * j) (by omega) (by omega)]
    exact h6.2 j hj
  · unfold MkOk
    rw [etN89_s, e27]
    refine ⟨by omega, fun j hj => ?_⟩
    by_cases q : j = p 89
    · subst q
      rw [etN89_0, etN89_1, etN89_2, etN89_3]
      exact ⟨c1, c2, c3, c4⟩
    · rw [etN89_o p v1 v2 v3 v4 (j := 90 + 4 * j) (by omega) (by omega), etN89_o p v1 v2 v3 v4 (j := 91 + 4 * j) (by omega) (by omega), etN89_o p v1 v2 v3 v4 (j := 92 + 4 * j) (by omega) (by omega), etN89_o p v1 v2 v3 v4 (j := 93 + 4 * j) (by omega) (by omega)]
      exact h7.2 j (by omega)
  · unfold PaOk
    rw [e 114 (by omega) (by omega)]
    exact ⟨h8, fun j hj => (h9 j hj).cong e27 e17 h1 (fun i hi => e _ (by omega) (by omega))⟩
theorem CRm.ent {p : Nat → Nat} {sz : Int32} {nu : Nat → Int32} (h : CRm p sz nu) (v1 v2 v3 v4 : Nat) : CRm (etN89 p v1 v2 v3 v4) (nI (p 89 + 1)) (upd (upd (upd (upd nu (4 * p 89) (nI v1)) (4 * p 89 + 1) (nI v2)) (4 * p 89 + 2) (nI v3)) (4 * p 89 + 3) (nI v4)) := by
  refine ⟨by rw [etN89_s], ?_⟩
  rw [etN89_s]
  intro j hj
  by_cases q : j < 4 * p 89
  · rw [pk_un (by omega), pk_un (by omega), pk_un (by omega), pk_un (by omega)]
    show nu j = nI (etN89 p v1 v2 v3 v4 (90 + j))
    rw [etN89_o p v1 v2 v3 v4 (by omega) (by omega)]
    exact h.2 j q
  · rcases (show j = 4 * p 89 + 0 ∨ j = 4 * p 89 + 1 ∨ j = 4 * p 89 + 2 ∨ j = 4 * p 89 + 3 by omega) with rfl | rfl | rfl | rfl
    · show _ = nI (etN89 p v1 v2 v3 v4 (90 + 4 * p 89))
      rw [etN89_0, pk_un (by omega), pk_un (by omega), pk_un (by omega), Nat.add_zero, pk_us]
    · show _ = nI (etN89 p v1 v2 v3 v4 (90 + (4 * p 89 + 1)))
      rw [show 90 + (4 * p 89 + 1) = 91 + 4 * p 89 by omega, etN89_1, pk_un (by omega), pk_un (by omega), pk_us]
    · show _ = nI (etN89 p v1 v2 v3 v4 (90 + (4 * p 89 + 2)))
      rw [show 90 + (4 * p 89 + 2) = 92 + 4 * p 89 by omega, etN89_2, pk_un (by omega), pk_us]
    · show _ = nI (etN89 p v1 v2 v3 v4 (90 + (4 * p 89 + 3)))
      rw [show 90 + (4 * p 89 + 3) = 93 + 4 * p 89 by omega, etN89_3, pk_us]
set_option maxHeartbeats 4000000 in
set_option maxRecDepth 100000 in
theorem po_mark {x_textLength : Int32} {x_above : Int64} {x_below : Int64} {x_timesBad : Int32} {x_timesNo : Int32} {x_timesFull : Int32} {x_images_0_flitchCount : Int32} {x_images_0_familyCount : Int32} {x_images_0_hung : Int32} {x_images_0_day : Int32} {x_images_0_familyCell : Nat → Int32} {x_images_0_familyKind : Nat → Int32} {x_images_0_familySide : Nat → Int32} {x_images_0_familyWill : Nat → Int32} {x_images_0_flitchCell : Nat → Int32} {x_images_0_flitchKind : Nat → Int32} {x_images_0_flitchStrength : Nat → Int32} {x_images_0_marks_size : Int32} {x_images_0_marks_numbers : Nat → Int32} {x_images_0_notes_size : Int32} {x_images_0_notes_numbers : Nat → Int32} {x_images_0_past_size : Int32} {x_images_0_past_numbers : Nat → Int32} {x_images_0_sightings_size : Int32} {x_images_0_sightings_numbers : Nat → Int32} {x_images_1_flitchCount : Int32} {x_images_1_familyCount : Int32} {x_images_1_hung : Int32} {x_images_1_day : Int32} {x_images_1_familyCell : Nat → Int32} {x_images_1_familyKind : Nat → Int32} {x_images_1_familySide : Nat → Int32} {x_images_1_familyWill : Nat → Int32} {x_images_1_flitchCell : Nat → Int32} {x_images_1_flitchKind : Nat → Int32} {x_images_1_flitchStrength : Nat → Int32} {x_images_1_marks_size : Int32} {x_images_1_marks_numbers : Nat → Int32} {x_images_1_notes_size : Int32} {x_images_1_notes_numbers : Nat → Int32} {x_images_1_past_size : Int32} {x_images_1_past_numbers : Nat → Int32} {x_images_1_sightings_size : Int32} {x_images_1_sightings_numbers : Nat → Int32} {x_kept : Nat → Int32} {x_now_flitchCount : Int32} {x_now_familyCount : Int32} {x_now_hung : Int32} {x_now_day : Int32} {x_now_familyCell : Nat → Int32} {x_now_familyKind : Nat → Int32} {x_now_familySide : Nat → Int32} {x_now_familyWill : Nat → Int32} {x_now_flitchCell : Nat → Int32} {x_now_flitchKind : Nat → Int32} {x_now_flitchStrength : Nat → Int32} {x_now_marks_width : Int32} {x_now_marks_limit : Int32} {x_now_marks_size : Int32} {x_now_marks_numbers : Nat → Int32} {x_now_notes_width : Int32} {x_now_notes_limit : Int32} {x_now_notes_size : Int32} {x_now_notes_numbers : Nat → Int32} {x_now_past_width : Int32} {x_now_past_limit : Int32} {x_now_past_size : Int32} {x_now_past_numbers : Nat → Int32} {x_now_sightings_width : Int32} {x_now_sightings_limit : Int32} {x_now_sightings_size : Int32} {x_now_sightings_numbers : Nat → Int32} {x_text : Nat → Int32} {m_above : Int64} {m_below : Int64} {m_length : Int32} {m_isKept : Nat → Int32} {m_refused : Nat → Int32} {m_row : Nat → Int32} {m_text : Nat → Int32} {m_words : Nat → Int32} (h : Rel x_textLength x_above x_below x_timesBad x_timesNo x_timesFull x_images_0_flitchCount x_images_0_familyCount x_images_0_hung x_images_0_day x_images_0_familyCell x_images_0_familyKind x_images_0_familySide x_images_0_familyWill x_images_0_flitchCell x_images_0_flitchKind x_images_0_flitchStrength x_images_0_marks_size x_images_0_marks_numbers x_images_0_notes_size x_images_0_notes_numbers x_images_0_past_size x_images_0_past_numbers x_images_0_sightings_size x_images_0_sightings_numbers x_images_1_flitchCount x_images_1_familyCount x_images_1_hung x_images_1_day x_images_1_familyCell x_images_1_familyKind x_images_1_familySide x_images_1_familyWill x_images_1_flitchCell x_images_1_flitchKind x_images_1_flitchStrength x_images_1_marks_size x_images_1_marks_numbers x_images_1_notes_size x_images_1_notes_numbers x_images_1_past_size x_images_1_past_numbers x_images_1_sightings_size x_images_1_sightings_numbers x_kept x_now_flitchCount x_now_familyCount x_now_hung x_now_day x_now_familyCell x_now_familyKind x_now_familySide x_now_familyWill x_now_flitchCell x_now_flitchKind x_now_flitchStrength x_now_marks_width x_now_marks_limit x_now_marks_size x_now_marks_numbers x_now_notes_width x_now_notes_limit x_now_notes_size x_now_notes_numbers x_now_past_width x_now_past_limit x_now_past_size x_now_past_numbers x_now_sightings_width x_now_sightings_limit x_now_sightings_size x_now_sightings_numbers x_text m_above m_below m_length m_isKept m_refused m_row m_text m_words) (x1 : Int32) (x2 : Int32) (x3 : Int32) (x4 : Int32) : wp_Rc_mark x1 x2 x3 x4 x_timesBad x_timesFull x_now_familyCount x_now_marks_width x_now_marks_limit x_now_marks_size x_now_marks_numbers (fun (r : Int32) (x_timesBad' : Int32) (x_timesFull' : Int32) (x_now_marks_size' : Int32) (x_now_marks_numbers' : Nat → Int32) => wp_Mo_mark x1 x2 x3 x4 m_refused m_row (fun (r' : Int32) (m_refused' : Nat → Int32) (m_row' : Nat → Int32) => r = r' ∧ Rel x_textLength x_above x_below x_timesBad' x_timesNo x_timesFull' x_images_0_flitchCount x_images_0_familyCount x_images_0_hung x_images_0_day x_images_0_familyCell x_images_0_familyKind x_images_0_familySide x_images_0_familyWill x_images_0_flitchCell x_images_0_flitchKind x_images_0_flitchStrength x_images_0_marks_size x_images_0_marks_numbers x_images_0_notes_size x_images_0_notes_numbers x_images_0_past_size x_images_0_past_numbers x_images_0_sightings_size x_images_0_sightings_numbers x_images_1_flitchCount x_images_1_familyCount x_images_1_hung x_images_1_day x_images_1_familyCell x_images_1_familyKind x_images_1_familySide x_images_1_familyWill x_images_1_flitchCell x_images_1_flitchKind x_images_1_flitchStrength x_images_1_marks_size x_images_1_marks_numbers x_images_1_notes_size x_images_1_notes_numbers x_images_1_past_size x_images_1_past_numbers x_images_1_sightings_size x_images_1_sightings_numbers x_kept x_now_flitchCount x_now_familyCount x_now_hung x_now_day x_now_familyCell x_now_familyKind x_now_familySide x_now_familyWill x_now_flitchCell x_now_flitchKind x_now_flitchStrength x_now_marks_width x_now_marks_limit x_now_marks_size' x_now_marks_numbers' x_now_notes_width x_now_notes_limit x_now_notes_size x_now_notes_numbers x_now_past_width x_now_past_limit x_now_past_size x_now_past_numbers x_now_sightings_width x_now_sightings_limit x_now_sightings_size x_now_sightings_numbers x_text m_above m_below m_length m_isKept m_refused' m_row' m_text m_words)) := by
  obtain ⟨⟨p, hPS, hM⟩, ⟨rfl, rfl, rfl, rfl, rfl, rfl, rfl, rfl⟩, hk0, hk1, hTx, hFr, hRf, hWo⟩ := id h
  obtain ⟨hI, ⟨rfl, rfl, rfl, rfl, a5, a6, a7, a8, a9, a10, a11⟩, hm, hn, hp, hs⟩ := id hPS
  have h7 := hI.1
  have h3 := hI.2.1.1
  have e27 : m_row 27 = nI (p 27) := hM.at0 (by omega)
  have e17 : m_row 17 = nI (p 17) := hM.at0 (by omega)
  by_cases q1 : inB x1 0 (nI (p 27) - 1) = 0
  · simp only [wp_Rc_mark, wp_Mo_mark, true_implies, false_implies, not_true_eq_false, not_false_eq_true, and_true, true_and, jn0_e, w_bad, w_no, w_full, w_badApart, w_refB, w_refN, w_refF, w_badAs, w_within, w_in, w_isCell, w_isFamC, w_isFliC, w_isFamM, w_isFliM, e27, e17, q1]; first | exact rel_bad h | exact ⟨rfl, rel_bad h⟩
  by_cases q2 : inB x2 0 60 = 0
  · simp only [wp_Rc_mark, wp_Mo_mark, true_implies, false_implies, not_true_eq_false, not_false_eq_true, and_true, true_and, jn0_e, w_bad, w_no, w_full, w_badApart, w_refB, w_refN, w_refF, w_badAs, w_within, w_in, w_isCell, w_isFamC, w_isFliC, w_isFamM, w_isFliM, e27, e17, q1, q2]; first | exact rel_bad h | exact ⟨rfl, rel_bad h⟩
  by_cases q3 : inB x3 0 99 = 0
  · simp only [wp_Rc_mark, wp_Mo_mark, true_implies, false_implies, not_true_eq_false, not_false_eq_true, and_true, true_and, jn0_e, w_bad, w_no, w_full, w_badApart, w_refB, w_refN, w_refF, w_badAs, w_within, w_in, w_isCell, w_isFamC, w_isFliC, w_isFamM, w_isFliM, e27, e17, q1, q2, q3]; first | exact rel_bad h | exact ⟨rfl, rel_bad h⟩
  by_cases q4 : inB x4 0 40 = 0
  · simp only [wp_Rc_mark, wp_Mo_mark, true_implies, false_implies, not_true_eq_false, not_false_eq_true, and_true, true_and, jn0_e, w_bad, w_no, w_full, w_badApart, w_refB, w_refN, w_refF, w_badAs, w_within, w_in, w_isCell, w_isFamC, w_isFliC, w_isFamM, w_isFliM, e27, e17, q1, q2, q3, q4]; first | exact rel_bad h | exact ⟨rfl, rel_bad h⟩
  obtain ⟨v1, w1, rfl⟩ := inB_pl (by omega) q1
  obtain ⟨v2, u2, w2, rfl⟩ := inB_nI (lo := 0) (hi := 60) (by omega) (by omega) q2
  obtain ⟨v3, u3, w3, rfl⟩ := inB_nI (lo := 0) (hi := 99) (by omega) (by omega) q3
  obtain ⟨v4, u4, w4, rfl⟩ := inB_nI (lo := 0) (hi := 40) (by omega) (by omega) q4
  have hA := hPS.2.1
  have b42 := hI.2.2.2.2.1.1
  have b58 := hI.2.2.2.2.2.1.1
  have b89 := hI.2.2.2.2.2.2.1.1
  have eb : m_row (Int32.toNatClampNeg 89) = nI (p 89) := hM.at0 (j := 89) (by omega)
  have es := hm.1
  have z10 : ((1 : Int32) = 0) = False := by decide
  by_cases hf : p 89 = 6
  · have c1 : (nI (p 89) < 6) = False := eq_false (nI_nlt (b := 6) (by omega) (by omega))
    have c2 : (nI (p 89) = 6) = True := eq_true (by rw [hf]; rfl)
    simp only [wp_Rc_mark, wp_Mo_mark, true_implies, false_implies, not_true_eq_false, not_false_eq_true, and_true, true_and, jn0_e, w_bad, w_no, w_full, w_badApart, w_refB, w_refN, w_refF, w_badAs, w_within, w_in, w_isCell, w_isFamC, w_isFliC, w_isFamM, w_isFliM, e27, e17, q1, q2, q3, q4, wp_Rc_entered, wp_Rw_isFull, eb, es, c1, c2, z10]
    rw [← es]; first | exact rel_full h | exact ⟨rfl, rel_full h⟩
  · have hf : p 89 < 6 := by omega
    have c1 : (nI (p 89) < 6) = True := eq_true (nI_lt (b := 6) (by omega) (by omega))
    have c2 : (nI (p 89) = 6) = False := eq_false (nI_ne (b := 6) (by omega) (by omega) (by omega))
    have i0 : nI (p 89) * 4 + 0 = nI (4 * p 89) := by rw [show nI (p 89) * 4 = nI (4 * p 89) by rw [show (4 : Int32) = nI 4 from rfl, pk_mul, Nat.mul_comm]]; exact nI_add _ 0
    have vi0 : vp_in (nI (4 * p 89)) 24 := vp_in_nI (by omega) (by omega)
    have i1 : nI (p 89) * 4 + 1 = nI (4 * p 89 + 1) := by rw [show nI (p 89) * 4 = nI (4 * p 89) by rw [show (4 : Int32) = nI 4 from rfl, pk_mul, Nat.mul_comm]]; exact nI_add _ 1
    have vi1 : vp_in (nI (4 * p 89 + 1)) 24 := vp_in_nI (by omega) (by omega)
    have i2 : nI (p 89) * 4 + 2 = nI (4 * p 89 + 2) := by rw [show nI (p 89) * 4 = nI (4 * p 89) by rw [show (4 : Int32) = nI 4 from rfl, pk_mul, Nat.mul_comm]]; exact nI_add _ 2
    have vi2 : vp_in (nI (4 * p 89 + 2)) 24 := vp_in_nI (by omega) (by omega)
    have i3 : nI (p 89) * 4 + 3 = nI (4 * p 89 + 3) := by rw [show nI (p 89) * 4 = nI (4 * p 89) by rw [show (4 : Int32) = nI 4 from rfl, pk_mul, Nat.mul_comm]]; exact nI_add _ 3
    have vi3 : vp_in (nI (4 * p 89 + 3)) 24 := vp_in_nI (by omega) (by omega)
    have j0 : (90 : Int32) + 4 * nI (p 89) = nI (90 + 4 * p 89) := by rw [show (4 : Int32) * nI (p 89) = nI (4 * p 89) from pk_mul 4 _]; exact nI_add 90 _
    have wj0 : vp_in (nI (90 + 4 * p 89)) 770 := vp_in_nI (by omega) (by omega)
    have j1 : nI (90 + 4 * p 89) + 1 = nI (91 + 4 * p 89) := by rw [show nI (90 + 4 * p 89) + 1 = nI (90 + 4 * p 89 + 1) from nI_add _ 1]; congr 1; omega
    have wj1 : vp_in (nI (91 + 4 * p 89)) 770 := vp_in_nI (by omega) (by omega)
    have j2 : nI (90 + 4 * p 89) + 2 = nI (92 + 4 * p 89) := by rw [show nI (90 + 4 * p 89) + 2 = nI (90 + 4 * p 89 + 2) from nI_add _ 2]; congr 1; omega
    have wj2 : vp_in (nI (92 + 4 * p 89)) 770 := vp_in_nI (by omega) (by omega)
    have j3 : nI (90 + 4 * p 89) + 3 = nI (93 + 4 * p 89) := by rw [show nI (90 + 4 * p 89) + 3 = nI (90 + 4 * p 89 + 3) from nI_add _ 3]; congr 1; omega
    have wj3 : vp_in (nI (93 + 4 * p 89)) 770 := vp_in_nI (by omega) (by omega)
    have eR : (upd (upd (upd (upd m_row (90 + 4 * p 89) (nI v1)) (91 + 4 * p 89) (nI v2)) (92 + 4 * p 89) (nI v3)) (93 + 4 * p 89) (nI v4)) (Int32.toNatClampNeg 89) = nI (p 89) := by
      show (upd (upd (upd (upd m_row (90 + 4 * p 89) (nI v1)) (91 + 4 * p 89) (nI v2)) (92 + 4 * p 89) (nI v3)) (93 + 4 * p 89) (nI v4)) 89 = _
      rw [pk_un (by omega), pk_un (by omega), pk_un (by omega), pk_un (by omega)]
      exact hM.at0 (by omega)
    simp only [wp_Rc_mark, wp_Mo_mark, true_implies, false_implies, not_true_eq_false, not_false_eq_true, and_true, true_and, jn0_e, w_bad, w_no, w_full, w_badApart, w_refB, w_refN, w_refF, w_badAs, w_within, w_in, w_isCell, w_isFamC, w_isFliC, w_isFamM, w_isFliM, e27, e17, q1, q2, q3, q4, wp_Rc_entered, wp_Rw_isFull, wp_Rw_enter, w_put, jn1_e, fe_e, eb, es, c1, c2, i0, vi0, nI_clamp (show 4 * p 89 < 2 ^ 31 by omega), i1, vi1, nI_clamp (show 4 * p 89 + 1 < 2 ^ 31 by omega), i2, vi2, nI_clamp (show 4 * p 89 + 2 < 2 ^ 31 by omega), i3, vi3, nI_clamp (show 4 * p 89 + 3 < 2 ^ 31 by omega), j0, wj0, nI_clamp (show 90 + 4 * p 89 < 2 ^ 31 by omega), j1, wj1, nI_clamp (show 91 + 4 * p 89 < 2 ^ 31 by omega), j2, wj2, nI_clamp (show 92 + 4 * p 89 < 2 ^ 31 by omega), j3, wj3, nI_clamp (show 93 + 4 * p 89 < 2 ^ 31 by omega), eR, nI_1, show ((4 : Int32) ≤ 3) = False by decide, show ((4 : Int32) ≤ 4) = True by decide]
    refine ⟨pk_us.symm, ?_⟩
    exact rel_now h (etN89 p v1 v2 v3 v4) ⟨hI.ivetN89 hf w1 w2 w3 w4, hA.cong h7 h3 (fun j hj => etN89_o p _ _ _ _ (by omega) (by omega)), hm.ent _ _ _ _, hn.cong (fun j _ _ => etN89_o p _ _ _ _ (by omega) (by omega)) b58, hp.cong (etN89_o p _ _ _ _ (by omega) (by omega)) (fun j _ => etN89_o p _ _ _ _ (by omega) (by omega)), hs.cong (fun j _ _ => etN89_o p _ _ _ _ (by omega) (by omega)) b42⟩ (((((hM.up (90 + 4 * p 89) v1).up (91 + 4 * p 89) v2).up (92 + 4 * p 89) v3).up (93 + 4 * p 89) v4).up 89 (p 89 + 1)) (((((Hi.up (k := 89) (Or.inl (by omega))).tr (Hi.up (Or.inl (by omega)))).tr (Hi.up (Or.inl (by omega)))).tr (Hi.up (Or.inl (by omega)))).tr (Hi.up (Or.inl (by omega))))

