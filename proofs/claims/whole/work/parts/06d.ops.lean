def xbN (h k : Nat) : Nat := if btN h k = 1 then h - 2 ^ k else h + 2 ^ k
set_option maxRecDepth 100000 in
theorem xor_nI0 : ∀ h, h < 8 → ∀ k, k < 3 → nI h ^^^ ishl 1 (nI k) = nI (xbN h k) := by decide +kernel
set_option maxRecDepth 100000 in
theorem xbN_lt0 : ∀ n, n < 4 → ∀ h, h < 2 ^ n → ∀ k, k < n → xbN h k < 2 ^ n := by decide +kernel
theorem Inv.upH {p : Nat → Nat} (h : Inv p) {v : Nat} (hv : v < 2 ^ p 17) : Inv (updN p 15 v) := by
  have h7 := h.1
  obtain ⟨g1, g2, g3, g4, g5, g6⟩ := h.2.2.2.1
  have e27 : updN p 15 v 27 = p 27 := updN_n (by omega)
  refine h.cong16 (fun j hj => updN_n (by omega)) ⟨fun j hj => ?_, fun j hj hj7 => ?_, ?_, fun j hj => ?_, ?_, ?_⟩
  · rw [e27] at hj; rw [updN_n (by omega)]; exact g1 j hj
  · rw [e27] at hj; rw [updN_n (by omega)]; exact g2 j hj hj7
  · rw [updN_n (by omega), e27, g3]; exact lapN_cong (fun j hj => by rw [updN_n (by omega)])
  · rw [e27] at hj; rw [updN_n (by omega)]; exact g4 j hj
  · rw [show 0 + 15 = 15 from rfl, updN_s, updN_n (by omega)]; exact hv
  · rw [updN_n (by omega)]; exact g6
set_option maxHeartbeats 4000000 in
set_option maxRecDepth 100000 in
theorem po_outs {x_textLength : Int32} {x_above : Int64} {x_below : Int64} {x_timesBad : Int32} {x_timesNo : Int32} {x_timesFull : Int32} {x_images_0_flitchCount : Int32} {x_images_0_familyCount : Int32} {x_images_0_hung : Int32} {x_images_0_day : Int32} {x_images_0_familyCell : Nat → Int32} {x_images_0_familyKind : Nat → Int32} {x_images_0_familySide : Nat → Int32} {x_images_0_familyWill : Nat → Int32} {x_images_0_flitchCell : Nat → Int32} {x_images_0_flitchKind : Nat → Int32} {x_images_0_flitchStrength : Nat → Int32} {x_images_0_marks_size : Int32} {x_images_0_marks_numbers : Nat → Int32} {x_images_0_notes_size : Int32} {x_images_0_notes_numbers : Nat → Int32} {x_images_0_past_size : Int32} {x_images_0_past_numbers : Nat → Int32} {x_images_0_sightings_size : Int32} {x_images_0_sightings_numbers : Nat → Int32} {x_images_1_flitchCount : Int32} {x_images_1_familyCount : Int32} {x_images_1_hung : Int32} {x_images_1_day : Int32} {x_images_1_familyCell : Nat → Int32} {x_images_1_familyKind : Nat → Int32} {x_images_1_familySide : Nat → Int32} {x_images_1_familyWill : Nat → Int32} {x_images_1_flitchCell : Nat → Int32} {x_images_1_flitchKind : Nat → Int32} {x_images_1_flitchStrength : Nat → Int32} {x_images_1_marks_size : Int32} {x_images_1_marks_numbers : Nat → Int32} {x_images_1_notes_size : Int32} {x_images_1_notes_numbers : Nat → Int32} {x_images_1_past_size : Int32} {x_images_1_past_numbers : Nat → Int32} {x_images_1_sightings_size : Int32} {x_images_1_sightings_numbers : Nat → Int32} {x_kept : Nat → Int32} {x_now_flitchCount : Int32} {x_now_familyCount : Int32} {x_now_hung : Int32} {x_now_day : Int32} {x_now_familyCell : Nat → Int32} {x_now_familyKind : Nat → Int32} {x_now_familySide : Nat → Int32} {x_now_familyWill : Nat → Int32} {x_now_flitchCell : Nat → Int32} {x_now_flitchKind : Nat → Int32} {x_now_flitchStrength : Nat → Int32} {x_now_marks_width : Int32} {x_now_marks_limit : Int32} {x_now_marks_size : Int32} {x_now_marks_numbers : Nat → Int32} {x_now_notes_width : Int32} {x_now_notes_limit : Int32} {x_now_notes_size : Int32} {x_now_notes_numbers : Nat → Int32} {x_now_past_width : Int32} {x_now_past_limit : Int32} {x_now_past_size : Int32} {x_now_past_numbers : Nat → Int32} {x_now_sightings_width : Int32} {x_now_sightings_limit : Int32} {x_now_sightings_size : Int32} {x_now_sightings_numbers : Nat → Int32} {x_text : Nat → Int32} {m_above : Int64} {m_below : Int64} {m_length : Int32} {m_isKept : Nat → Int32} {m_refused : Nat → Int32} {m_row : Nat → Int32} {m_text : Nat → Int32} {m_words : Nat → Int32} (h : Rel x_textLength x_above x_below x_timesBad x_timesNo x_timesFull x_images_0_flitchCount x_images_0_familyCount x_images_0_hung x_images_0_day x_images_0_familyCell x_images_0_familyKind x_images_0_familySide x_images_0_familyWill x_images_0_flitchCell x_images_0_flitchKind x_images_0_flitchStrength x_images_0_marks_size x_images_0_marks_numbers x_images_0_notes_size x_images_0_notes_numbers x_images_0_past_size x_images_0_past_numbers x_images_0_sightings_size x_images_0_sightings_numbers x_images_1_flitchCount x_images_1_familyCount x_images_1_hung x_images_1_day x_images_1_familyCell x_images_1_familyKind x_images_1_familySide x_images_1_familyWill x_images_1_flitchCell x_images_1_flitchKind x_images_1_flitchStrength x_images_1_marks_size x_images_1_marks_numbers x_images_1_notes_size x_images_1_notes_numbers x_images_1_past_size x_images_1_past_numbers x_images_1_sightings_size x_images_1_sightings_numbers x_kept x_now_flitchCount x_now_familyCount x_now_hung x_now_day x_now_familyCell x_now_familyKind x_now_familySide x_now_familyWill x_now_flitchCell x_now_flitchKind x_now_flitchStrength x_now_marks_width x_now_marks_limit x_now_marks_size x_now_marks_numbers x_now_notes_width x_now_notes_limit x_now_notes_size x_now_notes_numbers x_now_past_width x_now_past_limit x_now_past_size x_now_past_numbers x_now_sightings_width x_now_sightings_limit x_now_sightings_size x_now_sightings_numbers x_text m_above m_below m_length m_isKept m_refused m_row m_text m_words) (x1 : Int32) : wp_Rc_outs x1 x_timesBad x_now_flitchCount x_now_hung x_now_day x_now_familyCell x_now_familyWill x_now_past_width x_now_past_limit x_now_past_size x_now_past_numbers (fun (r : Int32) (x_timesBad' : Int32) (x_now_hung' : Int32) (x_now_past_size' : Int32) (x_now_past_numbers' : Nat → Int32) => wp_Mo_outs x1 m_refused m_row (fun (r' : Int32) (m_refused' : Nat → Int32) (m_row' : Nat → Int32) => r = r' ∧ Rel x_textLength x_above x_below x_timesBad' x_timesNo x_timesFull x_images_0_flitchCount x_images_0_familyCount x_images_0_hung x_images_0_day x_images_0_familyCell x_images_0_familyKind x_images_0_familySide x_images_0_familyWill x_images_0_flitchCell x_images_0_flitchKind x_images_0_flitchStrength x_images_0_marks_size x_images_0_marks_numbers x_images_0_notes_size x_images_0_notes_numbers x_images_0_past_size x_images_0_past_numbers x_images_0_sightings_size x_images_0_sightings_numbers x_images_1_flitchCount x_images_1_familyCount x_images_1_hung x_images_1_day x_images_1_familyCell x_images_1_familyKind x_images_1_familySide x_images_1_familyWill x_images_1_flitchCell x_images_1_flitchKind x_images_1_flitchStrength x_images_1_marks_size x_images_1_marks_numbers x_images_1_notes_size x_images_1_notes_numbers x_images_1_past_size x_images_1_past_numbers x_images_1_sightings_size x_images_1_sightings_numbers x_kept x_now_flitchCount x_now_familyCount x_now_hung' x_now_day x_now_familyCell x_now_familyKind x_now_familySide x_now_familyWill x_now_flitchCell x_now_flitchKind x_now_flitchStrength x_now_marks_width x_now_marks_limit x_now_marks_size x_now_marks_numbers x_now_notes_width x_now_notes_limit x_now_notes_size x_now_notes_numbers x_now_past_width x_now_past_limit x_now_past_size' x_now_past_numbers' x_now_sightings_width x_now_sightings_limit x_now_sightings_size x_now_sightings_numbers x_text m_above m_below m_length m_isKept m_refused' m_row' m_text m_words)) := by
  obtain ⟨⟨p, hPS, hM⟩, ⟨rfl, rfl, rfl, rfl, rfl, rfl, rfl, rfl⟩, -⟩ := id h
  obtain ⟨hI, ⟨rfl, rfl, rfl, rfl, a5, a6, a7, a8, a9, a10, a11⟩, hm, hn, hp, hs⟩ := id hPS
  have h7 := hI.1
  have h3 := hI.2.1.1
  have e17 : m_row 17 = nI (p 17) := hM.at0 (by omega)
  unfold wp_Rc_outs
  rw [w_isFliC]
  refine ⟨fun q1 => ?_, fun q => ?_⟩
  · obtain ⟨k, hk, rfl⟩ := inB_pl (by omega) q1
    refine s_remember hI rfl rfl a5 a8 hp (fun sz' nu' hC' => ?_)
    unfold wp_Pa_turn wp_Pa_hungBit
    have h15 : p 15 < 8 := p15_lt hI
    have hlt : p 15 < 2 ^ p 17 := by have := hI.2.2.2.1.2.2.2.2.1; rwa [Nat.zero_add] at this
    have hx := xbN_lt0 (p 17) (by omega) (p 15) hlt k hk
    have ex := xor_nI0 (p 15) h15 k (by omega)
    intro hu' ehu'
    rw [ex] at ehu'
    subst ehu'
    have h8 : (2 : Nat) ^ p 17 ≤ 8 := Nat.le_trans (Nat.pow_le_pow_right (by omega) h3) (by decide)
    rw [bit_nI (show xbN (p 15) k < 256 by omega) (by omega)]
    try dsimp only
    unfold wp_Mo_outs
    rw [w_isFliM, e17]
    refine ⟨fun _ => ?_, fun z => absurd z q1⟩
    refine s_keepPast hI hM (fun row1 hM1 hH1 => ?_)
    have hIk := hI.keep
    have el : ∀ j, j < 114 → keepN p j = p j := fun j hj => keepN_lo p hj
    intro row2 er2
    have ev : row1 (Int32.toNatClampNeg 15) = nI (p 15) := by
      show row1 15 = _
      rw [hM1.at0 (by omega), el 15 (by omega)]
    rw [ev, ex] at er2
    subst er2
    have ev2 : upd row1 (Int32.toNatClampNeg 15) (nI (xbN (p 15) k)) (Int32.toNatClampNeg 15) = nI (xbN (p 15) k) := by
      show upd row1 15 _ 15 = _
      simp [upd]
    rw [ev2, bit_nI (show xbN (p 15) k < 256 by omega) (by omega)]
    refine ⟨rfl, ?_⟩
    have e15 : updN (keepN p) 15 (xbN (p 15) k) 15 = xbN (p 15) k := updN_s
    have e16 : updN (keepN p) 15 (xbN (p 15) k) 16 = p 16 := by rw [updN_n (by omega), el 16 (by omega)]
    have hPS' := PS.mk16 (p' := updN (keepN p) 15 (xbN (p 15) k)) (faCell' := x_now_familyCell) (faWill' := x_now_familyWill) hPS (hIk.upH (by rw [el 17 (by omega)]; exact hx)) (fun j h1 h2 => by rw [updN_n (by omega), el j h2]) (hC'.up (by omega)) (fun j hj => by rw [a5 j hj]; simp only [updN_n (show 8 + j ≠ 15 by omega), el (8 + j) (by omega)]) (fun j hj => by rw [updN_n (by omega), el j (by omega)]; exact a8 j hj)
    rw [e15, e16] at hPS'
    exact rel_now h _ hPS' (hM1.up 15 _) ((Hi.up (row := row1) (k := 15) (Or.inl (by omega))).tr hH1)
  · rw [w_bad]
    try dsimp only
    unfold wp_Mo_outs
    rw [w_isFliM, e17]
    refine ⟨fun z => absurd q z, fun _ => ?_⟩
    rw [w_refB]
    exact ⟨rfl, rel_bad h⟩

def undoN (p : Nat → Nat) : Nat → Nat := fun j => if j < 17 then p (115 + 17 * (p 114 - 1) + j) else if j = 114 then p 114 - 1 else p j
theorem Inv.undo {p : Nat → Nat} (h : Inv p) (h0 : p 114 ≠ 0) : Inv (undoN p) := by
  obtain ⟨h1, h2, h3, h4, h5, h6, h7, h8, h9⟩ := h
  have e : ∀ j, 17 ≤ j → j ≠ 114 → undoN p j = p j := fun j hj hn => by unfold undoN; rw [if_neg (by omega), if_neg hn]
  have e114 : undoN p 114 = p 114 - 1 := by unfold undoN; rw [if_neg (by omega), if_pos rfl]
  have e27 : undoN p 27 = p 27 := e 27 (by omega) (by omega)
  have e17 : undoN p 17 = p 17 := e 17 (by omega) (by omega)
  have q5 := h5.1
  have q6 := h6.1
  have q7 := h7.1
  have q3 := h2.1
  refine ⟨by rw [e27]; exact h1, ?_, ?_, ?_, ?_, ?_, ?_, ?_⟩
  · unfold FlP
    rw [e17]
    refine ⟨h2.1, fun k hk => ?_⟩
    simp only [e (18 + k) (by omega) (by omega), e (21 + k) (by omega) (by omega), e (24 + k) (by omega) (by omega)]
    exact h2.2 k hk
  · intro i hi
    rw [e27] at hi
    rw [e (28 + i) (by omega) (by omega), e (35 + i) (by omega) (by omega)]
    exact h3 i hi
  · refine (h9 (p 114 - 1) (by omega)).cong e27 e17 h1 (fun j hj => ?_)
    rw [Nat.zero_add]
    unfold undoN
    rw [if_pos hj]
  · unfold SnOk
    rw [e 42 (by omega) (by omega), e27]
    refine ⟨h5.1, fun k hk => ?_⟩
    rw [e (43 + 3 * k) (by omega) (by omega), e (44 + 3 * k) (by omega) (by omega), e (45 + 3 * k) (by omega) (by omega)]
    exact h5.2 k hk
  · unfold NtOk
    rw [e 58 (by omega) (by omega), e17]
    refine ⟨h6.1, fun k hk => ?_⟩
    rw [e (59 + 5 * k) (by omega) (by omega), e (60 + 5 * k) (by omega) (by omega), e (61 + 5 * k) (by omega) (by omega), e (62 + 5 * k) (by omega) (by omega), e (63 + 5 * k) (by omega) (by omega)]
    exact h6.2 k hk
  · unfold MkOk
    rw [e 89 (by omega) (by omega), e27]
    refine ⟨h7.1, fun k hk => ?_⟩
    rw [e (90 + 4 * k) (by omega) (by omega), e (91 + 4 * k) (by omega) (by omega), e (92 + 4 * k) (by omega) (by omega), e (93 + 4 * k) (by omega) (by omega)]
    exact h7.2 k hk
  · unfold PaOk
    rw [e114]
    exact ⟨by omega, fun k hk => (h9 k (by omega)).cong e27 e17 h1 (fun j hj => e _ (by omega) (by omega))⟩
theorem w_at (r c : Int32) (n : Nat) (w : Int32) (nu : Nat → Int32) (Q : Int32 → Prop) : wp_Rw_at r c n w nu Q = (vp_in (r * w + c) n ∧ Q (nu (Int32.toNatClampNeg (r * w + c)))) := rfl
set_option maxHeartbeats 4000000 in
set_option maxRecDepth 100000 in
theorem po_undo {x_textLength : Int32} {x_above : Int64} {x_below : Int64} {x_timesBad : Int32} {x_timesNo : Int32} {x_timesFull : Int32} {x_images_0_flitchCount : Int32} {x_images_0_familyCount : Int32} {x_images_0_hung : Int32} {x_images_0_day : Int32} {x_images_0_familyCell : Nat → Int32} {x_images_0_familyKind : Nat → Int32} {x_images_0_familySide : Nat → Int32} {x_images_0_familyWill : Nat → Int32} {x_images_0_flitchCell : Nat → Int32} {x_images_0_flitchKind : Nat → Int32} {x_images_0_flitchStrength : Nat → Int32} {x_images_0_marks_size : Int32} {x_images_0_marks_numbers : Nat → Int32} {x_images_0_notes_size : Int32} {x_images_0_notes_numbers : Nat → Int32} {x_images_0_past_size : Int32} {x_images_0_past_numbers : Nat → Int32} {x_images_0_sightings_size : Int32} {x_images_0_sightings_numbers : Nat → Int32} {x_images_1_flitchCount : Int32} {x_images_1_familyCount : Int32} {x_images_1_hung : Int32} {x_images_1_day : Int32} {x_images_1_familyCell : Nat → Int32} {x_images_1_familyKind : Nat → Int32} {x_images_1_familySide : Nat → Int32} {x_images_1_familyWill : Nat → Int32} {x_images_1_flitchCell : Nat → Int32} {x_images_1_flitchKind : Nat → Int32} {x_images_1_flitchStrength : Nat → Int32} {x_images_1_marks_size : Int32} {x_images_1_marks_numbers : Nat → Int32} {x_images_1_notes_size : Int32} {x_images_1_notes_numbers : Nat → Int32} {x_images_1_past_size : Int32} {x_images_1_past_numbers : Nat → Int32} {x_images_1_sightings_size : Int32} {x_images_1_sightings_numbers : Nat → Int32} {x_kept : Nat → Int32} {x_now_flitchCount : Int32} {x_now_familyCount : Int32} {x_now_hung : Int32} {x_now_day : Int32} {x_now_familyCell : Nat → Int32} {x_now_familyKind : Nat → Int32} {x_now_familySide : Nat → Int32} {x_now_familyWill : Nat → Int32} {x_now_flitchCell : Nat → Int32} {x_now_flitchKind : Nat → Int32} {x_now_flitchStrength : Nat → Int32} {x_now_marks_width : Int32} {x_now_marks_limit : Int32} {x_now_marks_size : Int32} {x_now_marks_numbers : Nat → Int32} {x_now_notes_width : Int32} {x_now_notes_limit : Int32} {x_now_notes_size : Int32} {x_now_notes_numbers : Nat → Int32} {x_now_past_width : Int32} {x_now_past_limit : Int32} {x_now_past_size : Int32} {x_now_past_numbers : Nat → Int32} {x_now_sightings_width : Int32} {x_now_sightings_limit : Int32} {x_now_sightings_size : Int32} {x_now_sightings_numbers : Nat → Int32} {x_text : Nat → Int32} {m_above : Int64} {m_below : Int64} {m_length : Int32} {m_isKept : Nat → Int32} {m_refused : Nat → Int32} {m_row : Nat → Int32} {m_text : Nat → Int32} {m_words : Nat → Int32} (h : Rel x_textLength x_above x_below x_timesBad x_timesNo x_timesFull x_images_0_flitchCount x_images_0_familyCount x_images_0_hung x_images_0_day x_images_0_familyCell x_images_0_familyKind x_images_0_familySide x_images_0_familyWill x_images_0_flitchCell x_images_0_flitchKind x_images_0_flitchStrength x_images_0_marks_size x_images_0_marks_numbers x_images_0_notes_size x_images_0_notes_numbers x_images_0_past_size x_images_0_past_numbers x_images_0_sightings_size x_images_0_sightings_numbers x_images_1_flitchCount x_images_1_familyCount x_images_1_hung x_images_1_day x_images_1_familyCell x_images_1_familyKind x_images_1_familySide x_images_1_familyWill x_images_1_flitchCell x_images_1_flitchKind x_images_1_flitchStrength x_images_1_marks_size x_images_1_marks_numbers x_images_1_notes_size x_images_1_notes_numbers x_images_1_past_size x_images_1_past_numbers x_images_1_sightings_size x_images_1_sightings_numbers x_kept x_now_flitchCount x_now_familyCount x_now_hung x_now_day x_now_familyCell x_now_familyKind x_now_familySide x_now_familyWill x_now_flitchCell x_now_flitchKind x_now_flitchStrength x_now_marks_width x_now_marks_limit x_now_marks_size x_now_marks_numbers x_now_notes_width x_now_notes_limit x_now_notes_size x_now_notes_numbers x_now_past_width x_now_past_limit x_now_past_size x_now_past_numbers x_now_sightings_width x_now_sightings_limit x_now_sightings_size x_now_sightings_numbers x_text m_above m_below m_length m_isKept m_refused m_row m_text m_words) : wp_Rc_undo x_timesNo x_now_hung x_now_day x_now_familyCell x_now_familyWill x_now_past_width x_now_past_size x_now_past_numbers (fun (r : Int32) (x_timesNo' : Int32) (x_now_hung' : Int32) (x_now_day' : Int32) (x_now_familyCell' : Nat → Int32) (x_now_familyWill' : Nat → Int32) (x_now_past_size' : Int32) => wp_Mo_undo m_refused m_row (fun (r' : Int32) (m_refused' : Nat → Int32) (m_row' : Nat → Int32) => r = r' ∧ Rel x_textLength x_above x_below x_timesBad x_timesNo' x_timesFull x_images_0_flitchCount x_images_0_familyCount x_images_0_hung x_images_0_day x_images_0_familyCell x_images_0_familyKind x_images_0_familySide x_images_0_familyWill x_images_0_flitchCell x_images_0_flitchKind x_images_0_flitchStrength x_images_0_marks_size x_images_0_marks_numbers x_images_0_notes_size x_images_0_notes_numbers x_images_0_past_size x_images_0_past_numbers x_images_0_sightings_size x_images_0_sightings_numbers x_images_1_flitchCount x_images_1_familyCount x_images_1_hung x_images_1_day x_images_1_familyCell x_images_1_familyKind x_images_1_familySide x_images_1_familyWill x_images_1_flitchCell x_images_1_flitchKind x_images_1_flitchStrength x_images_1_marks_size x_images_1_marks_numbers x_images_1_notes_size x_images_1_notes_numbers x_images_1_past_size x_images_1_past_numbers x_images_1_sightings_size x_images_1_sightings_numbers x_kept x_now_flitchCount x_now_familyCount x_now_hung' x_now_day' x_now_familyCell' x_now_familyKind x_now_familySide x_now_familyWill' x_now_flitchCell x_now_flitchKind x_now_flitchStrength x_now_marks_width x_now_marks_limit x_now_marks_size x_now_marks_numbers x_now_notes_width x_now_notes_limit x_now_notes_size x_now_notes_numbers x_now_past_width x_now_past_limit x_now_past_size' x_now_past_numbers x_now_sightings_width x_now_sightings_limit x_now_sightings_size x_now_sightings_numbers x_text m_above m_below m_length m_isKept m_refused' m_row' m_text m_words)) := by
  obtain ⟨⟨p, hPS, hM⟩, ⟨rfl, rfl, rfl, rfl, rfl, rfl, rfl, rfl⟩, -⟩ := id h
  obtain ⟨hI, ⟨rfl, rfl, rfl, rfl, a5, a6, a7, a8, a9, a10, a11⟩, hm, hn, ⟨rfl, hp2⟩, hs⟩ := id hPS
  have h7 := hI.1
  have h8 := hI.2.2.2.2.2.2.2.1
  have e114 : m_row (Int32.toNatClampNeg 114) = nI (p 114) := hM.at0 (j := 114) (by omega)
  unfold wp_Rc_undo wp_Pa_goBack
  rw [ge1_nI (by omega)]
  refine ⟨fun q => ?_, fun q => ?_⟩
  · intro sz' esz'
    rw [show nI (p 114) - 1 = nI (p 114 - 1) from pk_sub (a := p 114) (b := 1) (by omega)] at esz'
    subst esz'
    obtain ⟨n, hn1⟩ : ∃ n, n = p 114 - 1 := ⟨_, rfl⟩
    rw [← hn1]
    have em : nI n * 16 = nI (16 * n) := by rw [show (16 : Int32) = nI 16 from rfl, pk_mul, Nat.mul_comm]
    obtain ⟨g1, g2, g3⟩ := hp2 n (by omega)
    simp only [w_at, em]
    have ea : nI (16 * n) + 0 = nI (16 * n) := nI_add _ 0
    have eb : nI (16 * n) + 1 = nI (16 * n + 1) := nI_add _ 1
    rw [ea, eb, nI_clamp (by omega), nI_clamp (by omega), g1, g2]
    refine ⟨vp_in_nI (by omega) (by omega), vp_in_nI (by omega) (by omega), ?_⟩
    obtain ⟨T1, hT1⟩ : ∃ T : Nat → Nat → Int32, T = fun j x => if x < j then x_now_past_numbers (16 * n + 9 + x) else x_now_familyCell x := ⟨_, rfl⟩
    obtain ⟨T2, hT2⟩ : ∃ T : Nat → Nat → Int32, T = fun j x => if x < j then x_now_past_numbers (16 * n + 2 + x) else x_now_familyWill x := ⟨_, rfl⟩
    have hT10 : T1 0 = x_now_familyCell := by rw [hT1]; funext x; simp
    have hT20 : T2 0 = x_now_familyWill := by rw [hT2]; funext x; simp
    have hT1s : ∀ j, T1 (j + 1) = upd (T1 j) j (x_now_past_numbers (16 * n + 9 + j)) := by
      intro j; rw [hT1]; funext x; unfold upd
      by_cases e : x = j
      · subst e; simp
      · by_cases q : x < j
        · simp [e, q, show x < j + 1 by omega]
        · simp [e, q, show ¬ x < j + 1 by omega]
    have hT2s : ∀ j, T2 (j + 1) = upd (T2 j) j (x_now_past_numbers (16 * n + 2 + j)) := by
      intro j; rw [hT2]; funext x; unfold upd
      by_cases e : x = j
      · subst e; simp
      · by_cases q : x < j
        · simp [e, q, show x < j + 1 by omega]
        · simp [e, q, show ¬ x < j + 1 by omega]
    have start : ∀ (f g : Nat → Int32), f = T1 0 → g = T2 0 → ∀ {b : (Int32 → (Nat → Int32) → (Nat → Int32) → Prop) → Int32 → (Nat → Int32) → (Nat → Int32) → Prop}, (∃ k, lpw3 b k (nI 0) (T1 0) (T2 0)) → ∃ k, lpw3 b k 0 f g := fun f g e1 e2 b hh => by rw [e1, e2]; exact hh
    refine start _ _ hT10.symm hT20.symm (lpw3_run nI T1 T2 7 ?_ ?_ 0 (Nat.zero_le _))
    · intro B j hj hB
      have e2 : nI (16 * n) + (2 + nI j) = nI (16 * n + 2 + j) := by rw [show (2 : Int32) + nI j = nI (2 + j) from nI_add 2 j, nI_add, Nat.add_assoc]
      have e9 : nI (16 * n) + (9 + nI j) = nI (16 * n + 9 + j) := by rw [show (9 : Int32) + nI j = nI (9 + j) from nI_add 9 j, nI_add, Nat.add_assoc]
      rw [e2, e9, nI_clamp (by omega), nI_clamp (by omega), nI_clamp (by omega)]
      refine ⟨fun q => absurd q (nI_ge (b := 7) hj (by decide)), fun _ => ⟨vp_in_nI (by omega) (by omega), vp_in_nI (by omega) (by omega), ?_⟩⟩
      intro fw efw
      subst efw
      refine ⟨vp_in_nI (by omega) (by omega), vp_in_nI (by omega) (by omega), ?_⟩
      intro fc efc x' ex'
      subst efc; subst ex'
      rw [nI_1, ← hT1s, ← hT2s]
      exact hB
    · intro B
      refine ⟨fun _ => ?_, fun q => absurd (nI_le (a := 7) (b := 7) (Nat.le_refl _) (by decide)) q⟩
      refine ⟨fun _ => ?_, fun z => absurd z (by decide)⟩
      try dsimp only
      unfold wp_Mo_undo
      rw [e114]
      refine ⟨fun _ => ?_, fun z => absurd ((nI_eq (b := 0) (by omega) (by omega)).mp z) q⟩
      intro row1 er1
      rw [show nI (p 114) - 1 = nI n by rw [hn1]; exact pk_sub (a := p 114) (b := 1) (by omega)] at er1
      obtain ⟨T, hT⟩ : ∃ T : Nat → Nat → Int32, T = fun j x => if x < j then m_row (115 + 17 * n + x) else row1 x := ⟨_, rfl⟩
      have hT0 : T 0 = row1 := by rw [hT]; funext x; simp
      have er1' : row1 = upd m_row 114 (nI n) := er1
      have hT114 : ∀ j, j ≤ 17 → T j (Int32.toNatClampNeg 114) = nI n := by
        intro j hj
        show T j 114 = _
        rw [hT]; simp only []; rw [if_neg (by omega), er1']; simp [upd]
      rw [← hT0]
      refine lpw2_run nI T 17 ?_ ?_ 0 (Nat.zero_le _)
      · intro B j hj hB
        rw [hT114 j (by omega)]
        have ec : (115 : Int32) + 17 * nI n + nI j = nI (115 + 17 * n + j) := by
          rw [show (17 : Int32) * nI n = nI (17 * n) from pk_mul 17 _, show (115 : Int32) + nI (17 * n) = nI (115 + 17 * n) from nI_add 115 _, nI_add]
        rw [ec, nI_clamp (by omega), nI_clamp (by omega)]
        refine ⟨fun q => absurd q (nI_ge (b := 17) hj (by decide)), fun _ => ⟨vp_in_nI (by omega) (by omega), vp_in_nI (by omega) (by omega), ?_⟩⟩
        intro row2 er2 x' ex'
        subst ex'
        rw [nI_1]
        have e : T (j + 1) = row2 := by
          rw [er2, hT]
          funext x
          unfold upd
          by_cases e : x = j
          · subst e
            simp only [if_true, show x < x + 1 by omega]
            rw [if_neg (by omega), er1']
            unfold upd
            rw [if_neg (by omega)]
          · by_cases q : x < j
            · simp [e, q, show x < j + 1 by omega]
            · simp [e, q, show ¬ x < j + 1 by omega]
        rw [← e]
        exact hB
      · intro B
        refine ⟨fun _ => ?_, fun q => absurd (nI_le (a := 17) (b := 17) (Nat.le_refl _) (by decide)) q⟩
        have eN : ∀ j, j < 17 → undoN p j = p (115 + 17 * n + j) := fun j hj => by unfold undoN; rw [if_pos hj, hn1]
        have eU : ∀ j, 17 ≤ j → j ≠ 114 → undoN p j = p j := fun j hj hne => by unfold undoN; rw [if_neg (by omega), if_neg hne]
        have eU114 : undoN p 114 = n := by unfold undoN; rw [if_neg (by omega), if_pos rfl, hn1]
        have hM' : MR (undoN p) (T 17) 0 := by
          intro j hj
          rw [Nat.zero_add, hT]
          simp only []
          by_cases hj17 : j < 17
          · rw [if_pos hj17, eN j hj17]; exact hM.at0 (by omega)
          · rw [if_neg hj17, er1']
            unfold upd
            by_cases e : j = 114
            · subst e; rw [if_pos rfl, eU114]
            · rw [if_neg e, eU j (by omega) e]; exact hM.at0 hj
        have hI' := hI.undo q
        have e16 : undoN p 16 = p (131 + 17 * n) := by rw [eN 16 (by omega)]; congr 1; omega
        have e15 : undoN p 15 = p (130 + 17 * n) := by rw [eN 15 (by omega)]; congr 1; omega
        refine ⟨?_, ?_⟩
        · show _ = T 17 16
          rw [hM'.at0 (j := 16) (by omega), e16]
        · have hPS' := PS.mk16 (p' := undoN p) (faCell' := T1 7) (faWill' := T2 7) (pS' := nI n) (pN' := x_now_past_numbers) hPS hI' (fun j h1 h2 => eU j h1 (by omega)) ⟨by rw [eU114], fun k hk => by
            rw [eU114] at hk
            obtain ⟨f1, f2, f3⟩ := hp2 k (by omega)
            rw [eU 27 (by omega) (by omega), eU _ (by omega) (by omega), eU _ (by omega) (by omega)]
            exact ⟨f1, f2, fun i hi => by rw [eU _ (by omega) (by omega), eU _ (by omega) (by omega)]; exact f3 i hi⟩⟩ (fun j hj => by
            rw [hT1]; simp only []; rw [if_pos (by omega), (g3 j hj).2, eN (8 + j) (by omega)]; congr 2; omega) (fun j hj => by
            rw [hT2]; simp only []; rw [if_pos (by omega), (g3 j hj).1, eN j (by omega)])
          rw [e15, e16] at hPS'
          refine rel_now h _ hPS' hM' (fun j h1 h2 => ?_)
          rw [hT]; simp only []; rw [if_neg (by omega), er1']; unfold upd; rw [if_neg (by omega)]
  · have q' : p 114 = 0 := Classical.not_not.mp q
    refine ⟨fun z => absurd rfl z, fun _ => ?_⟩
    rw [w_no]
    try dsimp only
    unfold wp_Mo_undo
    rw [e114]
    refine ⟨fun z => absurd (by rw [q']; rfl) z, fun _ => ?_⟩
    rw [w_refN]
    exact ⟨rfl, rel_no h⟩

