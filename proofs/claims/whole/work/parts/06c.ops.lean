theorem PS.mk16 {p p' : Nat → Nat} {flC faC hu da : Int32} {faCell faKind faSide faWill flCell flKind flStr : Nat → Int32} {mS : Int32} {mN : Nat → Int32} {nS : Int32} {nN : Nat → Int32} {pS : Int32} {pN : Nat → Int32} {sS : Int32} {sN : Nat → Int32} {faCell' faWill' : Nat → Int32} {pS' : Int32} {pN' : Nat → Int32}
    (h : PS p flC faC hu da faCell faKind faSide faWill flCell flKind flStr mS mN nS nN pS pN sS sN) (hI : Inv p') (e : ∀ j, 17 ≤ j → j < 114 → p' j = p j) (hp : CRp p' pS' pN') (ac : Ar (p 27) faCell' (fun i => p' (8 + i))) (aw : Ar (p 27) faWill' p') : PS p' flC faC (nI (p' 15)) (nI (p' 16)) faCell' faKind faSide faWill' flCell flKind flStr mS mN nS nN pS' pN' sS sN := by
  obtain ⟨h0, ⟨a1, a2, a3, a4, a5, a6, a7, a8, a9, a10, a11⟩, hm, hn, -, hs⟩ := h
  have e27 := e 27 (by omega) (by omega)
  have e17 := e 17 (by omega) (by omega)
  have h7 := h0.1
  have h3 := h0.2.1.1
  refine ⟨hI, ⟨by rw [e17]; exact a1, by rw [e27]; exact a2, rfl, rfl, by rw [e27]; exact ac, ?_, ?_, by rw [e27]; exact aw, ?_, ?_, ?_⟩, hm.cong (fun j h1 h2 => e j (by omega) h2) h0.2.2.2.2.2.2.1.1, hn.cong (fun j h1 h2 => e j (by omega) (by omega)) h0.2.2.2.2.2.1.1, hp, hs.cong (fun j h1 h2 => e j (by omega) (by omega)) h0.2.2.2.2.1.1⟩
  · intro i hi; rw [e27] at hi; rw [a6 i hi]; simp only [e (28 + i) (by omega) (by omega)]
  · intro i hi; rw [e27] at hi; rw [a7 i hi]; simp only [e (35 + i) (by omega) (by omega)]
  · intro i hi; rw [e17] at hi; rw [a9 i hi]; simp only [e (21 + i) (by omega) (by omega)]
  · intro i hi; rw [e17] at hi; rw [a10 i hi]; simp only [e (18 + i) (by omega) (by omega)]
  · intro i hi; rw [e17] at hi; rw [a11 i hi]; simp only [e (24 + i) (by omega) (by omega)]
theorem CRp.up {p : Nat → Nat} {sz : Int32} {nu : Nat → Int32} (h : CRp p sz nu) {k v : Nat} (hk : k < 17) : CRp (updN p k v) sz nu := h.cong (updN_n (by omega)) (fun j hj => updN_n (by omega))
theorem Inv.upC {p : Nat → Nat} (h : Inv p) {i c : Nat} (hi : i < p 27) (hc : c < 25) : Inv (updN p (8 + i) c) := by
  have h7 := h.1
  obtain ⟨g1, g2, g3, g4, g5, g6⟩ := h.2.2.2.1
  have e27 : updN p (8 + i) c 27 = p 27 := updN_n (by omega)
  refine h.cong16 (fun j hj => updN_n (by omega)) ⟨fun j hj => ?_, fun j hj hj7 => ?_, ?_, fun j hj => ?_, ?_, ?_⟩
  · rw [e27] at hj; rw [updN_n (by omega)]; exact g1 j hj
  · rw [e27] at hj; rw [updN_n (by omega)]; exact g2 j hj hj7
  · rw [updN_n (by omega), e27, g3]; exact lapN_cong (fun j hj => by rw [updN_n (by omega)])
  · rw [e27] at hj
    by_cases e : j = i
    · subst e; rw [show 0 + 8 + j = 8 + j by omega, updN_s]; exact hc
    · rw [updN_n (by omega)]; exact g4 j hj
  · rw [updN_n (by omega), updN_n (by omega)]; exact g5
  · rw [updN_n (by omega)]; exact g6
theorem Ar.up {n : Nat} {f : Nat → Int32} {g : Nat → Nat} (h : Ar n f g) (k v : Nat) : Ar n (upd f k (nI v)) (updN g k v) := fun j hj => by
  unfold upd updN
  by_cases e : j = k
  · simp [e]
  · simp only [e, if_false]; exact h j hj
set_option maxHeartbeats 4000000 in
set_option maxRecDepth 100000 in
theorem po_goes {x_textLength : Int32} {x_above : Int64} {x_below : Int64} {x_timesBad : Int32} {x_timesNo : Int32} {x_timesFull : Int32} {x_images_0_flitchCount : Int32} {x_images_0_familyCount : Int32} {x_images_0_hung : Int32} {x_images_0_day : Int32} {x_images_0_familyCell : Nat → Int32} {x_images_0_familyKind : Nat → Int32} {x_images_0_familySide : Nat → Int32} {x_images_0_familyWill : Nat → Int32} {x_images_0_flitchCell : Nat → Int32} {x_images_0_flitchKind : Nat → Int32} {x_images_0_flitchStrength : Nat → Int32} {x_images_0_marks_size : Int32} {x_images_0_marks_numbers : Nat → Int32} {x_images_0_notes_size : Int32} {x_images_0_notes_numbers : Nat → Int32} {x_images_0_past_size : Int32} {x_images_0_past_numbers : Nat → Int32} {x_images_0_sightings_size : Int32} {x_images_0_sightings_numbers : Nat → Int32} {x_images_1_flitchCount : Int32} {x_images_1_familyCount : Int32} {x_images_1_hung : Int32} {x_images_1_day : Int32} {x_images_1_familyCell : Nat → Int32} {x_images_1_familyKind : Nat → Int32} {x_images_1_familySide : Nat → Int32} {x_images_1_familyWill : Nat → Int32} {x_images_1_flitchCell : Nat → Int32} {x_images_1_flitchKind : Nat → Int32} {x_images_1_flitchStrength : Nat → Int32} {x_images_1_marks_size : Int32} {x_images_1_marks_numbers : Nat → Int32} {x_images_1_notes_size : Int32} {x_images_1_notes_numbers : Nat → Int32} {x_images_1_past_size : Int32} {x_images_1_past_numbers : Nat → Int32} {x_images_1_sightings_size : Int32} {x_images_1_sightings_numbers : Nat → Int32} {x_kept : Nat → Int32} {x_now_flitchCount : Int32} {x_now_familyCount : Int32} {x_now_hung : Int32} {x_now_day : Int32} {x_now_familyCell : Nat → Int32} {x_now_familyKind : Nat → Int32} {x_now_familySide : Nat → Int32} {x_now_familyWill : Nat → Int32} {x_now_flitchCell : Nat → Int32} {x_now_flitchKind : Nat → Int32} {x_now_flitchStrength : Nat → Int32} {x_now_marks_width : Int32} {x_now_marks_limit : Int32} {x_now_marks_size : Int32} {x_now_marks_numbers : Nat → Int32} {x_now_notes_width : Int32} {x_now_notes_limit : Int32} {x_now_notes_size : Int32} {x_now_notes_numbers : Nat → Int32} {x_now_past_width : Int32} {x_now_past_limit : Int32} {x_now_past_size : Int32} {x_now_past_numbers : Nat → Int32} {x_now_sightings_width : Int32} {x_now_sightings_limit : Int32} {x_now_sightings_size : Int32} {x_now_sightings_numbers : Nat → Int32} {x_text : Nat → Int32} {m_above : Int64} {m_below : Int64} {m_length : Int32} {m_isKept : Nat → Int32} {m_refused : Nat → Int32} {m_row : Nat → Int32} {m_text : Nat → Int32} {m_words : Nat → Int32} (h : Rel x_textLength x_above x_below x_timesBad x_timesNo x_timesFull x_images_0_flitchCount x_images_0_familyCount x_images_0_hung x_images_0_day x_images_0_familyCell x_images_0_familyKind x_images_0_familySide x_images_0_familyWill x_images_0_flitchCell x_images_0_flitchKind x_images_0_flitchStrength x_images_0_marks_size x_images_0_marks_numbers x_images_0_notes_size x_images_0_notes_numbers x_images_0_past_size x_images_0_past_numbers x_images_0_sightings_size x_images_0_sightings_numbers x_images_1_flitchCount x_images_1_familyCount x_images_1_hung x_images_1_day x_images_1_familyCell x_images_1_familyKind x_images_1_familySide x_images_1_familyWill x_images_1_flitchCell x_images_1_flitchKind x_images_1_flitchStrength x_images_1_marks_size x_images_1_marks_numbers x_images_1_notes_size x_images_1_notes_numbers x_images_1_past_size x_images_1_past_numbers x_images_1_sightings_size x_images_1_sightings_numbers x_kept x_now_flitchCount x_now_familyCount x_now_hung x_now_day x_now_familyCell x_now_familyKind x_now_familySide x_now_familyWill x_now_flitchCell x_now_flitchKind x_now_flitchStrength x_now_marks_width x_now_marks_limit x_now_marks_size x_now_marks_numbers x_now_notes_width x_now_notes_limit x_now_notes_size x_now_notes_numbers x_now_past_width x_now_past_limit x_now_past_size x_now_past_numbers x_now_sightings_width x_now_sightings_limit x_now_sightings_size x_now_sightings_numbers x_text m_above m_below m_length m_isKept m_refused m_row m_text m_words) (x1 : Int32) (x2 : Int32) : wp_Rc_goes x1 x2 x_timesBad x_timesNo x_now_familyCount x_now_hung x_now_day x_now_familyCell x_now_familyWill x_now_past_width x_now_past_limit x_now_past_size x_now_past_numbers (fun (r : Int32) (x_timesBad' : Int32) (x_timesNo' : Int32) (x_now_familyCell' : Nat → Int32) (x_now_past_size' : Int32) (x_now_past_numbers' : Nat → Int32) => wp_Mo_goes x1 x2 m_refused m_row (fun (r' : Int32) (m_refused' : Nat → Int32) (m_row' : Nat → Int32) => r = r' ∧ Rel x_textLength x_above x_below x_timesBad' x_timesNo' x_timesFull x_images_0_flitchCount x_images_0_familyCount x_images_0_hung x_images_0_day x_images_0_familyCell x_images_0_familyKind x_images_0_familySide x_images_0_familyWill x_images_0_flitchCell x_images_0_flitchKind x_images_0_flitchStrength x_images_0_marks_size x_images_0_marks_numbers x_images_0_notes_size x_images_0_notes_numbers x_images_0_past_size x_images_0_past_numbers x_images_0_sightings_size x_images_0_sightings_numbers x_images_1_flitchCount x_images_1_familyCount x_images_1_hung x_images_1_day x_images_1_familyCell x_images_1_familyKind x_images_1_familySide x_images_1_familyWill x_images_1_flitchCell x_images_1_flitchKind x_images_1_flitchStrength x_images_1_marks_size x_images_1_marks_numbers x_images_1_notes_size x_images_1_notes_numbers x_images_1_past_size x_images_1_past_numbers x_images_1_sightings_size x_images_1_sightings_numbers x_kept x_now_flitchCount x_now_familyCount x_now_hung x_now_day x_now_familyCell' x_now_familyKind x_now_familySide x_now_familyWill x_now_flitchCell x_now_flitchKind x_now_flitchStrength x_now_marks_width x_now_marks_limit x_now_marks_size x_now_marks_numbers x_now_notes_width x_now_notes_limit x_now_notes_size x_now_notes_numbers x_now_past_width x_now_past_limit x_now_past_size' x_now_past_numbers' x_now_sightings_width x_now_sightings_limit x_now_sightings_size x_now_sightings_numbers x_text m_above m_below m_length m_isKept m_refused' m_row' m_text m_words)) := by
  obtain ⟨⟨p, hPS, hM⟩, ⟨rfl, rfl, rfl, rfl, rfl, rfl, rfl, rfl⟩, -⟩ := id h
  obtain ⟨hI, ⟨rfl, rfl, rfl, rfl, a5, a6, a7, a8, a9, a10, a11⟩, hm, hn, hp, hs⟩ := id hPS
  have h7 := hI.1
  have e27 : m_row 27 = nI (p 27) := hM.at0 (by omega)
  unfold wp_Rc_goes
  rw [w_isFamC]
  rw [jn0_e]
  rw [w_isCell]
  have hbad : inB x1 0 (nI (p 27) - 1) = 0 ∨ inB x2 0 24 = 0 → wp_Mo_goes x1 x2 m_refused m_row (fun (r' : Int32) (m_refused' : Nat → Int32) (m_row' : Nat → Int32) => (-2) = r' ∧ Rel x_textLength x_above x_below (x_timesBad + 1) x_timesNo x_timesFull x_images_0_flitchCount x_images_0_familyCount x_images_0_hung x_images_0_day x_images_0_familyCell x_images_0_familyKind x_images_0_familySide x_images_0_familyWill x_images_0_flitchCell x_images_0_flitchKind x_images_0_flitchStrength x_images_0_marks_size x_images_0_marks_numbers x_images_0_notes_size x_images_0_notes_numbers x_images_0_past_size x_images_0_past_numbers x_images_0_sightings_size x_images_0_sightings_numbers x_images_1_flitchCount x_images_1_familyCount x_images_1_hung x_images_1_day x_images_1_familyCell x_images_1_familyKind x_images_1_familySide x_images_1_familyWill x_images_1_flitchCell x_images_1_flitchKind x_images_1_flitchStrength x_images_1_marks_size x_images_1_marks_numbers x_images_1_notes_size x_images_1_notes_numbers x_images_1_past_size x_images_1_past_numbers x_images_1_sightings_size x_images_1_sightings_numbers x_kept (nI (p 17)) (nI (p 27)) (nI (p 15)) (nI (p 16)) x_now_familyCell x_now_familyKind x_now_familySide x_now_familyWill x_now_flitchCell x_now_flitchKind x_now_flitchStrength 4 6 x_now_marks_size x_now_marks_numbers 5 6 x_now_notes_size x_now_notes_numbers 16 8 x_now_past_size x_now_past_numbers 3 5 x_now_sightings_size x_now_sightings_numbers x_text m_above m_below m_length m_isKept m_refused' m_row' m_text m_words) := by
    intro q
    unfold wp_Mo_goes
    rw [w_isFamM, e27]
    rw [jn0_e]
    rw [w_in, w_refB]
    rcases q with q | q
    · exact ⟨fun _ => ⟨rfl, rel_bad h⟩, fun z => absurd q z⟩
    · exact ⟨fun _ => ⟨rfl, rel_bad h⟩, fun _ => ⟨fun z => absurd q z, fun _ => ⟨rfl, rel_bad h⟩⟩⟩
  refine ⟨fun q => ?_, fun q1 => ⟨fun q2 => ?_, fun q => ?_⟩⟩
  · rw [w_bad]; exact hbad (Or.inl q)
  · obtain ⟨i, hi, rfl⟩ := inB_pl (by omega) q1
    obtain ⟨c, -, hc, rfl⟩ := inB_nI (lo := 0) (hi := 24) (by omega) (by omega) q2
    refine ⟨vp_in_nI (by omega) (by omega), ?_⟩
    intro x3 ex3
    rw [nI_clamp (by omega), a5 i hi] at ex3
    subst ex3
    have hc25 := hI.c25 i hi
    have ea : (8 : Int32) + nI i = nI (8 + i) := nI_add 8 i
    have ev : m_row (8 + i) = nI (p (8 + i)) := hM.at0 (by omega)
    refine ⟨fun q3 => ?_, fun q3 => ?_⟩
    · refine s_remember hI rfl rfl a5 a8 hp (fun sz' nu' hC' => ?_)
      refine ⟨vp_in_nI (by omega) (by omega), ?_⟩
      intro fc' efc'
      rw [nI_clamp (by omega)] at efc'
      subst efc'
      try dsimp only
      unfold wp_Mo_goes
      rw [w_isFamM, e27]
      rw [jn0_e]
      rw [w_in, ea, nI_clamp (by omega)]
      refine ⟨fun z => absurd z q1, fun _ => ⟨fun _ => ⟨vp_in_nI (by omega) (by omega), ?_⟩, fun z => absurd z q2⟩⟩
      intro x3 ex3
      rw [ev] at ex3
      subst ex3
      refine ⟨fun _ => ?_, fun z => absurd z q3⟩
      refine s_keepPast hI hM (fun row1 hM1 hH1 => ⟨vp_in_nI (by omega) (by omega), ?_⟩)
      intro row2 er2
      subst er2
      refine ⟨rfl, ?_⟩
      have hIk := hI.keep
      have el : ∀ j, j < 114 → keepN p j = p j := fun j hj => keepN_lo p hj
      have e15 : updN (keepN p) (8 + i) c 15 = p 15 := by rw [updN_n (by omega), el 15 (by omega)]
      have e16 : updN (keepN p) (8 + i) c 16 = p 16 := by rw [updN_n (by omega), el 16 (by omega)]
      have hPS' := PS.mk16 (p' := updN (keepN p) (8 + i) c) (faCell' := upd x_now_familyCell i (nI c)) (faWill' := x_now_familyWill) hPS (hIk.upC (by rw [el 27 (by omega)]; exact hi) (by omega)) (fun j h1 h2 => by rw [updN_n (by omega), el j h2]) (hC'.up (by omega)) (fun j hj => by
        rw [Ar.up a5 i c j hj]
        unfold updN
        by_cases e : j = i
        · simp [e]
        · simp only [e, if_false, show ¬ (8 + j = 8 + i) by omega]; rw [el (8 + j) (by omega)]) (fun j hj => by rw [updN_n (by omega), el j (by omega)]; exact a8 j hj)
      rw [e15, e16] at hPS'
      exact rel_now h _ hPS' (hM1.up (8 + i) c) ((Hi.up (Or.inl (by omega))).tr hH1)
    · rw [w_no]
      try dsimp only
      unfold wp_Mo_goes
      rw [w_isFamM, e27]
      rw [jn0_e]
      rw [w_in, ea, nI_clamp (by omega)]
      refine ⟨fun z => absurd z q1, fun _ => ⟨fun _ => ⟨vp_in_nI (by omega) (by omega), ?_⟩, fun z => absurd z q2⟩⟩
      intro x3 ex3
      rw [ev] at ex3
      subst ex3
      refine ⟨fun z => absurd q3 z, fun _ => ?_⟩
      rw [w_refN]
      exact ⟨rfl, rel_no h⟩
  · rw [w_bad]; exact hbad (Or.inr q)

theorem Inv.upW {p : Nat → Nat} (h : Inv p) {i v : Nat} (hi : i < p 27) (hw : p i ≠ 0) (hv : v ≠ 0) (hv9 : v ≤ 99) : Inv (updN p i v) := by
  have h7 := h.1
  obtain ⟨g1, g2, g3, g4, g5, g6⟩ := h.2.2.2.1
  have e27 : updN p i v 27 = p 27 := updN_n (by omega)
  refine h.cong16 (fun j hj => updN_n (by omega)) ⟨fun j hj => ?_, fun j hj hj7 => ?_, ?_, fun j hj => ?_, ?_, ?_⟩
  · rw [e27] at hj
    by_cases e : j = i
    · subst e; rw [Nat.zero_add, updN_s]; exact hv9
    · rw [updN_n (by omega)]; exact g1 j hj
  · rw [e27] at hj; rw [updN_n (by omega)]; exact g2 j hj hj7
  · rw [updN_n (by omega), e27, g3]
    exact lapN_cong (fun j hj => by
      by_cases e : j = i
      · subst e; simp only [Nat.zero_add, updN_s]; constructor <;> intro q <;> omega
      · rw [updN_n (by omega)])
  · rw [e27] at hj; rw [updN_n (by omega)]; exact g4 j hj
  · rw [updN_n (by omega), updN_n (by omega)]; exact g5
  · rw [updN_n (by omega)]; exact g6
theorem w_lapsedC {i n w : Nat} {A : Nat → Int32} (hi : i < 7) (e : A i = nI w) (hw : w < 2 ^ 31) (Q : Int32 → Prop) : wp_Pa_hasLapsed (nI i) A Q = Q (if w = 0 then 1 else 0) := by
  unfold wp_Pa_hasLapsed
  rw [nI_clamp (by omega), e, ge1_nI hw]
  simp only [show vp_in (nI i) 7 from vp_in_nI hi (by omega), true_and]
  by_cases h : w = 0 <;> simp [h]
theorem w_hasM {p : Nat → Nat} {row : Nat → Int32} (hI : Inv p) (hM : MR p row 0) {i : Nat} (hi : i < p 27) (Q : Int32 → Prop) : wp_Mo_has (row 7) (nI i) Q = Q (if p i = 0 then 1 else 0) := by
  have h7 := hI.1
  rw [w_has, hM.at0 (j := 7) (by omega)]
  have hb := btN_lap p (p 27) i hi
  rw [← hI.lap] at hb
  simp only [bit_is (show p 7 < 256 by have := lap_lt hI; omega) (show i < 8 by omega), hb]
  by_cases h : p i = 0 <;> simp [h]
theorem imin99 {w : Nat} (hw : w ≤ 99) : imin 99 (nI w + 3) = nI (min 99 (w + 3)) := by
  rw [show nI w + 3 = nI (w + 3) from nI_add w 3]
  show (if nI (w + 3) < nI 99 then nI (w + 3) else nI 99) = _
  by_cases h : w + 3 < 99
  · rw [if_pos (nI_lt h (by omega))]; congr 1; omega
  · rw [if_neg (nI_nlt (by omega) (by omega))]; congr 1; omega
set_option maxHeartbeats 4000000 in
set_option maxRecDepth 100000 in
theorem po_turnip {x_textLength : Int32} {x_above : Int64} {x_below : Int64} {x_timesBad : Int32} {x_timesNo : Int32} {x_timesFull : Int32} {x_images_0_flitchCount : Int32} {x_images_0_familyCount : Int32} {x_images_0_hung : Int32} {x_images_0_day : Int32} {x_images_0_familyCell : Nat → Int32} {x_images_0_familyKind : Nat → Int32} {x_images_0_familySide : Nat → Int32} {x_images_0_familyWill : Nat → Int32} {x_images_0_flitchCell : Nat → Int32} {x_images_0_flitchKind : Nat → Int32} {x_images_0_flitchStrength : Nat → Int32} {x_images_0_marks_size : Int32} {x_images_0_marks_numbers : Nat → Int32} {x_images_0_notes_size : Int32} {x_images_0_notes_numbers : Nat → Int32} {x_images_0_past_size : Int32} {x_images_0_past_numbers : Nat → Int32} {x_images_0_sightings_size : Int32} {x_images_0_sightings_numbers : Nat → Int32} {x_images_1_flitchCount : Int32} {x_images_1_familyCount : Int32} {x_images_1_hung : Int32} {x_images_1_day : Int32} {x_images_1_familyCell : Nat → Int32} {x_images_1_familyKind : Nat → Int32} {x_images_1_familySide : Nat → Int32} {x_images_1_familyWill : Nat → Int32} {x_images_1_flitchCell : Nat → Int32} {x_images_1_flitchKind : Nat → Int32} {x_images_1_flitchStrength : Nat → Int32} {x_images_1_marks_size : Int32} {x_images_1_marks_numbers : Nat → Int32} {x_images_1_notes_size : Int32} {x_images_1_notes_numbers : Nat → Int32} {x_images_1_past_size : Int32} {x_images_1_past_numbers : Nat → Int32} {x_images_1_sightings_size : Int32} {x_images_1_sightings_numbers : Nat → Int32} {x_kept : Nat → Int32} {x_now_flitchCount : Int32} {x_now_familyCount : Int32} {x_now_hung : Int32} {x_now_day : Int32} {x_now_familyCell : Nat → Int32} {x_now_familyKind : Nat → Int32} {x_now_familySide : Nat → Int32} {x_now_familyWill : Nat → Int32} {x_now_flitchCell : Nat → Int32} {x_now_flitchKind : Nat → Int32} {x_now_flitchStrength : Nat → Int32} {x_now_marks_width : Int32} {x_now_marks_limit : Int32} {x_now_marks_size : Int32} {x_now_marks_numbers : Nat → Int32} {x_now_notes_width : Int32} {x_now_notes_limit : Int32} {x_now_notes_size : Int32} {x_now_notes_numbers : Nat → Int32} {x_now_past_width : Int32} {x_now_past_limit : Int32} {x_now_past_size : Int32} {x_now_past_numbers : Nat → Int32} {x_now_sightings_width : Int32} {x_now_sightings_limit : Int32} {x_now_sightings_size : Int32} {x_now_sightings_numbers : Nat → Int32} {x_text : Nat → Int32} {m_above : Int64} {m_below : Int64} {m_length : Int32} {m_isKept : Nat → Int32} {m_refused : Nat → Int32} {m_row : Nat → Int32} {m_text : Nat → Int32} {m_words : Nat → Int32} (h : Rel x_textLength x_above x_below x_timesBad x_timesNo x_timesFull x_images_0_flitchCount x_images_0_familyCount x_images_0_hung x_images_0_day x_images_0_familyCell x_images_0_familyKind x_images_0_familySide x_images_0_familyWill x_images_0_flitchCell x_images_0_flitchKind x_images_0_flitchStrength x_images_0_marks_size x_images_0_marks_numbers x_images_0_notes_size x_images_0_notes_numbers x_images_0_past_size x_images_0_past_numbers x_images_0_sightings_size x_images_0_sightings_numbers x_images_1_flitchCount x_images_1_familyCount x_images_1_hung x_images_1_day x_images_1_familyCell x_images_1_familyKind x_images_1_familySide x_images_1_familyWill x_images_1_flitchCell x_images_1_flitchKind x_images_1_flitchStrength x_images_1_marks_size x_images_1_marks_numbers x_images_1_notes_size x_images_1_notes_numbers x_images_1_past_size x_images_1_past_numbers x_images_1_sightings_size x_images_1_sightings_numbers x_kept x_now_flitchCount x_now_familyCount x_now_hung x_now_day x_now_familyCell x_now_familyKind x_now_familySide x_now_familyWill x_now_flitchCell x_now_flitchKind x_now_flitchStrength x_now_marks_width x_now_marks_limit x_now_marks_size x_now_marks_numbers x_now_notes_width x_now_notes_limit x_now_notes_size x_now_notes_numbers x_now_past_width x_now_past_limit x_now_past_size x_now_past_numbers x_now_sightings_width x_now_sightings_limit x_now_sightings_size x_now_sightings_numbers x_text m_above m_below m_length m_isKept m_refused m_row m_text m_words) (x1 : Int32) : wp_Rc_turnip x1 x_timesBad x_timesNo x_now_familyCount x_now_hung x_now_day x_now_familyCell x_now_familyWill x_now_past_width x_now_past_limit x_now_past_size x_now_past_numbers (fun (r : Int32) (x_timesBad' : Int32) (x_timesNo' : Int32) (x_now_familyWill' : Nat → Int32) (x_now_past_size' : Int32) (x_now_past_numbers' : Nat → Int32) => wp_Mo_turnip x1 m_refused m_row (fun (r' : Int32) (m_refused' : Nat → Int32) (m_row' : Nat → Int32) => r = r' ∧ Rel x_textLength x_above x_below x_timesBad' x_timesNo' x_timesFull x_images_0_flitchCount x_images_0_familyCount x_images_0_hung x_images_0_day x_images_0_familyCell x_images_0_familyKind x_images_0_familySide x_images_0_familyWill x_images_0_flitchCell x_images_0_flitchKind x_images_0_flitchStrength x_images_0_marks_size x_images_0_marks_numbers x_images_0_notes_size x_images_0_notes_numbers x_images_0_past_size x_images_0_past_numbers x_images_0_sightings_size x_images_0_sightings_numbers x_images_1_flitchCount x_images_1_familyCount x_images_1_hung x_images_1_day x_images_1_familyCell x_images_1_familyKind x_images_1_familySide x_images_1_familyWill x_images_1_flitchCell x_images_1_flitchKind x_images_1_flitchStrength x_images_1_marks_size x_images_1_marks_numbers x_images_1_notes_size x_images_1_notes_numbers x_images_1_past_size x_images_1_past_numbers x_images_1_sightings_size x_images_1_sightings_numbers x_kept x_now_flitchCount x_now_familyCount x_now_hung x_now_day x_now_familyCell x_now_familyKind x_now_familySide x_now_familyWill' x_now_flitchCell x_now_flitchKind x_now_flitchStrength x_now_marks_width x_now_marks_limit x_now_marks_size x_now_marks_numbers x_now_notes_width x_now_notes_limit x_now_notes_size x_now_notes_numbers x_now_past_width x_now_past_limit x_now_past_size' x_now_past_numbers' x_now_sightings_width x_now_sightings_limit x_now_sightings_size x_now_sightings_numbers x_text m_above m_below m_length m_isKept m_refused' m_row' m_text m_words)) := by
  obtain ⟨⟨p, hPS, hM⟩, ⟨rfl, rfl, rfl, rfl, rfl, rfl, rfl, rfl⟩, -⟩ := id h
  obtain ⟨hI, ⟨rfl, rfl, rfl, rfl, a5, a6, a7, a8, a9, a10, a11⟩, hm, hn, hp, hs⟩ := id hPS
  have h7 := hI.1
  have e27 : m_row 27 = nI (p 27) := hM.at0 (by omega)
  unfold wp_Rc_turnip
  rw [w_isFamC]
  refine ⟨fun q1 => ?_, fun q => ?_⟩
  · obtain ⟨i, hi, rfl⟩ := inB_pl (by omega) q1
    have hw := hI.w99 i hi
    rw [w_lapsedC (n := 0) (by omega) (a8 i hi) (by omega)]
    have e0 : (0 : Int32) + nI i = nI i := by rw [show (0 : Int32) = nI 0 from rfl, nI_add, Nat.zero_add]
    by_cases hz : p i = 0
    · rw [if_pos hz]
      refine ⟨fun z => absurd z (by decide), fun _ => ?_⟩
      rw [w_no]
      try dsimp only
      unfold wp_Mo_turnip
      rw [w_isFamM, e27]
      refine ⟨fun _ => ?_, fun z => absurd z q1⟩
      show wp_Mo_has (m_row 7) (nI i) _
      rw [w_hasM hI hM hi, if_pos hz]
      refine ⟨fun z => absurd z (by decide), fun _ => ?_⟩
      rw [w_refN]
      exact ⟨rfl, rel_no h⟩
    · rw [if_neg hz]
      refine ⟨fun _ => ?_, fun z => absurd rfl z⟩
      refine s_remember hI rfl rfl a5 a8 hp (fun sz' nu' hC' => ?_)
      rw [nI_clamp (by omega), a8 i hi, imin99 hw]
      refine ⟨vp_in_nI (by omega) (by omega), vp_in_nI (by omega) (by omega), ?_⟩
      intro fw' efw'
      subst efw'
      refine ⟨vp_in_nI (by omega) (by omega), ?_⟩
      rw [show upd x_now_familyWill i (nI (min 99 (p i + 3))) i = nI (min 99 (p i + 3)) by simp [upd]]
      try dsimp only
      unfold wp_Mo_turnip
      rw [w_isFamM, e27]
      refine ⟨fun _ => ?_, fun z => absurd z q1⟩
      show wp_Mo_has (m_row 7) (nI i) _
      rw [w_hasM hI hM hi, if_neg hz]
      refine ⟨fun _ => ?_, fun z => absurd rfl z⟩
      refine s_keepPast hI hM (fun row1 hM1 hH1 => ?_)
      have hIk := hI.keep
      have el : ∀ j, j < 114 → keepN p j = p j := fun j hj => keepN_lo p hj
      have ev : row1 i = nI (p i) := by rw [hM1.at0 (by omega), el i (by omega)]
      rw [e0, nI_clamp (by omega), ev]
      rw [jn1_e]
      refine ⟨vp_in_nI (by omega) (by omega), ?_⟩
      have fin : vp_in (nI i) 770 ∧ ∀ s_row_11 : Nat → Int32, s_row_11 = upd row1 i (nI (min 99 (p i + 3))) → vp_in (nI i) 770 ∧ (nI (min 99 (p i + 3))) = s_row_11 i ∧ Rel x_textLength x_above x_below x_timesBad x_timesNo x_timesFull x_images_0_flitchCount x_images_0_familyCount x_images_0_hung x_images_0_day x_images_0_familyCell x_images_0_familyKind x_images_0_familySide x_images_0_familyWill x_images_0_flitchCell x_images_0_flitchKind x_images_0_flitchStrength x_images_0_marks_size x_images_0_marks_numbers x_images_0_notes_size x_images_0_notes_numbers x_images_0_past_size x_images_0_past_numbers x_images_0_sightings_size x_images_0_sightings_numbers x_images_1_flitchCount x_images_1_familyCount x_images_1_hung x_images_1_day x_images_1_familyCell x_images_1_familyKind x_images_1_familySide x_images_1_familyWill x_images_1_flitchCell x_images_1_flitchKind x_images_1_flitchStrength x_images_1_marks_size x_images_1_marks_numbers x_images_1_notes_size x_images_1_notes_numbers x_images_1_past_size x_images_1_past_numbers x_images_1_sightings_size x_images_1_sightings_numbers x_kept (nI (p 17)) (nI (p 27)) (nI (p 15)) (nI (p 16)) x_now_familyCell x_now_familyKind x_now_familySide (upd x_now_familyWill i (nI (min 99 (p i + 3)))) x_now_flitchCell x_now_flitchKind x_now_flitchStrength 4 6 x_now_marks_size x_now_marks_numbers 5 6 x_now_notes_size x_now_notes_numbers 16 8 sz' nu' 3 5 x_now_sightings_size x_now_sightings_numbers x_text m_above m_below m_length m_isKept m_refused s_row_11 m_text m_words := by
        refine ⟨vp_in_nI (by omega) (by omega), ?_⟩
        intro row2 er2
        subst er2
        refine ⟨vp_in_nI (by omega) (by omega), by simp [upd], ?_⟩
        have e15 : updN (keepN p) i (min 99 (p i + 3)) 15 = p 15 := by rw [updN_n (by omega), el 15 (by omega)]
        have e16 : updN (keepN p) i (min 99 (p i + 3)) 16 = p 16 := by rw [updN_n (by omega), el 16 (by omega)]
        have hPS' := PS.mk16 (p' := updN (keepN p) i (min 99 (p i + 3))) (faCell' := x_now_familyCell) (faWill' := upd x_now_familyWill i (nI (min 99 (p i + 3)))) hPS (hIk.upW (by rw [el 27 (by omega)]; exact hi) (by rw [el i (by omega)]; exact hz) (by omega) (by omega)) (fun j h1 h2 => by rw [updN_n (by omega), el j h2]) (hC'.up (by omega)) (fun j hj => by rw [a5 j hj]; simp only [updN_n (show 8 + j ≠ i by omega), el (8 + j) (by omega)]) (fun j hj => by
          rw [Ar.up a8 i _ j hj]
          unfold updN
          by_cases e : j = i
          · simp [e]
          · simp only [e, if_false]; rw [el j (by omega)])
        rw [e15, e16] at hPS'
        exact rel_now h _ hPS' (hM1.up i _) ((Hi.up (Or.inl (by omega))).tr hH1)
      refine ⟨fun q => ⟨vp_in_nI (by omega) (by omega), ?_⟩, fun q => ?_⟩
      · have q' := (nI_leI (b := 96) (by omega) (by omega)).mp q
        rw [show nI (p i) + 3 = nI (min 99 (p i + 3)) by rw [show nI (p i) + 3 = nI (p i + 3) from nI_add (p i) 3]; congr 1; omega]
        exact fin
      · have q' : ¬ p i ≤ 96 := fun z => q ((nI_leI (b := 96) (by omega) (by omega)).mpr z)
        rw [show (99 : Int32) = nI (min 99 (p i + 3)) by rw [show min 99 (p i + 3) = 99 by omega]; rfl]
        exact fin
  · rw [w_bad]
    try dsimp only
    unfold wp_Mo_turnip
    rw [w_isFamM, e27]
    refine ⟨fun z => absurd q z, fun _ => ?_⟩
    rw [w_refB]
    exact ⟨rfl, rel_bad h⟩

