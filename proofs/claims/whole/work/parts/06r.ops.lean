def ysA (a : Nat) : Nat → Nat
  | 0 => a
  | j + 1 => (ysA a j * 1103515245 + 12345) % 2147483648
def ysC (p : Nat → Nat) (a : Nat) : Nat → Nat → Nat
  | 0 => fun i => p (8 + i)
  | j + 1 => if ysA a (j + 1) / 65536 % 7 < p 27 then updN (ysC p a j) (ysA a (j + 1) / 65536 % 7) (ysA a (j + 1) / 1048576 % 25) else ysC p a j
def ysW (p : Nat → Nat) (a : Nat) : Nat → Nat → Nat
  | 0 => p
  | j + 1 => fun i => ysW p a j i - lsT p (p (28 + i)) (ysC p a (j + 1) i) (p 15) (p 16 + j)
theorem ysA_lt {a : Nat} (h : a < 2147483648) : ∀ j, ysA a j < 2147483648
  | 0 => h
  | j + 1 => Nat.mod_lt _ (by omega)
theorem ysC_lt {p : Nat → Nat} (hI : Inv p) (a : Nat) : ∀ j i, i < p 27 → ysC p a j i < 25
  | 0, i, hi => hI.c25 i hi
  | j + 1, i, hi => by
    have ih := ysC_lt hI a j i hi
    simp only [ysC]
    split
    · by_cases e : i = ysA a (j + 1) / 65536 % 7
      · rw [e, updN_s]; exact Nat.mod_lt _ (by omega)
      · rw [updN_n e]; exact ih
    · exact ih
theorem ysW_le {p : Nat → Nat} (hI : Inv p) (a : Nat) : ∀ j i, i < p 27 → ysW p a j i ≤ 99
  | 0, i, hi => hI.w99 i hi
  | j + 1, i, hi => by
    have ih := ysW_le hI a j i hi
    show ysW p a j i - _ ≤ 99
    omega
theorem ys_step {a : Nat} (ha : a < 2147483648) (j : Nat) : lrem ((lN (ysA a j) * 1103515245) + 12345) 2147483648 = lN (ysA a (j + 1)) := by
  have h := ysA_lt ha j
  rw [show (1103515245 : Int64) = lN 1103515245 from rfl, show (12345 : Int64) = lN 12345 from rfl, show (2147483648 : Int64) = lN 2147483648 from rfl, lN_mul, lN_add]
  exact pk_lRem (by omega) (by omega) (by omega)
theorem ys_who {x : Nat} (hx : x < 2147483648) : Int64.toInt32 (lrem (lN x / 65536) 7) = nI (x / 65536 % 7) := by
  rw [show (65536 : Int64) = lN 65536 from rfl, show (7 : Int64) = lN 7 from rfl, pk_lDiv (by omega) (by omega) (by omega), show lrem (lN (x / 65536)) (lN 7) = lN (x / 65536 % 7) from pk_lRem (by omega) (by omega) (by omega), lN_i]
theorem ys_cell {x : Nat} (hx : x < 2147483648) : Int64.toInt32 (lrem (lN x / 1048576) 25) = nI (x / 1048576 % 25) := by
  rw [show (1048576 : Int64) = lN 1048576 from rfl, show (25 : Int64) = lN 25 from rfl, pk_lDiv (by omega) (by omega) (by omega), show lrem (lN (x / 1048576)) (lN 25) = lN (x / 1048576 % 25) from pk_lRem (by omega) (by omega) (by omega), lN_i]
theorem inB_pl1 {k n : Nat} (hk : k < 2 ^ 30) (hn : n < 2 ^ 30) : inB (nI k) 0 (nI n - 1) = 0 ↔ ¬ k < n := by
  have e : (nI n - 1).toInt = (n : Int) - 1 := pk_sub_toInt (b := 1) hn (by omega)
  rw [inB_0, Int32.le_iff_toInt_le, Int32.le_iff_toInt_le, e, nI_toInt (by omega)]
  have e0 : (0 : Int32).toInt = 0 := rfl
  omega
theorem s_lapsedByYears {p : Nat → Nat} {flCell flKind flStr faKind faCell faWill ce0 wi0 : Nat → Int32} (hI : Inv p) (a5 : Ar (p 27) faCell (fun i => p (8 + i))) (a6 : Ar (p 27) faKind (fun i => p (28 + i))) (a8 : Ar (p 27) faWill p) (a9 : Ar (p 17) flCell (fun k => p (21 + k))) (a10 : Ar (p 17) flKind (fun k => p (18 + k))) (a11 : Ar (p 17) flStr (fun k => p (24 + k))) {a n : Nat} (ha : a < 1000000) (hn : n ≤ 60) {Q : Int32 → (Nat → Int32) → (Nat → Int32) → Prop}
    (hQ : ∀ ce wi, Q (nI (cntN (ysW p a n) (p 27))) ce wi) : wp_Fs_lapsedByYears (nI a) (nI n) ce0 (nI (p 17)) (nI (p 27)) (nI (p 15)) (nI (p 16)) faCell faKind faWill flCell flKind flStr wi0 Q := by
  have h7 := hI.1
  have hd := hI.d9
  have h15 := p15_lt hI
  unfold wp_Fs_lapsedByYears
  simp only [fe_e]
  rw [nI_l (by omega)]
  refine lpw4_rule (fun x3 x5 ce wi => ∃ j, j ≤ n ∧ x3 = lN (ysA a j) ∧ x5 = nI j ∧ Ar (p 27) ce (ysC p a j) ∧ Ar (p 27) wi (ysW p a j)) (fun _ x5 _ _ => 61 - x5.toNatClampNeg) ?_ (lN a) 0 _ _ ⟨0, Nat.zero_le _, rfl, rfl, a5.cpy (m := 7) h7, a8.cpy (m := 7) h7⟩
  intro B x3 x5 ce wi hx hB
  obtain ⟨j, hj, rfl, rfl, hce, hwi⟩ := hx
  by_cases e : j = n
  · subst e
    refine ⟨fun _ => ?_, fun z => absurd (nI_le (Nat.le_refl _) (by omega)) z⟩
    exact s_lapsedOf h7 h7 (by omega) hwi (fun i hi => by have := ysW_le hI a j i hi; omega) (hQ ce wi)
  have hj : j < n := by omega
  refine ⟨fun z => absurd z (nI_ge hj (by omega)), fun _ => ?_⟩
  have hA := ysA_lt (show a < 2147483648 by omega) (j + 1)
  rw [ys_step (by omega), ys_who hA, ys_cell hA, nI_add]
  simp only [jn1_e]
  have go : ∀ ce', Ar (p 27) ce' (ysC p a (j + 1)) → wp_Pa_wearDown (nI (p 16 + j)) 7 7 (nI (p 17)) (nI (p 27)) (nI (p 15)) faKind flCell flKind flStr ce' wi (fun s_wills_18 => B (lN (ysA a (j + 1))) (nI j + 1) ce' s_wills_18) := by
    intro ce' hce'
    refine s_wearDown hI.2.1 a10 a9 a11 h7 h7 h7 (Nat.le_refl _) (Nat.le_refl _) a6 hce' hwi (fun i hi => (hI.2.2.1 i hi).1) (ysC_lt hI a (j + 1)) (ysW_le hI a j) (by omega) (by omega) (fun wi' hw' => ?_)
    rw [nI_1]
    exact hB _ _ _ _ ⟨j + 1, by omega, rfl, rfl, hce', hw'⟩ (by rw [nI_clamp (by omega), nI_clamp (by omega)]; omega)
  have hm7 := Nat.mod_lt (ysA a (j + 1) / 65536) (show 0 < 7 by omega)
  refine ⟨fun z => go ce ?_, fun z => ⟨vp_in_nI (by omega) (by omega), go _ ?_⟩⟩
  · have z' := (nI_leI (by omega) (by omega)).mp z
    intro i hi
    rw [hce i hi]
    simp only [ysC]
    rw [if_neg (by omega)]
  · have z' : ¬ p 27 ≤ ysA a (j + 1) / 65536 % 7 := fun y => z ((nI_leI (by omega) (by omega)).mpr y)
    rw [nI_clamp (by omega)]
    intro i hi
    have := Ar.up hce (ysA a (j + 1) / 65536 % 7) (ysA a (j + 1) / 1048576 % 25) i hi
    rw [this]
    simp only [ysC]
    rw [if_pos (by omega)]
set_option maxHeartbeats 4000000 in
set_option maxRecDepth 100000 in
theorem po_years {x_textLength : Int32} {x_above : Int64} {x_below : Int64} {x_timesBad : Int32} {x_timesNo : Int32} {x_timesFull : Int32} {x_foresight_cells : Nat → Int32} {x_foresight_wills : Nat → Int32} {x_images_0_flitchCount : Int32} {x_images_0_familyCount : Int32} {x_images_0_hung : Int32} {x_images_0_day : Int32} {x_images_0_familyCell : Nat → Int32} {x_images_0_familyKind : Nat → Int32} {x_images_0_familySide : Nat → Int32} {x_images_0_familyWill : Nat → Int32} {x_images_0_flitchCell : Nat → Int32} {x_images_0_flitchKind : Nat → Int32} {x_images_0_flitchStrength : Nat → Int32} {x_images_0_marks_size : Int32} {x_images_0_marks_numbers : Nat → Int32} {x_images_0_notes_size : Int32} {x_images_0_notes_numbers : Nat → Int32} {x_images_0_past_size : Int32} {x_images_0_past_numbers : Nat → Int32} {x_images_0_sightings_size : Int32} {x_images_0_sightings_numbers : Nat → Int32} {x_images_1_flitchCount : Int32} {x_images_1_familyCount : Int32} {x_images_1_hung : Int32} {x_images_1_day : Int32} {x_images_1_familyCell : Nat → Int32} {x_images_1_familyKind : Nat → Int32} {x_images_1_familySide : Nat → Int32} {x_images_1_familyWill : Nat → Int32} {x_images_1_flitchCell : Nat → Int32} {x_images_1_flitchKind : Nat → Int32} {x_images_1_flitchStrength : Nat → Int32} {x_images_1_marks_size : Int32} {x_images_1_marks_numbers : Nat → Int32} {x_images_1_notes_size : Int32} {x_images_1_notes_numbers : Nat → Int32} {x_images_1_past_size : Int32} {x_images_1_past_numbers : Nat → Int32} {x_images_1_sightings_size : Int32} {x_images_1_sightings_numbers : Nat → Int32} {x_kept : Nat → Int32} {x_now_flitchCount : Int32} {x_now_familyCount : Int32} {x_now_hung : Int32} {x_now_day : Int32} {x_now_familyCell : Nat → Int32} {x_now_familyKind : Nat → Int32} {x_now_familySide : Nat → Int32} {x_now_familyWill : Nat → Int32} {x_now_flitchCell : Nat → Int32} {x_now_flitchKind : Nat → Int32} {x_now_flitchStrength : Nat → Int32} {x_now_marks_width : Int32} {x_now_marks_limit : Int32} {x_now_marks_size : Int32} {x_now_marks_numbers : Nat → Int32} {x_now_notes_width : Int32} {x_now_notes_limit : Int32} {x_now_notes_size : Int32} {x_now_notes_numbers : Nat → Int32} {x_now_past_width : Int32} {x_now_past_limit : Int32} {x_now_past_size : Int32} {x_now_past_numbers : Nat → Int32} {x_now_sightings_width : Int32} {x_now_sightings_limit : Int32} {x_now_sightings_size : Int32} {x_now_sightings_numbers : Nat → Int32} {x_text : Nat → Int32} {m_above : Int64} {m_below : Int64} {m_length : Int32} {m_isKept : Nat → Int32} {m_refused : Nat → Int32} {m_row : Nat → Int32} {m_text : Nat → Int32} {m_words : Nat → Int32} (h : Rel x_textLength x_above x_below x_timesBad x_timesNo x_timesFull x_images_0_flitchCount x_images_0_familyCount x_images_0_hung x_images_0_day x_images_0_familyCell x_images_0_familyKind x_images_0_familySide x_images_0_familyWill x_images_0_flitchCell x_images_0_flitchKind x_images_0_flitchStrength x_images_0_marks_size x_images_0_marks_numbers x_images_0_notes_size x_images_0_notes_numbers x_images_0_past_size x_images_0_past_numbers x_images_0_sightings_size x_images_0_sightings_numbers x_images_1_flitchCount x_images_1_familyCount x_images_1_hung x_images_1_day x_images_1_familyCell x_images_1_familyKind x_images_1_familySide x_images_1_familyWill x_images_1_flitchCell x_images_1_flitchKind x_images_1_flitchStrength x_images_1_marks_size x_images_1_marks_numbers x_images_1_notes_size x_images_1_notes_numbers x_images_1_past_size x_images_1_past_numbers x_images_1_sightings_size x_images_1_sightings_numbers x_kept x_now_flitchCount x_now_familyCount x_now_hung x_now_day x_now_familyCell x_now_familyKind x_now_familySide x_now_familyWill x_now_flitchCell x_now_flitchKind x_now_flitchStrength x_now_marks_width x_now_marks_limit x_now_marks_size x_now_marks_numbers x_now_notes_width x_now_notes_limit x_now_notes_size x_now_notes_numbers x_now_past_width x_now_past_limit x_now_past_size x_now_past_numbers x_now_sightings_width x_now_sightings_limit x_now_sightings_size x_now_sightings_numbers x_text m_above m_below m_length m_isKept m_refused m_row m_text m_words) (x1 : Int32) (x2 : Int32) : wp_Rc_years x1 x2 x_timesBad x_foresight_cells x_foresight_wills x_now_flitchCount x_now_familyCount x_now_hung x_now_day x_now_familyCell x_now_familyKind x_now_familyWill x_now_flitchCell x_now_flitchKind x_now_flitchStrength (fun (r : Int32) (x_timesBad' : Int32) (x_foresight_cells' : Nat → Int32) (x_foresight_wills' : Nat → Int32) => wp_Mo_years x1 x2 m_refused m_row (fun (r' : Int32) (m_refused' : Nat → Int32) (m_row' : Nat → Int32) => r = r' ∧ Rel x_textLength x_above x_below x_timesBad' x_timesNo x_timesFull x_images_0_flitchCount x_images_0_familyCount x_images_0_hung x_images_0_day x_images_0_familyCell x_images_0_familyKind x_images_0_familySide x_images_0_familyWill x_images_0_flitchCell x_images_0_flitchKind x_images_0_flitchStrength x_images_0_marks_size x_images_0_marks_numbers x_images_0_notes_size x_images_0_notes_numbers x_images_0_past_size x_images_0_past_numbers x_images_0_sightings_size x_images_0_sightings_numbers x_images_1_flitchCount x_images_1_familyCount x_images_1_hung x_images_1_day x_images_1_familyCell x_images_1_familyKind x_images_1_familySide x_images_1_familyWill x_images_1_flitchCell x_images_1_flitchKind x_images_1_flitchStrength x_images_1_marks_size x_images_1_marks_numbers x_images_1_notes_size x_images_1_notes_numbers x_images_1_past_size x_images_1_past_numbers x_images_1_sightings_size x_images_1_sightings_numbers x_kept x_now_flitchCount x_now_familyCount x_now_hung x_now_day x_now_familyCell x_now_familyKind x_now_familySide x_now_familyWill x_now_flitchCell x_now_flitchKind x_now_flitchStrength x_now_marks_width x_now_marks_limit x_now_marks_size x_now_marks_numbers x_now_notes_width x_now_notes_limit x_now_notes_size x_now_notes_numbers x_now_past_width x_now_past_limit x_now_past_size x_now_past_numbers x_now_sightings_width x_now_sightings_limit x_now_sightings_size x_now_sightings_numbers x_text m_above m_below m_length m_isKept m_refused' m_row' m_text m_words)) := by
  obtain ⟨⟨p, hPS, hM⟩, ⟨rfl, rfl, rfl, rfl, rfl, rfl, rfl, rfl⟩, hk0, hk1, hTx, hFr, hRf, hWo⟩ := id h
  obtain ⟨hI, ⟨rfl, rfl, rfl, rfl, a5, a6, a7, a8, a9, a10, a11⟩, hm, hn, hp, hs⟩ := id hPS
  have h7 := hI.1
  have h3 := hI.2.1.1
  have e27 : m_row 27 = nI (p 27) := hM.at0 (by omega)
  have e17 : m_row 17 = nI (p 17) := hM.at0 (by omega)
  have hd := hI.d9
  have h15 := p15_lt hI
  by_cases q1 : inB x1 0 999999 = 0
  · simp only [wp_Rc_years, wp_Mo_years, true_implies, false_implies, not_true_eq_false, not_false_eq_true, and_true, true_and, jn0_e, w_bad, w_no, w_full, w_badApart, w_refB, w_refN, w_refF, w_badAs, w_within, w_in, w_isCell, w_isFamC, w_isFliC, w_isFamM, w_isFliM, q1]; first | exact rel_bad h | exact ⟨rfl, rel_bad h⟩
  by_cases q2 : inB x2 0 60 = 0
  · simp only [wp_Rc_years, wp_Mo_years, true_implies, false_implies, not_true_eq_false, not_false_eq_true, and_true, true_and, jn0_e, w_bad, w_no, w_full, w_badApart, w_refB, w_refN, w_refF, w_badAs, w_within, w_in, w_isCell, w_isFamC, w_isFliC, w_isFamM, w_isFliM, q1, q2]; first | exact rel_bad h | exact ⟨rfl, rel_bad h⟩
  obtain ⟨a, -, ha, rfl⟩ := inB_nI (lo := 0) (hi := 999999) (by omega) (by omega) q1
  obtain ⟨n, -, hn60, rfl⟩ := inB_nI (lo := 0) (hi := 60) (by omega) (by omega) q2
  simp only [wp_Rc_years, wp_Mo_years, true_implies, false_implies, not_true_eq_false, not_false_eq_true, and_true, true_and, jn0_e, w_bad, w_no, w_full, w_badApart, w_refB, w_refN, w_refF, w_badAs, w_within, w_in, w_isCell, w_isFamC, w_isFliC, w_isFamM, w_isFliM, q1, q2]
  refine s_lapsedByYears hI a5 a6 a8 a9 a10 a11 (by omega) hn60 (fun ce wi => ?_)
  refine s_layTried (fun row1 r1 hL1 => ?_)
  have hS1 := tried_Sg hI hM r1
  simp only [fe_e]
  rw [nI_l (by omega)]
  refine lpw3_rule (fun x3 x5 r => ∃ j, j ≤ n ∧ x3 = lN (ysA a j) ∧ x5 = nI j ∧ SgM (p 27) r 753 (ysW p a j) (ysC p a j) (p 15) (p 16 + j) ∧ Lo r m_row) (fun _ x5 _ => 61 - x5.toNatClampNeg) ?_ (lN a) 0 row1 ⟨0, Nat.zero_le _, rfl, rfl, hS1, hL1⟩
  intro B x3 x5 r hx hB
  obtain ⟨j, hj, rfl, rfl, hSj, hLj⟩ := hx
  by_cases e : j = n
  · subst e
    refine ⟨fun _ => ?_, fun z => absurd (nI_le (Nat.le_refl _) (by omega)) z⟩
    have hl := lapN_lt (ysW p a j) (p 27)
    have h128 : (2 : Nat) ^ (p 27) ≤ 128 := Nat.le_trans (Nat.pow_le_pow_right (by omega) h7) (by decide)
    have e760 : r (Int32.toNatClampNeg 760) = nI (lapN (ysW p a j) (p 27)) := hSj.2.1
    rw [e760]
    refine s_bits (by omega) ?_
    rw [bcN_lap8 _ h7]
    exact ⟨rfl, rel_now h p hPS (hLj.mr hM) hLj.hi⟩
  have hj : j < n := by omega
  refine ⟨fun z => absurd z (nI_ge hj (by omega)), fun _ => ?_⟩
  have hA := ysA_lt (show a < 2147483648 by omega) (j + 1)
  have hm7 := Nat.mod_lt (ysA a (j + 1) / 65536) (show 0 < 7 by omega)
  have er27 : r 27 = nI (p 27) := by rw [hLj 27 (by omega)]; exact e27
  rw [ys_step (by omega), ys_who hA, ys_cell hA]
  simp only [jn1_e, er27]
  have go : ∀ r', SgM (p 27) r' 753 (ysW p a j) (ysC p a (j + 1)) (p 15) (p 16 + j) → Lo r' m_row → wp_Mo_passTried 1 r' (fun s_row_23 => B (lN (ysA a (j + 1))) (nI j + 1) s_row_23) := by
    intro r' hS' hL'
    refine s_passTried (n := 1) hI (hL'.mr hM) hS' (ysW_le hI a j) (ysC_lt hI a (j + 1)) (by omega) (by omega) (by omega) (fun row2 hS2 hL2 => ?_)
    rw [nI_1]
    refine hB _ _ _ ⟨j + 1, by omega, rfl, rfl, hS2.cong (fun i hi => ?_), hL2.tr hL'⟩ (by rw [nI_clamp (by omega), nI_clamp (by omega)]; omega)
    simp only [ysW, tkT, Nat.add_zero, Nat.zero_add]
  have e761 : (761 : Int32) + nI (ysA a (j + 1) / 65536 % 7) = nI (761 + ysA a (j + 1) / 65536 % 7) := nI_add 761 _
  rw [e761]
  refine ⟨fun z => go r ?_ hLj, fun z => ⟨vp_in_nI (by omega) (by omega), ?_⟩⟩
  · have z' := (inB_pl1 (by omega) (by omega)).mp z
    have ec : ysC p a (j + 1) = ysC p a j := by simp only [ysC]; rw [if_neg z']
    rw [ec]
    exact hSj
  · have z' : ysA a (j + 1) / 65536 % 7 < p 27 := Classical.not_not.mp (fun y => z ((inB_pl1 (by omega) (by omega)).mpr y))
    rw [nI_clamp (by omega)]
    refine go _ ?_ ((Lo.up (by omega)).tr hLj)
    have ec : ysC p a (j + 1) = updN (ysC p a j) (ysA a (j + 1) / 65536 % 7) (ysA a (j + 1) / 1048576 % 25) := by simp only [ysC]; rw [if_pos z']
    rw [ec]
    obtain ⟨s1, s2, s3, s4, s5⟩ := hSj
    refine ⟨fun i hi => by rw [pk_un (by omega)]; exact s1 i hi, by rw [pk_un (by omega)]; exact s2, fun i hi => ?_, by rw [pk_un (by omega)]; exact s4, by rw [pk_un (by omega)]; exact s5⟩
    by_cases ei : i = ysA a (j + 1) / 65536 % 7
    · rw [ei, show 753 + 8 + ysA a (j + 1) / 65536 % 7 = 761 + ysA a (j + 1) / 65536 % 7 by omega, pk_us, updN_s]
    · rw [pk_un (by omega), updN_n ei]; exact s3 i hi

