def bcI (x0 : Int32) : Int32 :=
  let x1 := x0 - ((iushr x0 1) &&& 1431655765)
  let x2 := (x1 &&& 858993459) + ((iushr x1 2) &&& 858993459)
  let x3 := (x2 + (iushr x2 4)) &&& 252645135
  let x4 := x3 + (iushr x3 8)
  let x5 := x4 + (iushr x4 16)
  x5 &&& 63
set_option maxRecDepth 100000 in
theorem bcI_nI : ∀ h, h < 256 → bcI (nI h) = nI (bcN h 8) := by decide +kernel
theorem w_bitCount {h : Nat} (hh : h < 256) (Q : Int32 → Prop) : wp_Ji_bitCount (nI h) Q = Q (nI (bcN h 8)) := by
  unfold wp_Ji_bitCount
  simp only [fe_e]
  rw [← bcI_nI h hh]
  rfl
def swN (w : Nat → Nat) : Nat → Nat
  | 0 => 0
  | n + 1 => swN w n + w n
theorem swN_tail {w : Nat → Nat} {n : Nat} : ∀ m, n ≤ m → (∀ i, n ≤ i → i < m → w i = 0) → swN w m = swN w n
  | 0, h, _ => by rw [show n = 0 by omega]
  | m + 1, h, hz => by
    by_cases e : n = m + 1
    · rw [e]
    · simp only [swN]
      rw [hz m (by omega) (by omega), Nat.add_zero]
      exact swN_tail m (by omega) (fun i a b => hz i a (by omega))
theorem s_willOfAll {p : Nat → Nat} {A : Nat → Int32} (hI : Inv p) (hA : Ar (p 27) A p) {Q : Int32 → Prop} (hQ : Q (nI (swN p (p 27)))) : wp_Pa_willOfAll (nI (p 27)) A Q := by
  have h7 := hI.1
  unfold wp_Pa_willOfAll
  refine lpw2_run (fun j => nI (swN p j)) nI (p 27) ?_ ?_ 0 (Nat.zero_le _)
  · intro B j hj hB
    refine ⟨fun q => absurd q (nI_ge hj (by omega)), fun _ => ⟨vp_in_nI (by omega) (by omega), ?_⟩⟩
    simp only [fe_e, nI_clamp (show j < 2 ^ 31 by omega), hA j hj, nI_add, nI_1]
    exact hB
  · intro B
    exact ⟨fun _ => hQ, fun q => absurd (nI_le (Nat.le_refl _) (by omega)) q⟩
theorem s_allWill {p : Nat → Nat} {row : Nat → Int32} (hI : Inv p) (hM : MR p row 0) {Q : Int32 → Prop} (hQ : Q (nI (swN p (p 27)))) : wp_Mo_allWill row Q := by
  have h7 := hI.1
  have hz : swN p 7 = swN p (p 27) := swN_tail 7 h7 (fun i a b => by have := hI.2.2.2.1.2.1 i a b; rwa [Nat.zero_add] at this)
  rw [← hz] at hQ
  unfold wp_Mo_allWill
  refine lpw2_run (fun j => nI (swN p j)) nI 7 ?_ ?_ 0 (Nat.zero_le _)
  · intro B j hj hB
    have e0 : (0 : Int32) + nI j = nI j := by rw [show (0 : Int32) = nI 0 from rfl, nI_add, Nat.zero_add]
    refine ⟨fun q => absurd q (nI_ge (b := 7) hj (by decide)), fun _ => ?_⟩
    simp only [e0, fe_e, nI_clamp (show j < 2 ^ 31 by omega), hM.at0 (show j < 251 by omega), nI_add, nI_1]
    exact ⟨vp_in_nI (by omega) (by omega), hB⟩
  · intro B
    exact ⟨fun _ => hQ, fun q => absurd (nI_le (a := 7) (b := 7) (Nat.le_refl _) (by decide)) q⟩
def cnI (p : Nat → Nat) (l : Int32) (w : Nat) : Int32 :=
  if w = 0 then nI (p 27) else if w = 1 then nI (p 17) else if w = 2 then nI (bcN (p 15) 8) else if w = 3 then nI (cntN p (p 27)) else if w = 4 then nI (p 16) else if w = 5 then nI (swN p (p 27)) else if w = 6 then nI (p 42) else if w = 7 then nI (p 58) else if w = 8 then nI (p 89) else if w = 9 then nI (p 114) else l
theorem s_countOfC {p : Nat → Nat} {l mS nS pS sS : Int32} {A : Nat → Int32} (hI : Inv p) (hA : Ar (p 27) A p) (e1 : mS = nI (p 89)) (e2 : nS = nI (p 58)) (e3 : pS = nI (p 114)) (e4 : sS = nI (p 42)) {w : Nat} (hw : w < 11) {Q : Int32 → Prop} (hQ : Q (cnI p l w)) : wp_Rc_countOf (nI w) l (nI (p 17)) (nI (p 27)) (nI (p 15)) (nI (p 16)) A mS nS pS sS Q := by
  have h7 := hI.1
  unfold cnI at hQ
  unfold wp_Rc_countOf wp_Pa_lapsedCount
  rw [w_bitCount (by have := p15_lt hI; omega)]
  have hne : ∀ {b : Nat}, b < 11 → w ≠ b → ¬ nI w = nI b := fun hb h => nI_ne (by omega) (by omega) h
  by_cases h0 : w = 0
  · subst h0; exact ⟨fun _ => hQ, fun z => absurd rfl z⟩
  refine ⟨fun z => absurd z (hne (b := 0) (by omega) h0), fun _ => ?_⟩
  rw [if_neg h0] at hQ
  by_cases h1 : w = 1
  · subst h1; exact ⟨fun _ => hQ, fun z => absurd rfl z⟩
  refine ⟨fun z => absurd z (hne (b := 1) (by omega) h1), fun _ => ?_⟩
  rw [if_neg h1] at hQ
  by_cases h2 : w = 2
  · subst h2; exact ⟨fun _ => hQ, fun z => absurd rfl z⟩
  refine ⟨fun z => absurd z (hne (b := 2) (by omega) h2), fun _ => ?_⟩
  rw [if_neg h2] at hQ
  by_cases h3 : w = 3
  · subst h3; exact ⟨fun _ => s_lapsedOf h7 h7 (by omega) hA (fun i hi => by have := hI.w99 i hi; omega) hQ, fun z => absurd rfl z⟩
  refine ⟨fun z => absurd z (hne (b := 3) (by omega) h3), fun _ => ?_⟩
  rw [if_neg h3] at hQ
  by_cases h4 : w = 4
  · subst h4; exact ⟨fun _ => hQ, fun z => absurd rfl z⟩
  refine ⟨fun z => absurd z (hne (b := 4) (by omega) h4), fun _ => ?_⟩
  rw [if_neg h4] at hQ
  by_cases h5 : w = 5
  · subst h5; exact ⟨fun _ => s_willOfAll hI hA hQ, fun z => absurd rfl z⟩
  refine ⟨fun z => absurd z (hne (b := 5) (by omega) h5), fun _ => ?_⟩
  rw [if_neg h5] at hQ
  by_cases h6 : w = 6
  · subst h6; rw [e4]; exact ⟨fun _ => hQ, fun z => absurd rfl z⟩
  refine ⟨fun z => absurd z (hne (b := 6) (by omega) h6), fun _ => ?_⟩
  rw [if_neg h6] at hQ
  by_cases h7 : w = 7
  · subst h7; rw [e2]; exact ⟨fun _ => hQ, fun z => absurd rfl z⟩
  refine ⟨fun z => absurd z (hne (b := 7) (by omega) h7), fun _ => ?_⟩
  rw [if_neg h7] at hQ
  by_cases h8 : w = 8
  · subst h8; rw [e1]; exact ⟨fun _ => hQ, fun z => absurd rfl z⟩
  refine ⟨fun z => absurd z (hne (b := 8) (by omega) h8), fun _ => ?_⟩
  rw [if_neg h8] at hQ
  by_cases h9 : w = 9
  · subst h9; rw [e3]; exact ⟨fun _ => hQ, fun z => absurd rfl z⟩
  refine ⟨fun z => absurd z (hne (b := 9) (by omega) h9), fun _ => ?_⟩
  rw [if_neg h9] at hQ
  exact hQ
theorem s_countOfM {p : Nat → Nat} {l : Int32} {row : Nat → Int32} (hI : Inv p) (hM : MR p row 0) {w : Nat} (hw : w < 11) {Q : Int32 → Prop} (hQ : Q (cnI p l w)) : wp_Mo_countOf (nI w) l row Q := by
  have h7 := hI.1
  unfold cnI at hQ
  unfold wp_Mo_countOf
  have e27 : row (Int32.toNatClampNeg 27) = nI (p 27) := hM.at0 (j := 27) (by omega)
  have e17 : row (Int32.toNatClampNeg 17) = nI (p 17) := hM.at0 (j := 17) (by omega)
  have e15 : row (Int32.toNatClampNeg 15) = nI (p 15) := hM.at0 (j := 15) (by omega)
  have e16 : row (Int32.toNatClampNeg 16) = nI (p 16) := hM.at0 (j := 16) (by omega)
  have e7 : row (Int32.toNatClampNeg 7) = nI (p 7) := hM.at0 (j := 7) (by omega)
  have e42 : row (Int32.toNatClampNeg 42) = nI (p 42) := hM.at0 (j := 42) (by omega)
  have e58 : row (Int32.toNatClampNeg 58) = nI (p 58) := hM.at0 (j := 58) (by omega)
  have e89 : row (Int32.toNatClampNeg 89) = nI (p 89) := hM.at0 (j := 89) (by omega)
  have e114 : row (Int32.toNatClampNeg 114) = nI (p 114) := hM.at0 (j := 114) (by omega)
  rw [e27, e17, e15, e16, e7, e42, e58, e89, e114]
  have hne : ∀ {b : Nat}, b < 11 → w ≠ b → ¬ nI w = nI b := fun hb h => nI_ne (by omega) (by omega) h
  by_cases h0 : w = 0
  · subst h0; exact ⟨fun _ => hQ, fun z => absurd rfl z⟩
  refine ⟨fun z => absurd z (hne (b := 0) (by omega) h0), fun _ => ?_⟩
  rw [if_neg h0] at hQ
  by_cases h1 : w = 1
  · subst h1; exact ⟨fun _ => hQ, fun z => absurd rfl z⟩
  refine ⟨fun z => absurd z (hne (b := 1) (by omega) h1), fun _ => ?_⟩
  rw [if_neg h1] at hQ
  by_cases h2 : w = 2
  · subst h2; exact ⟨fun _ => s_bits (by have := p15_lt hI; omega) hQ, fun z => absurd rfl z⟩
  refine ⟨fun z => absurd z (hne (b := 2) (by omega) h2), fun _ => ?_⟩
  rw [if_neg h2] at hQ
  by_cases h3 : w = 3
  · subst h3
    rw [if_pos rfl, show cntN p (p 27) = bcN (p 7) 8 by rw [hI.lap, bcN_lap8 p h7]] at hQ
    exact ⟨fun _ => s_bits (by have := lap_lt hI; omega) hQ, fun z => absurd rfl z⟩
  refine ⟨fun z => absurd z (hne (b := 3) (by omega) h3), fun _ => ?_⟩
  rw [if_neg h3] at hQ
  by_cases h4 : w = 4
  · subst h4; exact ⟨fun _ => hQ, fun z => absurd rfl z⟩
  refine ⟨fun z => absurd z (hne (b := 4) (by omega) h4), fun _ => ?_⟩
  rw [if_neg h4] at hQ
  by_cases h5 : w = 5
  · subst h5; exact ⟨fun _ => s_allWill hI hM hQ, fun z => absurd rfl z⟩
  refine ⟨fun z => absurd z (hne (b := 5) (by omega) h5), fun _ => ?_⟩
  rw [if_neg h5] at hQ
  by_cases h6 : w = 6
  · subst h6; exact ⟨fun _ => hQ, fun z => absurd rfl z⟩
  refine ⟨fun z => absurd z (hne (b := 6) (by omega) h6), fun _ => ?_⟩
  rw [if_neg h6] at hQ
  by_cases h7 : w = 7
  · subst h7; exact ⟨fun _ => hQ, fun z => absurd rfl z⟩
  refine ⟨fun z => absurd z (hne (b := 7) (by omega) h7), fun _ => ?_⟩
  rw [if_neg h7] at hQ
  by_cases h8 : w = 8
  · subst h8; exact ⟨fun _ => hQ, fun z => absurd rfl z⟩
  refine ⟨fun z => absurd z (hne (b := 8) (by omega) h8), fun _ => ?_⟩
  rw [if_neg h8] at hQ
  by_cases h9 : w = 9
  · subst h9; exact ⟨fun _ => hQ, fun z => absurd rfl z⟩
  refine ⟨fun z => absurd z (hne (b := 9) (by omega) h9), fun _ => ?_⟩
  rw [if_neg h9] at hQ
  exact hQ
set_option maxHeartbeats 4000000 in
set_option maxRecDepth 100000 in
theorem po_count {x_textLength : Int32} {x_above : Int64} {x_below : Int64} {x_timesBad : Int32} {x_timesNo : Int32} {x_timesFull : Int32} {x_images_0_flitchCount : Int32} {x_images_0_familyCount : Int32} {x_images_0_hung : Int32} {x_images_0_day : Int32} {x_images_0_familyCell : Nat → Int32} {x_images_0_familyKind : Nat → Int32} {x_images_0_familySide : Nat → Int32} {x_images_0_familyWill : Nat → Int32} {x_images_0_flitchCell : Nat → Int32} {x_images_0_flitchKind : Nat → Int32} {x_images_0_flitchStrength : Nat → Int32} {x_images_0_marks_size : Int32} {x_images_0_marks_numbers : Nat → Int32} {x_images_0_notes_size : Int32} {x_images_0_notes_numbers : Nat → Int32} {x_images_0_past_size : Int32} {x_images_0_past_numbers : Nat → Int32} {x_images_0_sightings_size : Int32} {x_images_0_sightings_numbers : Nat → Int32} {x_images_1_flitchCount : Int32} {x_images_1_familyCount : Int32} {x_images_1_hung : Int32} {x_images_1_day : Int32} {x_images_1_familyCell : Nat → Int32} {x_images_1_familyKind : Nat → Int32} {x_images_1_familySide : Nat → Int32} {x_images_1_familyWill : Nat → Int32} {x_images_1_flitchCell : Nat → Int32} {x_images_1_flitchKind : Nat → Int32} {x_images_1_flitchStrength : Nat → Int32} {x_images_1_marks_size : Int32} {x_images_1_marks_numbers : Nat → Int32} {x_images_1_notes_size : Int32} {x_images_1_notes_numbers : Nat → Int32} {x_images_1_past_size : Int32} {x_images_1_past_numbers : Nat → Int32} {x_images_1_sightings_size : Int32} {x_images_1_sightings_numbers : Nat → Int32} {x_kept : Nat → Int32} {x_now_flitchCount : Int32} {x_now_familyCount : Int32} {x_now_hung : Int32} {x_now_day : Int32} {x_now_familyCell : Nat → Int32} {x_now_familyKind : Nat → Int32} {x_now_familySide : Nat → Int32} {x_now_familyWill : Nat → Int32} {x_now_flitchCell : Nat → Int32} {x_now_flitchKind : Nat → Int32} {x_now_flitchStrength : Nat → Int32} {x_now_marks_width : Int32} {x_now_marks_limit : Int32} {x_now_marks_size : Int32} {x_now_marks_numbers : Nat → Int32} {x_now_notes_width : Int32} {x_now_notes_limit : Int32} {x_now_notes_size : Int32} {x_now_notes_numbers : Nat → Int32} {x_now_past_width : Int32} {x_now_past_limit : Int32} {x_now_past_size : Int32} {x_now_past_numbers : Nat → Int32} {x_now_sightings_width : Int32} {x_now_sightings_limit : Int32} {x_now_sightings_size : Int32} {x_now_sightings_numbers : Nat → Int32} {x_text : Nat → Int32} {m_above : Int64} {m_below : Int64} {m_length : Int32} {m_isKept : Nat → Int32} {m_refused : Nat → Int32} {m_row : Nat → Int32} {m_text : Nat → Int32} {m_words : Nat → Int32} (h : Rel x_textLength x_above x_below x_timesBad x_timesNo x_timesFull x_images_0_flitchCount x_images_0_familyCount x_images_0_hung x_images_0_day x_images_0_familyCell x_images_0_familyKind x_images_0_familySide x_images_0_familyWill x_images_0_flitchCell x_images_0_flitchKind x_images_0_flitchStrength x_images_0_marks_size x_images_0_marks_numbers x_images_0_notes_size x_images_0_notes_numbers x_images_0_past_size x_images_0_past_numbers x_images_0_sightings_size x_images_0_sightings_numbers x_images_1_flitchCount x_images_1_familyCount x_images_1_hung x_images_1_day x_images_1_familyCell x_images_1_familyKind x_images_1_familySide x_images_1_familyWill x_images_1_flitchCell x_images_1_flitchKind x_images_1_flitchStrength x_images_1_marks_size x_images_1_marks_numbers x_images_1_notes_size x_images_1_notes_numbers x_images_1_past_size x_images_1_past_numbers x_images_1_sightings_size x_images_1_sightings_numbers x_kept x_now_flitchCount x_now_familyCount x_now_hung x_now_day x_now_familyCell x_now_familyKind x_now_familySide x_now_familyWill x_now_flitchCell x_now_flitchKind x_now_flitchStrength x_now_marks_width x_now_marks_limit x_now_marks_size x_now_marks_numbers x_now_notes_width x_now_notes_limit x_now_notes_size x_now_notes_numbers x_now_past_width x_now_past_limit x_now_past_size x_now_past_numbers x_now_sightings_width x_now_sightings_limit x_now_sightings_size x_now_sightings_numbers x_text m_above m_below m_length m_isKept m_refused m_row m_text m_words) (x1 : Int32) : wp_Rc_count x1 x_textLength x_timesBad x_now_flitchCount x_now_familyCount x_now_hung x_now_day x_now_familyWill x_now_marks_size x_now_notes_size x_now_past_size x_now_sightings_size (fun (r : Int32) (x_timesBad' : Int32) => wp_Mo_count x1 m_length m_refused m_row (fun (r' : Int32) (m_refused' : Nat → Int32) => r = r' ∧ Rel x_textLength x_above x_below x_timesBad' x_timesNo x_timesFull x_images_0_flitchCount x_images_0_familyCount x_images_0_hung x_images_0_day x_images_0_familyCell x_images_0_familyKind x_images_0_familySide x_images_0_familyWill x_images_0_flitchCell x_images_0_flitchKind x_images_0_flitchStrength x_images_0_marks_size x_images_0_marks_numbers x_images_0_notes_size x_images_0_notes_numbers x_images_0_past_size x_images_0_past_numbers x_images_0_sightings_size x_images_0_sightings_numbers x_images_1_flitchCount x_images_1_familyCount x_images_1_hung x_images_1_day x_images_1_familyCell x_images_1_familyKind x_images_1_familySide x_images_1_familyWill x_images_1_flitchCell x_images_1_flitchKind x_images_1_flitchStrength x_images_1_marks_size x_images_1_marks_numbers x_images_1_notes_size x_images_1_notes_numbers x_images_1_past_size x_images_1_past_numbers x_images_1_sightings_size x_images_1_sightings_numbers x_kept x_now_flitchCount x_now_familyCount x_now_hung x_now_day x_now_familyCell x_now_familyKind x_now_familySide x_now_familyWill x_now_flitchCell x_now_flitchKind x_now_flitchStrength x_now_marks_width x_now_marks_limit x_now_marks_size x_now_marks_numbers x_now_notes_width x_now_notes_limit x_now_notes_size x_now_notes_numbers x_now_past_width x_now_past_limit x_now_past_size x_now_past_numbers x_now_sightings_width x_now_sightings_limit x_now_sightings_size x_now_sightings_numbers x_text m_above m_below m_length m_isKept m_refused' m_row m_text m_words)) := by
  obtain ⟨⟨p, hPS, hM⟩, ⟨rfl, rfl, rfl, rfl, rfl, rfl, rfl, rfl⟩, hk0, hk1, hTx, hFr, hRf, hWo⟩ := id h
  obtain ⟨hI, ⟨rfl, rfl, rfl, rfl, a5, a6, a7, a8, a9, a10, a11⟩, hm, hn, hp, hs⟩ := id hPS
  have h7 := hI.1
  have h3 := hI.2.1.1
  have e27 : m_row 27 = nI (p 27) := hM.at0 (by omega)
  have e17 : m_row 17 = nI (p 17) := hM.at0 (by omega)
  have hl := hTx.1
  by_cases q1 : inB x1 0 10 = 0
  · simp only [wp_Rc_count, wp_Mo_count, true_implies, false_implies, not_true_eq_false, not_false_eq_true, and_true, true_and, jn0_e, w_bad, w_no, w_full, w_badApart, w_refB, w_refN, w_refF, w_badAs, w_within, w_in, w_isCell, w_isFamC, w_isFliC, w_isFamM, w_isFliM, q1]; first | exact rel_bad h | exact ⟨rfl, rel_bad h⟩
  obtain ⟨w, -, hw, rfl⟩ := inB_nI (lo := 0) (hi := 10) (by omega) (by omega) q1
  simp only [wp_Rc_count, wp_Mo_count, true_implies, false_implies, not_true_eq_false, not_false_eq_true, and_true, true_and, jn0_e, w_bad, w_no, w_full, w_badApart, w_refB, w_refN, w_refF, w_badAs, w_within, w_in, w_isCell, w_isFamC, w_isFliC, w_isFamM, w_isFliM, q1]
  refine s_countOfC hI a8 hm.1 hn.1 hp.1 hs.1 (by omega) ?_
  refine s_countOfM hI hM (by omega) ⟨by rw [hl], h⟩

def dgL (a : Int64) (f : Nat → Int32) : Nat → Int64
  | 0 => a
  | n + 1 => 31 * dgL a f n + Int32.toInt64 (f n)
theorem dgL_add (a : Int64) (f : Nat → Int32) (m : Nat) : ∀ n, dgL a f (m + n) = dgL (dgL a f m) (fun j => f (m + j)) n
  | 0 => rfl
  | n + 1 => by
    show 31 * dgL a f (m + n) + _ = 31 * dgL (dgL a f m) (fun j => f (m + j)) n + _
    rw [dgL_add a f m n]
    rfl
theorem dgL_cong (a : Int64) {f g : Nat → Int32} : ∀ n, (∀ j, j < n → f j = g j) → dgL a f n = dgL a g n
  | 0, _ => rfl
  | n + 1, h => by simp only [dgL]; rw [dgL_cong a n (fun j hj => h j (by omega)), h n (by omega)]
theorem s_rwDig {a : Int64} {cap n W : Nat} {nu : Nat → Int32} {sz w : Int32} (e : sz = nI n) (ew : w = nI W) (hc : n * W ≤ cap) (hcap : cap < 2 ^ 31) {Q : Int64 → Prop} (hQ : Q (dgL a nu (n * W))) : wp_Rw_digestOn a cap w sz nu Q := by
  subst e; subst ew
  unfold wp_Rw_digestOn
  rw [pk_mul]
  refine lpw2_run (fun j => dgL a nu j) nI (n * W) ?_ ?_ 0 (Nat.zero_le _)
  · intro B j hj hB
    refine ⟨fun q => absurd q (nI_ge hj (by omega)), fun _ => ⟨vp_in_nI (by omega) (by omega), ?_⟩⟩
    simp only [fe_e, nI_clamp (show j < 2 ^ 31 by omega), nI_1]
    exact hB
  · intro B
    exact ⟨fun _ => hQ, fun q => absurd (nI_le (Nat.le_refl _) (by omega)) q⟩
theorem s_join {a : Int64} {b n : Nat} {row : Nat → Int32} {x3 x4 : Int32} (e : x3 = nI b) (ew : x4 = nI n) (hc : b + n ≤ 770) {Q : Int64 → Prop} (hQ : Q (dgL a (fun j => row (b + j)) n)) : wp_Mo_join a x3 x4 row Q := by
  subst e; subst ew
  unfold wp_Mo_join
  rw [nI_add]
  refine lpw2_run (fun j => dgL a (fun j => row (b + j)) j) (fun j => nI (b + j)) n ?_ ?_ 0 (Nat.zero_le _)
  · intro B j hj hB
    refine ⟨fun q => absurd q (nI_ge (by omega) (by omega)), fun _ => ⟨vp_in_nI (by omega) (by omega), ?_⟩⟩
    simp only [fe_e, nI_clamp (show b + j < 2 ^ 31 by omega), nI_1]
    exact hB
  · intro B
    exact ⟨fun _ => hQ, fun q => absurd (nI_le (Nat.le_refl _) (by omega)) q⟩
def dg1 (p : Nat → Nat) (l : Int32) : Int64 := dgL 1667 (cnI p l) 11
def dg2 (p : Nat → Nat) (a : Int64) : Int64 := dgL a (fun j => nI (abN p (j / 4) (j % 4))) (4 * p 17)
def dg3 (p : Nat → Nat) (a : Int64) : Int64 := dgL a (fun j => nI (ofN p (j / 5) (j % 5))) (5 * p 27)
def dg4 (p : Nat → Nat) (a : Int64) : Int64 := dgL (dgL (dgL a (fun j => nI (p (43 + j))) (3 * p 42)) (fun j => nI (p (59 + j))) (5 * p 58)) (fun j => nI (p (90 + j))) (4 * p 89)
theorem s_digM {p : Nat → Nat} {m_row : Nat → Int32} {m_above m_below x_above x_below : Int64} {m_length x_textLength : Int32} (hI : Inv p) (hM : MR p m_row 0) (hl : x_textLength = m_length) (hf1 : x_above = m_above) (hf2 : x_below = m_below) {R : Prop} (h : R) : wp_Mo_digest m_above m_below m_length m_row (fun r' => 31 * (31 * dg4 p (dg3 p (dg2 p (dg1 p x_textLength))) + x_above) + x_below = r' ∧ R) := by
  have h7 := hI.1
  have h3 := hI.2.1.1
  have b42 := hI.2.2.2.2.1.1
  have b58 := hI.2.2.2.2.2.1.1
  have b89 := hI.2.2.2.2.2.2.1.1
  have e27' : m_row (Int32.toNatClampNeg 27) = nI (p 27) := hM.at0 (j := 27) (by omega)
  have e17' : m_row (Int32.toNatClampNeg 17) = nI (p 17) := hM.at0 (j := 17) (by omega)
  have e42 : m_row (Int32.toNatClampNeg 42) = nI (p 42) := hM.at0 (j := 42) (by omega)
  have e58 : m_row (Int32.toNatClampNeg 58) = nI (p 58) := hM.at0 (j := 58) (by omega)
  have e89 : m_row (Int32.toNatClampNeg 89) = nI (p 89) := hM.at0 (j := 89) (by omega)
  unfold wp_Mo_digest
  rw [← hl, ← hf1, ← hf2]
  simp only [e27', e17', e42, e58, e89, show (4 : Int32) * nI (p 17) = nI (4 * p 17) from pk_mul 4 _, show (5 : Int32) * nI (p 27) = nI (5 * p 27) from pk_mul 5 _, show (3 : Int32) * nI (p 42) = nI (3 * p 42) from pk_mul 3 _, show (5 : Int32) * nI (p 58) = nI (5 * p 58) from pk_mul 5 _, show (4 : Int32) * nI (p 89) = nI (4 * p 89) from pk_mul 4 _]
  refine lpw2_run (fun j => dgL 1667 (cnI p x_textLength) j) nI 11 ?_ ?_ 0 (Nat.zero_le _)
  · intro B j hj hB
    refine ⟨fun q => absurd q (nI_ge (b := 11) hj (by decide)), fun _ => ?_⟩
    refine s_countOfM hI hM hj ?_
    simp only [fe_e, nI_1]
    exact hB
  · intro B
    refine ⟨fun _ => ?_, fun q => absurd (nI_le (a := 11) (b := 11) (Nat.le_refl _) (by decide)) q⟩
    refine lpw2_run (fun j => dgL (dg1 p x_textLength) (fun j => nI (abN p (j / 4) (j % 4))) j) nI (4 * p 17) ?_ ?_ 0 (Nat.zero_le _)
    · intro B j hj hB
      refine ⟨fun q => absurd q (nI_ge hj (by omega)), fun _ => ?_⟩
      rw [show (4 : Int32) = nI 4 from rfl, pk_div (by omega) (by omega) (by omega), irem_nI (by omega) (by omega) (by omega)]
      refine s_toldAbout hI hM (by omega) (by omega) ?_
      simp only [fe_e, nI_1]
      exact hB
    · intro B
      refine ⟨fun _ => ?_, fun q => absurd (nI_le (Nat.le_refl _) (by omega)) q⟩
      refine lpw2_run (fun j => dgL (dg2 p (dg1 p x_textLength)) (fun j => nI (ofN p (j / 5) (j % 5))) j) nI (5 * p 27) ?_ ?_ 0 (Nat.zero_le _)
      · intro B j hj hB
        refine ⟨fun q => absurd q (nI_ge hj (by omega)), fun _ => ?_⟩
        rw [show (5 : Int32) = nI 5 from rfl, pk_div (by omega) (by omega) (by omega), irem_nI (by omega) (by omega) (by omega)]
        refine s_toldOf hI hM (by omega) (by omega) ?_
        rw [if_pos (by omega)]
        simp only [fe_e, nI_1]
        exact hB
      · intro B
        refine ⟨fun _ => ?_, fun q => absurd (nI_le (Nat.le_refl _) (by omega)) q⟩
        refine s_join (b := 43) rfl rfl (by omega) (s_join (b := 59) rfl rfl (by omega) (s_join (b := 90) rfl rfl (by omega) ⟨?_, h⟩))
        unfold dg4
        rw [dgL_cong _ (3 * p 42) (fun j hj => (hM.at0 (j := 43 + j) (by omega)).symm), dgL_cong _ (5 * p 58) (fun j hj => (hM.at0 (j := 59 + j) (by omega)).symm), dgL_cong _ (4 * p 89) (fun j hj => (hM.at0 (j := 90 + j) (by omega)).symm)]
        rfl
set_option maxHeartbeats 4000000 in
set_option maxRecDepth 100000 in
theorem po_digest {x_textLength : Int32} {x_above : Int64} {x_below : Int64} {x_timesBad : Int32} {x_timesNo : Int32} {x_timesFull : Int32} {x_images_0_flitchCount : Int32} {x_images_0_familyCount : Int32} {x_images_0_hung : Int32} {x_images_0_day : Int32} {x_images_0_familyCell : Nat → Int32} {x_images_0_familyKind : Nat → Int32} {x_images_0_familySide : Nat → Int32} {x_images_0_familyWill : Nat → Int32} {x_images_0_flitchCell : Nat → Int32} {x_images_0_flitchKind : Nat → Int32} {x_images_0_flitchStrength : Nat → Int32} {x_images_0_marks_size : Int32} {x_images_0_marks_numbers : Nat → Int32} {x_images_0_notes_size : Int32} {x_images_0_notes_numbers : Nat → Int32} {x_images_0_past_size : Int32} {x_images_0_past_numbers : Nat → Int32} {x_images_0_sightings_size : Int32} {x_images_0_sightings_numbers : Nat → Int32} {x_images_1_flitchCount : Int32} {x_images_1_familyCount : Int32} {x_images_1_hung : Int32} {x_images_1_day : Int32} {x_images_1_familyCell : Nat → Int32} {x_images_1_familyKind : Nat → Int32} {x_images_1_familySide : Nat → Int32} {x_images_1_familyWill : Nat → Int32} {x_images_1_flitchCell : Nat → Int32} {x_images_1_flitchKind : Nat → Int32} {x_images_1_flitchStrength : Nat → Int32} {x_images_1_marks_size : Int32} {x_images_1_marks_numbers : Nat → Int32} {x_images_1_notes_size : Int32} {x_images_1_notes_numbers : Nat → Int32} {x_images_1_past_size : Int32} {x_images_1_past_numbers : Nat → Int32} {x_images_1_sightings_size : Int32} {x_images_1_sightings_numbers : Nat → Int32} {x_kept : Nat → Int32} {x_now_flitchCount : Int32} {x_now_familyCount : Int32} {x_now_hung : Int32} {x_now_day : Int32} {x_now_familyCell : Nat → Int32} {x_now_familyKind : Nat → Int32} {x_now_familySide : Nat → Int32} {x_now_familyWill : Nat → Int32} {x_now_flitchCell : Nat → Int32} {x_now_flitchKind : Nat → Int32} {x_now_flitchStrength : Nat → Int32} {x_now_marks_width : Int32} {x_now_marks_limit : Int32} {x_now_marks_size : Int32} {x_now_marks_numbers : Nat → Int32} {x_now_notes_width : Int32} {x_now_notes_limit : Int32} {x_now_notes_size : Int32} {x_now_notes_numbers : Nat → Int32} {x_now_past_width : Int32} {x_now_past_limit : Int32} {x_now_past_size : Int32} {x_now_past_numbers : Nat → Int32} {x_now_sightings_width : Int32} {x_now_sightings_limit : Int32} {x_now_sightings_size : Int32} {x_now_sightings_numbers : Nat → Int32} {x_text : Nat → Int32} {m_above : Int64} {m_below : Int64} {m_length : Int32} {m_isKept : Nat → Int32} {m_refused : Nat → Int32} {m_row : Nat → Int32} {m_text : Nat → Int32} {m_words : Nat → Int32} (h : Rel x_textLength x_above x_below x_timesBad x_timesNo x_timesFull x_images_0_flitchCount x_images_0_familyCount x_images_0_hung x_images_0_day x_images_0_familyCell x_images_0_familyKind x_images_0_familySide x_images_0_familyWill x_images_0_flitchCell x_images_0_flitchKind x_images_0_flitchStrength x_images_0_marks_size x_images_0_marks_numbers x_images_0_notes_size x_images_0_notes_numbers x_images_0_past_size x_images_0_past_numbers x_images_0_sightings_size x_images_0_sightings_numbers x_images_1_flitchCount x_images_1_familyCount x_images_1_hung x_images_1_day x_images_1_familyCell x_images_1_familyKind x_images_1_familySide x_images_1_familyWill x_images_1_flitchCell x_images_1_flitchKind x_images_1_flitchStrength x_images_1_marks_size x_images_1_marks_numbers x_images_1_notes_size x_images_1_notes_numbers x_images_1_past_size x_images_1_past_numbers x_images_1_sightings_size x_images_1_sightings_numbers x_kept x_now_flitchCount x_now_familyCount x_now_hung x_now_day x_now_familyCell x_now_familyKind x_now_familySide x_now_familyWill x_now_flitchCell x_now_flitchKind x_now_flitchStrength x_now_marks_width x_now_marks_limit x_now_marks_size x_now_marks_numbers x_now_notes_width x_now_notes_limit x_now_notes_size x_now_notes_numbers x_now_past_width x_now_past_limit x_now_past_size x_now_past_numbers x_now_sightings_width x_now_sightings_limit x_now_sightings_size x_now_sightings_numbers x_text m_above m_below m_length m_isKept m_refused m_row m_text m_words) : wp_Rc_digest x_textLength x_above x_below x_now_flitchCount x_now_familyCount x_now_hung x_now_day x_now_familyCell x_now_familyKind x_now_familySide x_now_familyWill x_now_flitchCell x_now_flitchKind x_now_flitchStrength x_now_marks_width x_now_marks_size x_now_marks_numbers x_now_notes_width x_now_notes_size x_now_notes_numbers x_now_past_size x_now_sightings_width x_now_sightings_size x_now_sightings_numbers (fun (r : Int64)  => wp_Mo_digest m_above m_below m_length m_row (fun (r' : Int64)  => r = r' ∧ Rel x_textLength x_above x_below x_timesBad x_timesNo x_timesFull x_images_0_flitchCount x_images_0_familyCount x_images_0_hung x_images_0_day x_images_0_familyCell x_images_0_familyKind x_images_0_familySide x_images_0_familyWill x_images_0_flitchCell x_images_0_flitchKind x_images_0_flitchStrength x_images_0_marks_size x_images_0_marks_numbers x_images_0_notes_size x_images_0_notes_numbers x_images_0_past_size x_images_0_past_numbers x_images_0_sightings_size x_images_0_sightings_numbers x_images_1_flitchCount x_images_1_familyCount x_images_1_hung x_images_1_day x_images_1_familyCell x_images_1_familyKind x_images_1_familySide x_images_1_familyWill x_images_1_flitchCell x_images_1_flitchKind x_images_1_flitchStrength x_images_1_marks_size x_images_1_marks_numbers x_images_1_notes_size x_images_1_notes_numbers x_images_1_past_size x_images_1_past_numbers x_images_1_sightings_size x_images_1_sightings_numbers x_kept x_now_flitchCount x_now_familyCount x_now_hung x_now_day x_now_familyCell x_now_familyKind x_now_familySide x_now_familyWill x_now_flitchCell x_now_flitchKind x_now_flitchStrength x_now_marks_width x_now_marks_limit x_now_marks_size x_now_marks_numbers x_now_notes_width x_now_notes_limit x_now_notes_size x_now_notes_numbers x_now_past_width x_now_past_limit x_now_past_size x_now_past_numbers x_now_sightings_width x_now_sightings_limit x_now_sightings_size x_now_sightings_numbers x_text m_above m_below m_length m_isKept m_refused m_row m_text m_words)) := by
  obtain ⟨⟨p, hPS, hM⟩, ⟨rfl, rfl, rfl, rfl, rfl, rfl, rfl, rfl⟩, hk0, hk1, hTx, hFr, hRf, hWo⟩ := id h
  obtain ⟨hI, ⟨rfl, rfl, rfl, rfl, a5, a6, a7, a8, a9, a10, a11⟩, hm, hn, hp, hs⟩ := id hPS
  have h7 := hI.1
  have h3 := hI.2.1.1
  have e27 : m_row 27 = nI (p 27) := hM.at0 (by omega)
  have e17 : m_row 17 = nI (p 17) := hM.at0 (by omega)
  have hd := hI.d9
  have b42 := hI.2.2.2.2.1.1
  have b58 := hI.2.2.2.2.2.1.1
  have b89 := hI.2.2.2.2.2.2.1.1
  obtain ⟨hl, -⟩ := id hTx
  obtain ⟨hf1, hf2⟩ := id hFr
  have e27' : m_row (Int32.toNatClampNeg 27) = nI (p 27) := e27
  have e17' : m_row (Int32.toNatClampNeg 17) = nI (p 17) := e17
  have e42 : m_row (Int32.toNatClampNeg 42) = nI (p 42) := hM.at0 (j := 42) (by omega)
  have e58 : m_row (Int32.toNatClampNeg 58) = nI (p 58) := hM.at0 (j := 58) (by omega)
  have e89 : m_row (Int32.toNatClampNeg 89) = nI (p 89) := hM.at0 (j := 89) (by omega)
  unfold wp_Rc_digest
  refine lpw2_run (fun j => dgL 1667 (cnI p x_textLength) j) nI 11 ?_ ?_ 0 (Nat.zero_le _)
  · intro B j hj hB
    refine ⟨fun q => absurd q (nI_ge (b := 11) hj (by decide)), fun _ => ?_⟩
    refine s_countOfC hI a8 hm.1 hn.1 hp.1 hs.1 hj ?_
    simp only [fe_e, nI_1]
    exact hB
  · intro B
    refine ⟨fun _ => ?_, fun q => absurd (nI_le (a := 11) (b := 11) (Nat.le_refl _) (by decide)) q⟩
    unfold wp_Pa_digestOn
    refine lpw2_run (fun k => dgL (dg1 p x_textLength) (fun j => nI (abN p (j / 4) (j % 4))) (4 * k)) nI (p 17) ?_ ?_ 0 (Nat.zero_le _)
    · intro B k hk hB
      refine ⟨fun q => absurd q (nI_ge hk (by omega)), fun _ => ?_⟩
      refine lpw2_run (fun w => dgL (dg1 p x_textLength) (fun j => nI (abN p (j / 4) (j % 4))) (4 * k + w)) nI 4 ?_ ?_ 0 (Nat.zero_le _)
      · intro B2 w hw hB2
        refine ⟨fun q => absurd q (nI_ge (b := 4) hw (by decide)), fun _ => ?_⟩
        refine s_fliFact hI rfl a9 a10 a11 hk (by omega) ?_
        simp only [fe_e, nI_1]
        have e : dgL (dg1 p x_textLength) (fun j => nI (abN p (j / 4) (j % 4))) (4 * k + (w + 1)) = 31 * dgL (dg1 p x_textLength) (fun j => nI (abN p (j / 4) (j % 4))) (4 * k + w) + Int32.toInt64 (nI (abN p k w)) := by
          show 31 * dgL _ _ (4 * k + w) + Int32.toInt64 (nI (abN p ((4 * k + w) / 4) ((4 * k + w) % 4))) = _
          rw [show (4 * k + w) / 4 = k by omega, show (4 * k + w) % 4 = w by omega]
        rw [e] at hB2
        exact hB2
      · intro B2
        refine ⟨fun _ => ?_, fun q => absurd (nI_le (a := 4) (b := 4) (Nat.le_refl _) (by decide)) q⟩
        simp only [fe_e, nI_1]
        exact hB
    · intro B
      refine ⟨fun _ => ?_, fun q => absurd (nI_le (Nat.le_refl _) (by omega)) q⟩
      refine lpw2_run (fun k => dgL (dg2 p (dg1 p x_textLength)) (fun j => nI (ofN p (j / 5) (j % 5))) (5 * k)) nI (p 27) ?_ ?_ 0 (Nat.zero_le _)
      · intro B k hk hB
        refine ⟨fun q => absurd q (nI_ge hk (by omega)), fun _ => ?_⟩
        refine lpw2_run (fun w => dgL (dg2 p (dg1 p x_textLength)) (fun j => nI (ofN p (j / 5) (j % 5))) (5 * k + w)) nI 5 ?_ ?_ 0 (Nat.zero_le _)
        · intro B2 w hw hB2
          refine ⟨fun q => absurd q (nI_ge (b := 5) hw (by decide)), fun _ => ?_⟩
          refine s_famFact hI a5 a6 a7 a8 hk (by omega) ?_
          simp only [fe_e, nI_1]
          have e : dgL (dg2 p (dg1 p x_textLength)) (fun j => nI (ofN p (j / 5) (j % 5))) (5 * k + (w + 1)) = 31 * dgL (dg2 p (dg1 p x_textLength)) (fun j => nI (ofN p (j / 5) (j % 5))) (5 * k + w) + Int32.toInt64 (nI (ofN p k w)) := by
            show 31 * dgL _ _ (5 * k + w) + Int32.toInt64 (nI (ofN p ((5 * k + w) / 5) ((5 * k + w) % 5))) = _
            rw [show (5 * k + w) / 5 = k by omega, show (5 * k + w) % 5 = w by omega]
          rw [e] at hB2
          exact hB2
        · intro B2
          refine ⟨fun _ => ?_, fun q => absurd (nI_le (a := 5) (b := 5) (Nat.le_refl _) (by decide)) q⟩
          simp only [fe_e, nI_1]
          exact hB
      · intro B
        refine ⟨fun _ => ?_, fun q => absurd (nI_le (Nat.le_refl _) (by omega)) q⟩
        refine s_rwDig (n := p 42) (W := 3) hs.1 rfl (by omega) (by omega) (s_rwDig (n := p 58) (W := 5) hn.1 rfl (by omega) (by omega) (s_rwDig (n := p 89) (W := 4) hm.1 rfl (by omega) (by omega) ?_))
        simp only [fe_e]
        rw [Nat.mul_comm (p 42) 3, Nat.mul_comm (p 58) 5, Nat.mul_comm (p 89) 4]
        have e4 : dgL (dgL (dgL (dg3 p (dg2 p (dg1 p x_textLength))) x_now_sightings_numbers (3 * p 42)) x_now_notes_numbers (5 * p 58)) x_now_marks_numbers (4 * p 89) = dg4 p (dg3 p (dg2 p (dg1 p x_textLength))) := by
          unfold dg4
          rw [dgL_cong _ (3 * p 42) hs.2, dgL_cong _ (5 * p 58) hn.2, dgL_cong _ (4 * p 89) hm.2]
        have e4' := e4
        unfold dg3 at e4'
        rw [e4']
        exact s_digM hI hM hl hf1 hf2 h

