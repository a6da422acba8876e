theorem cnt_all {p w : Nat → Nat} : ∀ n, (∀ i, i < n → p (35 + i) < 2) → (cntN w n = n ↔ (hdN p w 0 n = false ∧ hdN p w 1 n = false))
  | 0, _ => by simp [cntN, hdN, anyN]
  | n + 1, h => by
    have ih := cnt_all (p := p) (w := w) n (fun i hi => h i (by omega))
    have hs := h n (by omega)
    have hle : ∀ m, cntN w m ≤ m := by
      intro m
      induction m with
      | zero => exact Nat.le_refl _
      | succ m ihm => simp only [cntN]; split <;> omega
    have h1 := hle n
    have e0 : hdN p w 0 (n + 1) = (hdN p w 0 n || decide (w n ≠ 0 ∧ p (35 + n) = 0)) := rfl
    have e1 : hdN p w 1 (n + 1) = (hdN p w 1 n || decide (w n ≠ 0 ∧ p (35 + n) = 1)) := rfl
    rw [e0, e1]
    simp only [cntN]
    by_cases hz : w n = 0
    · simp [hz]
      exact ih
    · rw [if_neg hz]
      constructor
      · intro q; omega
      · intro q
        rcases (show p (35 + n) = 0 ∨ p (35 + n) = 1 by omega) with e | e <;> simp [hz, e] at q
/-- the case has ended -/
def endB (p : Nat → Nat) (t : Nat) : Bool := !(hdN p (wtN p t) 0 (p 27) && hdN p (wtN p t) 1 (p 27))
def endN (p : Nat → Nat) : Nat := fsN (endB p) 61
theorem s_endOfCase {p : Nat → Nat} {flCell flKind flStr faKind faCell faSide faWill tk0 la0 : Nat → Int32} (hI : Inv p) (a5 : Ar (p 27) faCell (fun i => p (8 + i))) (a6 : Ar (p 27) faKind (fun i => p (28 + i))) (a7 : Ar (p 27) faSide (fun i => p (35 + i))) (a8 : Ar (p 27) faWill p) (a9 : Ar (p 17) flCell (fun k => p (21 + k))) (a10 : Ar (p 17) flKind (fun k => p (18 + k))) (a11 : Ar (p 17) flStr (fun k => p (24 + k))) {Q : Int32 → (Nat → Int32) → (Nat → Int32) → Prop}
    (hQ : ∀ la tk, Q (if endN p = 61 then -1 else nI (endN p)) la tk) : wp_Fs_endOfCase la0 (nI (p 17)) (nI (p 27)) (nI (p 15)) (nI (p 16)) faCell faKind faSide faWill flCell flKind flStr tk0 Q := by
  unfold wp_Fs_endOfCase
  refine s_reckonLapses (n := 60) hI a5 a6 a8 a9 a10 a11 (by omega) (fun la tk hl => ?_)
  refine lpw1_rule (fun x => ∃ j, x = nI j ∧ j ≤ 61 ∧ ∀ i, i < j → endB p i = false) (fun x => 62 - x.toNatClampNeg) ?_ 0 ⟨0, rfl, by omega, fun i hi => absurd hi (by omega)⟩
  intro B x hx hB
  obtain ⟨j, rfl, hj, hlo⟩ := hx
  have hQ' := hQ la tk
  by_cases e : j = 61
  · subst e
    have hz : endN p = 61 := fsN_none _ hlo
    rw [if_pos hz] at hQ'
    exact ⟨fun _ => hQ', fun q => absurd (nI_lt (a := 60) (b := 61) (by omega) (by omega)) q⟩
  refine ⟨fun q => absurd q (nI_nlt (b := j) (a := 60) (by omega) (by omega)), fun _ => ?_⟩
  refine s_holdingSides hI a7 (n := 60) (by omega) (by omega) hl ?_
  obtain ⟨-, -, -, -, m3⟩ := mkB_0 (hdN p (wtN p j) 0 (p 27)) (hdN p (wtN p j) 1 (p 27))
  refine ⟨fun q => ?_, fun q => ?_⟩
  · obtain ⟨ha, hb⟩ := m3.mp q
    intro x' ex'
    subst ex'
    rw [nI_1]
    refine hB _ ⟨j + 1, rfl, by omega, fun i hi => ?_⟩ (by rw [nI_clamp (by omega), nI_clamp (by omega)]; omega)
    by_cases ei : i = j
    · subst ei; unfold endB; rw [ha, hb]; rfl
    · exact hlo i (by omega)
  · have hz : endN p = j := by
      refine fsN_at ?_ hlo _ (by omega)
      unfold endB
      cases ha : hdN p (wtN p j) 0 (p 27) <;> cases hb : hdN p (wtN p j) 1 (p 27) <;> simp_all
    rw [hz, if_neg e] at hQ'
    exact hQ'
set_option maxHeartbeats 4000000 in
set_option maxRecDepth 100000 in
theorem po_ends {x_textLength : Int32} {x_above : Int64} {x_below : Int64} {x_timesBad : Int32} {x_timesNo : Int32} {x_timesFull : Int32} {x_foresight_lapses : Nat → Int32} {x_foresight_taken : Nat → Int32} {x_images_0_flitchCount : Int32} {x_images_0_familyCount : Int32} {x_images_0_hung : Int32} {x_images_0_day : Int32} {x_images_0_familyCell : Nat → Int32} {x_images_0_familyKind : Nat → Int32} {x_images_0_familySide : Nat → Int32} {x_images_0_familyWill : Nat → Int32} {x_images_0_flitchCell : Nat → Int32} {x_images_0_flitchKind : Nat → Int32} {x_images_0_flitchStrength : Nat → Int32} {x_images_0_marks_size : Int32} {x_images_0_marks_numbers : Nat → Int32} {x_images_0_notes_size : Int32} {x_images_0_notes_numbers : Nat → Int32} {x_images_0_past_size : Int32} {x_images_0_past_numbers : Nat → Int32} {x_images_0_sightings_size : Int32} {x_images_0_sightings_numbers : Nat → Int32} {x_images_1_flitchCount : Int32} {x_images_1_familyCount : Int32} {x_images_1_hung : Int32} {x_images_1_day : Int32} {x_images_1_familyCell : Nat → Int32} {x_images_1_familyKind : Nat → Int32} {x_images_1_familySide : Nat → Int32} {x_images_1_familyWill : Nat → Int32} {x_images_1_flitchCell : Nat → Int32} {x_images_1_flitchKind : Nat → Int32} {x_images_1_flitchStrength : Nat → Int32} {x_images_1_marks_size : Int32} {x_images_1_marks_numbers : Nat → Int32} {x_images_1_notes_size : Int32} {x_images_1_notes_numbers : Nat → Int32} {x_images_1_past_size : Int32} {x_images_1_past_numbers : Nat → Int32} {x_images_1_sightings_size : Int32} {x_images_1_sightings_numbers : Nat → Int32} {x_kept : Nat → Int32} {x_now_flitchCount : Int32} {x_now_familyCount : Int32} {x_now_hung : Int32} {x_now_day : Int32} {x_now_familyCell : Nat → Int32} {x_now_familyKind : Nat → Int32} {x_now_familySide : Nat → Int32} {x_now_familyWill : Nat → Int32} {x_now_flitchCell : Nat → Int32} {x_now_flitchKind : Nat → Int32} {x_now_flitchStrength : Nat → Int32} {x_now_marks_width : Int32} {x_now_marks_limit : Int32} {x_now_marks_size : Int32} {x_now_marks_numbers : Nat → Int32} {x_now_notes_width : Int32} {x_now_notes_limit : Int32} {x_now_notes_size : Int32} {x_now_notes_numbers : Nat → Int32} {x_now_past_width : Int32} {x_now_past_limit : Int32} {x_now_past_size : Int32} {x_now_past_numbers : Nat → Int32} {x_now_sightings_width : Int32} {x_now_sightings_limit : Int32} {x_now_sightings_size : Int32} {x_now_sightings_numbers : Nat → Int32} {x_text : Nat → Int32} {m_above : Int64} {m_below : Int64} {m_length : Int32} {m_isKept : Nat → Int32} {m_refused : Nat → Int32} {m_row : Nat → Int32} {m_text : Nat → Int32} {m_words : Nat → Int32} (h : Rel x_textLength x_above x_below x_timesBad x_timesNo x_timesFull x_images_0_flitchCount x_images_0_familyCount x_images_0_hung x_images_0_day x_images_0_familyCell x_images_0_familyKind x_images_0_familySide x_images_0_familyWill x_images_0_flitchCell x_images_0_flitchKind x_images_0_flitchStrength x_images_0_marks_size x_images_0_marks_numbers x_images_0_notes_size x_images_0_notes_numbers x_images_0_past_size x_images_0_past_numbers x_images_0_sightings_size x_images_0_sightings_numbers x_images_1_flitchCount x_images_1_familyCount x_images_1_hung x_images_1_day x_images_1_familyCell x_images_1_familyKind x_images_1_familySide x_images_1_familyWill x_images_1_flitchCell x_images_1_flitchKind x_images_1_flitchStrength x_images_1_marks_size x_images_1_marks_numbers x_images_1_notes_size x_images_1_notes_numbers x_images_1_past_size x_images_1_past_numbers x_images_1_sightings_size x_images_1_sightings_numbers x_kept x_now_flitchCount x_now_familyCount x_now_hung x_now_day x_now_familyCell x_now_familyKind x_now_familySide x_now_familyWill x_now_flitchCell x_now_flitchKind x_now_flitchStrength x_now_marks_width x_now_marks_limit x_now_marks_size x_now_marks_numbers x_now_notes_width x_now_notes_limit x_now_notes_size x_now_notes_numbers x_now_past_width x_now_past_limit x_now_past_size x_now_past_numbers x_now_sightings_width x_now_sightings_limit x_now_sightings_size x_now_sightings_numbers x_text m_above m_below m_length m_isKept m_refused m_row m_text m_words) (x1 : Int32) : wp_Rc_ends x1 x_timesBad x_foresight_lapses x_foresight_taken x_now_flitchCount x_now_familyCount x_now_hung x_now_day x_now_familyCell x_now_familyKind x_now_familySide x_now_familyWill x_now_flitchCell x_now_flitchKind x_now_flitchStrength (fun (r : Int32) (x_timesBad' : Int32) (x_foresight_lapses' : Nat → Int32) (x_foresight_taken' : Nat → Int32) => wp_Mo_ends x1 m_refused m_row (fun (r' : Int32) (m_refused' : Nat → Int32) (m_row' : Nat → Int32) => r = r' ∧ Rel x_textLength x_above x_below x_timesBad' x_timesNo x_timesFull x_images_0_flitchCount x_images_0_familyCount x_images_0_hung x_images_0_day x_images_0_familyCell x_images_0_familyKind x_images_0_familySide x_images_0_familyWill x_images_0_flitchCell x_images_0_flitchKind x_images_0_flitchStrength x_images_0_marks_size x_images_0_marks_numbers x_images_0_notes_size x_images_0_notes_numbers x_images_0_past_size x_images_0_past_numbers x_images_0_sightings_size x_images_0_sightings_numbers x_images_1_flitchCount x_images_1_familyCount x_images_1_hung x_images_1_day x_images_1_familyCell x_images_1_familyKind x_images_1_familySide x_images_1_familyWill x_images_1_flitchCell x_images_1_flitchKind x_images_1_flitchStrength x_images_1_marks_size x_images_1_marks_numbers x_images_1_notes_size x_images_1_notes_numbers x_images_1_past_size x_images_1_past_numbers x_images_1_sightings_size x_images_1_sightings_numbers x_kept x_now_flitchCount x_now_familyCount x_now_hung x_now_day x_now_familyCell x_now_familyKind x_now_familySide x_now_familyWill x_now_flitchCell x_now_flitchKind x_now_flitchStrength x_now_marks_width x_now_marks_limit x_now_marks_size x_now_marks_numbers x_now_notes_width x_now_notes_limit x_now_notes_size x_now_notes_numbers x_now_past_width x_now_past_limit x_now_past_size x_now_past_numbers x_now_sightings_width x_now_sightings_limit x_now_sightings_size x_now_sightings_numbers x_text m_above m_below m_length m_isKept m_refused' m_row' m_text m_words)) := by
  obtain ⟨⟨p, hPS, hM⟩, ⟨rfl, rfl, rfl, rfl, rfl, rfl, rfl, rfl⟩, hk0, hk1, hTx, hFr, hRf, hWo⟩ := id h
  obtain ⟨hI, ⟨rfl, rfl, rfl, rfl, a5, a6, a7, a8, a9, a10, a11⟩, hm, hn, hp, hs⟩ := id hPS
  have h7 := hI.1
  have h3 := hI.2.1.1
  have e27 : m_row 27 = nI (p 27) := hM.at0 (by omega)
  have e17 : m_row 17 = nI (p 17) := hM.at0 (by omega)
  have hd := hI.d9
  have h15 := p15_lt hI
  by_cases q1 : inB x1 0 1 = 0
  · simp only [wp_Rc_ends, wp_Mo_ends, true_implies, false_implies, not_true_eq_false, not_false_eq_true, and_true, true_and, jn0_e, w_bad, w_no, w_full, w_badApart, w_refB, w_refN, w_refF, w_badAs, w_within, w_in, w_isCell, w_isFamC, w_isFliC, w_isFamM, w_isFliM, q1]; first | exact rel_bad h | exact ⟨rfl, rel_bad h⟩
  obtain ⟨k, -, hk, rfl⟩ := inB_nI (lo := 0) (hi := 1) (by omega) (by omega) q1
  have hEl : endN p ≤ 61 := fsN_le _ _
  have key : ∀ (R : Int32), R = (if endN p = 61 then -1 else if k = 0 then nI (endN p) else rgI (hdN p (wtN p (endN p)) 0 (p 27)) (hdN p (wtN p (endN p)) 1 (p 27))) → wp_Mo_ends (nI k) m_refused m_row (fun (r' : Int32) (m_refused' : Nat → Int32) (m_row' : Nat → Int32) => R = r' ∧ Rel x_textLength x_above x_below x_timesBad x_timesNo x_timesFull x_images_0_flitchCount x_images_0_familyCount x_images_0_hung x_images_0_day x_images_0_familyCell x_images_0_familyKind x_images_0_familySide x_images_0_familyWill x_images_0_flitchCell x_images_0_flitchKind x_images_0_flitchStrength x_images_0_marks_size x_images_0_marks_numbers x_images_0_notes_size x_images_0_notes_numbers x_images_0_past_size x_images_0_past_numbers x_images_0_sightings_size x_images_0_sightings_numbers x_images_1_flitchCount x_images_1_familyCount x_images_1_hung x_images_1_day x_images_1_familyCell x_images_1_familyKind x_images_1_familySide x_images_1_familyWill x_images_1_flitchCell x_images_1_flitchKind x_images_1_flitchStrength x_images_1_marks_size x_images_1_marks_numbers x_images_1_notes_size x_images_1_notes_numbers x_images_1_past_size x_images_1_past_numbers x_images_1_sightings_size x_images_1_sightings_numbers x_kept (nI (p 17)) (nI (p 27)) (nI (p 15)) (nI (p 16)) x_now_familyCell x_now_familyKind x_now_familySide x_now_familyWill x_now_flitchCell x_now_flitchKind x_now_flitchStrength 4 6 x_now_marks_size x_now_marks_numbers 5 6 x_now_notes_size x_now_notes_numbers 16 8 x_now_past_size x_now_past_numbers 3 5 x_now_sightings_size x_now_sightings_numbers x_text m_above m_below m_length m_isKept m_refused' m_row' m_text m_words) := by
    intro R hR
    simp only [wp_Mo_ends, true_implies, false_implies, not_true_eq_false, not_false_eq_true, and_true, true_and, jn0_e, w_bad, w_no, w_full, w_badApart, w_refB, w_refN, w_refF, w_badAs, w_within, w_in, w_isCell, w_isFamC, w_isFliC, w_isFamM, w_isFliM, q1]
    refine s_layTried (fun row1 r1 hL1 => ?_)
    have hS1 := tried_Sg hI hM r1
    refine lpw2_rule (fun x r => ∃ j, x = nI j ∧ j ≤ 61 ∧ (∀ t, t < j → endB p t = false) ∧ SgM (p 27) r 753 (wtN p j) (fun i => p (8 + i)) (p 15) (p 16 + j) ∧ Lo r m_row) (fun x _ => 61 - x.toNatClampNeg) ?_ 0 row1 ⟨0, rfl, by omega, fun t ht => absurd ht (by omega), hS1.cong (fun i hi => by simp [wtN, tkT]), hL1⟩
    intro B x r hx hB
    obtain ⟨j, rfl, hj, hlo, hSj, hLj⟩ := hx
    have hr := rel_now h p hPS (hLj.mr hM) hLj.hi
    by_cases e : j = 61
    · subst e
      have hz : endN p = 61 := fsN_none _ hlo
      rw [if_pos hz] at hR
      exact ⟨fun _ => ⟨hR, hr⟩, fun q => absurd (nI_le (a := 61) (b := 61) (Nat.le_refl _) (by decide)) q⟩
    refine ⟨fun q => absurd q (nI_ge (b := 61) (by omega) (by decide)), fun _ => ?_⟩
    refine s_rightIn (b := 753) (Or.inr rfl) hI (hLj.mr hM) hSj ?_
    have hfin : ∀ Z : Prop, Z → endB p j = true → ((¬ nI k = 0 → wp_Mo_rightIn 753 r (fun r_12 => R = r_12 ∧ Z)) ∧ (nI k = 0 → R = nI j ∧ Z)) := by
      intro Z hr hend
      have hz : endN p = j := fsN_at hend hlo _ (by omega)
      rw [hz, if_neg e] at hR
      refine ⟨fun q => ?_, fun q => ?_⟩
      · have q' : k ≠ 0 := fun z => q (by rw [z]; rfl)
        rw [if_neg q'] at hR
        exact s_rightIn (b := 753) (Or.inr rfl) hI (hLj.mr hM) hSj ⟨hR, hr⟩
      · have q' : k = 0 := (nI_eq (b := 0) (by omega) (by omega)).mp q
        rw [if_pos q'] at hR
        exact ⟨hR, hr⟩
    have hl := lapN_lt (wtN p j) (p 27)
    have h128 : (2 : Nat) ^ (p 27) ≤ 128 := Nat.le_trans (Nat.pow_le_pow_right (by omega) h7) (by decide)
    have e760 : r (Int32.toNatClampNeg 760) = nI (lapN (wtN p j) (p 27)) := hSj.2.1
    have er27 : r (Int32.toNatClampNeg 27) = nI (p 27) := by show r 27 = _; rw [hLj 27 (by omega)]; exact e27
    have hc := cnt_all (p := p) (w := wtN p j) (p 27) (fun i hi => (hI.2.2.1 i hi).2)
    rw [e760, er27]
    refine ⟨fun q => hfin _ hr ?_, fun q => ?_⟩
    · unfold endB
      unfold rgI at q
      cases ha : hdN p (wtN p j) 0 (p 27) <;> cases hb : hdN p (wtN p j) 1 (p 27) <;> simp [ha, hb] at q ⊢
    · refine s_bits (by omega) ?_
      rw [bcN_lap8 _ h7]
      have hcl : cntN (wtN p j) (p 27) ≤ p 27 := by
        have hle : ∀ m, cntN (wtN p j) m ≤ m := by
          intro m
          induction m with
          | zero => exact Nat.le_refl _
          | succ m ihm => simp only [cntN]; split <;> omega
        exact hle _
      refine ⟨fun q2 => ?_, fun q2 => hfin _ hr ?_⟩
      · have q2' : ¬ cntN (wtN p j) (p 27) = p 27 := fun z => q2 (by rw [z])
        rw [hc] at q2'
        have hnb : endB p j = false := by
          unfold endB
          unfold rgI at q
          cases ha : hdN p (wtN p j) 0 (p 27) <;> cases hb : hdN p (wtN p j) 1 (p 27) <;> simp [ha, hb] at q q2' ⊢
        refine s_passTried (n := 1) hI (hLj.mr hM) hSj (fun i hi => by have := hI.w99 i hi; unfold wtN; omega) hI.c25 (by omega) (by omega) (by omega) (fun row' hS' hL' => ?_)
        intro x' ex'
        subst ex'
        rw [nI_1]
        refine hB _ _ ⟨j + 1, rfl, by omega, fun t ht => ?_, hS'.cong (fun i hi => ?_), hL'.tr hLj⟩ (by rw [nI_clamp (by omega), nI_clamp (by omega)]; omega)
        · by_cases et : t = j
          · subst et; exact hnb
          · exact hlo t (by omega)
        · simp only [wtN, tkT, Nat.add_zero]
          omega
      · have q2' := (nI_eq (by omega) (by omega)).mp q2
        obtain ⟨ha, hb⟩ := hc.mp q2'
        unfold endB
        rw [ha, hb]
        rfl
  simp only [wp_Rc_ends, true_implies, false_implies, not_true_eq_false, not_false_eq_true, and_true, true_and, jn0_e, w_bad, w_no, w_full, w_badApart, w_refB, w_refN, w_refF, w_badAs, w_within, w_in, w_isCell, w_isFamC, w_isFliC, w_isFamM, w_isFliM, q1]
  refine s_endOfCase hI a5 a6 a7 a8 a9 a10 a11 (fun la tk => ?_)
  refine ⟨fun q => ?_, fun q => ⟨fun q2 => ?_, fun q2 => ?_⟩⟩
  · have q' : k = 0 := (nI_eq (b := 0) (by omega) (by omega)).mp q
    refine key _ ?_
    rw [if_pos q']
  · have q' : k ≠ 0 := fun z => q (by rw [z]; rfl)
    have e : ¬ endN p = 61 := fun z => q2 (by rw [if_pos z])
    rw [if_neg e]
    refine s_rightAfter hI a5 a6 a7 a8 a9 a10 a11 (by omega) (fun la2 tk2 => key _ ?_)
    rw [if_neg e, if_neg q']
  · have e : endN p = 61 := Classical.byContradiction (fun z => by
      rw [if_neg z] at q2
      have a := congrArg Int32.toInt q2
      rw [nI_toInt (by omega)] at a
      have e1 : (-1 : Int32).toInt = -1 := rfl
      omega)
    refine key _ ?_
    rw [if_pos e, if_pos e]

def hmB (m : Nat → Nat) : Nat → Nat
  | 0 => m 0
  | c + 1 => if m (c + 1) ≤ hmB m c then hmB m c else m (c + 1)
def hmC (m : Nat → Nat) : Nat → Nat
  | 0 => 0
  | c + 1 => if m (c + 1) ≤ hmB m c then hmC m c else c + 1
theorem hmB_le {m : Nat → Nat} (h : ∀ c, m c ≤ 61) : ∀ c, hmB m c ≤ 61
  | 0 => h 0
  | c + 1 => by
    have h1 := hmB_le h c
    have h2 := h (c + 1)
    show (if m (c + 1) ≤ hmB m c then hmB m c else m (c + 1)) ≤ 61
    split <;> omega
theorem hm_p {m : Nat → Nat} {c : Nat} (h : m (c + 1) ≤ hmB m c) : hmB m (c + 1) = hmB m c ∧ hmC m (c + 1) = hmC m c := ⟨if_pos h, if_pos h⟩
theorem hm_n {m : Nat → Nat} {c : Nat} (h : ¬ m (c + 1) ≤ hmB m c) : hmB m (c + 1) = m (c + 1) ∧ hmC m (c + 1) = c + 1 := ⟨if_neg h, if_neg h⟩
def psN (x : Nat) : Nat := if x = 61 then 99999 else x
theorem nI_nm1 (j : Nat) (h : j < 2 ^ 31) : ¬ nI j ≤ -1 := fun q => by
  have a := Int32.le_iff_toInt_le.mp q
  rw [nI_toInt h] at a
  have e1 : (-1 : Int32).toInt = -1 := rfl
  omega
theorem nI_em1 (j : Nat) (h : j < 2 ^ 31) : ¬ nI j = -1 := fun q => by
  have a := congrArg Int32.toInt q
  rw [nI_toInt h] at a
  have e1 : (-1 : Int32).toInt = -1 := rfl
  omega
def hwN (p : Nat → Nat) (i c : Nat) : Nat := whN (tkT p (p (28 + i)) c (p 15) (p 16)) (p i) 60
theorem s_bestCell {p : Nat → Nat} {flCell flKind flStr faKind faWill tk0 : Nat → Int32} (hI : Inv p) (a6 : Ar (p 27) faKind (fun i => p (28 + i))) (a8 : Ar (p 27) faWill p) (a9 : Ar (p 17) flCell (fun k => p (21 + k))) (a10 : Ar (p 17) flKind (fun k => p (18 + k))) (a11 : Ar (p 17) flStr (fun k => p (24 + k))) {i : Nat} (hi : i < p 27) {Q : Int32 → (Nat → Int32) → Prop} (hQ : ∀ tk, Q (nI (hmC (hwN p i) 24)) tk) : wp_Fs_bestCell (nI i) (nI (p 17)) (nI (p 15)) (nI (p 16)) faKind faWill flCell flKind flStr tk0 Q := by
  unfold wp_Fs_bestCell
  have hm : ∀ c, hwN p i c ≤ 61 := fun c => whN_le _ _ _
  refine lpw4_rule (fun x2 x3 x4 _ => (x2 = 0 ∧ x3 = -1 ∧ x4 = 0) ∨ ∃ c, c < 25 ∧ x2 = nI (hmC (hwN p i) c) ∧ x3 = nI (hmB (hwN p i) c) ∧ x4 = nI (c + 1)) (fun _ _ x4 _ => 26 - x4.toNatClampNeg) ?_ 0 (-1) 0 tk0 (Or.inl ⟨rfl, rfl, rfl⟩)
  intro B x2 x3 x4 tk hx hB
  rcases hx with ⟨rfl, rfl, rfl⟩ | ⟨c, hc, rfl, rfl, rfl⟩
  · refine ⟨fun q => absurd q (nI_ge (a := 0) (b := 25) (by decide) (by decide)), fun _ => ?_⟩
    refine s_lapseWithin (c := 0) (n := 60) hI a6 a8 a9 a10 a11 hi (by omega) (by omega) (fun t => ?_)
    have hB' := hB (nI (hmC (hwN p i) 0)) (nI (hmB (hwN p i) 0)) (nI 1) t (Or.inr ⟨0, by omega, rfl, rfl, rfl⟩) (by decide)
    have ehw : whN (tkT p (p (28 + i)) 0 (p 15) (p 16)) (p i) 60 = hwN p i 0 := rfl
    have e0 : hmC (hwN p i) 0 = 0 := rfl
    have e1 : hmB (hwN p i) 0 = hwN p i 0 := rfl
    rw [e0, e1] at hB'
    simp only [jn1_e, jn2_e, fe_e, ehw, show 60 + 1 = 61 from rfl]
    have hm0 := hm 0
    by_cases e : hwN p i 0 = 61
    · rw [if_pos e]
      refine ⟨fun z => absurd rfl z, fun _ => ⟨fun q => absurd q (nI_nm1 61 (by omega)), fun _ => ?_⟩⟩
      rw [e] at hB'
      exact hB'
    · rw [if_neg e]
      exact ⟨fun _ => ⟨fun q => absurd q (nI_nm1 (hwN p i 0) (by omega)), fun _ => hB'⟩, fun q => absurd q (nI_em1 (hwN p i 0) (by omega))⟩
  · by_cases e25 : c + 1 = 25
    · have ec : c = 24 := by omega
      subst ec
      exact ⟨fun _ => hQ _, fun q => absurd (nI_le (a := 25) (b := 25) (Nat.le_refl _) (by decide)) q⟩
    refine ⟨fun q => absurd q (nI_ge (b := 25) (by omega) (by decide)), fun _ => ?_⟩
    refine s_lapseWithin (n := 60) hI a6 a8 a9 a10 a11 hi (by omega) (by omega) (fun t => ?_)
    have hb1 := hmB_le hm c
    have hb2 := hm (c + 1)
    have hB' := hB (nI (hmC (hwN p i) (c + 1))) (nI (hmB (hwN p i) (c + 1))) (nI (c + 2)) t (Or.inr ⟨c + 1, by omega, rfl, rfl, rfl⟩) (by rw [nI_clamp (by omega), nI_clamp (by omega)]; omega)
    have ehw : whN (tkT p (p (28 + i)) (c + 1) (p 15) (p 16)) (p i) 60 = hwN p i (c + 1) := rfl
    simp only [jn1_e, jn2_e, fe_e, nI_1, ehw, show 60 + 1 = 61 from rfl]
    have fin : ((nI (hwN p i (c + 1)) ≤ nI (hmB (hwN p i) c) → B (nI (hmC (hwN p i) c)) (nI (hmB (hwN p i) c)) (nI (c + 1 + 1)) t) ∧ (¬ nI (hwN p i (c + 1)) ≤ nI (hmB (hwN p i) c) → B (nI (c + 1)) (nI (hwN p i (c + 1))) (nI (c + 1 + 1)) t)) := by
      refine ⟨fun q => ?_, fun q => ?_⟩
      · obtain ⟨g1, g2⟩ := hm_p ((nI_leI (by omega) (by omega)).mp q)
        rw [g1, g2] at hB'
        exact hB'
      · obtain ⟨g1, g2⟩ := hm_n (fun z => q ((nI_leI (by omega) (by omega)).mpr z))
        rw [g1, g2] at hB'
        exact hB'
    by_cases e : hwN p i (c + 1) = 61
    · rw [if_pos e]
      rw [e] at fin
      exact ⟨fun z => absurd rfl z, fun _ => fin⟩
    · rw [if_neg e]
      exact ⟨fun _ => fin, fun q => absurd q (nI_em1 (hwN p i (c + 1)) (by omega))⟩
set_option maxHeartbeats 4000000 in
set_option maxRecDepth 100000 in
theorem po_home {x_textLength : Int32} {x_above : Int64} {x_below : Int64} {x_timesBad : Int32} {x_timesNo : Int32} {x_timesFull : Int32} {x_foresight_taken : Nat → Int32} {x_images_0_flitchCount : Int32} {x_images_0_familyCount : Int32} {x_images_0_hung : Int32} {x_images_0_day : Int32} {x_images_0_familyCell : Nat → Int32} {x_images_0_familyKind : Nat → Int32} {x_images_0_familySide : Nat → Int32} {x_images_0_familyWill : Nat → Int32} {x_images_0_flitchCell : Nat → Int32} {x_images_0_flitchKind : Nat → Int32} {x_images_0_flitchStrength : Nat → Int32} {x_images_0_marks_size : Int32} {x_images_0_marks_numbers : Nat → Int32} {x_images_0_notes_size : Int32} {x_images_0_notes_numbers : Nat → Int32} {x_images_0_past_size : Int32} {x_images_0_past_numbers : Nat → Int32} {x_images_0_sightings_size : Int32} {x_images_0_sightings_numbers : Nat → Int32} {x_images_1_flitchCount : Int32} {x_images_1_familyCount : Int32} {x_images_1_hung : Int32} {x_images_1_day : Int32} {x_images_1_familyCell : Nat → Int32} {x_images_1_familyKind : Nat → Int32} {x_images_1_familySide : Nat → Int32} {x_images_1_familyWill : Nat → Int32} {x_images_1_flitchCell : Nat → Int32} {x_images_1_flitchKind : Nat → Int32} {x_images_1_flitchStrength : Nat → Int32} {x_images_1_marks_size : Int32} {x_images_1_marks_numbers : Nat → Int32} {x_images_1_notes_size : Int32} {x_images_1_notes_numbers : Nat → Int32} {x_images_1_past_size : Int32} {x_images_1_past_numbers : Nat → Int32} {x_images_1_sightings_size : Int32} {x_images_1_sightings_numbers : Nat → Int32} {x_kept : Nat → Int32} {x_now_flitchCount : Int32} {x_now_familyCount : Int32} {x_now_hung : Int32} {x_now_day : Int32} {x_now_familyCell : Nat → Int32} {x_now_familyKind : Nat → Int32} {x_now_familySide : Nat → Int32} {x_now_familyWill : Nat → Int32} {x_now_flitchCell : Nat → Int32} {x_now_flitchKind : Nat → Int32} {x_now_flitchStrength : Nat → Int32} {x_now_marks_width : Int32} {x_now_marks_limit : Int32} {x_now_marks_size : Int32} {x_now_marks_numbers : Nat → Int32} {x_now_notes_width : Int32} {x_now_notes_limit : Int32} {x_now_notes_size : Int32} {x_now_notes_numbers : Nat → Int32} {x_now_past_width : Int32} {x_now_past_limit : Int32} {x_now_past_size : Int32} {x_now_past_numbers : Nat → Int32} {x_now_sightings_width : Int32} {x_now_sightings_limit : Int32} {x_now_sightings_size : Int32} {x_now_sightings_numbers : Nat → Int32} {x_text : Nat → Int32} {m_above : Int64} {m_below : Int64} {m_length : Int32} {m_isKept : Nat → Int32} {m_refused : Nat → Int32} {m_row : Nat → Int32} {m_text : Nat → Int32} {m_words : Nat → Int32} (h : Rel x_textLength x_above x_below x_timesBad x_timesNo x_timesFull x_images_0_flitchCount x_images_0_familyCount x_images_0_hung x_images_0_day x_images_0_familyCell x_images_0_familyKind x_images_0_familySide x_images_0_familyWill x_images_0_flitchCell x_images_0_flitchKind x_images_0_flitchStrength x_images_0_marks_size x_images_0_marks_numbers x_images_0_notes_size x_images_0_notes_numbers x_images_0_past_size x_images_0_past_numbers x_images_0_sightings_size x_images_0_sightings_numbers x_images_1_flitchCount x_images_1_familyCount x_images_1_hung x_images_1_day x_images_1_familyCell x_images_1_familyKind x_images_1_familySide x_images_1_familyWill x_images_1_flitchCell x_images_1_flitchKind x_images_1_flitchStrength x_images_1_marks_size x_images_1_marks_numbers x_images_1_notes_size x_images_1_notes_numbers x_images_1_past_size x_images_1_past_numbers x_images_1_sightings_size x_images_1_sightings_numbers x_kept x_now_flitchCount x_now_familyCount x_now_hung x_now_day x_now_familyCell x_now_familyKind x_now_familySide x_now_familyWill x_now_flitchCell x_now_flitchKind x_now_flitchStrength x_now_marks_width x_now_marks_limit x_now_marks_size x_now_marks_numbers x_now_notes_width x_now_notes_limit x_now_notes_size x_now_notes_numbers x_now_past_width x_now_past_limit x_now_past_size x_now_past_numbers x_now_sightings_width x_now_sightings_limit x_now_sightings_size x_now_sightings_numbers x_text m_above m_below m_length m_isKept m_refused m_row m_text m_words) (x1 : Int32) : wp_Rc_home x1 x_timesBad x_foresight_taken x_now_flitchCount x_now_familyCount x_now_hung x_now_day x_now_familyKind x_now_familyWill x_now_flitchCell x_now_flitchKind x_now_flitchStrength (fun (r : Int32) (x_timesBad' : Int32) (x_foresight_taken' : Nat → Int32) => wp_Mo_home x1 m_refused m_row (fun (r' : Int32) (m_refused' : Nat → Int32) (m_row' : Nat → Int32) => r = r' ∧ Rel x_textLength x_above x_below x_timesBad' x_timesNo x_timesFull x_images_0_flitchCount x_images_0_familyCount x_images_0_hung x_images_0_day x_images_0_familyCell x_images_0_familyKind x_images_0_familySide x_images_0_familyWill x_images_0_flitchCell x_images_0_flitchKind x_images_0_flitchStrength x_images_0_marks_size x_images_0_marks_numbers x_images_0_notes_size x_images_0_notes_numbers x_images_0_past_size x_images_0_past_numbers x_images_0_sightings_size x_images_0_sightings_numbers x_images_1_flitchCount x_images_1_familyCount x_images_1_hung x_images_1_day x_images_1_familyCell x_images_1_familyKind x_images_1_familySide x_images_1_familyWill x_images_1_flitchCell x_images_1_flitchKind x_images_1_flitchStrength x_images_1_marks_size x_images_1_marks_numbers x_images_1_notes_size x_images_1_notes_numbers x_images_1_past_size x_images_1_past_numbers x_images_1_sightings_size x_images_1_sightings_numbers x_kept x_now_flitchCount x_now_familyCount x_now_hung x_now_day x_now_familyCell x_now_familyKind x_now_familySide x_now_familyWill x_now_flitchCell x_now_flitchKind x_now_flitchStrength x_now_marks_width x_now_marks_limit x_now_marks_size x_now_marks_numbers x_now_notes_width x_now_notes_limit x_now_notes_size x_now_notes_numbers x_now_past_width x_now_past_limit x_now_past_size x_now_past_numbers x_now_sightings_width x_now_sightings_limit x_now_sightings_size x_now_sightings_numbers x_text m_above m_below m_length m_isKept m_refused' m_row' m_text m_words)) := by
  obtain ⟨⟨p, hPS, hM⟩, ⟨rfl, rfl, rfl, rfl, rfl, rfl, rfl, rfl⟩, hk0, hk1, hTx, hFr, hRf, hWo⟩ := id h
  obtain ⟨hI, ⟨rfl, rfl, rfl, rfl, a5, a6, a7, a8, a9, a10, a11⟩, hm, hn, hp, hs⟩ := id hPS
  have h7 := hI.1
  have h3 := hI.2.1.1
  have e27 : m_row 27 = nI (p 27) := hM.at0 (by omega)
  have e17 : m_row 17 = nI (p 17) := hM.at0 (by omega)
  have hd := hI.d9
  have h15 := p15_lt hI
  by_cases q1 : inB x1 0 (nI (p 27) - 1) = 0
  · simp only [wp_Rc_home, wp_Mo_home, true_implies, false_implies, not_true_eq_false, not_false_eq_true, and_true, true_and, jn0_e, w_bad, w_no, w_full, w_badApart, w_refB, w_refN, w_refF, w_badAs, w_within, w_in, w_isCell, w_isFamC, w_isFliC, w_isFamM, w_isFliM, e27, q1]; first | exact rel_bad h | exact ⟨rfl, rel_bad h⟩
  obtain ⟨i, hi, rfl⟩ := inB_pl (by omega) q1
  simp only [wp_Rc_home, wp_Mo_home, true_implies, false_implies, not_true_eq_false, not_false_eq_true, and_true, true_and, jn0_e, w_bad, w_no, w_full, w_badApart, w_refB, w_refN, w_refF, w_badAs, w_within, w_in, w_isCell, w_isFamC, w_isFliC, w_isFamM, w_isFliM, e27, q1]
  refine s_bestCell hI a6 a8 a9 a10 a11 hi (fun tk => ?_)
  have hm : ∀ c, hwN p i c ≤ 61 := fun c => whN_le _ _ _
  have hps : ∀ a b, a ≤ 61 → b ≤ 61 → (psN a ≤ psN b ↔ a ≤ b) := by
    intro a b ha hb
    unfold psN
    by_cases e1 : a = 61 <;> by_cases e2 : b = 61 <;> simp only [e1, e2, if_true, if_false] <;> omega
  have hpl : ∀ a, a ≤ 61 → psN a < 100000 := by
    intro a ha
    unfold psN
    split <;> omega
  refine lpw4_rule (fun x2 x3 x4 r => Lo r m_row ∧ ((x2 = -1 ∧ x3 = -1 ∧ x4 = 0) ∨ ∃ c, c < 25 ∧ x2 = nI (hmC (hwN p i) c) ∧ x3 = nI (psN (hmB (hwN p i) c)) ∧ x4 = nI (c + 1))) (fun _ _ x4 _ => 26 - x4.toNatClampNeg) ?_ (-1) (-1) 0 m_row ⟨Lo.rf, Or.inl ⟨rfl, rfl, rfl⟩⟩
  intro B x2 x3 x4 r hx hB
  obtain ⟨hLr, hx⟩ := hx
  have e761 : (761 : Int32) + nI i = nI (761 + i) := nI_add 761 i
  have hst : ∀ c, c < 25 → ∀ K : Int32 → (Nat → Int32) → Prop, (∀ row', Lo row' m_row → K (nI (psN (hwN p i c))) row') → wp_Mo_layTried r (fun s_row_10 => vp_in (761 + nI i) 770 ∧ wp_Mo_whenTried (nI i) (upd s_row_10 (Int32.toNatClampNeg (761 + nI i)) (nI c)) K) := by
    intro c hc K hK
    refine s_layTried (fun row1 r1 hL1 => ?_)
    rw [e761, nI_clamp (by omega)]
    refine ⟨vp_in_nI (by omega) (by omega), ?_⟩
    have hL2 : Lo (upd row1 (761 + i) (nI c)) m_row := (Lo.up (by omega)).tr (hL1.tr hLr)
    have hS2 : SgM (p 27) (upd row1 (761 + i) (nI c)) 753 p (updN (fun i => p (8 + i)) i c) (p 15) (p 16) := by
      obtain ⟨s1, s2, s3, s4, s5⟩ := tried_Sg hI (hLr.mr hM) r1
      refine ⟨fun j hj => by rw [pk_un (by omega)]; exact s1 j hj, by rw [pk_un (by omega)]; exact s2, fun j hj => ?_, by rw [pk_un (by omega)]; exact s4, by rw [pk_un (by omega)]; exact s5⟩
      by_cases e : j = i
      · subst e; rw [show 753 + 8 + j = 761 + j by omega, pk_us, updN_s]
      · rw [pk_un (by omega), updN_n e]; exact s3 j hj
    refine s_whenTried hI (hL2.mr hM) hS2 hI.w99 (fun j hj => ?_) (by omega) (by omega) hi (fun row' hL' => ?_)
    · by_cases e : j = i
      · subst e; rw [updN_s]; exact hc
      · rw [updN_n e]; exact hI.c25 j hj
    · rw [updN_s]
      have hK' := hK row' (hL'.tr hL2)
      have e : (if whN (tkT p (p (28 + i)) c (p 15) (p 16)) (p i) 60 = 61 then (99999 : Int32) else nI (whN (tkT p (p (28 + i)) c (p 15) (p 16)) (p i) 60)) = nI (psN (hwN p i c)) := by
        unfold psN hwN
        by_cases q : whN (tkT p (p (28 + i)) c (p 15) (p 16)) (p i) 60 = 61
        · simp only [q, if_true]; rfl
        · simp only [q, if_false]
      rw [e]
      exact hK'
  rcases hx with ⟨rfl, rfl, rfl⟩ | ⟨c, hc, rfl, rfl, rfl⟩
  · refine ⟨fun q => absurd q (nI_ge (a := 0) (b := 25) (by decide) (by decide)), fun _ => ?_⟩
    simp only [fe_e]
    refine hst 0 (by omega) _ (fun row' hL' => ?_)
    have hB' := hB (nI (hmC (hwN p i) 0)) (nI (psN (hmB (hwN p i) 0))) (nI 1) row' ⟨hL', Or.inr ⟨0, by omega, rfl, rfl, rfl⟩⟩ (by decide)
    have hp0 := hpl _ (hm 0)
    simp only [jn1_e]
    exact ⟨fun q => absurd q (nI_nm1 _ (by omega)), fun q => ⟨fun q => absurd q (nI_nm1 _ (by omega)), fun _ => hB'⟩⟩
  · by_cases e25 : c + 1 = 25
    · have ec : c = 24 := by omega
      subst ec
      exact ⟨fun _ => ⟨rfl, rel_now h p hPS (hLr.mr hM) hLr.hi⟩, fun q => absurd (nI_le (a := 25) (b := 25) (Nat.le_refl _) (by decide)) q⟩
    refine ⟨fun q => absurd q (nI_ge (b := 25) (by omega) (by decide)), fun _ => ?_⟩
    simp only [fe_e]
    refine hst (c + 1) (by omega) _ (fun row' hL' => ?_)
    have hb1 := hmB_le hm c
    have hb2 := hm (c + 1)
    have hp1 := hpl _ hb1
    have hp2 := hpl _ hb2
    have hB' := hB (nI (hmC (hwN p i) (c + 1))) (nI (psN (hmB (hwN p i) (c + 1)))) (nI (c + 2)) row' ⟨hL', Or.inr ⟨c + 1, by omega, rfl, rfl, rfl⟩⟩ (by rw [nI_clamp (by omega), nI_clamp (by omega)]; omega)
    simp only [jn1_e, nI_1]
    refine ⟨fun q => ⟨fun _ => ?_, fun z => absurd q z⟩, fun q => ⟨fun z => absurd z q, fun _ => ?_⟩⟩
    · obtain ⟨g1, g2⟩ := hm_p ((hps _ _ hb2 hb1).mp ((nI_leI (by omega) (by omega)).mp q))
      rw [g1, g2] at hB'
      exact hB'
    · obtain ⟨g1, g2⟩ := hm_n (fun z => q ((nI_leI (by omega) (by omega)).mpr ((hps _ _ hb2 hb1).mpr z)))
      rw [g1, g2] at hB'
      exact hB'

