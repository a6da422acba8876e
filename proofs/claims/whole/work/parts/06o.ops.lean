def allN (P : Nat → Bool) : Nat → Bool
  | 0 => true
  | n + 1 => allN P n && P n
theorem allN_f {P : Nat → Bool} {j : Nat} (h : P j = false) : ∀ n, j < n → allN P n = false
  | 0, hj => absurd hj (by omega)
  | n + 1, hj => by
    simp only [allN]
    by_cases e : j = n
    · subst e; rw [h]; simp
    · rw [allN_f h n (by omega)]; simp
theorem allN_i {P : Nat → Bool} : ∀ n, allN P n = true ↔ ∀ i, i < n → P i = true
  | 0 => ⟨fun _ i hi => absurd hi (by omega), fun _ => rfl⟩
  | n + 1 => by
    have ih := allN_i (P := P) n
    simp only [allN, Bool.and_eq_true]
    constructor
    · intro q i hi
      by_cases e : i = n
      · subst e; exact q.2
      · exact ih.mp q.1 i (by omega)
    · intro q
      exact ⟨ih.mpr (fun i hi => q i (by omega)), q n (by omega)⟩
def hoB (p : Nat → Nat) (h n i : Nat) : Bool := decide (p i = 0 ∨ tkT p (p (28 + i)) (p (8 + i)) h (p 16) n < p i)
theorem s_allHold {p : Nat → Nat} {flCell flKind flStr faKind faCell faWill tk0 : Nat → Int32} (hI : Inv p) (a5 : Ar (p 27) faCell (fun i => p (8 + i))) (a6 : Ar (p 27) faKind (fun i => p (28 + i))) (a8 : Ar (p 27) faWill p) (a9 : Ar (p 17) flCell (fun k => p (21 + k))) (a10 : Ar (p 17) flKind (fun k => p (18 + k))) (a11 : Ar (p 17) flStr (fun k => p (24 + k))) {h n : Nat} (hh : h < 256) (hn : n ≤ 60) {Q : Int32 → (Nat → Int32) → Prop}
    (hQ : ∀ tk, Q (if allN (hoB p h n) (p 27) = true then 1 else 0) tk) : wp_Fs_allHold (nI h) (nI n) (nI (p 17)) (nI (p 27)) (nI (p 16)) faCell faKind faWill flCell flKind flStr tk0 Q := by
  have h7 := hI.1
  unfold wp_Fs_allHold
  refine lpw2_rule (fun x _ => ∃ j, x = nI j ∧ j ≤ p 27 ∧ allN (hoB p h n) j = true) (fun x _ => 8 - x.toNatClampNeg) ?_ 0 tk0 ⟨0, rfl, Nat.zero_le _, rfl⟩
  intro B x tk hx hB
  obtain ⟨j, rfl, hj, hal⟩ := hx
  by_cases e : j = p 27
  · subst e
    have hQ' := hQ tk
    rw [if_pos hal] at hQ'
    exact ⟨fun _ => hQ', fun q => absurd (nI_le (Nat.le_refl _) (by omega)) q⟩
  have hj : j < p 27 := by omega
  have hk := (hI.2.2.1 j hj).1
  have hw := hI.w99 j hj
  have hc := hI.c25 j hj
  have v7 : vp_in (nI j) 7 := vp_in_nI (by omega) (by omega)
  refine ⟨fun q => absurd q (nI_ge hj (by omega)), fun _ => ?_⟩
  rw [w_lapsedC (n := 0) (by omega) (a8 j hj) (by omega)]
  have next : ∀ tk', hoB p h n j = true → B (nI (j + 1)) tk' := fun tk' z => hB _ _ ⟨j + 1, rfl, by omega, by simp only [allN, hal, z]; rfl⟩ (by rw [nI_clamp (by omega), nI_clamp (by omega)]; omega)
  simp only [jn1_e, fe_e, nI_1, v7, true_and, nI_clamp (show j < 2 ^ 31 by omega), nI_clamp (show n < 2 ^ 31 by omega), a5 j hj, a6 j hj, a8 j hj]
  by_cases hz : p j = 0
  · rw [if_pos hz]
    exact ⟨fun _ => next tk (decide_eq_true (Or.inl hz)), fun q => absurd q (by decide)⟩
  · rw [if_neg hz]
    refine ⟨fun q => absurd rfl q, fun _ => ?_⟩
    refine s_reckon hI a9 a10 a11 hk hc hh hn (fun tk' htk => ⟨vp_in_nI (by omega) (by omega), ?_⟩)
    have ht := tkT_le hI (h := h) (d := p 16) hk hc n
    rw [htk n (Nat.le_refl _)]
    refine ⟨fun q => next tk' (decide_eq_true (Or.inr ((nI_ltI (by omega) (by omega)).mp q))), fun q => ?_⟩
    have hf : hoB p h n j = false := decide_eq_false (fun z => z.elim (fun y => hz y) (fun y => q ((nI_ltI (by omega) (by omega)).mpr y)))
    have hQ' := hQ tk'
    rw [allN_f hf _ hj] at hQ'
    exact hQ'
def qsN (H : Nat → Bool) : Nat → Nat
  | 0 => 99
  | s + 1 => if H s = true ∧ (qsN H s = 99 ∨ bcN s 8 < bcN (qsN H s) 8) then s else qsN H s
def qI (q : Nat) : Int32 := if q = 99 then -1 else nI q
theorem qsN_lt (H : Nat → Bool) : ∀ s, qsN H s = 99 ∨ qsN H s < s
  | 0 => Or.inl rfl
  | s + 1 => by
    have h := qsN_lt H s
    show (if _ then s else qsN H s) = 99 ∨ (if _ then s else qsN H s) < s + 1
    split <;> omega
theorem qsN_y {H : Nat → Bool} {s : Nat} (h : H s = true) (h2 : qsN H s = 99 ∨ bcN s 8 < bcN (qsN H s) 8) : qsN H (s + 1) = s := if_pos ⟨h, h2⟩
theorem qsN_n {H : Nat → Bool} {s : Nat} (h : ¬ (H s = true ∧ (qsN H s = 99 ∨ bcN s 8 < bcN (qsN H s) 8))) : qsN H (s + 1) = qsN H s := if_neg h
theorem cm_nI : ∀ n, n < 4 → ∀ s, s < 2 ^ n → nI (2 ^ n - 1) &&& (nI s ^^^ (-1)) = nI (2 ^ n - 1 - s) := by decide +kernel
theorem sh_nI : ∀ n, n < 4 → ishl 1 (nI n) - 1 = nI (2 ^ n - 1) := by decide +kernel
theorem bcN_le (x : Nat) : ∀ m, bcN x m ≤ m
  | 0 => Nat.le_refl _
  | m + 1 => by
    have h := bcN_le x m
    have h2 := btN_lt x m
    simp only [bcN]
    omega
theorem s_fewestOut {p : Nat → Nat} {flCell flKind flStr faKind faCell faWill tk0 : Nat → Int32} (hI : Inv p) (a5 : Ar (p 27) faCell (fun i => p (8 + i))) (a6 : Ar (p 27) faKind (fun i => p (28 + i))) (a8 : Ar (p 27) faWill p) (a9 : Ar (p 17) flCell (fun k => p (21 + k))) (a10 : Ar (p 17) flKind (fun k => p (18 + k))) (a11 : Ar (p 17) flStr (fun k => p (24 + k))) {n : Nat} (hn : n ≤ 60) {Q : Int32 → (Nat → Int32) → Prop}
    (hQ : ∀ tk, Q (qI (qsN (fun s => allN (hoB p (2 ^ p 17 - 1 - s) n) (p 27)) (2 ^ p 17))) tk) : wp_Fs_fewestOut (nI n) (nI (p 17)) (nI (p 27)) (nI (p 16)) faCell faKind faWill flCell flKind flStr tk0 Q := by
  have h3 := hI.2.1.1
  have h8 : (2 : Nat) ^ p 17 ≤ 8 := Nat.le_trans (Nat.pow_le_pow_right (by omega) h3) (by decide)
  have h1 : 1 ≤ (2 : Nat) ^ p 17 := Nat.one_le_two_pow
  obtain ⟨H, hH⟩ : ∃ H : Nat → Bool, H = fun s => allN (hoB p (2 ^ p 17 - 1 - s) n) (p 27) := ⟨_, rfl⟩
  rw [← hH] at hQ
  unfold wp_Fs_fewestOut
  simp only [fe_e, sh_nI (p 17) (by omega)]
  refine lpw3_rule (fun x2 x4 _ => ∃ s, s ≤ 2 ^ p 17 ∧ x2 = qI (qsN H s) ∧ x4 = nI s) (fun _ x4 _ => 9 - x4.toNatClampNeg) ?_ (-1) 0 tk0 ⟨0, Nat.zero_le _, rfl, rfl⟩
  intro B x2 x4 tk hx hB
  obtain ⟨s, hs, rfl, rfl⟩ := hx
  by_cases e : s = 2 ^ p 17
  · subst e
    exact ⟨fun _ => hQ tk, fun q => absurd (nI_lt (by omega) (by omega)) q⟩
  have hs : s < 2 ^ p 17 := by omega
  refine ⟨fun q => absurd q (nI_nlt (by omega) (by omega)), fun _ => ?_⟩
  have next : ∀ q' tk', q' = qsN H (s + 1) → B (qI q') (nI (s + 1)) tk' := fun q' tk' z => hB _ _ _ ⟨s + 1, by omega, by rw [z], rfl⟩ (by rw [nI_clamp (by omega), nI_clamp (by omega)]; omega)
  have hb1 := bcN_le s 8
  have hb2 := bcN_le (qsN H s) 8
  rw [cm_nI (p 17) (by omega) s hs, nI_1]
  simp only [jn1_e, jn0_e, jn2_e, fe_e]
  have try1 : (qsN H s = 99 ∨ bcN s 8 < bcN (qsN H s) 8) → wp_Fs_allHold (nI (2 ^ p 17 - 1 - s)) (nI n) (nI (p 17)) (nI (p 27)) (nI (p 16)) faCell faKind faWill flCell flKind flStr tk (fun r_14 s_taken_15 => ((r_14 = 0 → B (qI (qsN H s)) (nI (s + 1)) s_taken_15) ∧ (¬ r_14 = 0 → B (nI s) (nI (s + 1)) s_taken_15))) := by
    intro hc
    refine s_allHold hI a5 a6 a8 a9 a10 a11 (by omega) hn (fun tk' => ?_)
    have eH : H s = allN (hoB p (2 ^ p 17 - 1 - s) n) (p 27) := by rw [hH]
    rw [← eH]
    by_cases hHs : H s = true
    · rw [if_pos hHs]
      refine ⟨fun q => absurd q (by decide), fun _ => ?_⟩
      have := next s tk' (qsN_y hHs hc).symm
      unfold qI at this
      rw [if_neg (by omega)] at this
      exact this
    · rw [if_neg hHs]
      exact ⟨fun _ => next _ tk' (qsN_n (fun z => hHs z.1)).symm, fun q => absurd rfl q⟩
  have e1 : ¬ ((1 : Int32) = 0) := by decide
  rcases qsN_lt H s with hq | hq
  · have eq : qI (qsN H s) = -1 := by unfold qI; rw [if_pos hq]
    rw [← eq]
    refine ⟨fun _ => ⟨fun z => absurd z e1, fun _ => ?_⟩, fun z => absurd rfl z⟩
    exact try1 (Or.inl hq)
  · have hne : ¬ qsN H s = 99 := by omega
    have eq : qI (qsN H s) = nI (qsN H s) := by unfold qI; rw [if_neg hne]
    have hn1 : ¬ qI (qsN H s) = -1 := by rw [eq]; exact nI_em1 _ (by omega)
    refine ⟨fun z => absurd z hn1, fun _ => ?_⟩
    rw [w_bitCount (show s < 256 by omega)]
    rw [show wp_Ji_bitCount (qI (qsN H s)) = wp_Ji_bitCount (nI (qsN H s)) by rw [eq], w_bitCount (show qsN H s < 256 by omega)]
    refine ⟨fun q => ⟨fun _ => ?_, fun z => absurd trivial z⟩, fun q => ⟨fun z => absurd z e1, fun _ => ?_⟩⟩
    · have q' := (nI_leI (by omega) (by omega)).mp q
      exact next _ tk (qsN_n (fun z => by omega)).symm
    · have q' : ¬ bcN (qsN H s) 8 ≤ bcN s 8 := fun z => q ((nI_leI (by omega) (by omega)).mpr z)
      exact try1 (Or.inr (by omega))
theorem lapN_inj {w v : Nat → Nat} {n : Nat} (h : lapN w n = lapN v n) : ∀ i, i < n → (w i = 0 ↔ v i = 0) := by
  intro i hi
  have h1 := btN_lap w n i hi
  have h2 := btN_lap v n i hi
  rw [h] at h1
  rw [h1] at h2
  by_cases a : w i = 0 <;> by_cases b : v i = 0 <;> simp [a, b] at h2 ⊢
set_option maxHeartbeats 4000000 in
set_option maxRecDepth 100000 in
theorem po_quiet {x_textLength : Int32} {x_above : Int64} {x_below : Int64} {x_timesBad : Int32} {x_timesNo : Int32} {x_timesFull : Int32} {x_foresight_taken : Nat → Int32} {x_images_0_flitchCount : Int32} {x_images_0_familyCount : Int32} {x_images_0_hung : Int32} {x_images_0_day : Int32} {x_images_0_familyCell : Nat → Int32} {x_images_0_familyKind : Nat → Int32} {x_images_0_familySide : Nat → Int32} {x_images_0_familyWill : Nat → Int32} {x_images_0_flitchCell : Nat → Int32} {x_images_0_flitchKind : Nat → Int32} {x_images_0_flitchStrength : Nat → Int32} {x_images_0_marks_size : Int32} {x_images_0_marks_numbers : Nat → Int32} {x_images_0_notes_size : Int32} {x_images_0_notes_numbers : Nat → Int32} {x_images_0_past_size : Int32} {x_images_0_past_numbers : Nat → Int32} {x_images_0_sightings_size : Int32} {x_images_0_sightings_numbers : Nat → Int32} {x_images_1_flitchCount : Int32} {x_images_1_familyCount : Int32} {x_images_1_hung : Int32} {x_images_1_day : Int32} {x_images_1_familyCell : Nat → Int32} {x_images_1_familyKind : Nat → Int32} {x_images_1_familySide : Nat → Int32} {x_images_1_familyWill : Nat → Int32} {x_images_1_flitchCell : Nat → Int32} {x_images_1_flitchKind : Nat → Int32} {x_images_1_flitchStrength : Nat → Int32} {x_images_1_marks_size : Int32} {x_images_1_marks_numbers : Nat → Int32} {x_images_1_notes_size : Int32} {x_images_1_notes_numbers : Nat → Int32} {x_images_1_past_size : Int32} {x_images_1_past_numbers : Nat → Int32} {x_images_1_sightings_size : Int32} {x_images_1_sightings_numbers : Nat → Int32} {x_kept : Nat → Int32} {x_now_flitchCount : Int32} {x_now_familyCount : Int32} {x_now_hung : Int32} {x_now_day : Int32} {x_now_familyCell : Nat → Int32} {x_now_familyKind : Nat → Int32} {x_now_familySide : Nat → Int32} {x_now_familyWill : Nat → Int32} {x_now_flitchCell : Nat → Int32} {x_now_flitchKind : Nat → Int32} {x_now_flitchStrength : Nat → Int32} {x_now_marks_width : Int32} {x_now_marks_limit : Int32} {x_now_marks_size : Int32} {x_now_marks_numbers : Nat → Int32} {x_now_notes_width : Int32} {x_now_notes_limit : Int32} {x_now_notes_size : Int32} {x_now_notes_numbers : Nat → Int32} {x_now_past_width : Int32} {x_now_past_limit : Int32} {x_now_past_size : Int32} {x_now_past_numbers : Nat → Int32} {x_now_sightings_width : Int32} {x_now_sightings_limit : Int32} {x_now_sightings_size : Int32} {x_now_sightings_numbers : Nat → Int32} {x_text : Nat → Int32} {m_above : Int64} {m_below : Int64} {m_length : Int32} {m_isKept : Nat → Int32} {m_refused : Nat → Int32} {m_row : Nat → Int32} {m_text : Nat → Int32} {m_words : Nat → Int32} (h : Rel x_textLength x_above x_below x_timesBad x_timesNo x_timesFull x_images_0_flitchCount x_images_0_familyCount x_images_0_hung x_images_0_day x_images_0_familyCell x_images_0_familyKind x_images_0_familySide x_images_0_familyWill x_images_0_flitchCell x_images_0_flitchKind x_images_0_flitchStrength x_images_0_marks_size x_images_0_marks_numbers x_images_0_notes_size x_images_0_notes_numbers x_images_0_past_size x_images_0_past_numbers x_images_0_sightings_size x_images_0_sightings_numbers x_images_1_flitchCount x_images_1_familyCount x_images_1_hung x_images_1_day x_images_1_familyCell x_images_1_familyKind x_images_1_familySide x_images_1_familyWill x_images_1_flitchCell x_images_1_flitchKind x_images_1_flitchStrength x_images_1_marks_size x_images_1_marks_numbers x_images_1_notes_size x_images_1_notes_numbers x_images_1_past_size x_images_1_past_numbers x_images_1_sightings_size x_images_1_sightings_numbers x_kept x_now_flitchCount x_now_familyCount x_now_hung x_now_day x_now_familyCell x_now_familyKind x_now_familySide x_now_familyWill x_now_flitchCell x_now_flitchKind x_now_flitchStrength x_now_marks_width x_now_marks_limit x_now_marks_size x_now_marks_numbers x_now_notes_width x_now_notes_limit x_now_notes_size x_now_notes_numbers x_now_past_width x_now_past_limit x_now_past_size x_now_past_numbers x_now_sightings_width x_now_sightings_limit x_now_sightings_size x_now_sightings_numbers x_text m_above m_below m_length m_isKept m_refused m_row m_text m_words) (x1 : Int32) : wp_Rc_quiet x1 x_timesBad x_foresight_taken x_now_flitchCount x_now_familyCount x_now_day x_now_familyCell x_now_familyKind x_now_familyWill x_now_flitchCell x_now_flitchKind x_now_flitchStrength (fun (r : Int32) (x_timesBad' : Int32) (x_foresight_taken' : Nat → Int32) => wp_Mo_quiet x1 m_refused m_row (fun (r' : Int32) (m_refused' : Nat → Int32) (m_row' : Nat → Int32) => r = r' ∧ Rel x_textLength x_above x_below x_timesBad' x_timesNo x_timesFull x_images_0_flitchCount x_images_0_familyCount x_images_0_hung x_images_0_day x_images_0_familyCell x_images_0_familyKind x_images_0_familySide x_images_0_familyWill x_images_0_flitchCell x_images_0_flitchKind x_images_0_flitchStrength x_images_0_marks_size x_images_0_marks_numbers x_images_0_notes_size x_images_0_notes_numbers x_images_0_past_size x_images_0_past_numbers x_images_0_sightings_size x_images_0_sightings_numbers x_images_1_flitchCount x_images_1_familyCount x_images_1_hung x_images_1_day x_images_1_familyCell x_images_1_familyKind x_images_1_familySide x_images_1_familyWill x_images_1_flitchCell x_images_1_flitchKind x_images_1_flitchStrength x_images_1_marks_size x_images_1_marks_numbers x_images_1_notes_size x_images_1_notes_numbers x_images_1_past_size x_images_1_past_numbers x_images_1_sightings_size x_images_1_sightings_numbers x_kept x_now_flitchCount x_now_familyCount x_now_hung x_now_day x_now_familyCell x_now_familyKind x_now_familySide x_now_familyWill x_now_flitchCell x_now_flitchKind x_now_flitchStrength x_now_marks_width x_now_marks_limit x_now_marks_size x_now_marks_numbers x_now_notes_width x_now_notes_limit x_now_notes_size x_now_notes_numbers x_now_past_width x_now_past_limit x_now_past_size x_now_past_numbers x_now_sightings_width x_now_sightings_limit x_now_sightings_size x_now_sightings_numbers x_text m_above m_below m_length m_isKept m_refused' m_row' m_text m_words)) := by
  obtain ⟨⟨p, hPS, hM⟩, ⟨rfl, rfl, rfl, rfl, rfl, rfl, rfl, rfl⟩, hk0, hk1, hTx, hFr, hRf, hWo⟩ := id h
  obtain ⟨hI, ⟨rfl, rfl, rfl, rfl, a5, a6, a7, a8, a9, a10, a11⟩, hm, hn, hp, hs⟩ := id hPS
  have h7 := hI.1
  have h3 := hI.2.1.1
  have e27 : m_row 27 = nI (p 27) := hM.at0 (by omega)
  have e17 : m_row 17 = nI (p 17) := hM.at0 (by omega)
  have hd := hI.d9
  have h15 := p15_lt hI
  have h8 : (2 : Nat) ^ p 17 ≤ 8 := Nat.le_trans (Nat.pow_le_pow_right (by omega) h3) (by decide)
  have h1 : 1 ≤ (2 : Nat) ^ p 17 := Nat.one_le_two_pow
  by_cases q1 : inB x1 1 60 = 0
  · simp only [wp_Rc_quiet, wp_Mo_quiet, true_implies, false_implies, not_true_eq_false, not_false_eq_true, and_true, true_and, jn0_e, w_bad, w_no, w_full, w_badApart, w_refB, w_refN, w_refF, w_badAs, w_within, w_in, w_isCell, w_isFamC, w_isFliC, w_isFamM, w_isFliM, q1]; first | exact rel_bad h | exact ⟨rfl, rel_bad h⟩
  obtain ⟨n, -, hn60, rfl⟩ := inB_nI (lo := 1) (hi := 60) (by omega) (by omega) q1
  have e17' : m_row (Int32.toNatClampNeg 17) = nI (p 17) := e17
  simp only [wp_Rc_quiet, wp_Mo_quiet, true_implies, false_implies, not_true_eq_false, not_false_eq_true, and_true, true_and, jn0_e, w_bad, w_no, w_full, w_badApart, w_refB, w_refN, w_refF, w_badAs, w_within, w_in, w_isCell, w_isFamC, w_isFliC, w_isFamM, w_isFliM, q1, e17', fe_e, sh_nI (p 17) (show p 17 < 4 by omega)]
  refine s_fewestOut hI a5 a6 a8 a9 a10 a11 hn60 (fun tk => ?_)
  obtain ⟨H, hH⟩ : ∃ H : Nat → Bool, H = fun s => allN (hoB p (2 ^ p 17 - 1 - s) n) (p 27) := ⟨_, rfl⟩
  rw [← hH]
  refine lpw3_rule (fun x3 x4 r => ∃ s, s ≤ 2 ^ p 17 ∧ x3 = qI (qsN H s) ∧ x4 = nI s ∧ Lo r m_row) (fun _ x4 _ => 9 - x4.toNatClampNeg) ?_ (-1) 0 m_row ⟨0, Nat.zero_le _, rfl, rfl, Lo.rf⟩
  intro B x3 x4 r hx hB
  obtain ⟨s, hs, rfl, rfl, hLr⟩ := hx
  by_cases e : s = 2 ^ p 17
  · subst e
    exact ⟨fun _ => ⟨rfl, rel_now h p hPS (hLr.mr hM) hLr.hi⟩, fun q => absurd (nI_lt (by omega) (by omega)) q⟩
  have hs : s < 2 ^ p 17 := by omega
  refine ⟨fun q => absurd q (nI_nlt (by omega) (by omega)), fun _ => ?_⟩
  refine s_layTried (fun row1 r1 hL1 => ?_)
  rw [cm_nI (p 17) (by omega) s hs]
  have hL2 : Lo (upd row1 768 (nI (2 ^ p 17 - 1 - s))) m_row := (Lo.up (by omega)).tr (hL1.tr hLr)
  have hS2 : SgM (p 27) (upd row1 768 (nI (2 ^ p 17 - 1 - s))) 753 p (fun i => p (8 + i)) (2 ^ p 17 - 1 - s) (p 16) := by
    obtain ⟨s1, s2, s3, s4, s5⟩ := tried_Sg hI (hLr.mr hM) r1
    exact ⟨fun j hj => by rw [pk_un (by omega)]; exact s1 j hj, by rw [pk_un (by omega)]; exact s2, fun j hj => by rw [pk_un (by omega)]; exact s3 j hj, by rw [show 753 + 15 = 768 from rfl, pk_us], by rw [pk_un (by omega)]; exact s5⟩
  refine s_passTried hI (hL2.mr hM) hS2 hI.w99 hI.c25 (by omega) (by omega) (by omega) (fun row3 hS3 hL3 => ?_)
  have hL4 := hL3.tr hL2
  have next : ∀ q', q' = qsN H (s + 1) → B (qI q') (nI (s + 1)) row3 := fun q' z => hB _ _ _ ⟨s + 1, by omega, by rw [z], rfl, hL4⟩ (by rw [nI_clamp (by omega), nI_clamp (by omega)]; omega)
  have e760 : row3 (Int32.toNatClampNeg 760) = nI (lapN (fun i => p i - tkT p (p (28 + i)) (p (8 + i)) (2 ^ p 17 - 1 - s) (p 16) n) (p 27)) := hS3.2.1
  have er7 : row3 (Int32.toNatClampNeg 7) = nI (lapN p (p 27)) := by show row3 7 = _; rw [hL4 7 (by omega), hM.at0 (by omega), hI.lap]
  have hl1 := lapN_lt (fun i => p i - tkT p (p (28 + i)) (p (8 + i)) (2 ^ p 17 - 1 - s) (p 16) n) (p 27)
  have hl2 := lapN_lt p (p 27)
  have h128 : (2 : Nat) ^ (p 27) ≤ 128 := Nat.le_trans (Nat.pow_le_pow_right (by omega) h7) (by decide)
  have eH : H s = allN (hoB p (2 ^ p 17 - 1 - s) n) (p 27) := by rw [hH]
  have hiff : (lapN (fun i => p i - tkT p (p (28 + i)) (p (8 + i)) (2 ^ p 17 - 1 - s) (p 16) n) (p 27) = lapN p (p 27)) ↔ H s = true := by
    rw [eH, allN_i]
    constructor
    · intro q i hi
      have := lapN_inj q i hi
      exact decide_eq_true (by omega)
    · intro q
      exact lapN_cong (fun i hi => by have := of_decide_eq_true (q i hi); omega)
  have hb1 := bcN_le s 8
  have hb2 := bcN_le (qsN H s) 8
  have z10 : ¬ ((1 : Int32) = 0) := by decide
  simp only [e760, er7, jn1_e, jn0_e, fe_e, nI_1]
  refine ⟨fun q => ⟨fun _ => ?_, fun z => absurd trivial z⟩, fun q => ⟨fun z => absurd z z10, fun _ => ?_⟩⟩
  · exact next _ (qsN_n (fun z => q (by rw [hiff.mpr z.1]))).symm
  · have hHs : H s = true := hiff.mp ((nI_eq (by omega) (by omega)).mp q)
    have yes : (qsN H s = 99 ∨ bcN s 8 < bcN (qsN H s) 8) → B (nI s) (nI (s + 1)) row3 := fun hc => by
      have := next s (qsN_y hHs hc).symm
      unfold qI at this
      rw [if_neg (by omega)] at this
      exact this
    rcases qsN_lt H s with hq | hq
    · have eq : qI (qsN H s) = -1 := by unfold qI; rw [if_pos hq]
      exact ⟨fun _ => yes (Or.inl hq), fun z => absurd eq z⟩
    · have hne : ¬ qsN H s = 99 := by omega
      have eq : qI (qsN H s) = nI (qsN H s) := by unfold qI; rw [if_neg hne]
      have hn1 : ¬ qI (qsN H s) = -1 := by rw [eq]; exact nI_em1 _ (by omega)
      refine ⟨fun z => absurd z hn1, fun _ => ?_⟩
      refine s_bits (by omega) ?_
      rw [show wp_Mo_bits (qI (qsN H s)) = wp_Mo_bits (nI (qsN H s)) by rw [eq]]
      refine s_bits (by omega) ?_
      refine ⟨fun q2 => ?_, fun q2 => yes (Or.inr ?_)⟩
      · have q' := (nI_leI (by omega) (by omega)).mp q2
        exact next _ (qsN_n (fun z => by omega)).symm
      · have q' : ¬ bcN (qsN H s) 8 ≤ bcN s 8 := fun z => q2 ((nI_leI (by omega) (by omega)).mpr z)
        omega

def brI (a b : Int32) : Int32 := (((if 9 < b then 0 else 2) ||| (if 9 < a then 0 else 4)) : Int32) ||| (if a < 9 then 0 else if b < 9 then 0 else 8)
def brT (a b : Int32) : Nat → Int32
  | 0 => 0
  | 1 => 0
  | 2 => if 9 < b then 0 else 2
  | 3 => (if 9 < b then 0 else 2) ||| (if 9 < a then 0 else 4)
  | _ => brI a b
theorem or0_2 : ∀ x y : Bool, ((((if x = true then 0 else 2) : Int32) ||| 0) = (if x = true then 0 else 2)) ∧ ((((if x = true then 0 else 2) ||| (if y = true then 0 else 4)) : Int32) ||| 0 = ((if x = true then 0 else 2) ||| (if y = true then 0 else 4))) ∧ ((0 : Int32) ||| 2 = 2) ∧ ((0 : Int32) ||| 0 = 0) := by decide
theorem w_resting (a b : Int32) (Q : Int32 → Prop) : wp_Rc_restingPairs a b Q = Q (brI a b) := by
  unfold wp_Rc_restingPairs brI
  simp only [jn1_e, fe_e]
  have o1 : ∀ x : Int32, x ||| 0 = x := fun x => Int32.or_zero
  by_cases h1 : 9 < b <;> by_cases h2 : 9 < a <;> by_cases h3 : a < 9 <;> by_cases h4 : b < 9 <;> simp [h1, h2, h3, h4, o1]
theorem s_gets {p : Nat → Nat} {row : Nat → Int32} (hI : Inv p) (hM : MR p row 0) {i : Nat} (hi : i < p 27) (hz : p i ≠ 0) (x2 x3 : Int32) {Q : Int32 → Prop} (hQ : Q (if x2 = 0 then (if x3 = 0 then 12 else 9) else if x3 = 0 then 20 else nI (p i) - nI (loP p i))) : wp_Mo_gets (nI i) x2 x3 row Q := by
  have h7 := hI.1
  unfold wp_Mo_gets
  rw [jn0_e]
  have e0 : (0 : Int32) + nI i = nI i := by rw [show (0 : Int32) = nI 0 from rfl, nI_add, Nat.zero_add]
  rw [e0, nI_clamp (by omega), hM.at0 (j := i) (by omega)]
  by_cases a : x2 = 0
  · rw [if_pos a] at hQ
    refine ⟨fun _ => ⟨fun _ => ⟨fun b => ?_, fun b => ?_⟩, fun z => absurd a z⟩, fun z => absurd a z⟩
    · rw [if_pos b] at hQ; exact hQ
    · rw [if_neg b] at hQ; exact hQ
  · rw [if_neg a] at hQ
    refine ⟨fun z => absurd z a, fun _ => ⟨fun b => ⟨fun z => absurd z a, fun _ => ?_⟩, fun b => ⟨vp_in_nI (by omega) (by omega), ?_⟩⟩⟩
    · rw [if_pos b] at hQ; exact hQ
    · rw [if_neg b] at hQ
      refine s_takesToday hI hM hi ?_
      rw [if_neg hz]
      exact hQ
set_option maxHeartbeats 4000000 in
set_option maxRecDepth 100000 in
theorem po_brothers {x_textLength : Int32} {x_above : Int64} {x_below : Int64} {x_timesBad : Int32} {x_timesNo : Int32} {x_timesFull : Int32} {x_images_0_flitchCount : Int32} {x_images_0_familyCount : Int32} {x_images_0_hung : Int32} {x_images_0_day : Int32} {x_images_0_familyCell : Nat → Int32} {x_images_0_familyKind : Nat → Int32} {x_images_0_familySide : Nat → Int32} {x_images_0_familyWill : Nat → Int32} {x_images_0_flitchCell : Nat → Int32} {x_images_0_flitchKind : Nat → Int32} {x_images_0_flitchStrength : Nat → Int32} {x_images_0_marks_size : Int32} {x_images_0_marks_numbers : Nat → Int32} {x_images_0_notes_size : Int32} {x_images_0_notes_numbers : Nat → Int32} {x_images_0_past_size : Int32} {x_images_0_past_numbers : Nat → Int32} {x_images_0_sightings_size : Int32} {x_images_0_sightings_numbers : Nat → Int32} {x_images_1_flitchCount : Int32} {x_images_1_familyCount : Int32} {x_images_1_hung : Int32} {x_images_1_day : Int32} {x_images_1_familyCell : Nat → Int32} {x_images_1_familyKind : Nat → Int32} {x_images_1_familySide : Nat → Int32} {x_images_1_familyWill : Nat → Int32} {x_images_1_flitchCell : Nat → Int32} {x_images_1_flitchKind : Nat → Int32} {x_images_1_flitchStrength : Nat → Int32} {x_images_1_marks_size : Int32} {x_images_1_marks_numbers : Nat → Int32} {x_images_1_notes_size : Int32} {x_images_1_notes_numbers : Nat → Int32} {x_images_1_past_size : Int32} {x_images_1_past_numbers : Nat → Int32} {x_images_1_sightings_size : Int32} {x_images_1_sightings_numbers : Nat → Int32} {x_kept : Nat → Int32} {x_now_flitchCount : Int32} {x_now_familyCount : Int32} {x_now_hung : Int32} {x_now_day : Int32} {x_now_familyCell : Nat → Int32} {x_now_familyKind : Nat → Int32} {x_now_familySide : Nat → Int32} {x_now_familyWill : Nat → Int32} {x_now_flitchCell : Nat → Int32} {x_now_flitchKind : Nat → Int32} {x_now_flitchStrength : Nat → Int32} {x_now_marks_width : Int32} {x_now_marks_limit : Int32} {x_now_marks_size : Int32} {x_now_marks_numbers : Nat → Int32} {x_now_notes_width : Int32} {x_now_notes_limit : Int32} {x_now_notes_size : Int32} {x_now_notes_numbers : Nat → Int32} {x_now_past_width : Int32} {x_now_past_limit : Int32} {x_now_past_size : Int32} {x_now_past_numbers : Nat → Int32} {x_now_sightings_width : Int32} {x_now_sightings_limit : Int32} {x_now_sightings_size : Int32} {x_now_sightings_numbers : Nat → Int32} {x_text : Nat → Int32} {m_above : Int64} {m_below : Int64} {m_length : Int32} {m_isKept : Nat → Int32} {m_refused : Nat → Int32} {m_row : Nat → Int32} {m_text : Nat → Int32} {m_words : Nat → Int32} (h : Rel x_textLength x_above x_below x_timesBad x_timesNo x_timesFull x_images_0_flitchCount x_images_0_familyCount x_images_0_hung x_images_0_day x_images_0_familyCell x_images_0_familyKind x_images_0_familySide x_images_0_familyWill x_images_0_flitchCell x_images_0_flitchKind x_images_0_flitchStrength x_images_0_marks_size x_images_0_marks_numbers x_images_0_notes_size x_images_0_notes_numbers x_images_0_past_size x_images_0_past_numbers x_images_0_sightings_size x_images_0_sightings_numbers x_images_1_flitchCount x_images_1_familyCount x_images_1_hung x_images_1_day x_images_1_familyCell x_images_1_familyKind x_images_1_familySide x_images_1_familyWill x_images_1_flitchCell x_images_1_flitchKind x_images_1_flitchStrength x_images_1_marks_size x_images_1_marks_numbers x_images_1_notes_size x_images_1_notes_numbers x_images_1_past_size x_images_1_past_numbers x_images_1_sightings_size x_images_1_sightings_numbers x_kept x_now_flitchCount x_now_familyCount x_now_hung x_now_day x_now_familyCell x_now_familyKind x_now_familySide x_now_familyWill x_now_flitchCell x_now_flitchKind x_now_flitchStrength x_now_marks_width x_now_marks_limit x_now_marks_size x_now_marks_numbers x_now_notes_width x_now_notes_limit x_now_notes_size x_now_notes_numbers x_now_past_width x_now_past_limit x_now_past_size x_now_past_numbers x_now_sightings_width x_now_sightings_limit x_now_sightings_size x_now_sightings_numbers x_text m_above m_below m_length m_isKept m_refused m_row m_text m_words) (x1 : Int32) (x2 : Int32) : wp_Rc_brothers x1 x2 x_timesBad x_timesNo x_now_flitchCount x_now_familyCount x_now_hung x_now_day x_now_familyCell x_now_familyKind x_now_familySide x_now_familyWill x_now_flitchCell x_now_flitchKind x_now_flitchStrength (fun (r : Int32) (x_timesBad' : Int32) (x_timesNo' : Int32) => wp_Mo_brothers x1 x2 m_refused m_row (fun (r' : Int32) (m_refused' : Nat → Int32) => r = r' ∧ Rel x_textLength x_above x_below x_timesBad' x_timesNo' x_timesFull x_images_0_flitchCount x_images_0_familyCount x_images_0_hung x_images_0_day x_images_0_familyCell x_images_0_familyKind x_images_0_familySide x_images_0_familyWill x_images_0_flitchCell x_images_0_flitchKind x_images_0_flitchStrength x_images_0_marks_size x_images_0_marks_numbers x_images_0_notes_size x_images_0_notes_numbers x_images_0_past_size x_images_0_past_numbers x_images_0_sightings_size x_images_0_sightings_numbers x_images_1_flitchCount x_images_1_familyCount x_images_1_hung x_images_1_day x_images_1_familyCell x_images_1_familyKind x_images_1_familySide x_images_1_familyWill x_images_1_flitchCell x_images_1_flitchKind x_images_1_flitchStrength x_images_1_marks_size x_images_1_marks_numbers x_images_1_notes_size x_images_1_notes_numbers x_images_1_past_size x_images_1_past_numbers x_images_1_sightings_size x_images_1_sightings_numbers x_kept x_now_flitchCount x_now_familyCount x_now_hung x_now_day x_now_familyCell x_now_familyKind x_now_familySide x_now_familyWill x_now_flitchCell x_now_flitchKind x_now_flitchStrength x_now_marks_width x_now_marks_limit x_now_marks_size x_now_marks_numbers x_now_notes_width x_now_notes_limit x_now_notes_size x_now_notes_numbers x_now_past_width x_now_past_limit x_now_past_size x_now_past_numbers x_now_sightings_width x_now_sightings_limit x_now_sightings_size x_now_sightings_numbers x_text m_above m_below m_length m_isKept m_refused' m_row m_text m_words)) := by
  obtain ⟨⟨p, hPS, hM⟩, ⟨rfl, rfl, rfl, rfl, rfl, rfl, rfl, rfl⟩, hk0, hk1, hTx, hFr, hRf, hWo⟩ := id h
  obtain ⟨hI, ⟨rfl, rfl, rfl, rfl, a5, a6, a7, a8, a9, a10, a11⟩, hm, hn, hp, hs⟩ := id hPS
  have h7 := hI.1
  have h3 := hI.2.1.1
  have e27 : m_row 27 = nI (p 27) := hM.at0 (by omega)
  have e17 : m_row 17 = nI (p 17) := hM.at0 (by omega)
  by_cases q1 : inB x1 0 (nI (p 27) - 1) = 0
  · simp only [wp_Rc_brothers, wp_Mo_brothers, true_implies, false_implies, not_true_eq_false, not_false_eq_true, and_true, true_and, jn0_e, w_bad, w_no, w_full, w_badApart, w_refB, w_refN, w_refF, w_badAs, w_within, w_in, w_isCell, w_isFamC, w_isFliC, w_isFamM, w_isFliM, e27, q1]; first | exact rel_bad h | exact ⟨rfl, rel_bad h⟩
  by_cases q2 : inB x2 0 (nI (p 27) - 1) = 0
  · simp only [wp_Rc_brothers, wp_Mo_brothers, true_implies, false_implies, not_true_eq_false, not_false_eq_true, and_true, true_and, jn0_e, w_bad, w_no, w_full, w_badApart, w_refB, w_refN, w_refF, w_badAs, w_within, w_in, w_isCell, w_isFamC, w_isFliC, w_isFamM, w_isFliM, e27, q1, q2]; first | exact rel_bad h | exact ⟨rfl, rel_bad h⟩
  obtain ⟨i, hi, rfl⟩ := inB_pl (by omega) q1
  obtain ⟨j, hj, rfl⟩ := inB_pl (by omega) q2
  have s1 := (hI.2.2.1 i hi).2
  have s2 := (hI.2.2.1 j hj).2
  have w1 := hI.w99 i hi
  have w2 := hI.w99 j hj
  have v1 : vp_in (nI i) 7 := vp_in_nI (by omega) (by omega)
  have v2 : vp_in (nI j) 7 := vp_in_nI (by omega) (by omega)
  have f1 : (35 : Int32) + nI i = nI (35 + i) := nI_add 35 i
  have f2 : (35 : Int32) + nI j = nI (35 + j) := nI_add 35 j
  have g1 : vp_in (nI (35 + i)) 770 := vp_in_nI (by omega) (by omega)
  have g2 : vp_in (nI (35 + j)) 770 := vp_in_nI (by omega) (by omega)
  have e7 : ∀ x Q, wp_Mo_has (m_row (Int32.toNatClampNeg 7)) x Q = wp_Mo_has (m_row 7) x Q := fun _ _ => rfl
  have cl := nI_clamp (show i < 2 ^ 31 by omega)
  have cl2 := nI_clamp (show j < 2 ^ 31 by omega)
  have cl3 := nI_clamp (show 35 + i < 2 ^ 31 by omega)
  have cl4 := nI_clamp (show 35 + j < 2 ^ 31 by omega)
  have r1 : m_row (35 + i) = nI (p (35 + i)) := hM.at0 (by omega)
  have r2 : m_row (35 + j) = nI (p (35 + j)) := hM.at0 (by omega)
  have z10 : ((1 : Int32) = 0) = False := by decide
  have L1 : ∀ Q, wp_Pa_hasLapsed (nI i) x_now_familyWill Q = Q (if p i = 0 then 1 else 0) := fun Q => w_lapsedC (n := 0) (by omega) (a8 i hi) (by omega) Q
  have L2 : ∀ Q, wp_Pa_hasLapsed (nI j) x_now_familyWill Q = Q (if p j = 0 then 1 else 0) := fun Q => w_lapsedC (n := 0) (by omega) (a8 j hj) (by omega) Q
  have M1 : ∀ Q, wp_Mo_has (m_row 7) (nI i) Q = Q (if p i = 0 then 1 else 0) := fun Q => w_hasM hI hM hi Q
  have M2 : ∀ Q, wp_Mo_has (m_row 7) (nI j) Q = Q (if p j = 0 then 1 else 0) := fun Q => w_hasM hI hM hj Q
  by_cases hs : p (35 + i) = p (35 + j)
  · simp only [wp_Rc_brothers, wp_Mo_brothers, true_implies, false_implies, not_true_eq_false, not_false_eq_true, and_true, true_and, jn0_e, w_bad, w_no, w_full, w_badApart, w_refB, w_refN, w_refF, w_badAs, w_within, w_in, w_isCell, w_isFamC, w_isFliC, w_isFamM, w_isFliM, e27, q1, q2, v1, v2, f1, f2, g1, g2, cl, cl2, cl3, cl4, r1, r2, a7 i hi, a7 j hj, hs]; first | exact rel_no h | exact ⟨rfl, rel_no h⟩
  have hs' : (nI (p (35 + i)) = nI (p (35 + j))) = False := eq_false (nI_ne (by omega) (by omega) hs)
  by_cases hz1 : p i = 0
  · simp only [wp_Rc_brothers, wp_Mo_brothers, true_implies, false_implies, not_true_eq_false, not_false_eq_true, and_true, true_and, jn0_e, w_bad, w_no, w_full, w_badApart, w_refB, w_refN, w_refF, w_badAs, w_within, w_in, w_isCell, w_isFamC, w_isFliC, w_isFamM, w_isFliM, e27, q1, q2, v1, v2, f1, f2, g1, g2, cl, cl2, cl3, cl4, r1, r2, a7 i hi, a7 j hj, hs', L1, e7, M1, hz1, if_true, z10]; first | exact rel_no h | exact ⟨rfl, rel_no h⟩
  by_cases hz2 : p j = 0
  · simp only [wp_Rc_brothers, wp_Mo_brothers, true_implies, false_implies, not_true_eq_false, not_false_eq_true, and_true, true_and, jn0_e, w_bad, w_no, w_full, w_badApart, w_refB, w_refN, w_refF, w_badAs, w_within, w_in, w_isCell, w_isFamC, w_isFliC, w_isFamM, w_isFliM, e27, q1, q2, v1, v2, f1, f2, g1, g2, cl, cl2, cl3, cl4, r1, r2, a7 i hi, a7 j hj, hs', L1, L2, e7, M1, M2, hz1, hz2, if_true, if_false, z10]; first | exact rel_no h | exact ⟨rfl, rel_no h⟩
  simp only [wp_Rc_brothers, wp_Mo_brothers, true_implies, false_implies, not_true_eq_false, not_false_eq_true, and_true, true_and, jn0_e, w_bad, w_no, w_full, w_badApart, w_refB, w_refN, w_refF, w_badAs, w_within, w_in, w_isCell, w_isFamC, w_isFliC, w_isFamM, w_isFliM, e27, q1, q2, v1, v2, f1, f2, g1, g2, cl, cl2, cl3, cl4, r1, r2, a7 i hi, a7 j hj, hs', L1, L2, e7, M1, M2, hz1, hz2, if_false, a8 i hi, a8 j hj]
  refine s_takenToday hI rfl rfl rfl a5 a6 a8 a9 a10 a11 hi (s_takenToday hI rfl rfl rfl a5 a6 a8 a9 a10 a11 hj ?_)
  rw [if_neg hz1, if_neg hz2, w_resting]
  obtain ⟨a, ha⟩ : ∃ a, a = nI (p i) - nI (loP p i) := ⟨_, rfl⟩
  obtain ⟨b, hb⟩ : ∃ b, b = nI (p j) - nI (loP p j) := ⟨_, rfl⟩
  rw [← ha, ← hb]
  have t1 : ∀ (x2 x3 : Int32) (Q : Int32 → Prop), Q (if x2 = 0 then (if x3 = 0 then 12 else 9) else if x3 = 0 then 20 else a) → wp_Mo_gets (nI i) x2 x3 m_row Q := fun x2 x3 Q hQ => s_gets hI hM hi hz1 x2 x3 (by rw [← ha]; exact hQ)
  have t2 : ∀ (x2 x3 : Int32) (Q : Int32 → Prop), Q (if x2 = 0 then (if x3 = 0 then 12 else 9) else if x3 = 0 then 20 else b) → wp_Mo_gets (nI j) x2 x3 m_row Q := fun x2 x3 Q hQ => s_gets hI hM hj hz2 x2 x3 (by rw [← hb]; exact hQ)
  have o1 : ∀ x : Int32, x ||| 0 = x := fun x => Int32.or_zero
  have o2 : ∀ x : Int32, 0 ||| x = x := fun x => Int32.zero_or
  refine lpw2_run (brT a b) nI 4 ?_ ?_ 0 (Nat.zero_le _)
  · intro B t ht hB
    refine ⟨fun q => absurd q (nI_ge (b := 4) ht (by decide)), fun _ => ?_⟩
    rw [w_has, w_has]
    rcases (show t = 0 ∨ t = 1 ∨ t = 2 ∨ t = 3 by omega) with rfl | rfl | rfl | rfl
    · have hB' : B 0 (nI 1) := hB
      have ee : brT a b 0 = 0 := rfl
      rw [ee, show (if (ishr (nI 0) 0) &&& 1 = 1 then (1 : Int32) else 0) = 0 by decide, show (if (ishr (nI 0) 1) &&& 1 = 1 then (1 : Int32) else 0) = 0 by decide]
      refine t1 _ _ _ ?_
      simp only [jn1_e]
      refine ⟨fun z => absurd (by trivial) z, fun _ => t1 _ _ _ ?_⟩
      simp only [eq_self, if_true, show ((1 : Int32) = 0) = False from by decide, if_false]
      refine ⟨fun _ => ⟨fun _ => ?_, fun z => absurd (by trivial) z⟩, fun z => absurd (by decide) z⟩
      simp only [fe_e, o1, nI_1]
      exact hB'
    · have hB' : B (if 9 < b then 0 else 2) (nI 2) := hB
      have ee : brT a b 1 = 0 := rfl
      rw [ee, show (if (ishr (nI 1) 0) &&& 1 = 1 then (1 : Int32) else 0) = 1 by decide, show (if (ishr (nI 1) 1) &&& 1 = 1 then (1 : Int32) else 0) = 0 by decide]
      refine t1 _ _ _ ?_
      simp only [jn1_e]
      refine ⟨fun _ => t1 _ _ _ ?_, fun z => absurd z (by decide)⟩
      have y1 : ∀ c : Int32, (if (1 : Int32) = 0 then (if (0 : Int32) = 0 then 12 else 9) else if (0 : Int32) = 0 then 20 else c) = 20 := fun c => by rw [if_neg (by decide), if_pos rfl]
      have y2 : ∀ c : Int32, (if (0 : Int32) = 0 then (if (0 : Int32) = 0 then 12 else 9) else if (0 : Int32) = 0 then 20 else c) = 12 := fun c => by rw [if_pos rfl, if_pos rfl]
      simp only [eq_self, if_true, show ((1 : Int32) = 0) = False from by decide, if_false]
      refine ⟨fun z => absurd z (by decide), fun _ => t2 _ _ _ ⟨fun z => absurd (by trivial) z, fun _ => t2 _ _ _ ?_⟩⟩
      have x1 : (if (0 : Int32) = 0 then (if (1 : Int32) = 0 then 12 else 9) else if (1 : Int32) = 0 then 20 else b) = 9 := by rw [if_pos rfl, if_neg (by decide)]
      have x2 : (if (1 : Int32) = 0 then (if (1 : Int32) = 0 then 12 else 9) else if (1 : Int32) = 0 then 20 else b) = b := by rw [if_neg (by decide), if_neg (by decide)]
      rw [x1, x2]
      simp only [fe_e, o1, o2, nI_1]
      by_cases q : 9 < b
      · rw [if_pos q] at hB'
        exact ⟨fun _ => ⟨fun _ => hB', fun z => absurd (by trivial) z⟩, fun z => absurd q z⟩
      · rw [if_neg q] at hB'
        exact ⟨fun z => absurd z q, fun _ => ⟨fun z => absurd z (by decide), fun _ => hB'⟩⟩
    · have hB' : B ((if 9 < b then 0 else 2) ||| (if 9 < a then 0 else 4)) (nI 3) := hB
      have ee : brT a b 2 = (if 9 < b then 0 else 2) := rfl
      rw [ee, show (if (ishr (nI 2) 0) &&& 1 = 1 then (1 : Int32) else 0) = 0 by decide, show (if (ishr (nI 2) 1) &&& 1 = 1 then (1 : Int32) else 0) = 1 by decide]
      refine t1 _ _ _ ?_
      simp only [jn1_e]
      refine ⟨fun z => absurd (by trivial) z, fun _ => t1 _ _ _ ?_⟩
      have x1 : (if (0 : Int32) = 0 then (if (1 : Int32) = 0 then 12 else 9) else if (1 : Int32) = 0 then 20 else a) = 9 := by rw [if_pos rfl, if_neg (by decide)]
      have x2 : (if (1 : Int32) = 0 then (if (1 : Int32) = 0 then 12 else 9) else if (1 : Int32) = 0 then 20 else a) = a := by rw [if_neg (by decide), if_neg (by decide)]
      simp only [eq_self, if_true, show ((1 : Int32) = 0) = False from by decide, if_false]
      by_cases q : 9 < a
      · rw [if_pos q] at hB'
        refine ⟨fun _ => ⟨fun _ => ?_, fun z => absurd (by trivial) z⟩, fun z => absurd q z⟩
        simp only [fe_e, nI_1]
        exact hB'
      · rw [if_neg q] at hB'
        refine ⟨fun z => absurd z q, fun _ => t2 _ _ _ ⟨fun _ => t2 _ _ _ ?_, fun z => absurd z (by decide)⟩⟩
        have y1 : ∀ c : Int32, (if (1 : Int32) = 0 then (if (0 : Int32) = 0 then 12 else 9) else if (0 : Int32) = 0 then 20 else c) = 20 := fun c => by rw [if_neg (by decide), if_pos rfl]
        have y2 : ∀ c : Int32, (if (0 : Int32) = 0 then (if (0 : Int32) = 0 then 12 else 9) else if (0 : Int32) = 0 then 20 else c) = 12 := fun c => by rw [if_pos rfl, if_pos rfl]
        rw [y1, y2]
        refine ⟨fun z => absurd z (by decide), fun _ => ⟨fun z => absurd z (by decide), fun _ => ?_⟩⟩
        simp only [fe_e, nI_1]
        exact hB'
    · have hB' : B (brI a b) (nI 4) := hB
      have ee : brT a b 3 = ((if 9 < b then 0 else 2) ||| (if 9 < a then 0 else 4)) := rfl
      rw [ee, show (if (ishr (nI 3) 0) &&& 1 = 1 then (1 : Int32) else 0) = 1 by decide, show (if (ishr (nI 3) 1) &&& 1 = 1 then (1 : Int32) else 0) = 1 by decide]
      unfold brI at hB'
      refine t1 _ _ _ ?_
      simp only [jn1_e]
      refine ⟨fun _ => t1 _ _ _ ?_, fun z => absurd z (by decide)⟩
      have x1 : ∀ c : Int32, (if (0 : Int32) = 0 then (if (1 : Int32) = 0 then 12 else 9) else if (1 : Int32) = 0 then 20 else c) = 9 := fun c => by rw [if_pos rfl, if_neg (by decide)]
      have x2 : ∀ c : Int32, (if (1 : Int32) = 0 then (if (1 : Int32) = 0 then 12 else 9) else if (1 : Int32) = 0 then 20 else c) = c := fun c => by rw [if_neg (by decide), if_neg (by decide)]
      rw [x1, x2]
      by_cases q : a < 9
      · rw [if_pos q] at hB'
        refine ⟨fun _ => ⟨fun _ => ?_, fun z => absurd (by trivial) z⟩, fun z => absurd q z⟩
        simp only [fe_e, nI_1]
        exact hB'
      · rw [if_neg q] at hB'
        refine ⟨fun z => absurd z q, fun _ => t2 _ _ _ ⟨fun _ => t2 _ _ _ ?_, fun z => absurd z (by decide)⟩⟩
        rw [x1, x2]
        by_cases q2 : b < 9
        · rw [if_pos q2] at hB'
          refine ⟨fun _ => ⟨fun _ => ?_, fun z => absurd (by trivial) z⟩, fun z => absurd q2 z⟩
          simp only [fe_e, nI_1]
          exact hB'
        · rw [if_neg q2] at hB'
          refine ⟨fun z => absurd z q2, fun _ => ⟨fun z => absurd z (by decide), fun _ => ?_⟩⟩
          simp only [fe_e, nI_1]
          exact hB'
  · intro B
    have ee : brT a b 4 = brI a b := rfl
    rw [ee]
    exact ⟨fun _ => ⟨rfl, h⟩, fun q => absurd (nI_le (a := 4) (b := 4) (Nat.le_refl _) (by decide)) q⟩

