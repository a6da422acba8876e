theorem CRp.cong {p p' : Nat → Nat} {sz : Int32} {nu : Nat → Int32} (h : CRp p sz nu) (e27 : p' 27 = p 27) (e : ∀ j, 114 ≤ j → p' j = p j) : CRp p' sz nu := by
  obtain ⟨h1, h2⟩ := h
  refine ⟨by rw [e 114 (by omega)]; exact h1, fun k hk => ?_⟩
  rw [e 114 (by omega)] at hk
  obtain ⟨g1, g2, g3⟩ := h2 k hk
  rw [e27]
  exact ⟨by rw [e _ (by omega)]; exact g1, by rw [e _ (by omega)]; exact g2, fun i hi => ⟨by rw [e _ (by omega)]; exact (g3 i hi).1, by rw [e _ (by omega)]; exact (g3 i hi).2⟩⟩
theorem CRs.cong {p p' : Nat → Nat} {sz : Int32} {nu : Nat → Int32} (h : CRs p sz nu) (e : ∀ j, 42 ≤ j → j < 58 → p' j = p j) (h5 : p 42 ≤ 5) : CRs p' sz nu := by
  obtain ⟨h1, h2⟩ := h
  refine ⟨by rw [e 42 (by omega) (by omega)]; exact h1, fun k hk => ?_⟩
  rw [e 42 (by omega) (by omega)] at hk
  rw [h2 k hk]
  simp only [e (43 + k) (by omega) (by omega)]
theorem CRn.cong {p p' : Nat → Nat} {sz : Int32} {nu : Nat → Int32} (h : CRn p sz nu) (e : ∀ j, 58 ≤ j → j < 89 → p' j = p j) (h5 : p 58 ≤ 6) : CRn p' sz nu := by
  obtain ⟨h1, h2⟩ := h
  refine ⟨by rw [e 58 (by omega) (by omega)]; exact h1, fun k hk => ?_⟩
  rw [e 58 (by omega) (by omega)] at hk
  rw [h2 k hk]
  simp only [e (59 + k) (by omega) (by omega)]
theorem CRm.cong {p p' : Nat → Nat} {sz : Int32} {nu : Nat → Int32} (h : CRm p sz nu) (e : ∀ j, 89 ≤ j → j < 114 → p' j = p j) (h5 : p 89 ≤ 6) : CRm p' sz nu := by
  obtain ⟨h1, h2⟩ := h
  refine ⟨by rw [e 89 (by omega) (by omega)]; exact h1, fun k hk => ?_⟩
  rw [e 89 (by omega) (by omega)] at hk
  rw [h2 k hk]
  simp only [e (90 + k) (by omega) (by omega)]
/-- how many have lapsed -/
def cntN (w : Nat → Nat) : Nat → Nat
  | 0 => 0
  | n + 1 => cntN w n + (if w n = 0 then 1 else 0)
theorem s_lapsedOf {nf n1 : Nat} {w : Nat → Nat} {A : Nat → Int32} (hn : nf ≤ n1) (h7 : nf ≤ 7) (hn1 : n1 ≤ 7) (hA : Ar nf A w) (hw : ∀ i, i < nf → w i < 2 ^ 31) {Q : Int32 → Prop} (hQ : Q (nI (cntN w nf))) : wp_Pa_lapsedOf n1 (nI nf) A Q := by
  unfold wp_Pa_lapsedOf
  refine lpw2_run (fun j => nI (cntN w j)) nI nf ?_ ?_ 0 (Nat.zero_le _)
  · intro B j hj hB
    refine ⟨fun q => absurd q (nI_ge hj (by omega)), fun _ => ⟨vp_in_nI (by omega) (by omega), ?_⟩⟩
    unfold jn1
    rw [nI_clamp (by omega), hA j hj]
    simp only [fe_e, nI_1, ge1_nI (hw j hj)]
    refine ⟨fun q => ?_, fun q => ?_⟩
    · simp only [cntN, q, if_false, Nat.add_zero] at hB; exact hB
    · have q' : w j = 0 := Classical.not_not.mp q
      simp only [cntN, q', if_true] at hB; exact hB
  · intro B
    exact ⟨fun _ => hQ, fun q => absurd (nI_le (Nat.le_refl _) (by omega)) q⟩
def bcN (x : Nat) : Nat → Nat
  | 0 => 0
  | n + 1 => bcN x n + btN x n
theorem s_bits {x : Nat} (hx : x < 256) {Q : Int32 → Prop} (hQ : Q (nI (bcN x 8))) : wp_Mo_bits (nI x) Q := by
  unfold wp_Mo_bits
  refine lpw2_run (fun j => nI (bcN x j)) nI 8 ?_ ?_ 0 (Nat.zero_le _)
  · intro B j hj hB
    refine ⟨fun q => absurd q (nI_ge (b := 8) hj (by decide)), fun _ => ?_⟩
    simp only [fe_e, bit_nI hx hj, nI_add, nI_1]
    exact hB
  · intro B
    exact ⟨fun _ => hQ, fun q => absurd (nI_le (a := 8) (b := 8) (Nat.le_refl _) (by decide)) q⟩
theorem bcN_hi {x m : Nat} (h : x < 2 ^ m) : ∀ n, m ≤ n → bcN x n = bcN x m := by
  intro n
  induction n with
  | zero => intro h; rw [show m = 0 by omega]
  | succ n ih =>
    intro hn
    by_cases e : m = n + 1
    · rw [e]
    · have h1 : x < 2 ^ n := Nat.lt_of_lt_of_le h (Nat.pow_le_pow_right (by omega) (by omega))
      simp only [bcN, btN_lo h1, Nat.add_zero]
      exact ih (by omega)
theorem bcN_lap (w : Nat → Nat) (n : Nat) : ∀ m, m ≤ n → bcN (lapN w n) m = cntN w m := by
  intro m
  induction m with
  | zero => intro _; rfl
  | succ m ih =>
    intro hm
    simp only [bcN, cntN]
    rw [ih (by omega), btN_lap w n m (by omega)]
theorem bcN_lap8 (w : Nat → Nat) {n : Nat} (h : n ≤ 7) : bcN (lapN w n) 8 = cntN w n := by
  rw [bcN_hi (lapN_lt w n) 8 (by omega)]
  exact bcN_lap w n n (Nat.le_refl _)
theorem Inv.lap {p : Nat → Nat} (h : Inv p) : p 7 = lapN p (p 27) := by
  have := h.2.2.2.1.2.2.1
  simp only [Nat.zero_add] at this
  exact this
theorem lap_lt {p : Nat → Nat} (h : Inv p) : p 7 < 128 := by
  rw [h.lap]
  exact Nat.lt_of_lt_of_le (lapN_lt _ _) (Nat.le_trans (Nat.pow_le_pow_right (by omega) h.1) (by decide))
set_option maxHeartbeats 4000000 in
set_option maxRecDepth 100000 in
theorem po_days {x_textLength : Int32} {x_above : Int64} {x_below : Int64} {x_timesBad : Int32} {x_timesNo : Int32} {x_timesFull : Int32} {x_images_0_flitchCount : Int32} {x_images_0_familyCount : Int32} {x_images_0_hung : Int32} {x_images_0_day : Int32} {x_images_0_familyCell : Nat → Int32} {x_images_0_familyKind : Nat → Int32} {x_images_0_familySide : Nat → Int32} {x_images_0_familyWill : Nat → Int32} {x_images_0_flitchCell : Nat → Int32} {x_images_0_flitchKind : Nat → Int32} {x_images_0_flitchStrength : Nat → Int32} {x_images_0_marks_size : Int32} {x_images_0_marks_numbers : Nat → Int32} {x_images_0_notes_size : Int32} {x_images_0_notes_numbers : Nat → Int32} {x_images_0_past_size : Int32} {x_images_0_past_numbers : Nat → Int32} {x_images_0_sightings_size : Int32} {x_images_0_sightings_numbers : Nat → Int32} {x_images_1_flitchCount : Int32} {x_images_1_familyCount : Int32} {x_images_1_hung : Int32} {x_images_1_day : Int32} {x_images_1_familyCell : Nat → Int32} {x_images_1_familyKind : Nat → Int32} {x_images_1_familySide : Nat → Int32} {x_images_1_familyWill : Nat → Int32} {x_images_1_flitchCell : Nat → Int32} {x_images_1_flitchKind : Nat → Int32} {x_images_1_flitchStrength : Nat → Int32} {x_images_1_marks_size : Int32} {x_images_1_marks_numbers : Nat → Int32} {x_images_1_notes_size : Int32} {x_images_1_notes_numbers : Nat → Int32} {x_images_1_past_size : Int32} {x_images_1_past_numbers : Nat → Int32} {x_images_1_sightings_size : Int32} {x_images_1_sightings_numbers : Nat → Int32} {x_kept : Nat → Int32} {x_now_flitchCount : Int32} {x_now_familyCount : Int32} {x_now_hung : Int32} {x_now_day : Int32} {x_now_familyCell : Nat → Int32} {x_now_familyKind : Nat → Int32} {x_now_familySide : Nat → Int32} {x_now_familyWill : Nat → Int32} {x_now_flitchCell : Nat → Int32} {x_now_flitchKind : Nat → Int32} {x_now_flitchStrength : Nat → Int32} {x_now_marks_width : Int32} {x_now_marks_limit : Int32} {x_now_marks_size : Int32} {x_now_marks_numbers : Nat → Int32} {x_now_notes_width : Int32} {x_now_notes_limit : Int32} {x_now_notes_size : Int32} {x_now_notes_numbers : Nat → Int32} {x_now_past_width : Int32} {x_now_past_limit : Int32} {x_now_past_size : Int32} {x_now_past_numbers : Nat → Int32} {x_now_sightings_width : Int32} {x_now_sightings_limit : Int32} {x_now_sightings_size : Int32} {x_now_sightings_numbers : Nat → Int32} {x_text : Nat → Int32} {m_above : Int64} {m_below : Int64} {m_length : Int32} {m_isKept : Nat → Int32} {m_refused : Nat → Int32} {m_row : Nat → Int32} {m_text : Nat → Int32} {m_words : Nat → Int32} (h : Rel x_textLength x_above x_below x_timesBad x_timesNo x_timesFull x_images_0_flitchCount x_images_0_familyCount x_images_0_hung x_images_0_day x_images_0_familyCell x_images_0_familyKind x_images_0_familySide x_images_0_familyWill x_images_0_flitchCell x_images_0_flitchKind x_images_0_flitchStrength x_images_0_marks_size x_images_0_marks_numbers x_images_0_notes_size x_images_0_notes_numbers x_images_0_past_size x_images_0_past_numbers x_images_0_sightings_size x_images_0_sightings_numbers x_images_1_flitchCount x_images_1_familyCount x_images_1_hung x_images_1_day x_images_1_familyCell x_images_1_familyKind x_images_1_familySide x_images_1_familyWill x_images_1_flitchCell x_images_1_flitchKind x_images_1_flitchStrength x_images_1_marks_size x_images_1_marks_numbers x_images_1_notes_size x_images_1_notes_numbers x_images_1_past_size x_images_1_past_numbers x_images_1_sightings_size x_images_1_sightings_numbers x_kept x_now_flitchCount x_now_familyCount x_now_hung x_now_day x_now_familyCell x_now_familyKind x_now_familySide x_now_familyWill x_now_flitchCell x_now_flitchKind x_now_flitchStrength x_now_marks_width x_now_marks_limit x_now_marks_size x_now_marks_numbers x_now_notes_width x_now_notes_limit x_now_notes_size x_now_notes_numbers x_now_past_width x_now_past_limit x_now_past_size x_now_past_numbers x_now_sightings_width x_now_sightings_limit x_now_sightings_size x_now_sightings_numbers x_text m_above m_below m_length m_isKept m_refused m_row m_text m_words) (x1 : Int32) : wp_Rc_days x1 x_timesBad x_now_flitchCount x_now_familyCount x_now_hung x_now_day x_now_familyCell x_now_familyKind x_now_familyWill x_now_flitchCell x_now_flitchKind x_now_flitchStrength x_now_past_width x_now_past_limit x_now_past_size x_now_past_numbers (fun (r : Int32) (x_timesBad' : Int32) (x_now_day' : Int32) (x_now_familyWill' : Nat → Int32) (x_now_past_size' : Int32) (x_now_past_numbers' : Nat → Int32) => wp_Mo_days x1 m_refused m_row (fun (r' : Int32) (m_refused' : Nat → Int32) (m_row' : Nat → Int32) => r = r' ∧ Rel x_textLength x_above x_below x_timesBad' x_timesNo x_timesFull x_images_0_flitchCount x_images_0_familyCount x_images_0_hung x_images_0_day x_images_0_familyCell x_images_0_familyKind x_images_0_familySide x_images_0_familyWill x_images_0_flitchCell x_images_0_flitchKind x_images_0_flitchStrength x_images_0_marks_size x_images_0_marks_numbers x_images_0_notes_size x_images_0_notes_numbers x_images_0_past_size x_images_0_past_numbers x_images_0_sightings_size x_images_0_sightings_numbers x_images_1_flitchCount x_images_1_familyCount x_images_1_hung x_images_1_day x_images_1_familyCell x_images_1_familyKind x_images_1_familySide x_images_1_familyWill x_images_1_flitchCell x_images_1_flitchKind x_images_1_flitchStrength x_images_1_marks_size x_images_1_marks_numbers x_images_1_notes_size x_images_1_notes_numbers x_images_1_past_size x_images_1_past_numbers x_images_1_sightings_size x_images_1_sightings_numbers x_kept x_now_flitchCount x_now_familyCount x_now_hung x_now_day' x_now_familyCell x_now_familyKind x_now_familySide x_now_familyWill' x_now_flitchCell x_now_flitchKind x_now_flitchStrength x_now_marks_width x_now_marks_limit x_now_marks_size x_now_marks_numbers x_now_notes_width x_now_notes_limit x_now_notes_size x_now_notes_numbers x_now_past_width x_now_past_limit x_now_past_size' x_now_past_numbers' x_now_sightings_width x_now_sightings_limit x_now_sightings_size x_now_sightings_numbers x_text m_above m_below m_length m_isKept m_refused' m_row' m_text m_words)) := by
  obtain ⟨⟨p, ⟨hI, ⟨rfl, rfl, rfl, rfl, a5, a6, a7, a8, a9, a10, a11⟩, hm, hn, hp, hs⟩, hM⟩, ⟨rfl, rfl, rfl, rfl, rfl, rfl, rfl, rfl⟩, -⟩ := id h
  unfold wp_Rc_days
  rw [w_within]
  refine ⟨fun q => ?_, fun q => ?_⟩
  · obtain ⟨n, hn1, hn2, rfl⟩ := inB_nI (lo := 1) (hi := 60) (by omega) (by omega) q
    refine s_remember hI rfl rfl a5 a8 hp (fun sz' nu' hC' => ?_)
    have hIk := hI.keep
    have el : ∀ j, j < 114 → keepN p j = p j := fun j hj => keepN_lo p hj
    have h7 := hI.1
    have h3 := hI.2.1.1
    have e17 := el 17 (by omega)
    have e27 := el 27 (by omega)
    have gh : ∀ j, 17 ≤ j → goN n (keepN p) j = keepN p j := fun j hj => goN_hi hIk n hj
    have gl : ∀ j, 17 ≤ j → j < 114 → goN n (keepN p) j = p j := fun j h1 h2 => by rw [gh j h1, el j h2]
    have hIg := hIk.go n
    refine s_passDays (p := keepN p) (by omega) hIk (by rw [e17]) (by rw [e27]) (by rw [el 15 (by omega)]) (by rw [el 16 (by omega)]) (fun i hi => by rw [e27] at hi; rw [a5 i hi]; simp only [el (8 + i) (by omega)]) (fun i hi => by rw [e27] at hi; rw [a6 i hi]; simp only [el (28 + i) (by omega)]) (fun i hi => by rw [e27] at hi; rw [a8 i hi]; simp only [el i (by omega)]) (fun i hi => by rw [e17] at hi; rw [a9 i hi]; simp only [el (21 + i) (by omega)]) (fun i hi => by rw [e17] at hi; rw [a10 i hi]; simp only [el (18 + i) (by omega)]) (fun i hi => by rw [e17] at hi; rw [a11 i hi]; simp only [el (24 + i) (by omega)]) (fun wi hwi => ?_)
    unfold wp_Pa_lapsedCount
    rw [e27] at hwi
    refine s_lapsedOf (by omega) (by omega) (Nat.le_refl _) hwi (fun i hi => ?_) ?_
    · have := hIg.w99 i (by rw [gl 27 (by omega) (by omega)]; exact hi)
      omega
    try dsimp only
    unfold wp_Mo_days
    rw [w_in]
    refine ⟨fun _ => ?_, fun q2 => absurd q2 q⟩
    refine s_keepPast hI hM (fun row1 hM1 hH1 => ?_)
    refine s_goBy (by omega) hIk hM1 (fun row2 hM2 hH2 => ?_)
    have e7 : row2 (Int32.toNatClampNeg 7) = nI (goN n (keepN p) 7) := hM2.at0 (j := 7) (by omega)
    rw [e7]
    refine s_bits (by have := lap_lt hIg; omega) ?_
    rw [hIg.lap, gl 27 (by omega) (by omega), bcN_lap8 _ h7]
    refine ⟨rfl, ?_⟩
    have hIg27 : goN n (keepN p) 27 = p 27 := gl 27 (by omega) (by omega)
    have hIg17 : goN n (keepN p) 17 = p 17 := gl 17 (by omega) (by omega)
    have glo : ∀ k, 8 ≤ k → k < 16 → goN n (keepN p) k = p k := by
      intro k h1 h2
      have : ∀ m, m ≤ 9999 - keepN p 16 → itN dayN m (keepN p) k = keepN p k := by
        intro m
        induction m with
        | zero => intro _; rfl
        | succ m ih =>
          intro hm
          show dayN (itN dayN m (keepN p)) k = _
          rw [dayN_hi _ (itN_Inv hIk m (by omega)).1.1 h1 (by omega)]
          exact ih (by omega)
      unfold goN
      rw [this _ (by omega), el k (by omega)]
    refine rel_now h (goN n (keepN p)) ⟨hIg, ⟨by rw [hIg17], by rw [hIg27], by rw [glo 15 (by omega) (by omega)], rfl, ?_, ?_, ?_, ?_, ?_, ?_, ?_⟩, hm.cong (fun j h1 h2 => gl j (by omega) h2) hI.2.2.2.2.2.2.1.1, hn.cong (fun j h1 h2 => gl j (by omega) (by omega)) hI.2.2.2.2.2.1.1, hC'.cong (by rw [gh 27 (by omega)]) (fun j hj => gh j (by omega)), hs.cong (fun j h1 h2 => gl j (by omega) (by omega)) hI.2.2.2.2.1.1⟩ hM2 (hH2.tr hH1)
    · intro i hi; rw [hIg27] at hi; rw [a5 i hi]; simp only [glo (8 + i) (by omega) (by omega)]
    · intro i hi; rw [hIg27] at hi; rw [a6 i hi]; simp only [gl (28 + i) (by omega) (by omega)]
    · intro i hi; rw [hIg27] at hi; rw [a7 i hi]; simp only [gl (35 + i) (by omega) (by omega)]
    · intro i hi; rw [hIg27] at hi; exact hwi i hi
    · intro i hi; rw [hIg17] at hi; rw [a9 i hi]; simp only [gl (21 + i) (by omega) (by omega)]
    · intro i hi; rw [hIg17] at hi; rw [a10 i hi]; simp only [gl (18 + i) (by omega) (by omega)]
    · intro i hi; rw [hIg17] at hi; rw [a11 i hi]; simp only [gl (24 + i) (by omega) (by omega)]
  · rw [w_bad]
    try dsimp only
    unfold wp_Mo_days
    rw [w_in]
    refine ⟨fun q2 => absurd q q2, fun _ => ?_⟩
    rw [w_refB]
    exact ⟨rfl, rel_bad h⟩

