def bsN (f : Nat → Bool) : Nat → Nat
  | 0 => 0
  | n + 1 => bsN f n + (if f n = true then 2 ^ n else 0)
theorem bsN_cong {f g : Nat → Bool} : ∀ n, (∀ i, i < n → f i = g i) → bsN f n = bsN g n
  | 0, _ => rfl
  | n + 1, h => by simp only [bsN]; rw [bsN_cong n (fun i hi => h i (by omega)), h n (by omega)]
theorem bsN_lt (f : Nat → Bool) : ∀ n, bsN f n < 2 ^ n
  | 0 => by simp [bsN]
  | n + 1 => by
    have h := bsN_lt f n
    have e : 2 ^ (n + 1) = 2 ^ n + 2 ^ n := by rw [Nat.pow_succ]; omega
    simp only [bsN]
    split <;> omega
def bs6 (b0 b1 b2 b3 b4 b5 : Bool) : Nat := 0 + (if b0 = true then 1 else 0) + (if b1 = true then 2 else 0) + (if b2 = true then 4 else 0) + (if b3 = true then 8 else 0) + (if b4 = true then 16 else 0) + (if b5 = true then 32 else 0)
theorem bsN_6 (f : Nat → Bool) : bsN f 6 = bs6 (f 0) (f 1) (f 2) (f 3) (f 4) (f 5) := rfl
theorem bs6_clr : ∀ k, k < 6 → ∀ b0 b1 b2 b3 b4 b5 : Bool, nI (bs6 b0 b1 b2 b3 b4 b5) &&& ((ishl 1 (nI k)) ^^^ (-1)) = nI (bs6 (b0 && (0 != k)) (b1 && (1 != k)) (b2 && (2 != k)) (b3 && (3 != k)) (b4 && (4 != k)) (b5 && (5 != k))) ∧ nI (bs6 b0 b1 b2 b3 b4 b5) &&& 63 = nI (bs6 b0 b1 b2 b3 b4 b5) := by decide +kernel
theorem bsN_clr (f : Nat → Bool) {k : Nat} (hk : k < 6) : nI (bsN f 6) &&& ((ishl 1 (nI k)) ^^^ (-1)) = nI (bsN (fun i => f i && (i != k)) 6) := (bs6_clr k hk (f 0) (f 1) (f 2) (f 3) (f 4) (f 5)).1
theorem bsN_63 (f : Nat → Bool) : nI (bsN f 6) &&& 63 = nI (bsN f 6) := (bs6_clr 0 (by omega) (f 0) (f 1) (f 2) (f 3) (f 4) (f 5)).2
theorem or_b6 : ∀ n, n < 6 → ∀ x, x < 2 ^ n → nI x ||| ishl 1 (nI n) = nI (x + 2 ^ n) := by decide +kernel
def alN (F : Nat → Nat → Bool) : Nat → Nat → Bool
  | 0, _ => true
  | j + 1, k => alN F j k && F k j
theorem alN_f {F : Nat → Nat → Bool} {k j : Nat} (h : F k j = false) : ∀ n, j < n → alN F n k = false
  | 0, hj => absurd hj (by omega)
  | n + 1, hj => by
    simp only [alN]
    by_cases e : j = n
    · subst e; rw [h]; simp
    · rw [alN_f h n (by omega)]; simp
def mxN (F : Nat → Nat → Bool) (j k : Nat) : Nat → Bool := fun i => if i < k then alN F (j + 1) i else alN F j i
theorem mxN_s (F : Nat → Nat → Bool) (j k : Nat) : bsN (mxN F j (k + 1)) 6 = bsN (fun i => if i = k then mxN F j k i && F k j else mxN F j k i) 6 := bsN_cong 6 (fun i _ => by
  unfold mxN
  by_cases e : i = k
  · subst e; simp [alN]
  · by_cases h : i < k
    · simp [e, h, show i < k + 1 by omega]
    · simp [e, h, show ¬ i < k + 1 by omega])
theorem mx_step (F : Nat → Nat → Bool) (j : Nat) {k : Nat} (hk : k < 6) : nI (bsN (mxN F j k) 6) &&& (if F k j = true then 63 else (ishl 1 (nI k)) ^^^ (-1)) = nI (bsN (mxN F j (k + 1)) 6) := by
  rw [mxN_s]
  by_cases h : F k j = true
  · rw [if_pos h, bsN_63, h]
    congr 1
    exact bsN_cong 6 (fun i _ => by by_cases e : i = k <;> simp [e])
  · rw [if_neg h, bsN_clr _ hk, show F k j = false by simpa using h]
    congr 1
    exact bsN_cong 6 (fun i _ => by by_cases e : i = k <;> simp [e])
def fnN (p : Nat → Nat) (x k j : Nat) : Bool := decide (p (59 + 5 * j) = x → scD k (p (60 + 5 * j)) (p (61 + 5 * j)) (p (62 + 5 * j)) = p (63 + 5 * j))
theorem s_fitsNotes {p : Nat → Nat} {sz : Int32} {nu : Nat → Int32} (hI : Inv p) (hC : CRn p sz nu) {x k : Nat} (hx : x < 8) (hk : k < 6) {Q : Int32 → Prop} (hQ : Q (if alN (fnN p x) (p 58) k = true then 1 else 0)) : wp_Gs_fitsNotes (nI x) (nI k) 5 sz nu Q := by
  obtain ⟨rfl, hA⟩ := hC
  have hsz := hI.2.2.2.2.2.1.1
  have h7 := hI.1
  have h3 := hI.2.1.1
  unfold wp_Gs_fitsNotes
  refine lpw1_rule (fun y => ∃ j, y = nI j ∧ j ≤ p 58 ∧ alN (fnN p x) j k = true) (fun y => p 58 - y.toNatClampNeg) ?_ 0 ⟨0, rfl, Nat.zero_le _, rfl⟩
  intro B y hy hB
  obtain ⟨j, rfl, hj, hal⟩ := hy
  by_cases hj' : j = p 58
  · subst hj'
    rw [if_pos hal] at hQ
    exact ⟨fun _ => hQ, fun z => absurd (nI_le (Nat.le_refl _) (by omega)) z⟩
  have hj : j < p 58 := by omega
  refine ⟨fun z => absurd z (nI_ge hj (by omega)), fun _ => ?_⟩
  obtain ⟨g1, g2, g3, g4, g5, g6⟩ := hI.2.2.2.2.2.1.2 j hj
  have i0 : nI j * 5 + 0 = nI (5 * j) := by rw [show nI j * 5 = nI (5 * j) by rw [show (5 : Int32) = nI 5 from rfl, pk_mul, Nat.mul_comm]]; exact nI_add _ 0
  have r0 : nu (5 * j) = nI (p (59 + 5 * j)) := by exact hA (5 * j) (by omega)
  have v0 : vp_in (nI (5 * j)) 30 := vp_in_nI (by omega) (by omega)
  have i1 : nI j * 5 + 1 = nI (5 * j + 1) := by rw [show nI j * 5 = nI (5 * j) by rw [show (5 : Int32) = nI 5 from rfl, pk_mul, Nat.mul_comm]]; exact nI_add _ 1
  have r1 : nu (5 * j + 1) = nI (p (60 + 5 * j)) := by rw [hA (5 * j + 1) (by omega)]; show nI (p (59 + (5 * j + 1))) = _; congr 2; omega
  have v1 : vp_in (nI (5 * j + 1)) 30 := vp_in_nI (by omega) (by omega)
  have i2 : nI j * 5 + 2 = nI (5 * j + 2) := by rw [show nI j * 5 = nI (5 * j) by rw [show (5 : Int32) = nI 5 from rfl, pk_mul, Nat.mul_comm]]; exact nI_add _ 2
  have r2 : nu (5 * j + 2) = nI (p (61 + 5 * j)) := by rw [hA (5 * j + 2) (by omega)]; show nI (p (59 + (5 * j + 2))) = _; congr 2; omega
  have v2 : vp_in (nI (5 * j + 2)) 30 := vp_in_nI (by omega) (by omega)
  have i3 : nI j * 5 + 3 = nI (5 * j + 3) := by rw [show nI j * 5 = nI (5 * j) by rw [show (5 : Int32) = nI 5 from rfl, pk_mul, Nat.mul_comm]]; exact nI_add _ 3
  have r3 : nu (5 * j + 3) = nI (p (62 + 5 * j)) := by rw [hA (5 * j + 3) (by omega)]; show nI (p (59 + (5 * j + 3))) = _; congr 2; omega
  have v3 : vp_in (nI (5 * j + 3)) 30 := vp_in_nI (by omega) (by omega)
  have i4 : nI j * 5 + 4 = nI (5 * j + 4) := by rw [show nI j * 5 = nI (5 * j) by rw [show (5 : Int32) = nI 5 from rfl, pk_mul, Nat.mul_comm]]; exact nI_add _ 4
  have r4 : nu (5 * j + 4) = nI (p (63 + 5 * j)) := by rw [hA (5 * j + 4) (by omega)]; show nI (p (59 + (5 * j + 4))) = _; congr 2; omega
  have v4 : vp_in (nI (5 * j + 4)) 30 := vp_in_nI (by omega) (by omega)
  simp only [wp_Rw_at, jn0_e, i0, v0, i1, v1, i2, v2, i3, v3, i4, v4, true_and, nI_clamp (show 5 * j < 2 ^ 31 by omega), nI_clamp (show 5 * j + 1 < 2 ^ 31 by omega), nI_clamp (show 5 * j + 2 < 2 ^ 31 by omega), nI_clamp (show 5 * j + 3 < 2 ^ 31 by omega), nI_clamp (show 5 * j + 4 < 2 ^ 31 by omega), r0, r1, r2, r3, r4, w_scent, fe_e, nI_1]
  have hin : alN (fnN p x) (j + 1) k = true → B (nI (j + 1)) := fun z => hB _ ⟨j + 1, rfl, by omega, z⟩ (by rw [nI_clamp (by omega), nI_clamp (by omega)]; omega)
  refine ⟨fun z => ?_, fun z => ?_⟩
  · have z' : ¬ p (59 + 5 * j) = x := fun e => z (by rw [e])
    exact hin (by simp only [alN, hal, fnN]; simp [z'])
  · have z' : p (59 + 5 * j) = x := (nI_eq (by omega) (by omega)).mp z
    rw [scF_nI hk (by omega) (by omega) (by omega)]
    refine ⟨fun e => ?_, fun e => ?_⟩
    · have e' := (nI_eq (by have := scD_le (k := k) (s := p (60 + 5 * j)) (f := p (61 + 5 * j)) (d := p (62 + 5 * j)) hk (by omega) (by omega); omega) (by omega)).mp e
      exact hin (by simp only [alN, hal, fnN]; simp [e'])
    · have hf : fnN p x k j = false := by
        unfold fnN
        simp only [z', decide_eq_false_iff_not, true_implies]
        exact fun q => e (by rw [q])
      rw [alN_f hf _ hj] at hQ
      exact hQ
theorem s_flitchKinds {p : Nat → Nat} {sz : Int32} {nu : Nat → Int32} (hI : Inv p) (hC : CRn p sz nu) {x : Nat} (hx : x < 8) {Q : Int32 → Prop} (hQ : Q (nI (bsN (alN (fnN p x) (p 58)) 6))) : wp_Gs_flitchKinds (nI x) 5 sz nu Q := by
  unfold wp_Gs_flitchKinds
  refine lpw2_run (fun k => nI (bsN (alN (fnN p x) (p 58)) k)) nI 6 ?_ ?_ 0 (Nat.zero_le _)
  · intro B k hk hB
    refine ⟨fun q => absurd q (nI_ge (b := 6) hk (by decide)), fun _ => ?_⟩
    refine s_fitsNotes hI hC hx hk ?_
    simp only [jn1_e, fe_e, nI_1, or_b6 k hk _ (bsN_lt _ k)]
    simp only [bsN] at hB
    by_cases e : alN (fnN p x) (p 58) k = true
    · simp only [e, if_true] at hB ⊢
      exact ⟨fun z => absurd z (by decide), fun _ => hB⟩
    · simp only [e, if_false, Nat.add_zero] at hB ⊢
      exact ⟨fun _ => hB, fun z => absurd rfl z⟩
  · intro B
    exact ⟨fun _ => hQ, fun q => absurd (nI_le (a := 6) (b := 6) (Nat.le_refl _) (by decide)) q⟩
theorem s_sortsOf {p : Nat → Nat} {row : Nat → Int32} (hI : Inv p) (hM : MR p row 0) {x : Nat} (hx : x < 8) {Q : Int32 → Prop} (hQ : Q (nI (bsN (alN (fnN p x) (p 58)) 6))) : wp_Mo_sortsOf (nI x) row Q := by
  have hsz := hI.2.2.2.2.2.1.1
  have h7 := hI.1
  have h3 := hI.2.1.1
  have eb : row (Int32.toNatClampNeg 58) = nI (p 58) := hM.at0 (j := 58) (by omega)
  have ee : (59 : Int32) + 5 * nI (p 58) = nI (59 + 5 * p 58) := by rw [show (5 : Int32) * nI (p 58) = nI (5 * p 58) from pk_mul 5 _]; exact nI_add 59 _
  unfold wp_Mo_sortsOf
  simp only [eb, ee]
  refine lpw2_run (fun j => nI (bsN (alN (fnN p x) j) 6)) (fun j => nI (59 + 5 * j)) (p 58) ?_ ?_ 0 (Nat.zero_le _)
  · intro B j hj hB
    refine ⟨fun q => absurd q (nI_ge (by omega) (by omega)), fun _ => ?_⟩
    obtain ⟨g1, g2, g3, g4, g5, g6⟩ := hI.2.2.2.2.2.1.2 j hj
    have j0 : nI (59 + 5 * j) = nI (59 + 5 * j) := rfl
    have w0 : vp_in (nI (59 + 5 * j)) 770 := vp_in_nI (by omega) (by omega)
    have rr0 : row (59 + 5 * j) = nI (p (59 + 5 * j)) := hM.at0 (by omega)
    have j1 : nI (59 + 5 * j) + 1 = nI (60 + 5 * j) := by rw [show nI (59 + 5 * j) + 1 = nI (59 + 5 * j + 1) from nI_add _ 1]; congr 1; omega
    have w1 : vp_in (nI (60 + 5 * j)) 770 := vp_in_nI (by omega) (by omega)
    have rr1 : row (60 + 5 * j) = nI (p (60 + 5 * j)) := hM.at0 (by omega)
    have j2 : nI (59 + 5 * j) + 2 = nI (61 + 5 * j) := by rw [show nI (59 + 5 * j) + 2 = nI (59 + 5 * j + 2) from nI_add _ 2]; congr 1; omega
    have w2 : vp_in (nI (61 + 5 * j)) 770 := vp_in_nI (by omega) (by omega)
    have rr2 : row (61 + 5 * j) = nI (p (61 + 5 * j)) := hM.at0 (by omega)
    have j3 : nI (59 + 5 * j) + 3 = nI (62 + 5 * j) := by rw [show nI (59 + 5 * j) + 3 = nI (59 + 5 * j + 3) from nI_add _ 3]; congr 1; omega
    have w3 : vp_in (nI (62 + 5 * j)) 770 := vp_in_nI (by omega) (by omega)
    have rr3 : row (62 + 5 * j) = nI (p (62 + 5 * j)) := hM.at0 (by omega)
    have j4 : nI (59 + 5 * j) + 4 = nI (63 + 5 * j) := by rw [show nI (59 + 5 * j) + 4 = nI (59 + 5 * j + 4) from nI_add _ 4]; congr 1; omega
    have w4 : vp_in (nI (63 + 5 * j)) 770 := vp_in_nI (by omega) (by omega)
    have rr4 : row (63 + 5 * j) = nI (p (63 + 5 * j)) := hM.at0 (by omega)
    have jW : nI (59 + 5 * j) + 5 = nI (59 + 5 * (j + 1)) := by rw [show nI (59 + 5 * j) + 5 = nI (59 + 5 * j + 5) from nI_add _ 5]; congr 1
    refine lpw2_run (fun k => nI (bsN (mxN (fnN p x) j k) 6)) nI 6 ?_ ?_ 0 (Nat.zero_le _)
    · intro B2 k hk hB2
      refine ⟨fun q => absurd q (nI_ge (b := 6) hk (by decide)), fun _ => ?_⟩
      simp only [jn1_e, jn0_e, true_and, w0, nI_clamp (show 59 + 5 * j < 2 ^ 31 by omega), rr0, j1, w1, nI_clamp (show 60 + 5 * j < 2 ^ 31 by omega), rr1, j2, w2, nI_clamp (show 61 + 5 * j < 2 ^ 31 by omega), rr2, j3, w3, nI_clamp (show 62 + 5 * j < 2 ^ 31 by omega), rr3, j4, w4, nI_clamp (show 63 + 5 * j < 2 ^ 31 by omega), rr4, w_smellBy, fe_e, nI_1]
      rw [← mx_step (fnN p x) j hk] at hB2
      by_cases hf : fnN p x k j = true
      · rw [if_pos hf] at hB2
        have hf' := of_decide_eq_true hf
        refine ⟨fun z => ⟨fun q => absurd q (by decide), fun _ => hB2⟩, fun z => ⟨fun q => ?_, fun _ => ⟨fun q => absurd q (by decide), fun _ => hB2⟩⟩⟩
        have z' := hf' ((nI_eq (by omega) (by omega)).mp z)
        exact absurd (by rw [scF_nI hk (by omega) (by omega) (by omega), z']) q
      · rw [if_neg hf] at hB2
        have hf' : ¬ (p (59 + 5 * j) = x → scD k (p (60 + 5 * j)) (p (61 + 5 * j)) (p (62 + 5 * j)) = p (63 + 5 * j)) := fun q => hf (decide_eq_true q)
        refine ⟨fun z => absurd (fun q => absurd (by rw [q]) z) hf', fun z => ⟨fun q => ⟨fun _ => hB2, fun q => absurd trivial q⟩, fun q => ?_⟩⟩
        rw [scF_nI hk (by omega) (by omega) (by omega)] at q
        exact absurd (fun _ => (nI_eq (by have := scD_le (k := k) (s := p (60 + 5 * j)) (f := p (61 + 5 * j)) (d := p (62 + 5 * j)) hk (by omega) (by omega); omega) (by omega)).mp q) hf'
    · intro B2
      refine ⟨fun _ => ?_, fun q => absurd (nI_le (a := 6) (b := 6) (Nat.le_refl _) (by decide)) q⟩
      simp only [fe_e, jW]
      have e : bsN (mxN (fnN p x) j 6) 6 = bsN (alN (fnN p x) (j + 1)) 6 := bsN_cong 6 (fun i hi => by simp [mxN, hi])
      rw [← e] at hB
      exact hB
  · intro B
    exact ⟨fun _ => hQ, fun q => absurd (nI_le (Nat.le_refl _) (by omega)) q⟩
set_option maxHeartbeats 4000000 in
set_option maxRecDepth 100000 in
theorem po_is {x_textLength : Int32} {x_above : Int64} {x_below : Int64} {x_timesBad : Int32} {x_timesNo : Int32} {x_timesFull : Int32} {x_images_0_flitchCount : Int32} {x_images_0_familyCount : Int32} {x_images_0_hung : Int32} {x_images_0_day : Int32} {x_images_0_familyCell : Nat → Int32} {x_images_0_familyKind : Nat → Int32} {x_images_0_familySide : Nat → Int32} {x_images_0_familyWill : Nat → Int32} {x_images_0_flitchCell : Nat → Int32} {x_images_0_flitchKind : Nat → Int32} {x_images_0_flitchStrength : Nat → Int32} {x_images_0_marks_size : Int32} {x_images_0_marks_numbers : Nat → Int32} {x_images_0_notes_size : Int32} {x_images_0_notes_numbers : Nat → Int32} {x_images_0_past_size : Int32} {x_images_0_past_numbers : Nat → Int32} {x_images_0_sightings_size : Int32} {x_images_0_sightings_numbers : Nat → Int32} {x_images_1_flitchCount : Int32} {x_images_1_familyCount : Int32} {x_images_1_hung : Int32} {x_images_1_day : Int32} {x_images_1_familyCell : Nat → Int32} {x_images_1_familyKind : Nat → Int32} {x_images_1_familySide : Nat → Int32} {x_images_1_familyWill : Nat → Int32} {x_images_1_flitchCell : Nat → Int32} {x_images_1_flitchKind : Nat → Int32} {x_images_1_flitchStrength : Nat → Int32} {x_images_1_marks_size : Int32} {x_images_1_marks_numbers : Nat → Int32} {x_images_1_notes_size : Int32} {x_images_1_notes_numbers : Nat → Int32} {x_images_1_past_size : Int32} {x_images_1_past_numbers : Nat → Int32} {x_images_1_sightings_size : Int32} {x_images_1_sightings_numbers : Nat → Int32} {x_kept : Nat → Int32} {x_now_flitchCount : Int32} {x_now_familyCount : Int32} {x_now_hung : Int32} {x_now_day : Int32} {x_now_familyCell : Nat → Int32} {x_now_familyKind : Nat → Int32} {x_now_familySide : Nat → Int32} {x_now_familyWill : Nat → Int32} {x_now_flitchCell : Nat → Int32} {x_now_flitchKind : Nat → Int32} {x_now_flitchStrength : Nat → Int32} {x_now_marks_width : Int32} {x_now_marks_limit : Int32} {x_now_marks_size : Int32} {x_now_marks_numbers : Nat → Int32} {x_now_notes_width : Int32} {x_now_notes_limit : Int32} {x_now_notes_size : Int32} {x_now_notes_numbers : Nat → Int32} {x_now_past_width : Int32} {x_now_past_limit : Int32} {x_now_past_size : Int32} {x_now_past_numbers : Nat → Int32} {x_now_sightings_width : Int32} {x_now_sightings_limit : Int32} {x_now_sightings_size : Int32} {x_now_sightings_numbers : Nat → Int32} {x_text : Nat → Int32} {m_above : Int64} {m_below : Int64} {m_length : Int32} {m_isKept : Nat → Int32} {m_refused : Nat → Int32} {m_row : Nat → Int32} {m_text : Nat → Int32} {m_words : Nat → Int32} (h : Rel x_textLength x_above x_below x_timesBad x_timesNo x_timesFull x_images_0_flitchCount x_images_0_familyCount x_images_0_hung x_images_0_day x_images_0_familyCell x_images_0_familyKind x_images_0_familySide x_images_0_familyWill x_images_0_flitchCell x_images_0_flitchKind x_images_0_flitchStrength x_images_0_marks_size x_images_0_marks_numbers x_images_0_notes_size x_images_0_notes_numbers x_images_0_past_size x_images_0_past_numbers x_images_0_sightings_size x_images_0_sightings_numbers x_images_1_flitchCount x_images_1_familyCount x_images_1_hung x_images_1_day x_images_1_familyCell x_images_1_familyKind x_images_1_familySide x_images_1_familyWill x_images_1_flitchCell x_images_1_flitchKind x_images_1_flitchStrength x_images_1_marks_size x_images_1_marks_numbers x_images_1_notes_size x_images_1_notes_numbers x_images_1_past_size x_images_1_past_numbers x_images_1_sightings_size x_images_1_sightings_numbers x_kept x_now_flitchCount x_now_familyCount x_now_hung x_now_day x_now_familyCell x_now_familyKind x_now_familySide x_now_familyWill x_now_flitchCell x_now_flitchKind x_now_flitchStrength x_now_marks_width x_now_marks_limit x_now_marks_size x_now_marks_numbers x_now_notes_width x_now_notes_limit x_now_notes_size x_now_notes_numbers x_now_past_width x_now_past_limit x_now_past_size x_now_past_numbers x_now_sightings_width x_now_sightings_limit x_now_sightings_size x_now_sightings_numbers x_text m_above m_below m_length m_isKept m_refused m_row m_text m_words) (x1 : Int32) : wp_Rc_is x1 x_timesBad x_now_flitchCount x_now_notes_width x_now_notes_size x_now_notes_numbers (fun (r : Int32) (x_timesBad' : Int32) => wp_Mo_is x1 m_refused m_row (fun (r' : Int32) (m_refused' : Nat → Int32) => r = r' ∧ Rel x_textLength x_above x_below x_timesBad' x_timesNo x_timesFull x_images_0_flitchCount x_images_0_familyCount x_images_0_hung x_images_0_day x_images_0_familyCell x_images_0_familyKind x_images_0_familySide x_images_0_familyWill x_images_0_flitchCell x_images_0_flitchKind x_images_0_flitchStrength x_images_0_marks_size x_images_0_marks_numbers x_images_0_notes_size x_images_0_notes_numbers x_images_0_past_size x_images_0_past_numbers x_images_0_sightings_size x_images_0_sightings_numbers x_images_1_flitchCount x_images_1_familyCount x_images_1_hung x_images_1_day x_images_1_familyCell x_images_1_familyKind x_images_1_familySide x_images_1_familyWill x_images_1_flitchCell x_images_1_flitchKind x_images_1_flitchStrength x_images_1_marks_size x_images_1_marks_numbers x_images_1_notes_size x_images_1_notes_numbers x_images_1_past_size x_images_1_past_numbers x_images_1_sightings_size x_images_1_sightings_numbers x_kept x_now_flitchCount x_now_familyCount x_now_hung x_now_day x_now_familyCell x_now_familyKind x_now_familySide x_now_familyWill x_now_flitchCell x_now_flitchKind x_now_flitchStrength x_now_marks_width x_now_marks_limit x_now_marks_size x_now_marks_numbers x_now_notes_width x_now_notes_limit x_now_notes_size x_now_notes_numbers x_now_past_width x_now_past_limit x_now_past_size x_now_past_numbers x_now_sightings_width x_now_sightings_limit x_now_sightings_size x_now_sightings_numbers x_text m_above m_below m_length m_isKept m_refused' m_row m_text m_words)) := by
  obtain ⟨⟨p, hPS, hM⟩, ⟨rfl, rfl, rfl, rfl, rfl, rfl, rfl, rfl⟩, hk0, hk1, hTx, hFr, hRf, hWo⟩ := id h
  obtain ⟨hI, ⟨rfl, rfl, rfl, rfl, a5, a6, a7, a8, a9, a10, a11⟩, hm, hn, hp, hs⟩ := id hPS
  have h7 := hI.1
  have h3 := hI.2.1.1
  have e27 : m_row 27 = nI (p 27) := hM.at0 (by omega)
  have e17 : m_row 17 = nI (p 17) := hM.at0 (by omega)
  by_cases q1 : inB x1 0 (nI (p 17) - 1) = 0
  · simp only [wp_Rc_is, wp_Mo_is, true_implies, false_implies, not_true_eq_false, not_false_eq_true, and_true, true_and, jn0_e, w_bad, w_no, w_full, w_badApart, w_refB, w_refN, w_refF, w_badAs, w_within, w_in, w_isCell, w_isFamC, w_isFliC, w_isFamM, w_isFliM, e27, e17, q1]; first | exact rel_bad h | exact ⟨rfl, rel_bad h⟩
  obtain ⟨x, hx, rfl⟩ := inB_pl (by omega) q1
  simp only [wp_Rc_is, wp_Mo_is, true_implies, false_implies, not_true_eq_false, not_false_eq_true, and_true, true_and, jn0_e, w_bad, w_no, w_full, w_badApart, w_refB, w_refN, w_refF, w_badAs, w_within, w_in, w_isCell, w_isFamC, w_isFliC, w_isFamM, w_isFliM, e27, e17, q1]
  exact s_flitchKinds hI hn (by omega) (s_sortsOf hI hM (by omega) ⟨rfl, h⟩)

def fmN (p : Nat → Nat) (x k j : Nat) : Bool := decide (p (90 + 4 * j) = x → lsD k (p (91 + 4 * j)) (p (92 + 4 * j)) = p (93 + 4 * j))
theorem s_fitsMarks {p : Nat → Nat} {sz : Int32} {nu : Nat → Int32} (hI : Inv p) (hC : CRm p sz nu) {x k : Nat} (hx : x < 8) (hk : k < 6) {Q : Int32 → Prop} (hQ : Q (if alN (fmN p x) (p 89) k = true then 1 else 0)) : wp_Gs_fitsMarks (nI x) (nI k) 4 sz nu Q := by
  obtain ⟨rfl, hA⟩ := hC
  have hsz := hI.2.2.2.2.2.2.1.1
  have h7 := hI.1
  have h3 := hI.2.1.1
  unfold wp_Gs_fitsMarks
  refine lpw1_rule (fun y => ∃ j, y = nI j ∧ j ≤ p 89 ∧ alN (fmN p x) j k = true) (fun y => p 89 - y.toNatClampNeg) ?_ 0 ⟨0, rfl, Nat.zero_le _, rfl⟩
  intro B y hy hB
  obtain ⟨j, rfl, hj, hal⟩ := hy
  by_cases hj' : j = p 89
  · subst hj'
    rw [if_pos hal] at hQ
    exact ⟨fun _ => hQ, fun z => absurd (nI_le (Nat.le_refl _) (by omega)) z⟩
  have hj : j < p 89 := by omega
  refine ⟨fun z => absurd z (nI_ge hj (by omega)), fun _ => ?_⟩
  obtain ⟨g1, g2, g3, g4⟩ := hI.2.2.2.2.2.2.1.2 j hj
  have i0 : nI j * 4 + 0 = nI (4 * j) := by rw [show nI j * 4 = nI (4 * j) by rw [show (4 : Int32) = nI 4 from rfl, pk_mul, Nat.mul_comm]]; exact nI_add _ 0
  have r0 : nu (4 * j) = nI (p (90 + 4 * j)) := by exact hA (4 * j) (by omega)
  have v0 : vp_in (nI (4 * j)) 24 := vp_in_nI (by omega) (by omega)
  have i1 : nI j * 4 + 1 = nI (4 * j + 1) := by rw [show nI j * 4 = nI (4 * j) by rw [show (4 : Int32) = nI 4 from rfl, pk_mul, Nat.mul_comm]]; exact nI_add _ 1
  have r1 : nu (4 * j + 1) = nI (p (91 + 4 * j)) := by rw [hA (4 * j + 1) (by omega)]; show nI (p (90 + (4 * j + 1))) = _; congr 2; omega
  have v1 : vp_in (nI (4 * j + 1)) 24 := vp_in_nI (by omega) (by omega)
  have i2 : nI j * 4 + 2 = nI (4 * j + 2) := by rw [show nI j * 4 = nI (4 * j) by rw [show (4 : Int32) = nI 4 from rfl, pk_mul, Nat.mul_comm]]; exact nI_add _ 2
  have r2 : nu (4 * j + 2) = nI (p (92 + 4 * j)) := by rw [hA (4 * j + 2) (by omega)]; show nI (p (90 + (4 * j + 2))) = _; congr 2; omega
  have v2 : vp_in (nI (4 * j + 2)) 24 := vp_in_nI (by omega) (by omega)
  have i3 : nI j * 4 + 3 = nI (4 * j + 3) := by rw [show nI j * 4 = nI (4 * j) by rw [show (4 : Int32) = nI 4 from rfl, pk_mul, Nat.mul_comm]]; exact nI_add _ 3
  have r3 : nu (4 * j + 3) = nI (p (93 + 4 * j)) := by rw [hA (4 * j + 3) (by omega)]; show nI (p (90 + (4 * j + 3))) = _; congr 2; omega
  have v3 : vp_in (nI (4 * j + 3)) 24 := vp_in_nI (by omega) (by omega)
  simp only [wp_Rw_at, jn0_e, i0, v0, i1, v1, i2, v2, i3, v3, true_and, nI_clamp (show 4 * j < 2 ^ 31 by omega), nI_clamp (show 4 * j + 1 < 2 ^ 31 by omega), nI_clamp (show 4 * j + 2 < 2 ^ 31 by omega), nI_clamp (show 4 * j + 3 < 2 ^ 31 by omega), r0, r1, r2, r3, w_loss, fe_e, nI_1]
  have hin : alN (fmN p x) (j + 1) k = true → B (nI (j + 1)) := fun z => hB _ ⟨j + 1, rfl, by omega, z⟩ (by rw [nI_clamp (by omega), nI_clamp (by omega)]; omega)
  refine ⟨fun z => ?_, fun z => ?_⟩
  · have z' : ¬ p (90 + 4 * j) = x := fun e => z (by rw [e])
    exact hin (by simp only [alN, hal, fmN]; simp [z'])
  · have z' : p (90 + 4 * j) = x := (nI_eq (by omega) (by omega)).mp z
    rw [lsF_nI hk (by omega) (by omega)]
    refine ⟨fun e => ?_, fun e => ?_⟩
    · have e' := (nI_eq (by have := lsD_le (k := k) (x := p (91 + 4 * j)) (d := p (92 + 4 * j)) hk (by omega); omega) (by omega)).mp e
      exact hin (by simp only [alN, hal, fmN]; simp [e'])
    · have hf : fmN p x k j = false := by
        unfold fmN
        simp only [z', decide_eq_false_iff_not, true_implies]
        exact fun q => e (by rw [q])
      rw [alN_f hf _ hj] at hQ
      exact hQ
theorem s_familyKinds {p : Nat → Nat} {sz : Int32} {nu : Nat → Int32} (hI : Inv p) (hC : CRm p sz nu) {x : Nat} (hx : x < 8) {Q : Int32 → Prop} (hQ : Q (nI (bsN (alN (fmN p x) (p 89)) 6))) : wp_Gs_familyKinds (nI x) 4 sz nu Q := by
  unfold wp_Gs_familyKinds
  refine lpw2_run (fun k => nI (bsN (alN (fmN p x) (p 89)) k)) nI 6 ?_ ?_ 0 (Nat.zero_le _)
  · intro B k hk hB
    refine ⟨fun q => absurd q (nI_ge (b := 6) hk (by decide)), fun _ => ?_⟩
    refine s_fitsMarks hI hC hx hk ?_
    simp only [jn1_e, fe_e, nI_1, or_b6 k hk _ (bsN_lt _ k)]
    simp only [bsN] at hB
    by_cases e : alN (fmN p x) (p 89) k = true
    · simp only [e, if_true] at hB ⊢
      exact ⟨fun z => absurd z (by decide), fun _ => hB⟩
    · simp only [e, if_false, Nat.add_zero] at hB ⊢
      exact ⟨fun _ => hB, fun z => absurd rfl z⟩
  · intro B
    exact ⟨fun _ => hQ, fun q => absurd (nI_le (a := 6) (b := 6) (Nat.le_refl _) (by decide)) q⟩
theorem s_kindsOf {p : Nat → Nat} {row : Nat → Int32} (hI : Inv p) (hM : MR p row 0) {x : Nat} (hx : x < 8) {Q : Int32 → Prop} (hQ : Q (nI (bsN (alN (fmN p x) (p 89)) 6))) : wp_Mo_kindsOf (nI x) row Q := by
  have hsz := hI.2.2.2.2.2.2.1.1
  have h7 := hI.1
  have h3 := hI.2.1.1
  have eb : row (Int32.toNatClampNeg 89) = nI (p 89) := hM.at0 (j := 89) (by omega)
  have ee : (90 : Int32) + 4 * nI (p 89) = nI (90 + 4 * p 89) := by rw [show (4 : Int32) * nI (p 89) = nI (4 * p 89) from pk_mul 4 _]; exact nI_add 90 _
  unfold wp_Mo_kindsOf
  simp only [eb, ee]
  refine lpw2_run (fun j => nI (bsN (alN (fmN p x) j) 6)) (fun j => nI (90 + 4 * j)) (p 89) ?_ ?_ 0 (Nat.zero_le _)
  · intro B j hj hB
    refine ⟨fun q => absurd q (nI_ge (by omega) (by omega)), fun _ => ?_⟩
    obtain ⟨g1, g2, g3, g4⟩ := hI.2.2.2.2.2.2.1.2 j hj
    have j0 : nI (90 + 4 * j) = nI (90 + 4 * j) := rfl
    have w0 : vp_in (nI (90 + 4 * j)) 770 := vp_in_nI (by omega) (by omega)
    have rr0 : row (90 + 4 * j) = nI (p (90 + 4 * j)) := hM.at0 (by omega)
    have j1 : nI (90 + 4 * j) + 1 = nI (91 + 4 * j) := by rw [show nI (90 + 4 * j) + 1 = nI (90 + 4 * j + 1) from nI_add _ 1]; congr 1; omega
    have w1 : vp_in (nI (91 + 4 * j)) 770 := vp_in_nI (by omega) (by omega)
    have rr1 : row (91 + 4 * j) = nI (p (91 + 4 * j)) := hM.at0 (by omega)
    have j2 : nI (90 + 4 * j) + 2 = nI (92 + 4 * j) := by rw [show nI (90 + 4 * j) + 2 = nI (90 + 4 * j + 2) from nI_add _ 2]; congr 1; omega
    have w2 : vp_in (nI (92 + 4 * j)) 770 := vp_in_nI (by omega) (by omega)
    have rr2 : row (92 + 4 * j) = nI (p (92 + 4 * j)) := hM.at0 (by omega)
    have j3 : nI (90 + 4 * j) + 3 = nI (93 + 4 * j) := by rw [show nI (90 + 4 * j) + 3 = nI (90 + 4 * j + 3) from nI_add _ 3]; congr 1; omega
    have w3 : vp_in (nI (93 + 4 * j)) 770 := vp_in_nI (by omega) (by omega)
    have rr3 : row (93 + 4 * j) = nI (p (93 + 4 * j)) := hM.at0 (by omega)
    have jW : nI (90 + 4 * j) + 4 = nI (90 + 4 * (j + 1)) := by rw [show nI (90 + 4 * j) + 4 = nI (90 + 4 * j + 4) from nI_add _ 4]; congr 1
    refine lpw2_run (fun k => nI (bsN (mxN (fmN p x) j k) 6)) nI 6 ?_ ?_ 0 (Nat.zero_le _)
    · intro B2 k hk hB2
      refine ⟨fun q => absurd q (nI_ge (b := 6) hk (by decide)), fun _ => ?_⟩
      simp only [jn1_e, jn0_e, true_and, w0, nI_clamp (show 90 + 4 * j < 2 ^ 31 by omega), rr0, j1, w1, nI_clamp (show 91 + 4 * j < 2 ^ 31 by omega), rr1, j2, w2, nI_clamp (show 92 + 4 * j < 2 ^ 31 by omega), rr2, j3, w3, nI_clamp (show 93 + 4 * j < 2 ^ 31 by omega), rr3, w_takesBy, fe_e, nI_1]
      rw [← mx_step (fmN p x) j hk] at hB2
      by_cases hf : fmN p x k j = true
      · rw [if_pos hf] at hB2
        have hf' := of_decide_eq_true hf
        refine ⟨fun z => ⟨fun q => absurd q (by decide), fun _ => hB2⟩, fun z => ⟨fun q => ?_, fun _ => ⟨fun q => absurd q (by decide), fun _ => hB2⟩⟩⟩
        have z' := hf' ((nI_eq (by omega) (by omega)).mp z)
        exact absurd (by rw [lsF_nI hk (by omega) (by omega), z']) q
      · rw [if_neg hf] at hB2
        have hf' : ¬ (p (90 + 4 * j) = x → lsD k (p (91 + 4 * j)) (p (92 + 4 * j)) = p (93 + 4 * j)) := fun q => hf (decide_eq_true q)
        refine ⟨fun z => absurd (fun q => absurd (by rw [q]) z) hf', fun z => ⟨fun q => ⟨fun _ => hB2, fun q => absurd trivial q⟩, fun q => ?_⟩⟩
        rw [lsF_nI hk (by omega) (by omega)] at q
        exact absurd (fun _ => (nI_eq (by have := lsD_le (k := k) (x := p (91 + 4 * j)) (d := p (92 + 4 * j)) hk (by omega); omega) (by omega)).mp q) hf'
    · intro B2
      refine ⟨fun _ => ?_, fun q => absurd (nI_le (a := 6) (b := 6) (Nat.le_refl _) (by decide)) q⟩
      simp only [fe_e, jW]
      have e : bsN (mxN (fmN p x) j 6) 6 = bsN (alN (fmN p x) (j + 1)) 6 := bsN_cong 6 (fun i hi => by simp [mxN, hi])
      rw [← e] at hB
      exact hB
  · intro B
    exact ⟨fun _ => hQ, fun q => absurd (nI_le (Nat.le_refl _) (by omega)) q⟩
set_option maxHeartbeats 4000000 in
set_option maxRecDepth 100000 in
theorem po_kinds {x_textLength : Int32} {x_above : Int64} {x_below : Int64} {x_timesBad : Int32} {x_timesNo : Int32} {x_timesFull : Int32} {x_images_0_flitchCount : Int32} {x_images_0_familyCount : Int32} {x_images_0_hung : Int32} {x_images_0_day : Int32} {x_images_0_familyCell : Nat → Int32} {x_images_0_familyKind : Nat → Int32} {x_images_0_familySide : Nat → Int32} {x_images_0_familyWill : Nat → Int32} {x_images_0_flitchCell : Nat → Int32} {x_images_0_flitchKind : Nat → Int32} {x_images_0_flitchStrength : Nat → Int32} {x_images_0_marks_size : Int32} {x_images_0_marks_numbers : Nat → Int32} {x_images_0_notes_size : Int32} {x_images_0_notes_numbers : Nat → Int32} {x_images_0_past_size : Int32} {x_images_0_past_numbers : Nat → Int32} {x_images_0_sightings_size : Int32} {x_images_0_sightings_numbers : Nat → Int32} {x_images_1_flitchCount : Int32} {x_images_1_familyCount : Int32} {x_images_1_hung : Int32} {x_images_1_day : Int32} {x_images_1_familyCell : Nat → Int32} {x_images_1_familyKind : Nat → Int32} {x_images_1_familySide : Nat → Int32} {x_images_1_familyWill : Nat → Int32} {x_images_1_flitchCell : Nat → Int32} {x_images_1_flitchKind : Nat → Int32} {x_images_1_flitchStrength : Nat → Int32} {x_images_1_marks_size : Int32} {x_images_1_marks_numbers : Nat → Int32} {x_images_1_notes_size : Int32} {x_images_1_notes_numbers : Nat → Int32} {x_images_1_past_size : Int32} {x_images_1_past_numbers : Nat → Int32} {x_images_1_sightings_size : Int32} {x_images_1_sightings_numbers : Nat → Int32} {x_kept : Nat → Int32} {x_now_flitchCount : Int32} {x_now_familyCount : Int32} {x_now_hung : Int32} {x_now_day : Int32} {x_now_familyCell : Nat → Int32} {x_now_familyKind : Nat → Int32} {x_now_familySide : Nat → Int32} {x_now_familyWill : Nat → Int32} {x_now_flitchCell : Nat → Int32} {x_now_flitchKind : Nat → Int32} {x_now_flitchStrength : Nat → Int32} {x_now_marks_width : Int32} {x_now_marks_limit : Int32} {x_now_marks_size : Int32} {x_now_marks_numbers : Nat → Int32} {x_now_notes_width : Int32} {x_now_notes_limit : Int32} {x_now_notes_size : Int32} {x_now_notes_numbers : Nat → Int32} {x_now_past_width : Int32} {x_now_past_limit : Int32} {x_now_past_size : Int32} {x_now_past_numbers : Nat → Int32} {x_now_sightings_width : Int32} {x_now_sightings_limit : Int32} {x_now_sightings_size : Int32} {x_now_sightings_numbers : Nat → Int32} {x_text : Nat → Int32} {m_above : Int64} {m_below : Int64} {m_length : Int32} {m_isKept : Nat → Int32} {m_refused : Nat → Int32} {m_row : Nat → Int32} {m_text : Nat → Int32} {m_words : Nat → Int32} (h : Rel x_textLength x_above x_below x_timesBad x_timesNo x_timesFull x_images_0_flitchCount x_images_0_familyCount x_images_0_hung x_images_0_day x_images_0_familyCell x_images_0_familyKind x_images_0_familySide x_images_0_familyWill x_images_0_flitchCell x_images_0_flitchKind x_images_0_flitchStrength x_images_0_marks_size x_images_0_marks_numbers x_images_0_notes_size x_images_0_notes_numbers x_images_0_past_size x_images_0_past_numbers x_images_0_sightings_size x_images_0_sightings_numbers x_images_1_flitchCount x_images_1_familyCount x_images_1_hung x_images_1_day x_images_1_familyCell x_images_1_familyKind x_images_1_familySide x_images_1_familyWill x_images_1_flitchCell x_images_1_flitchKind x_images_1_flitchStrength x_images_1_marks_size x_images_1_marks_numbers x_images_1_notes_size x_images_1_notes_numbers x_images_1_past_size x_images_1_past_numbers x_images_1_sightings_size x_images_1_sightings_numbers x_kept x_now_flitchCount x_now_familyCount x_now_hung x_now_day x_now_familyCell x_now_familyKind x_now_familySide x_now_familyWill x_now_flitchCell x_now_flitchKind x_now_flitchStrength x_now_marks_width x_now_marks_limit x_now_marks_size x_now_marks_numbers x_now_notes_width x_now_notes_limit x_now_notes_size x_now_notes_numbers x_now_past_width x_now_past_limit x_now_past_size x_now_past_numbers x_now_sightings_width x_now_sightings_limit x_now_sightings_size x_now_sightings_numbers x_text m_above m_below m_length m_isKept m_refused m_row m_text m_words) (x1 : Int32) : wp_Rc_kinds x1 x_timesBad x_now_familyCount x_now_marks_width x_now_marks_size x_now_marks_numbers (fun (r : Int32) (x_timesBad' : Int32) => wp_Mo_kinds x1 m_refused m_row (fun (r' : Int32) (m_refused' : Nat → Int32) => r = r' ∧ Rel x_textLength x_above x_below x_timesBad' x_timesNo x_timesFull x_images_0_flitchCount x_images_0_familyCount x_images_0_hung x_images_0_day x_images_0_familyCell x_images_0_familyKind x_images_0_familySide x_images_0_familyWill x_images_0_flitchCell x_images_0_flitchKind x_images_0_flitchStrength x_images_0_marks_size x_images_0_marks_numbers x_images_0_notes_size x_images_0_notes_numbers x_images_0_past_size x_images_0_past_numbers x_images_0_sightings_size x_images_0_sightings_numbers x_images_1_flitchCount x_images_1_familyCount x_images_1_hung x_images_1_day x_images_1_familyCell x_images_1_familyKind x_images_1_familySide x_images_1_familyWill x_images_1_flitchCell x_images_1_flitchKind x_images_1_flitchStrength x_images_1_marks_size x_images_1_marks_numbers x_images_1_notes_size x_images_1_notes_numbers x_images_1_past_size x_images_1_past_numbers x_images_1_sightings_size x_images_1_sightings_numbers x_kept x_now_flitchCount x_now_familyCount x_now_hung x_now_day x_now_familyCell x_now_familyKind x_now_familySide x_now_familyWill x_now_flitchCell x_now_flitchKind x_now_flitchStrength x_now_marks_width x_now_marks_limit x_now_marks_size x_now_marks_numbers x_now_notes_width x_now_notes_limit x_now_notes_size x_now_notes_numbers x_now_past_width x_now_past_limit x_now_past_size x_now_past_numbers x_now_sightings_width x_now_sightings_limit x_now_sightings_size x_now_sightings_numbers x_text m_above m_below m_length m_isKept m_refused' m_row m_text m_words)) := by
  obtain ⟨⟨p, hPS, hM⟩, ⟨rfl, rfl, rfl, rfl, rfl, rfl, rfl, rfl⟩, hk0, hk1, hTx, hFr, hRf, hWo⟩ := id h
  obtain ⟨hI, ⟨rfl, rfl, rfl, rfl, a5, a6, a7, a8, a9, a10, a11⟩, hm, hn, hp, hs⟩ := id hPS
  have h7 := hI.1
  have h3 := hI.2.1.1
  have e27 : m_row 27 = nI (p 27) := hM.at0 (by omega)
  have e17 : m_row 17 = nI (p 17) := hM.at0 (by omega)
  by_cases q1 : inB x1 0 (nI (p 27) - 1) = 0
  · simp only [wp_Rc_kinds, wp_Mo_kinds, true_implies, false_implies, not_true_eq_false, not_false_eq_true, and_true, true_and, jn0_e, w_bad, w_no, w_full, w_badApart, w_refB, w_refN, w_refF, w_badAs, w_within, w_in, w_isCell, w_isFamC, w_isFliC, w_isFamM, w_isFliM, e27, e17, q1]; first | exact rel_bad h | exact ⟨rfl, rel_bad h⟩
  obtain ⟨x, hx, rfl⟩ := inB_pl (by omega) q1
  simp only [wp_Rc_kinds, wp_Mo_kinds, true_implies, false_implies, not_true_eq_false, not_false_eq_true, and_true, true_and, jn0_e, w_bad, w_no, w_full, w_badApart, w_refB, w_refN, w_refF, w_badAs, w_within, w_in, w_isCell, w_isFamC, w_isFliC, w_isFamM, w_isFliM, e27, e17, q1]
  exact s_familyKinds hI hm (by omega) (s_kindsOf hI hM (by omega) ⟨rfl, h⟩)

