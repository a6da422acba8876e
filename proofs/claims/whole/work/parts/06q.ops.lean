theorem s_passT2 {p : Nat → Nat} {row : Nat → Int32} {w ce : Nat → Nat} {h d : Nat} (hI : Inv p) (hM : MR p row 0) (hS : SgM (p 27) row 753 w ce h d) (hw : ∀ i, i < p 27 → w i ≤ 99) (hce : ∀ i, i < p 27 → ce i < 25) (hh : h < 256) (hd : d < 2 ^ 30) (wd : Bool) {Q : (Nat → Int32) → Prop}
    (hQ : ∀ row', SgM (p 27) row' 753 (fun i => w i - (if wd = true then lsD (p (28 + i)) 0 d else lsT p (p (28 + i)) (ce i) h d)) ce h (d + 1) → Lo row' row → Q row') : wp_Mo_passes 753 (if wd = true then 1 else 0) row Q := by
  have h7 := hI.1
  have hp := @s_passes (p 17) (p 27) 753 h d (fun k => p (18 + k)) (fun k => p (21 + k)) (fun k => p (24 + k)) (fun i => p (28 + i)) w ce row wd (Or.inr rfl) hI.2.1 h7 (fun i hi => (hI.2.2.1 i hi).1) hce hw hh hd (hM.StM hI) hS Q
  refine hp (fun row' hS' hk => hQ row' (hS'.cong (fun i hi => ?_)) (fun j hj => hk j (by omega) (by omega) (by omega)))
  cases wd <;> rfl
def wgN (q m : Nat) : Nat → Nat
  | 0 => 1
  | t + 1 => wgN q m t * (if btN m t = 1 then q else 10 - q)
def tkM (p : Nat → Nat) (kd c h d m : Nat) : Nat → Nat
  | 0 => 0
  | t + 1 => tkM p kd c h d m t + (if btN m t = 1 then lsD kd 0 (d + t) else lsT p kd c h (d + t))
def saN (q n : Nat) : Nat → Nat
  | 0 => 0
  | m + 1 => saN q n m + wgN q m n
def slN (p : Nat → Nat) (i q n : Nat) : Nat → Nat
  | 0 => 0
  | m + 1 => slN p i q n m + (if p i ≤ tkM p (p (28 + i)) (p (8 + i)) (p 15) (p 16) m n then wgN q m n else 0)
set_option maxRecDepth 100000 in
theorem saN_all : ∀ n, n < 7 → ∀ q, q < 11 → saN q n (2 ^ n) = 10 ^ n := by decide +kernel
theorem saN_mono (q n : Nat) {a : Nat} : ∀ b, a ≤ b → saN q n a ≤ saN q n b
  | 0, h => by rw [show a = 0 by omega]; exact Nat.le_refl _
  | b + 1, h => by
    by_cases e : a = b + 1
    · rw [e]; exact Nat.le_refl _
    · have := saN_mono q n (a := a) b (by omega)
      simp only [saN]
      omega
theorem slN_le (p : Nat → Nat) (i q n : Nat) : ∀ m, slN p i q n m ≤ saN q n m
  | 0 => Nat.le_refl _
  | m + 1 => by
    have := slN_le p i q n m
    simp only [slN, saN]
    split <;> omega
theorem shl_nI : ∀ n, n < 7 → ishl 1 (nI n) = nI (2 ^ n) := by decide +kernel
theorem tkM_le {p : Nat → Nat} (hI : Inv p) {kd c h d m : Nat} (hk : kd < 6) (hc : c < 25) : ∀ t, tkM p kd c h d m t ≤ 68 * t
  | 0 => Nat.le_refl _
  | t + 1 => by
    have h1 := tkM_le hI (h := h) (d := d) (m := m) hk hc t
    have h2 := lsT_le hI (h := h) (d := d + t) hk hc
    have h3 := lsD_le (k := kd) (x := 0) (d := d + t) hk (by omega)
    simp only [tkM]
    split <;> omega
theorem l10 : (10 : Int64) = lN 10 := rfl
theorem s_lapsingMornings {p : Nat → Nat} {flCell flKind flStr faKind faCell faWill sm0 wi0 : Nat → Int32} (hI : Inv p) (a5 : Ar (p 27) faCell (fun i => p (8 + i))) (a6 : Ar (p 27) faKind (fun i => p (28 + i))) (a8 : Ar (p 27) faWill p) (a9 : Ar (p 17) flCell (fun k => p (21 + k))) (a10 : Ar (p 17) flKind (fun k => p (18 + k))) (a11 : Ar (p 17) flStr (fun k => p (24 + k))) {i n q : Nat} (hi : i < p 27) (hn : n ≤ 6) (hq : q ≤ 10) {Q : Int64 → (Nat → Int32) → (Nat → Int32) → Prop}
    (hQ : ∀ sm wi, Q (lN (slN p i q n (2 ^ n))) sm wi) : wp_Fs_lapsingMornings (nI i) (nI n) (nI q) (nI (p 17)) (nI (p 15)) (nI (p 16)) faCell faKind faWill flCell flKind flStr sm0 wi0 Q := by
  have h7 := hI.1
  have hd := hI.d9
  have h15 := p15_lt hI
  have hk := (hI.2.2.1 i hi).1
  have hc := hI.c25 i hi
  have hw := hI.w99 i hi
  have hv : vp_in (nI i) 7 := vp_in_nI (by omega) (by omega)
  have h64 : (2 : Nat) ^ n ≤ 64 := Nat.le_trans (Nat.pow_le_pow_right (by omega) hn) (by decide)
  unfold wp_Fs_lapsingMornings
  simp only [fe_e, nI_clamp (show i < 2 ^ 31 by omega), a5 i hi, a6 i hi, a8 i hi, shl_nI n (by omega), hv, true_and]
  refine lpw3_rule (fun x sm wi => ∃ j, x = nI j ∧ j ≤ n ∧ ∀ t, t < j → sm t = nI (lsT p (p (28 + i)) (p (8 + i)) (p 15) (p 16 + t)) ∧ wi t = nI (lsD (p (28 + i)) 0 (p 16 + t))) (fun x _ _ => 7 - x.toNatClampNeg) ?_ 0 sm0 wi0 ⟨0, rfl, Nat.zero_le _, fun t ht => absurd ht (by omega)⟩
  intro B x sm wi hx hB
  obtain ⟨j, rfl, hj, hl⟩ := hx
  by_cases e : j = n
  · subst e
    refine ⟨fun _ => ?_, fun z => absurd (nI_le (Nat.le_refl _) (by omega)) z⟩
    refine lpw2_run (fun m => lN (slN p i q j m)) nI (2 ^ j) ?_ ?_ 0 (Nat.zero_le _)
    · intro B2 m hm hB2
      refine ⟨fun z => absurd z (nI_ge hm (by omega)), fun _ => ?_⟩
      refine lpw3_run (fun t => lN (wgN q m t)) (fun t => nI (tkM p (p (28 + i)) (p (8 + i)) (p 15) (p 16) m t)) nI j ?_ ?_ 0 (Nat.zero_le _)
      · intro B3 t ht hB3
        refine ⟨fun z => absurd z (nI_ge ht (by omega)), fun _ => ?_⟩
        obtain ⟨g1, g2⟩ := hl t ht
        have v6 : vp_in (nI t) 6 := vp_in_nI (by omega) (by omega)
        have e10 : (10 : Int32) - nI q = nI (10 - q) := pk_sub (a := 10) hq
        simp only [jn1_e, bit_is (show m < 256 by omega) (show t < 8 by omega), fe_e, v6, true_and, nI_clamp (show t < 2 ^ 31 by omega), g1, g2, e10, nI_1]
        simp only [wgN, tkM] at hB3
        by_cases b : btN m t = 1
        · simp only [b, if_true, not_true_eq_false, false_implies, true_and, true_implies, show ((1 : Int32) = 0) = False from by decide, not_false_eq_true] at hB3 ⊢
          rw [nI_l (by omega), lN_mul, nI_add]
          exact hB3
        · simp only [b, if_false, not_false_eq_true, true_implies, false_implies, and_true, not_true_eq_false] at hB3 ⊢
          rw [nI_l (by omega), lN_mul, nI_add]
          exact hB3
      · intro B3
        refine ⟨fun _ => ?_, fun z => absurd (nI_le (Nat.le_refl _) (by omega)) z⟩
        have ht := tkM_le hI (h := p 15) (d := p 16) (m := m) hk hc j
        simp only [jn1_e, fe_e, nI_1]
        simp only [slN] at hB2
        refine ⟨fun z => ?_, fun z => ?_⟩
        · have z' := (nI_ltI (by omega) (by omega)).mp z
          rw [if_neg (by omega), Nat.add_zero] at hB2
          exact hB2
        · have z' : ¬ tkM p (p (28 + i)) (p (8 + i)) (p 15) (p 16) m j < p i := fun y => z ((nI_ltI (by omega) (by omega)).mpr y)
          rw [if_pos (by omega)] at hB2
          rw [lN_add]
          exact hB2
    · intro B2
      exact ⟨fun _ => hQ _ _, fun z => absurd (nI_le (Nat.le_refl _) (by omega)) z⟩
  have hj : j < n := by omega
  refine ⟨fun z => absurd z (nI_ge hj (by omega)), fun _ => ?_⟩
  rw [nI_add]
  refine s_scentAt hI.2.1 a10 a9 a11 (by omega) hc (by omega) ?_
  rw [w_loss, lsF_nI hk (smN_133 hI.2.1 _ _ _ hc) (by omega)]
  refine ⟨vp_in_nI (by omega) (by omega), ?_⟩
  rw [w_loss, show (0 : Int32) = nI 0 from rfl, lsF_nI hk (by omega) (by omega)]
  refine ⟨vp_in_nI (by omega) (by omega), ?_⟩
  rw [nI_1, nI_clamp (by omega)]
  refine hB _ _ _ ⟨j + 1, rfl, by omega, fun t ht => ?_⟩ (by rw [nI_clamp (by omega), nI_clamp (by omega)]; omega)
  by_cases et : t = j
  · subst et; rw [pk_us, pk_us]; exact ⟨rfl, rfl⟩
  · rw [pk_un et, pk_un et]; exact hl t (by omega)
theorem lcmp0 {a : Nat} (h : a < 2 ^ 63) : (lg_cmp (lN a) 0 = 0) = (a = 0) := propext (by
  rw [lg_cmp_eq, show (0 : Int64) = lN 0 from rfl]
  exact pk_lEQ h (by omega))
theorem s_keepFraction {a b : Nat} {s1 s2 : Int64} (hb0 : 0 < b) (hb : b ≤ 1000000) (ha : a ≤ b) {Q : Int64 → Int64 → Prop} (hQ : Q (lN (a / Nat.gcd a b)) (lN (b / Nat.gcd a b))) : wp_Rc_keepFraction (lN a) (lN b) s1 s2 Q := by
  unfold wp_Rc_keepFraction
  have hg0 : 0 < Nat.gcd a b := Nat.gcd_pos_of_pos_right a hb0
  have hgb : Nat.gcd a b ≤ b := Nat.le_of_dvd hb0 (Nat.gcd_dvd_right a b)
  refine lpw3_rule (fun x y k => ∃ u v j : Nat, x = lN u ∧ y = lN v ∧ k = nI j ∧ Nat.gcd u v = Nat.gcd a b ∧ v ≤ u ∧ u ≤ 1000000 ∧ j ≤ 100 ∧ u * v * 2 ^ j ≤ 1000000000000) (fun _ _ k => 101 - k.toNatClampNeg) ?_ (lN b) (lN a) 0 ⟨b, a, 0, rfl, rfl, rfl, Nat.gcd_comm b a, ha, hb, by omega, by
    have := Nat.mul_le_mul hb (Nat.le_trans ha hb)
    omega⟩
  intro B x y k hx hB
  obtain ⟨u, v, j, rfl, rfl, rfl, hg, hvu, hu, hj, hP⟩ := hx
  have hfin : v = 0 → ((lg_cmp (lN u) 0 ≤ 0 → Q s1 s2) ∧ (¬ lg_cmp (lN u) 0 ≤ 0 → ¬ lN u = 0 ∧ ∀ s_above_8 : Int64, s_above_8 = (lN a / lN u) → ¬ lN u = 0 ∧ ∀ s_below_10 : Int64, s_below_10 = (lN b / lN u) → Q s_above_8 s_below_10)) := by
    intro hv
    subst hv
    rw [Nat.gcd_zero_right] at hg
    subst hg
    have hne : ¬ lN (Nat.gcd a b) = 0 := fun z => by
      have := (pk_lEQ (b := 0) (by omega) (by omega)).mp z
      omega
    refine ⟨fun z => ?_, fun _ => ⟨hne, ?_⟩⟩
    · rw [lg_cmp_le, show (0 : Int64) = lN 0 from rfl, pk_lLE (by omega) (by omega)] at z
      omega
    · rw [pk_lDiv (by omega) hg0 (by omega), pk_lDiv (by omega) hg0 (by omega)]
      intro s3 e3
      refine ⟨hne, ?_⟩
      intro s4 e4
      subst e3; subst e4
      exact hQ
  rw [jn0_e, lcmp0 (by omega)]
  refine ⟨fun z => hfin ?_, fun z => ⟨fun z2 => hfin z2, fun z2 => ?_⟩⟩
  · have z' := (nI_leI (a := 100) (by omega) (by omega)).mp z
    have ej : j = 100 := by omega
    subst ej
    apply Classical.byContradiction
    intro hv
    have h1 : 1 ≤ u * v := Nat.mul_pos (by omega) (by omega)
    have h2 : 1 * 2 ^ 100 ≤ u * v * 2 ^ 100 := Nat.mul_le_mul_right _ h1
    omega
  · have z' : j < 100 := by
      apply Classical.byContradiction
      intro y
      exact z (nI_le (a := 100) (by omega) (by omega))
    have hv0 : 0 < v := by omega
    refine ⟨fun y => z2 ((pk_lEQ (b := 0) (by omega) (by omega)).mp y), ?_⟩
    intro x' ex' k' ek'
    rw [show lrem (lN u) (lN v) = lN (u % v) from pk_lRem (by omega) hv0 (by omega)] at ex'
    subst ex'; subst ek'
    rw [nI_1]
    have hm := Nat.mod_lt u hv0
    have hh : 2 * (u % v) ≤ u := by
      have h1 := Nat.mod_add_div u v
      have h2 : 1 ≤ u / v := (Nat.le_div_iff_mul_le hv0).mpr (by omega)
      have h3 : v * 1 ≤ v * (u / v) := Nat.mul_le_mul_left v h2
      omega
    refine hB _ _ _ ⟨v, u % v, j + 1, rfl, rfl, rfl, ?_, by omega, by omega, by omega, ?_⟩ (by rw [nI_clamp (by omega), nI_clamp (by omega)]; omega)
    · rw [← hg, Nat.gcd_comm v (u % v), ← Nat.gcd_rec v u, Nat.gcd_comm v u]
    · have h1 : v * (u % v) * 2 ≤ u * v := by
        have : v * (2 * (u % v)) ≤ v * u := Nat.mul_le_mul_left v hh
        rw [Nat.mul_assoc, Nat.mul_comm (u % v) 2, Nat.mul_comm u v]
        exact this
      rw [Nat.pow_succ, Nat.mul_comm (2 ^ j) 2, ← Nat.mul_assoc]
      exact Nat.le_trans (Nat.mul_le_mul_right _ h1) hP
theorem s_tellPart {a b : Nat} {s1 s2 : Int64} (hb0 : 0 < b) (hb : b ≤ 1000000) (ha : a ≤ b) {Q : Int64 → Int64 → Prop} (hQ : Q (lN (a / Nat.gcd a b)) (lN (b / Nat.gcd a b))) : wp_Mo_tellPart (lN a) (lN b) s1 s2 Q := by
  unfold wp_Mo_tellPart
  have hg0 : 0 < Nat.gcd a b := Nat.gcd_pos_of_pos_right a hb0
  have hgb : Nat.gcd a b ≤ b := Nat.le_of_dvd hb0 (Nat.gcd_dvd_right a b)
  refine lpw2_rule (fun x y => ∃ u v : Nat, x = lN u ∧ y = lN v ∧ Nat.gcd u v = Nat.gcd a b ∧ u ≤ 1000000 ∧ v ≤ 1000000) (fun _ y => y.toInt.toNat) ?_ (lN a) (lN b) ⟨a, b, rfl, rfl, rfl, by omega, by omega⟩
  intro B x y hx hB
  obtain ⟨u, v, rfl, rfl, hg, hu, hv⟩ := hx
  rw [lcmp0 (by omega)]
  refine ⟨fun z => ?_, fun z => ?_⟩
  · subst z
    rw [Nat.gcd_zero_right] at hg
    subst hg
    have hne : ¬ lN (Nat.gcd a b) = 0 := fun z => by
      have := (pk_lEQ (b := 0) (by omega) (by omega)).mp z
      omega
    refine ⟨hne, ?_⟩
    rw [pk_lDiv (by omega) hg0 (by omega), pk_lDiv (by omega) hg0 (by omega)]
    intro s3 e3
    refine ⟨hne, ?_⟩
    intro s4 e4
    subst e3; subst e4
    exact hQ
  · have hv0 : 0 < v := by omega
    refine ⟨fun y => z ((pk_lEQ (b := 0) (by omega) (by omega)).mp y), ?_⟩
    intro x' ex'
    rw [show lrem (lN u) (lN v) = lN (u % v) from pk_lRem (by omega) hv0 (by omega)] at ex'
    subst ex'
    have hm := Nat.mod_lt u hv0
    refine hB _ _ ⟨v, u % v, rfl, rfl, ?_, by omega, by omega⟩ ?_
    · rw [← hg, Nat.gcd_comm v (u % v), ← Nat.gcd_rec v u, Nat.gcd_comm v u]
    · rw [pk_lT (by omega), pk_lT (by omega)]
      omega
set_option maxHeartbeats 4000000 in
set_option maxRecDepth 100000 in
theorem po_mornings {x_textLength : Int32} {x_above : Int64} {x_below : Int64} {x_timesBad : Int32} {x_timesNo : Int32} {x_timesFull : Int32} {x_foresight_smelling : Nat → Int32} {x_foresight_windy : Nat → Int32} {x_images_0_flitchCount : Int32} {x_images_0_familyCount : Int32} {x_images_0_hung : Int32} {x_images_0_day : Int32} {x_images_0_familyCell : Nat → Int32} {x_images_0_familyKind : Nat → Int32} {x_images_0_familySide : Nat → Int32} {x_images_0_familyWill : Nat → Int32} {x_images_0_flitchCell : Nat → Int32} {x_images_0_flitchKind : Nat → Int32} {x_images_0_flitchStrength : Nat → Int32} {x_images_0_marks_size : Int32} {x_images_0_marks_numbers : Nat → Int32} {x_images_0_notes_size : Int32} {x_images_0_notes_numbers : Nat → Int32} {x_images_0_past_size : Int32} {x_images_0_past_numbers : Nat → Int32} {x_images_0_sightings_size : Int32} {x_images_0_sightings_numbers : Nat → Int32} {x_images_1_flitchCount : Int32} {x_images_1_familyCount : Int32} {x_images_1_hung : Int32} {x_images_1_day : Int32} {x_images_1_familyCell : Nat → Int32} {x_images_1_familyKind : Nat → Int32} {x_images_1_familySide : Nat → Int32} {x_images_1_familyWill : Nat → Int32} {x_images_1_flitchCell : Nat → Int32} {x_images_1_flitchKind : Nat → Int32} {x_images_1_flitchStrength : Nat → Int32} {x_images_1_marks_size : Int32} {x_images_1_marks_numbers : Nat → Int32} {x_images_1_notes_size : Int32} {x_images_1_notes_numbers : Nat → Int32} {x_images_1_past_size : Int32} {x_images_1_past_numbers : Nat → Int32} {x_images_1_sightings_size : Int32} {x_images_1_sightings_numbers : Nat → Int32} {x_kept : Nat → Int32} {x_now_flitchCount : Int32} {x_now_familyCount : Int32} {x_now_hung : Int32} {x_now_day : Int32} {x_now_familyCell : Nat → Int32} {x_now_familyKind : Nat → Int32} {x_now_familySide : Nat → Int32} {x_now_familyWill : Nat → Int32} {x_now_flitchCell : Nat → Int32} {x_now_flitchKind : Nat → Int32} {x_now_flitchStrength : Nat → Int32} {x_now_marks_width : Int32} {x_now_marks_limit : Int32} {x_now_marks_size : Int32} {x_now_marks_numbers : Nat → Int32} {x_now_notes_width : Int32} {x_now_notes_limit : Int32} {x_now_notes_size : Int32} {x_now_notes_numbers : Nat → Int32} {x_now_past_width : Int32} {x_now_past_limit : Int32} {x_now_past_size : Int32} {x_now_past_numbers : Nat → Int32} {x_now_sightings_width : Int32} {x_now_sightings_limit : Int32} {x_now_sightings_size : Int32} {x_now_sightings_numbers : Nat → Int32} {x_text : Nat → Int32} {m_above : Int64} {m_below : Int64} {m_length : Int32} {m_isKept : Nat → Int32} {m_refused : Nat → Int32} {m_row : Nat → Int32} {m_text : Nat → Int32} {m_words : Nat → Int32} (h : Rel x_textLength x_above x_below x_timesBad x_timesNo x_timesFull x_images_0_flitchCount x_images_0_familyCount x_images_0_hung x_images_0_day x_images_0_familyCell x_images_0_familyKind x_images_0_familySide x_images_0_familyWill x_images_0_flitchCell x_images_0_flitchKind x_images_0_flitchStrength x_images_0_marks_size x_images_0_marks_numbers x_images_0_notes_size x_images_0_notes_numbers x_images_0_past_size x_images_0_past_numbers x_images_0_sightings_size x_images_0_sightings_numbers x_images_1_flitchCount x_images_1_familyCount x_images_1_hung x_images_1_day x_images_1_familyCell x_images_1_familyKind x_images_1_familySide x_images_1_familyWill x_images_1_flitchCell x_images_1_flitchKind x_images_1_flitchStrength x_images_1_marks_size x_images_1_marks_numbers x_images_1_notes_size x_images_1_notes_numbers x_images_1_past_size x_images_1_past_numbers x_images_1_sightings_size x_images_1_sightings_numbers x_kept x_now_flitchCount x_now_familyCount x_now_hung x_now_day x_now_familyCell x_now_familyKind x_now_familySide x_now_familyWill x_now_flitchCell x_now_flitchKind x_now_flitchStrength x_now_marks_width x_now_marks_limit x_now_marks_size x_now_marks_numbers x_now_notes_width x_now_notes_limit x_now_notes_size x_now_notes_numbers x_now_past_width x_now_past_limit x_now_past_size x_now_past_numbers x_now_sightings_width x_now_sightings_limit x_now_sightings_size x_now_sightings_numbers x_text m_above m_below m_length m_isKept m_refused m_row m_text m_words) (x1 : Int32) (x2 : Int32) (x3 : Int32) : wp_Rc_mornings x1 x2 x3 x_above x_below x_timesBad x_foresight_smelling x_foresight_windy x_now_flitchCount x_now_familyCount x_now_hung x_now_day x_now_familyCell x_now_familyKind x_now_familyWill x_now_flitchCell x_now_flitchKind x_now_flitchStrength (fun (r : Int32) (x_above' : Int64) (x_below' : Int64) (x_timesBad' : Int32) (x_foresight_smelling' : Nat → Int32) (x_foresight_windy' : Nat → Int32) => wp_Mo_mornings x1 x2 x3 m_above m_below m_refused m_row (fun (r' : Int32) (m_above' : Int64) (m_below' : Int64) (m_refused' : Nat → Int32) (m_row' : Nat → Int32) => r = r' ∧ Rel x_textLength x_above' x_below' x_timesBad' x_timesNo x_timesFull x_images_0_flitchCount x_images_0_familyCount x_images_0_hung x_images_0_day x_images_0_familyCell x_images_0_familyKind x_images_0_familySide x_images_0_familyWill x_images_0_flitchCell x_images_0_flitchKind x_images_0_flitchStrength x_images_0_marks_size x_images_0_marks_numbers x_images_0_notes_size x_images_0_notes_numbers x_images_0_past_size x_images_0_past_numbers x_images_0_sightings_size x_images_0_sightings_numbers x_images_1_flitchCount x_images_1_familyCount x_images_1_hung x_images_1_day x_images_1_familyCell x_images_1_familyKind x_images_1_familySide x_images_1_familyWill x_images_1_flitchCell x_images_1_flitchKind x_images_1_flitchStrength x_images_1_marks_size x_images_1_marks_numbers x_images_1_notes_size x_images_1_notes_numbers x_images_1_past_size x_images_1_past_numbers x_images_1_sightings_size x_images_1_sightings_numbers x_kept x_now_flitchCount x_now_familyCount x_now_hung x_now_day x_now_familyCell x_now_familyKind x_now_familySide x_now_familyWill x_now_flitchCell x_now_flitchKind x_now_flitchStrength x_now_marks_width x_now_marks_limit x_now_marks_size x_now_marks_numbers x_now_notes_width x_now_notes_limit x_now_notes_size x_now_notes_numbers x_now_past_width x_now_past_limit x_now_past_size x_now_past_numbers x_now_sightings_width x_now_sightings_limit x_now_sightings_size x_now_sightings_numbers x_text m_above' m_below' m_length m_isKept m_refused' m_row' m_text m_words)) := by
  obtain ⟨⟨p, hPS, hM⟩, ⟨rfl, rfl, rfl, rfl, rfl, rfl, rfl, rfl⟩, hk0, hk1, hTx, hFr, hRf, hWo⟩ := id h
  obtain ⟨hI, ⟨rfl, rfl, rfl, rfl, a5, a6, a7, a8, a9, a10, a11⟩, hm, hn, hp, hs⟩ := id hPS
  have h7 := hI.1
  have h3 := hI.2.1.1
  have e27 : m_row 27 = nI (p 27) := hM.at0 (by omega)
  have e17 : m_row 17 = nI (p 17) := hM.at0 (by omega)
  have hd := hI.d9
  have h15 := p15_lt hI
  by_cases q1 : inB x1 0 (nI (p 27) - 1) = 0
  · simp only [wp_Rc_mornings, wp_Mo_mornings, true_implies, false_implies, not_true_eq_false, not_false_eq_true, and_true, true_and, jn0_e, w_bad, w_no, w_full, w_badApart, w_refB, w_refN, w_refF, w_badAs, w_within, w_in, w_isCell, w_isFamC, w_isFliC, w_isFamM, w_isFliM, e27, q1]; first | exact rel_bad h | exact ⟨rfl, rel_bad h⟩
  by_cases q2 : inB x2 0 6 = 0
  · simp only [wp_Rc_mornings, wp_Mo_mornings, true_implies, false_implies, not_true_eq_false, not_false_eq_true, and_true, true_and, jn0_e, w_bad, w_no, w_full, w_badApart, w_refB, w_refN, w_refF, w_badAs, w_within, w_in, w_isCell, w_isFamC, w_isFliC, w_isFamM, w_isFliM, e27, q1, q2]; first | exact rel_bad h | exact ⟨rfl, rel_bad h⟩
  by_cases q3 : inB x3 0 10 = 0
  · simp only [wp_Rc_mornings, wp_Mo_mornings, true_implies, false_implies, not_true_eq_false, not_false_eq_true, and_true, true_and, jn0_e, w_bad, w_no, w_full, w_badApart, w_refB, w_refN, w_refF, w_badAs, w_within, w_in, w_isCell, w_isFamC, w_isFliC, w_isFamM, w_isFliM, e27, q1, q2, q3]; first | exact rel_bad h | exact ⟨rfl, rel_bad h⟩
  obtain ⟨i, hi, rfl⟩ := inB_pl (by omega) q1
  obtain ⟨n, -, hn6, rfl⟩ := inB_nI (lo := 0) (hi := 6) (by omega) (by omega) q2
  obtain ⟨q, -, hq, rfl⟩ := inB_nI (lo := 0) (hi := 10) (by omega) (by omega) q3
  have h64 : (2 : Nat) ^ n ≤ 64 := Nat.le_trans (Nat.pow_le_pow_right (by omega) hn6) (by decide)
  have h10 : (10 : Nat) ^ n ≤ 1000000 := Nat.le_trans (Nat.pow_le_pow_right (by omega) hn6) (by decide)
  have h10p : 0 < (10 : Nat) ^ n := Nat.pow_pos (by omega)
  have hall := saN_all n (by omega) q (by omega)
  have hsl := slN_le p i q n (2 ^ n)
  rw [hall] at hsl
  simp only [wp_Rc_mornings, wp_Mo_mornings, true_implies, false_implies, not_true_eq_false, not_false_eq_true, and_true, true_and, jn0_e, w_bad, w_no, w_full, w_badApart, w_refB, w_refN, w_refF, w_badAs, w_within, w_in, w_isCell, w_isFamC, w_isFliC, w_isFamM, w_isFliM, e27, q1, q2, q3, shl_nI n (show n < 7 by omega)]
  refine lpw2_run (fun j => lN (10 ^ j)) nI n ?_ ?_ 0 (Nat.zero_le _)
  · intro B j hj hB
    refine ⟨fun z => absurd z (nI_ge hj (by omega)), fun _ => ?_⟩
    simp only [fe_e, nI_1]
    rw [l10, lN_mul]
    rw [Nat.pow_succ] at hB
    exact hB
  · intro B
    refine ⟨fun _ => ?_, fun z => absurd (nI_le (Nat.le_refl _) (by omega)) z⟩
    refine s_lapsingMornings hI a5 a6 a8 a9 a10 a11 hi hn6 hq (fun sm wi => ?_)
    refine s_keepFraction h10p h10 hsl ?_
    refine lpw4_rule (fun x4 x6 x8 r => ∃ m, m ≤ 2 ^ n ∧ x4 = lN (slN p i q n m) ∧ x6 = lN (saN q n m) ∧ x8 = nI m ∧ Lo r m_row) (fun _ _ x8 _ => 65 - x8.toNatClampNeg) ?_ 0 0 0 m_row ⟨0, Nat.zero_le _, rfl, rfl, rfl, Lo.rf⟩
    intro B x4 x6 x8 r hx hB
    obtain ⟨m, hm, rfl, rfl, rfl, hLr⟩ := hx
    by_cases em : m = 2 ^ n
    · subst em
      refine ⟨fun _ => ?_, fun z => absurd (nI_le (Nat.le_refl _) (by omega)) z⟩
      rw [hall]
      refine s_tellPart h10p h10 hsl ?_
      obtain ⟨g1, g2, g3, g4, g5, -, g7, g8⟩ := rel_now h p hPS (hLr.mr hM) hLr.hi
      exact ⟨g1, g2, g3, g4, g5, ⟨rfl, rfl⟩, g7, g8⟩
    have hm : m < 2 ^ n := by omega
    refine ⟨fun z => absurd z (nI_ge hm (by omega)), fun _ => ?_⟩
    refine s_layTried (fun row1 r1 hL1 => ?_)
    have hS1 := tried_Sg hI (hLr.mr hM) r1
    refine lpw3_rule (fun x9 x11 r' => ∃ t, t ≤ n ∧ x9 = lN (wgN q m t) ∧ x11 = nI t ∧ SgM (p 27) r' 753 (fun i => p i - tkM p (p (28 + i)) (p (8 + i)) (p 15) (p 16) m t) (fun i => p (8 + i)) (p 15) (p 16 + t) ∧ Lo r' m_row) (fun _ x11 _ => 7 - x11.toNatClampNeg) ?_ 1 0 row1 ⟨0, Nat.zero_le _, rfl, rfl, hS1, hL1.tr hLr⟩
    intro B2 x9 x11 r2 hx2 hB2
    obtain ⟨t, ht, rfl, rfl, hS2, hL2⟩ := hx2
    by_cases et : t = n
    · subst et
      refine ⟨fun _ => ?_, fun z => absurd (nI_le (Nat.le_refl _) (by omega)) z⟩
      rw [w_hasT hS2 h7 hi]
      have hB' := hB (lN (slN p i q t (m + 1))) (lN (saN q t (m + 1))) (nI (m + 1)) r2 ⟨m + 1, by omega, rfl, rfl, rfl, hL2⟩ (by rw [nI_clamp (by omega), nI_clamp (by omega)]; omega)
      simp only [slN, saN] at hB'
      simp only [jn1_e, fe_e, nI_1, lN_add]
      by_cases z : p i - tkM p (p (28 + i)) (p (8 + i)) (p 15) (p 16) m t = 0
      · rw [if_pos z]
        rw [if_pos (by omega)] at hB'
        exact ⟨fun y => absurd y (by decide), fun _ => hB'⟩
      · rw [if_neg z]
        rw [if_neg (by omega)] at hB'
        refine ⟨fun _ => ?_, fun y => absurd rfl y⟩
        rw [show (0 : Int64) = lN 0 from rfl, lN_add]
        exact hB'
    have ht : t < n := by omega
    refine ⟨fun z => absurd z (nI_ge ht (by omega)), fun _ => ?_⟩
    have e10 : (10 : Int32) - nI q = nI (10 - q) := pk_sub (a := 10) hq
    rw [w_has]
    simp only [bit_is (show m < 256 by omega) (show t < 8 by omega), jn1_e, fe_e, e10, w_has]
    have go : ∀ W, W = wgN q m (t + 1) → wp_Mo_passes 753 (if btN m t = 1 then 1 else 0) r2 (fun s_row_39 => B2 (lN W) (nI t + 1) s_row_39) := by
      intro W hW
      have hp := s_passT2 (row := r2) (w := fun i => p i - tkM p (p (28 + i)) (p (8 + i)) (p 15) (p 16) m t) (ce := fun i => p (8 + i)) hI (hL2.mr hM) hS2 (fun j hj => by have := hI.w99 j hj; omega) hI.c25 (by omega) (by omega) (decide (btN m t = 1)) (Q := fun s_row_39 => B2 (lN W) (nI t + 1) s_row_39) (fun row' hS' hL' => ?_)
      · by_cases b : btN m t = 1
        · simp only [b, decide_true, if_true] at hp ⊢
          exact hp
        · simp only [b, decide_false, if_false, show (false = true) = False from by decide] at hp ⊢
          exact hp
      · rw [nI_1, hW]
        refine hB2 _ _ _ ⟨t + 1, by omega, rfl, rfl, hS'.cong (fun j hj => ?_), hL'.tr hL2⟩ (by rw [nI_clamp (by omega), nI_clamp (by omega)]; omega)
        simp only [tkM, decide_eq_true_eq]
        omega
    by_cases b : btN m t = 1
    · simp only [b, if_true] at go ⊢
      refine ⟨fun y => absurd y (by decide), fun _ => ?_⟩
      rw [nI_l (by omega), lN_mul]
      exact go _ (by simp only [wgN, b, if_true])
    · simp only [b, if_false] at go ⊢
      refine ⟨fun _ => ?_, fun y => absurd (by trivial) y⟩
      rw [nI_l (by omega), lN_mul]
      exact go _ (by simp only [wgN, b, if_false])

