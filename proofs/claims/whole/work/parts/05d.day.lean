/-! a day -/
/-- who has lapsed, as bits -/
def lapN (w : Nat → Nat) : Nat → Nat
  | 0 => 0
  | n + 1 => lapN w n + (if w n = 0 then 2 ^ n else 0)
theorem lapN_lt (w : Nat → Nat) : ∀ n, lapN w n < 2 ^ n
  | 0 => by simp [lapN]
  | n + 1 => by
    have h := lapN_lt w n
    have e : 2 ^ (n + 1) = 2 ^ n + 2 ^ n := by rw [Nat.pow_succ]; omega
    simp only [lapN]
    split <;> omega
theorem lapN_cong {w v : Nat → Nat} : ∀ {n : Nat}, (∀ i, i < n → (w i = 0 ↔ v i = 0)) → lapN w n = lapN v n
  | 0, _ => rfl
  | n + 1, h => by
    have e := lapN_cong (n := n) (fun i hi => h i (by omega))
    have h1 := h n (by omega)
    simp only [lapN, e]
    by_cases h2 : w n = 0
    · simp [h2, h1.mp h2]
    · have h3 : ¬ v n = 0 := fun q => h2 (h1.mpr q)
      simp [h2, h3]
theorem btN_add_hi {x n i : Nat} (h : i < n) : btN (x + 2 ^ n) i = btN x i := by
  unfold btN
  have e : 2 ^ n = 2 ^ i * (2 * 2 ^ (n - i - 1)) := by
    rw [← Nat.pow_succ', ← Nat.pow_add]
    congr 1
    omega
  rw [e, Nat.add_mul_div_left _ _ (Nat.two_pow_pos i), Nat.add_mul_mod_self_left]
theorem btN_top {x n : Nat} (h : x < 2 ^ n) : btN (x + 2 ^ n) n = 1 := by
  unfold btN
  rw [Nat.add_div_right _ (Nat.two_pow_pos n), Nat.div_eq_of_lt h]
theorem btN_lo {x n : Nat} (h : x < 2 ^ n) : btN x n = 0 := by
  unfold btN
  rw [Nat.div_eq_of_lt h]
theorem btN_lap (w : Nat → Nat) : ∀ n i, i < n → btN (lapN w n) i = (if w i = 0 then 1 else 0)
  | 0, i, h => absurd h (Nat.not_lt_zero i)
  | n + 1, i, h => by
    simp only [lapN]
    by_cases e : i = n
    · subst e
      by_cases h2 : w i = 0
      · simp only [h2, if_true]; exact btN_top (lapN_lt w i)
      · simp only [h2, if_false, Nat.add_zero]; exact btN_lo (lapN_lt w i)
    · have h1 := btN_lap w n i (by omega)
      by_cases h2 : w n = 0
      · simp only [h2, if_true]; rw [btN_add_hi (by omega)]; exact h1
      · simp only [h2, if_false, Nat.add_zero]; exact h1
def updN (f : Nat → Nat) (k v : Nat) : Nat → Nat := fun j => if j = k then v else f j
theorem updN_s {f : Nat → Nat} {k v : Nat} : updN f k v k = v := by simp [updN]
theorem updN_n {f : Nat → Nat} {k v j : Nat} (h : j ≠ k) : updN f k v j = f j := by simp [updN, h]
theorem lapN_up0 (w : Nat → Nat) : ∀ n i, i < n → w i ≠ 0 → lapN (updN w i 0) n = lapN w n + 2 ^ i
  | 0, i, h, _ => absurd h (Nat.not_lt_zero i)
  | n + 1, i, h, hw => by
    simp only [lapN]
    by_cases e : i = n
    · subst e
      have e1 : lapN (updN w i 0) i = lapN w i := lapN_cong (fun j hj => by rw [updN_n (by omega)])
      simp [e1, updN_s, hw]
    · have h1 := lapN_up0 w n i (by omega) hw
      rw [h1, updN_n (fun q => e q.symm)]
      omega
theorem lapN_up1 (w : Nat → Nat) (n i v : Nat) (hw : w i ≠ 0) (hv : v ≠ 0) : lapN (updN w i v) n = lapN w n :=
  lapN_cong (fun j _ => by
    by_cases e : j = i
    · subst e; rw [updN_s]; constructor <;> intro q <;> omega
    · rw [updN_n e])
set_option maxRecDepth 100000 in
theorem or_bit0 : ∀ x, x < 128 → ∀ i, i < 7 → btN x i = 0 → nI x ||| ishl 1 (nI i) = nI (x + 2 ^ i) := by decide +kernel
theorem wear_nI {w l : Nat} (hw : w ≤ 99) (hl : l ≤ 100000) : imax 0 (nI w - nI l) = nI (w - l) := by
  have e : (nI w - nI l).toInt = (w : Int) - l := pk_sub_toInt (by omega) (by omega)
  show (if 0 < nI w - nI l then nI w - nI l else 0) = _
  by_cases h : l < w
  · have h1 : (0 : Int32) < nI w - nI l := by
      rw [Int32.lt_iff_toInt_lt, e]
      show (0 : Int) < _
      omega
    rw [if_pos h1, pk_sub (by omega)]
  · have h1 : ¬ (0 : Int32) < nI w - nI l := by
      rw [Int32.lt_iff_toInt_lt, e]
      show ¬ (0 : Int) < _
      omega
    rw [if_neg h1, show w - l = 0 by omega]; rfl
theorem lt1_nI {w : Nat} (hw : w < 2 ^ 31) : (nI w < 1) = (w = 0) := by
  rw [show (1 : Int32) = nI 1 from rfl]
  apply propext
  rw [nI_ltI hw (by omega)]
  omega
theorem ge1_nI {w : Nat} (hw : w < 2 ^ 31) : ((1 : Int32) ≤ nI w) = (w ≠ 0) := by
  rw [show (1 : Int32) = nI 1 from rfl]
  apply propext
  rw [nI_leI (by omega) hw]
  omega
theorem ge1_sub {w l : Nat} (hw : w ≤ 99) (hl : l ≤ 100000) : ((1 : Int32) ≤ nI w - nI l) = (w - l ≠ 0) := by
  have e : (nI w - nI l).toInt = (w : Int) - l := pk_sub_toInt (by omega) (by omega)
  apply propext
  rw [Int32.le_iff_toInt_le, e]
  show (1 : Int) ≤ _ ↔ _
  omega
/-- what a family loses on a day; wd: a wind -/
def loN (nl : Nat) (fk fc fs kd ce : Nat → Nat) (h d : Nat) (wd : Bool) (i : Nat) : Nat := lsD (kd i) (if wd then 0 else smN fk fc fs h (ce i) d nl) d
theorem loN_le {nl : Nat} {fk fc fs kd ce : Nat → Nat} (hF : FlOk nl fk fc fs) (h d : Nat) (wd : Bool) {i : Nat} (hk : kd i < 6) (hc : ce i < 25) : loN nl fk fc fs kd ce h d wd i ≤ 68 := by
  unfold loN
  apply lsD_le hk
  split
  · omega
  · exact smN_133 hF h (ce i) d hc
/-- the first j families have had their day -/
def wjN (w l : Nat → Nat) (j : Nat) : Nat → Nat := fun i => if i < j then w i - l i else w i
theorem wjN_0 (w l : Nat → Nat) : wjN w l 0 = w := by
  funext i
  simp [wjN]
theorem wjN_s (w l : Nat → Nat) (j : Nat) : wjN w l (j + 1) = updN (wjN w l j) j (w j - l j) := by
  funext i
  unfold wjN updN
  by_cases e : i = j
  · subst e; simp
  · by_cases h : i < j
    · simp [e, h, show i < j + 1 by omega]
    · simp [e, h, show ¬ i < j + 1 by omega]
/-- the class's day -/
theorem s_wearDown {nl nf h d n1 n2 : Nat} {fk fc fs kd ce w : Nat → Nat} {K C S KD CE WI : Nat → Int32} (hF : FlOk nl fk fc fs) (hK : Ar nl K fk) (hC : Ar nl C fc) (hS : Ar nl S fs) (hnf : nf ≤ 7) (h1 : nf ≤ n1) (h2 : nf ≤ n2) (hn1 : n1 ≤ 7) (hn2 : n2 ≤ 7) (hKD : Ar nf KD kd) (hCE : Ar nf CE ce) (hW : Ar nf WI w) (hkd : ∀ i, i < nf → kd i < 6) (hce : ∀ i, i < nf → ce i < 25) (hw : ∀ i, i < nf → w i ≤ 99) (hh : h < 256) (hd : d < 2 ^ 31) {Q : (Nat → Int32) → Prop}
    (hQ : ∀ WI', Ar nf WI' (fun i => w i - loN nl fk fc fs kd ce h d false i) → Q WI') : wp_Pa_wearDown (nI d) n1 n2 (nI nl) (nI nf) (nI h) KD C K S CE WI Q := by
  unfold wp_Pa_wearDown
  obtain ⟨l, hl⟩ : ∃ l, l = loN nl fk fc fs kd ce h d false := ⟨_, rfl⟩
  obtain ⟨T, hT⟩ : ∃ T : Nat → Nat → Int32, T = fun j x => if x < j then nI (w x - l x) else WI x := ⟨_, rfl⟩
  have hT0 : T 0 = WI := by rw [hT]; funext x; simp
  have hTs : ∀ j, T (j + 1) = upd (T j) j (nI (w j - l j)) := by
    intro j
    rw [hT]
    funext x
    unfold upd
    by_cases e : x = j
    · subst e; simp
    · by_cases q : x < j
      · simp [e, q, show x < j + 1 by omega]
      · simp [e, q, show ¬ x < j + 1 by omega]
  rw [← hT0]
  refine lpw2_run nI T nf ?_ ?_ 0 (Nat.zero_le _)
  · intro B j hj hB
    refine ⟨fun q => absurd q (nI_ge hj (by omega)), fun _ => ?_⟩
    have v1 : vp_in (nI j) n1 := vp_in_nI (by omega) (by omega)
    have v2 : vp_in (nI j) n2 := vp_in_nI (by omega) (by omega)
    have v7 : vp_in (nI j) 7 := vp_in_nI (by omega) (by omega)
    have eT : T j j = nI (w j) := by rw [hT]; simp; exact hW j hj
    have hwj := hw j hj
    have hlj : l j ≤ 68 := by rw [hl]; exact loN_le hF h d false (hkd j hj) (hce j hj)
    refine ⟨v2, ?_⟩
    simp only [nI_clamp (show j < 2 ^ 31 by omega), eT, lt1_nI (show w j < 2 ^ 31 by omega), fe_e, nI_1, jn1, v1, v2, v7, true_and]
    refine ⟨fun q => ?_, fun q => ?_⟩
    · have e : T (j + 1) = T j := by
        rw [hTs]
        funext x
        unfold upd
        by_cases e : x = j
        · subst e; rw [if_pos rfl, eT, q]; simp
        · rw [if_neg e]
      rw [e] at hB
      exact hB
    · rw [hCE j hj, hKD j hj]
      refine s_scentAt hF hK hC hS hh (hce j hj) hd ?_
      rw [w_loss, lsF_nI (hkd j hj) (smN_133 hF h (ce j) d (hce j hj)) hd]
      have el : l j = lsD (kd j) (smN fk fc fs h (ce j) d nl) d := by rw [hl]; rfl
      rw [← el, wear_nI hwj (by omega), ← hTs]
      exact hB
  · intro B
    refine ⟨fun _ => hQ _ ?_, fun q => absurd (nI_le (Nat.le_refl _) (by omega)) q⟩
    intro i hi
    rw [hT]
    simp only [hi, if_true, hl]
/-- what stands in a part of the reference's row -/
def SgM (nf : Nat) (row : Nat → Int32) (b : Nat) (w ce : Nat → Nat) (h d : Nat) : Prop :=
  (∀ i, i < nf → row (b + i) = nI (w i)) ∧ row (b + 7) = nI (lapN w nf) ∧ (∀ i, i < nf → row (b + 8 + i) = nI (ce i)) ∧ row (b + 15) = nI h ∧ row (b + 16) = nI d
/-- flitches and families as they were told -/
def StM (nl nf : Nat) (fk fc fs kd : Nat → Nat) (row : Nat → Int32) : Prop :=
  row 17 = nI nl ∧ Ar nl (fun k => row (18 + k)) fk ∧ Ar nl (fun k => row (21 + k)) fc ∧ Ar nl (fun k => row (24 + k)) fs ∧ row 27 = nI nf ∧ Ar nf (fun i => row (28 + i)) kd
theorem StM.cong {nl nf : Nat} {fk fc fs kd : Nat → Nat} {row row' : Nat → Int32} (hnl : nl ≤ 3) (hnf : nf ≤ 7) (h : StM nl nf fk fc fs kd row) (e : ∀ j, 17 ≤ j → j < 35 → row' j = row j) : StM nl nf fk fc fs kd row' := by
  obtain ⟨h1, h2, h3, h4, h5, h6⟩ := h
  exact ⟨by rw [e 17 (by omega) (by omega)]; exact h1, fun k hk => by show row' (18 + k) = _; rw [e _ (by omega) (by omega)]; exact h2 k hk, fun k hk => by show row' (21 + k) = _; rw [e _ (by omega) (by omega)]; exact h3 k hk, fun k hk => by show row' (24 + k) = _; rw [e _ (by omega) (by omega)]; exact h4 k hk, by rw [e 27 (by omega) (by omega)]; exact h5, fun k hk => by show row' (28 + k) = _; rw [e _ (by omega) (by omega)]; exact h6 k hk⟩
theorem s_takeOff {b i w l x : Nat} {row : Nat → Int32} (hb : b + 16 < 770) (hi : i < 7) (hw : row (b + i) = nI w) (hw9 : w ≤ 99) (hl : l ≤ 1000) (hx : row (b + 7) = nI x) (hx7 : x < 128) (hbt : btN x i = 0) (hw0 : w ≠ 0) {Q : (Nat → Int32) → Prop}
    (hQ : Q (fun j => if j = b + i then nI (w - l) else if j = b + 7 then nI (if w - l = 0 then x + 2 ^ i else x) else row j)) : wp_Mo_takeOff (nI b) (nI i) (nI l) row Q := by
  unfold wp_Mo_takeOff
  have e0 : (nI b + 0) + nI i = nI (b + i) := by rw [show (nI b + 0 : Int32) = nI b from nI_add b 0, nI_add]
  have e7 : nI b + 7 = nI (b + 7) := nI_add b 7
  have v0 : vp_in (nI (b + i)) 770 := vp_in_nI (by omega) (by omega)
  have v7 : vp_in (nI (b + 7)) 770 := vp_in_nI (by omega) (by omega)
  have hu : ∀ (f : Nat → Int32) (k : Nat) (y : Int32), upd f k y k = y := fun f k y => by simp [upd]
  simp only [e0, e7, v0, v7, true_and, fe_e, nI_clamp (show b + i < 2 ^ 31 by omega), nI_clamp (show b + 7 < 2 ^ 31 by omega), hu, hw]
  simp only [ge1_sub hw9 (show l ≤ 100000 by omega)]
  refine ⟨fun q => ?_, fun q => ?_⟩
  · have e : upd row (b + i) (nI w - nI l) = (fun j => if j = b + i then nI (w - l) else if j = b + 7 then nI (if w - l = 0 then x + 2 ^ i else x) else row j) := by
      funext j
      unfold upd
      by_cases h1 : j = b + i
      · simp only [h1, if_true]; exact pk_sub (by omega)
      · by_cases h2 : j = b + 7
        · subst h2; rw [if_neg h1, if_neg h1, if_pos rfl, if_neg q]; exact hx
        · simp only [h1, h2, if_false]
    rw [e]
    exact hQ
  · have q0 : w - l = 0 := by omega
    have e1 : upd (upd row (b + i) (nI w - nI l)) (b + i) 0 (b + 7) = nI x := by
      unfold upd
      simp only [show ¬ (b + 7 = b + i) by omega, if_false]
      exact hx
    rw [e1, or_bit0 x hx7 i hi hbt]
    have e : upd (upd (upd row (b + i) (nI w - nI l)) (b + i) 0) (b + 7) (nI (x + 2 ^ i)) = (fun j => if j = b + i then nI (w - l) else if j = b + 7 then nI (if w - l = 0 then x + 2 ^ i else x) else row j) := by
      funext j
      unfold upd
      by_cases h1 : j = b + i
      · simp only [h1, if_true, show ¬ (b + i = b + 7) by omega, if_false, q0]; rfl
      · by_cases h2 : j = b + 7
        · simp only [h2, q0, if_true]; rw [if_neg (by omega)]
        · simp only [h1, h2, if_false]
    rw [e]
    exact hQ
theorem s_passes {nl nf b h d : Nat} {fk fc fs kd w ce : Nat → Nat} {row : Nat → Int32} {wd : Bool} (hb : b = 0 ∨ b = 753) (hF : FlOk nl fk fc fs) (hnf : nf ≤ 7) (hkd : ∀ i, i < nf → kd i < 6) (hce : ∀ i, i < nf → ce i < 25) (hw : ∀ i, i < nf → w i ≤ 99) (hh : h < 256) (hd : d < 2 ^ 30) (hSt : StM nl nf fk fc fs kd row) (hSg : SgM nf row b w ce h d) {Q : (Nat → Int32) → Prop}
    (hQ : ∀ row', SgM nf row' b (fun i => w i - loN nl fk fc fs kd ce h d wd i) ce h (d + 1) → (∀ j, ¬ (b ≤ j ∧ j < b + nf) → j ≠ b + 7 → j ≠ b + 16 → row' j = row j) → Q row') : wp_Mo_passes (nI b) (if wd then 1 else 0) row Q := by
  have hb' : b + 16 < 770 := by omega
  unfold wp_Mo_passes
  obtain ⟨l, hl⟩ : ∃ l, l = loN nl fk fc fs kd ce h d wd := ⟨_, rfl⟩
  obtain ⟨s1, s2, s3, s4, s5⟩ := hSg
  have hnl := hF.1
  obtain ⟨T, hT⟩ : ∃ T : Nat → Nat → Int32, T = fun j x => if b ≤ x ∧ x < b + j then nI (w (x - b) - l (x - b)) else if x = b + 7 then nI (lapN (wjN w l j) nf) else row x := ⟨_, rfl⟩
  have hT0 : T 0 = row := by
    rw [hT]; funext x
    by_cases e : x = b + 7
    · subst e; simp only [wjN_0]; rw [if_neg (by omega), if_pos trivial]; exact s2.symm
    · simp only [e, if_false]; rw [if_neg (by omega)]
  have e16 : nI b + 16 = nI (b + 16) := nI_add b 16
  have e7 : nI b + 7 = nI (b + 7) := nI_add b 7
  have e15 : nI b + 15 = nI (b + 15) := nI_add b 15
  have v16 : vp_in (nI (b + 16)) 770 := vp_in_nI (by omega) (by omega)
  have v7 : vp_in (nI (b + 7)) 770 := vp_in_nI (by omega) (by omega)
  have v15 : vp_in (nI (b + 15)) 770 := vp_in_nI (by omega) (by omega)
  simp only [e16, e7, e15, v16, v7, v15, true_and, fe_e, nI_clamp (show b + 16 < 2 ^ 31 by omega), nI_clamp (show b + 7 < 2 ^ 31 by omega), nI_clamp (show b + 15 < 2 ^ 31 by omega), s5]
  rw [← hT0]
  have hTo : ∀ j x, j ≤ nf → ¬ (b ≤ x ∧ x < b + nf) → x ≠ b + 7 → T j x = row x := by
    intro j x hj h1 h2
    rw [hT]
    simp only [h2, if_false]
    rw [if_neg (by omega)]
  have hT27 : ∀ j, j ≤ nf → T j (Int32.toNatClampNeg 27) = nI nf := by
    intro j hj
    show T j 27 = _
    rw [hTo j 27 hj (by omega) (by omega)]; exact hSt.2.2.2.2.1
  refine lpw2_run nI T nf ?_ ?_ 0 (Nat.zero_le _)
  · intro B j hj hB
    rw [hT27 j (by omega)]
    refine ⟨fun q => absurd q (nI_ge hj (by omega)), fun _ => ?_⟩
    have hwj := hw j hj
    have hlj : l j ≤ 68 := by rw [hl]; exact loN_le hF h d wd (hkd j hj) (hce j hj)
    have eT7 : T j (b + 7) = nI (lapN (wjN w l j) nf) := by rw [hT]; simp only [if_true]; rw [if_neg (by omega)]
    have eTj : T j (b + j) = nI (w j) := by
      rw [hT]; simp only [show ¬ (b + j = b + 7) by omega, if_false]; rw [if_neg (by omega)]; exact s1 j hj
    have hL := lapN_lt (wjN w l j) nf
    have h128 : (2 : Nat) ^ nf ≤ 128 := Nat.le_trans (Nat.pow_le_pow_right (by omega) hnf) (by decide)
    have hbt : btN (lapN (wjN w l j) nf) j = (if w j = 0 then 1 else 0) := by
      rw [btN_lap _ nf j hj]
      simp [wjN]
    have e8 : nI b + 8 + nI j = nI (b + 8 + j) := by rw [show nI b + 8 = nI (b + 8) from nI_add b 8, nI_add]
    have e28 : (28 : Int32) + nI j = nI (28 + j) := nI_add 28 j
    have v8 : vp_in (nI (b + 8 + j)) 770 := vp_in_nI (by omega) (by omega)
    have v28 : vp_in (nI (28 + j)) 770 := vp_in_nI (by omega) (by omega)
    have eT15 : T j (b + 15) = nI h := by rw [hTo j _ (by omega) (by omega) (by omega)]; exact s4
    have eT8 : T j (b + 8 + j) = nI (ce j) := by rw [hTo j _ (by omega) (by omega) (by omega)]; exact s3 j hj
    have eT28 : T j (28 + j) = nI (kd j) := by rw [hTo j _ (by omega) (by omega) (by omega)]; exact hSt.2.2.2.2.2 j hj
    simp only [w_has, eT7, eT15, e8, e28, v8, v28, true_and, nI_clamp (show b + 8 + j < 2 ^ 31 by omega), nI_clamp (show 28 + j < 2 ^ 31 by omega), eT8, eT28, bit_is (show lapN (wjN w l j) nf < 256 by omega) (show j < 8 by omega), hbt, nI_1, fe_e, jn1, w_takesBy]
    by_cases hz : w j = 0
    · simp only [hz, if_true]
      refine ⟨fun _ => ?_, fun q => absurd q (by decide)⟩
      have e : T (j + 1) = T j := by
        rw [hT]
        funext x
        have ew : wjN w l (j + 1) = wjN w l j := by
          rw [wjN_s]
          funext y
          unfold updN
          by_cases ey : y = j
          · subst ey; simp [wjN, hz]
          · simp [ey]
        simp only [ew]
        by_cases hx : x = b + j
        · subst hx
          rw [if_pos (by omega), if_neg (by omega), if_neg (by omega)]
          rw [show b + j - b = j by omega, hz, s1 j hj, hz]; simp
        · by_cases h1 : b ≤ x ∧ x < b + j
          · rw [if_pos h1, if_pos (by omega)]
          · rw [if_neg h1, if_neg (by omega)]
      rw [e] at hB
      exact hB
    · simp only [hz, if_false, show ¬ ((0 : Nat) = 1) by decide]
      refine ⟨fun q => absurd trivial q, fun _ => ?_⟩
      have hfin : wp_Mo_takeOff (nI b) (nI j) (nI (l j)) (T j) (fun s_row_21 => B (nI (j + 1)) s_row_21) := by
        refine s_takeOff hb' (by omega) eTj hwj (by omega) eT7 (by omega) (by rw [hbt, if_neg hz]) hz ?_
        have e : T (j + 1) = (fun x => if x = b + j then nI (w j - l j) else if x = b + 7 then nI (if w j - l j = 0 then lapN (wjN w l j) nf + 2 ^ j else lapN (wjN w l j) nf) else T j x) := by
          have el : lapN (wjN w l (j + 1)) nf = (if w j - l j = 0 then lapN (wjN w l j) nf + 2 ^ j else lapN (wjN w l j) nf) := by
            rw [wjN_s]
            have hwz : wjN w l j j ≠ 0 := by simp [wjN]; exact hz
            by_cases h0 : w j - l j = 0
            · rw [if_pos h0, h0]; exact lapN_up0 _ nf j hj hwz
            · rw [if_neg h0]; exact lapN_up1 _ nf j _ hwz h0
          rw [← el, hT]
          funext x
          by_cases hx : x = b + j
          · subst hx
            simp only [if_true]
            rw [if_pos (by omega), show b + j - b = j by omega]
          · simp only [hx, if_false]
            by_cases h7 : x = b + 7
            · subst h7; simp only [if_true]; rw [if_neg (by omega)]
            · simp only [h7, if_false]
              by_cases h1 : b ≤ x ∧ x < b + j
              · rw [if_pos h1, if_pos (by omega)]
              · rw [if_neg h1, if_neg (by omega)]
        rw [← e]
        exact hB
      have el : lsD (kd j) (if wd then 0 else smN fk fc fs h (ce j) d nl) d = l j := by rw [hl]; rfl
      cases wd with
      | true =>
        refine ⟨fun q => absurd q (by decide), fun _ => ?_⟩
        rw [show (0 : Int32) = nI 0 from rfl, lsF_nI (hkd j hj) (by omega) (by omega)]
        rw [show lsD (kd j) 0 d = l j from el]
        exact hfin
      | false =>
        refine ⟨fun _ => ?_, fun q => absurd rfl q⟩
        have hSj : StM nl nf fk fc fs kd (T j) := hSt.cong hnl hnf (fun x h1 h2 => hTo j x (by omega) (by omega) (by omega))
        refine s_smellOf hF hSj.1 hSj.2.1 hSj.2.2.1 hSj.2.2.2.1 hh (hce j hj) (by omega) ?_
        rw [lsF_nI (hkd j hj) (smN_133 hF h (ce j) d (hce j hj)) (by omega)]
        rw [show lsD (kd j) (smN fk fc fs h (ce j) d nl) d = l j from el]
        exact hfin
  · intro B
    rw [hT27 nf (Nat.le_refl _)]
    refine ⟨fun _ => ?_, fun q => absurd (nI_le (Nat.le_refl _) (by omega)) q⟩
    have eT16 : T nf (b + 16) = nI d := by rw [hTo nf _ (by omega) (by omega) (by omega)]; exact s5
    rw [eT16, nI_1]
    refine hQ _ ⟨fun i hi => ?_, ?_, fun i hi => ?_, ?_, ?_⟩ (fun x h1 h2 h3 => ?_)
    · unfold upd
      rw [if_neg (by omega), hT]
      simp only []
      rw [if_pos (by omega), show b + i - b = i by omega, hl]
    · unfold upd
      rw [if_neg (by omega), hT]
      simp only [if_true]
      rw [if_neg (by omega)]
      congr 1
      exact lapN_cong (fun i hi => by simp [wjN, hi, hl])
    · unfold upd
      rw [if_neg (by omega), hTo nf _ (by omega) (by omega) (by omega)]
      exact s3 i hi
    · unfold upd
      rw [if_neg (by omega), hTo nf _ (by omega) (by omega) (by omega)]
      exact s4
    · simp [upd]
    · unfold upd
      rw [if_neg h3, hTo nf x (by omega) h1 h2]
