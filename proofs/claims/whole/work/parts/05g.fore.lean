/-! what will come -/
def fsN (P : Nat → Bool) : Nat → Nat
  | 0 => 0
  | n + 1 => if fsN P n < n then fsN P n else if P n = true then n else n + 1
theorem fsN_none {P : Nat → Bool} : ∀ n, (∀ i, i < n → P i = false) → fsN P n = n
  | 0, _ => rfl
  | n + 1, h => by
    simp only [fsN]
    rw [fsN_none n (fun i hi => h i (by omega)), if_neg (by omega), if_neg (by rw [h n (by omega)]; decide)]
theorem fsN_at {P : Nat → Bool} {j : Nat} (hj : P j = true) (hl : ∀ i, i < j → P i = false) : ∀ n, j < n → fsN P n = j
  | 0, h => absurd h (by omega)
  | n + 1, h => by
    simp only [fsN]
    by_cases e : j = n
    · subst e; rw [fsN_none j hl, if_neg (by omega), if_pos hj]
    · rw [fsN_at hj hl n (by omega), if_pos (by omega)]
theorem fsN_le (P : Nat → Bool) : ∀ n, fsN P n ≤ n
  | 0 => Nat.le_refl _
  | n + 1 => by
    have h := fsN_le P n
    simp only [fsN]
    split
    · omega
    · split <;> omega
theorem fsN_spec (P : Nat → Bool) : ∀ n, (∀ i, i < fsN P n → P i = false) ∧ (fsN P n < n → P (fsN P n) = true)
  | 0 => ⟨fun i hi => absurd hi (by simp [fsN]), fun h => absurd h (by simp [fsN])⟩
  | n + 1 => by
    obtain ⟨h1, h2⟩ := fsN_spec P n
    have h3 := fsN_le P n
    by_cases e : fsN P n < n
    · rw [show fsN P (n + 1) = fsN P n from if_pos e]
      exact ⟨h1, fun _ => h2 e⟩
    · have e' : fsN P n = n := by omega
      rw [e'] at h1
      by_cases q : P n = true
      · rw [show fsN P (n + 1) = n by simp only [fsN]; rw [if_neg e, if_pos q]]
        exact ⟨h1, fun _ => q⟩
      · rw [show fsN P (n + 1) = n + 1 by simp only [fsN]; rw [if_neg e, if_neg q]]
        refine ⟨fun i hi => ?_, fun h => absurd h (by omega)⟩
        by_cases ei : i = n
        · subst ei; simpa using q
        · exact h1 i (by omega)
theorem fsN_cong {P R : Nat → Bool} : ∀ n, (∀ i, i < n → P i = R i) → fsN P n = fsN R n
  | 0, _ => rfl
  | n + 1, h => by
    simp only [fsN]
    rw [fsN_cong n (fun i hi => h i (by omega)), h n (by omega)]
theorem jn1_f {A : Type} {F : (A → Prop) → Prop} {K : A → Prop} : jn1 F K = F K := rfl
/-- a day's loss, and what days take -/
def lsT (p : Nat → Nat) (kd c h d : Nat) : Nat := lsD kd (smN (fun k => p (18 + k)) (fun k => p (21 + k)) (fun k => p (24 + k)) h c d (p 17)) d
def tkT (p : Nat → Nat) (kd c h d : Nat) : Nat → Nat
  | 0 => 0
  | t + 1 => tkT p kd c h d t + lsT p kd c h (d + t)
theorem lsT_le {p : Nat → Nat} (hI : Inv p) {kd c h d : Nat} (hk : kd < 6) (hc : c < 25) : lsT p kd c h d ≤ 68 := lsD_le hk (smN_133 hI.2.1 h c d hc)
theorem tkT_le {p : Nat → Nat} (hI : Inv p) {kd c h d : Nat} (hk : kd < 6) (hc : c < 25) : ∀ t, tkT p kd c h d t ≤ 68 * t
  | 0 => Nat.le_refl _
  | t + 1 => by
    have h1 := tkT_le hI (h := h) (d := d) hk hc t
    have h2 := lsT_le hI (h := h) (d := d + t) hk hc
    simp only [tkT]
    omega
theorem tkT_mono (p : Nat → Nat) (kd c h d : Nat) {s : Nat} : ∀ t, s ≤ t → tkT p kd c h d s ≤ tkT p kd c h d t
  | 0, hs => by rw [show s = 0 by omega]; exact Nat.le_refl _
  | t + 1, hs => by
    by_cases e : s = t + 1
    · rw [e]; exact Nat.le_refl _
    · have := tkT_mono p kd c h d (s := s) t (by omega)
      simp only [tkT]
      omega
theorem smN_mod {fk fc fs : Nat → Nat} {h c d d' : Nat} (e : d % 7 = 0 ↔ d' % 7 = 0) : ∀ n, smN fk fc fs h c d n = smN fk fc fs h c d' n
  | 0 => rfl
  | n + 1 => by
    have h2 : decide (d % 7 = 0) = decide (d' % 7 = 0) := decide_eq_decide.mpr e
    simp only [smN, scD]
    rw [smN_mod e n, h2]
theorem s_reckon {p : Nat → Nat} {flCell flKind flStr tk0 : Nat → Int32} (hI : Inv p) (a9 : Ar (p 17) flCell (fun k => p (21 + k))) (a10 : Ar (p 17) flKind (fun k => p (18 + k))) (a11 : Ar (p 17) flStr (fun k => p (24 + k))) {kd c h n : Nat} (hk : kd < 6) (hc : c < 25) (hh : h < 256) (hn : n ≤ 60) {Q : (Nat → Int32) → Prop}
    (hQ : ∀ tk, (∀ t, t ≤ n → tk t = nI (tkT p kd c h (p 16) t)) → Q tk) : wp_Fs_reckon (nI kd) (nI c) (nI h) (nI n) (nI (p 17)) (nI (p 16)) flCell flKind flStr tk0 Q := by
  have hd := hI.d9
  unfold wp_Fs_reckon
  refine s_scentAt (d := 7) hI.2.1 a10 a9 a11 hh hc (by omega) ?_
  refine s_scentAt (d := 1) hI.2.1 a10 a9 a11 hh hc (by omega) ?_
  intro t0 et0
  obtain ⟨T, hT⟩ : ∃ T : Nat → Nat → Int32, T = fun t x => if x ≤ t then nI (tkT p kd c h (p 16) x) else tk0 x := ⟨_, rfl⟩
  have hT0 : T 0 = t0 := by
    rw [hT, et0]; funext x
    show _ = upd tk0 0 0 x
    unfold upd
    by_cases e : x = 0
    · subst e; simp [tkT]; rfl
    · simp only [e, if_false]; rw [if_neg (by omega)]
  rw [← hT0]
  refine lpw2_run nI T n ?_ ?_ 0 (Nat.zero_le _)
  · intro B j hj hB
    refine ⟨fun q => absurd q (nI_ge hj (by omega)), fun _ => ⟨fun q => absurd q (nI_ge (b := 60) (by omega) (by decide)), fun _ => ?_⟩⟩
    intro x8 ex8
    rw [nI_add] at ex8
    subst ex8
    refine ⟨vp_in_nI (by omega) (by omega), ?_⟩
    have hmain : wp_Nt_loss (nI kd) (nI (smN (fun k => p (18 + k)) (fun k => p (21 + k)) (fun k => p (24 + k)) h c (p 16 + j) (p 17))) (nI (p 16 + j)) (fun r_13 => vp_in (nI j + 1) 61 ∧ ∀ s_taken_15 : Nat → Int32, s_taken_15 = upd (T j) (Int32.toNatClampNeg (nI j + 1)) ((T j (Int32.toNatClampNeg (nI j))) + r_13) → ∀ x7_16 : Int32, x7_16 = nI j + 1 → B x7_16 s_taken_15) := by
      rw [w_loss, lsF_nI hk (smN_133 hI.2.1 h c (p 16 + j) hc) (by omega), nI_1, nI_clamp (by omega), nI_clamp (by omega)]
      refine ⟨vp_in_nI (by omega) (by omega), ?_⟩
      intro t1 et1 x1 ex1
      subst et1; subst ex1
      have eT : T j j = nI (tkT p kd c h (p 16) j) := by rw [hT]; simp
      have e : T (j + 1) = upd (T j) (j + 1) (T j j + nI (lsD kd (smN (fun k => p (18 + k)) (fun k => p (21 + k)) (fun k => p (24 + k)) h c (p 16 + j) (p 17)) (p 16 + j))) := by
        rw [eT, nI_add, hT]
        funext x
        unfold upd
        by_cases q : x = j + 1
        · subst q; simp only [Nat.le_refl, if_true]; rfl
        · simp only [q, if_false]
          by_cases q2 : x ≤ j
          · rw [if_pos (by omega), if_pos q2]
          · rw [if_neg (by omega), if_neg q2]
      rw [← e]
      exact hB
    rw [jn1_f, irem7 (by omega)]
    refine ⟨fun q => ?_, fun q => ?_⟩
    · rw [smN_mod (d := 1) (d' := p 16 + j) (by constructor <;> intro z <;> omega) (p 17)]
      exact hmain
    · rw [smN_mod (d := 7) (d' := p 16 + j) (by constructor <;> intro z <;> omega) (p 17)]
      exact hmain
  · intro B
    refine ⟨fun _ => hQ _ (fun t ht => ?_), fun q => absurd (nI_le (Nat.le_refl _) (by omega)) q⟩
    rw [hT]; simp [ht]
/-- when: n + 1 stands for never -/
def whN (f : Nat → Nat) (w n : Nat) : Nat := fsN (fun t => decide (w ≤ f t)) (n + 1)
theorem s_firstLapse {f : Nat → Nat} {tk : Nat → Int32} {w n : Nat} (hn : n ≤ 60) (hw : w < 2 ^ 31) (hf : ∀ t, t ≤ n → f t < 2 ^ 31) (hT : ∀ t, t ≤ n → tk t = nI (f t)) {Q : Int32 → Prop} (hQ : Q (if whN f w n = n + 1 then -1 else nI (whN f w n))) : wp_Fs_firstLapse (nI w) (nI n) tk Q := by
  unfold wp_Fs_firstLapse
  refine lpw1_rule (fun x => ∃ j, x = nI j ∧ j ≤ n + 1 ∧ ∀ i, i < j → ¬ w ≤ f i) (fun x => 62 - x.toNatClampNeg) ?_ 0 ⟨0, rfl, by omega, fun i hi => absurd hi (by omega)⟩
  intro B x hx hB
  obtain ⟨j, rfl, hj, hl⟩ := hx
  by_cases e : j = n + 1
  · subst e
    have hz : whN f w n = n + 1 := fsN_none _ (fun i hi => decide_eq_false (hl i hi))
    rw [if_pos hz] at hQ
    exact ⟨fun _ => hQ, fun q => absurd (nI_lt (by omega) (by omega)) q⟩
  · refine ⟨fun q => absurd q (nI_nlt (by omega) (by omega)), fun _ => ⟨fun q => absurd q (nI_nlt (b := j) (a := 60) (by omega) (by omega)), fun _ => ⟨vp_in_nI (by omega) (by omega), ?_⟩⟩⟩
    have hfj := hf j (by omega)
    rw [nI_clamp (by omega), hT j (by omega)]
    refine ⟨fun q => ?_, fun q => ?_⟩
    · have q' := (nI_ltI hfj hw).mp q
      intro x' ex'
      subst ex'
      rw [nI_1]
      refine hB _ ⟨j + 1, rfl, by omega, fun i hi => ?_⟩ (by rw [nI_clamp (by omega), nI_clamp (by omega)]; omega)
      by_cases ei : i = j
      · subst ei; omega
      · exact hl i (by omega)
    · have q' : ¬ f j < w := fun z => q ((nI_ltI hfj hw).mpr z)
      have hz : whN f w n = j := fsN_at (decide_eq_true (by omega)) (fun i hi => decide_eq_false (hl i hi)) _ (by omega)
      rw [hz, if_neg e] at hQ
      exact hQ
/-- what only the tried part changes -/
def Lo (row' row : Nat → Int32) : Prop := ∀ j, j < 753 → row' j = row j
theorem Lo.rf {row : Nat → Int32} : Lo row row := fun _ _ => rfl
theorem Lo.tr {a b c : Nat → Int32} (h1 : Lo a b) (h2 : Lo b c) : Lo a c := fun j x => (h1 j x).trans (h2 j x)
theorem Lo.hi {row' row : Nat → Int32} (h : Lo row' row) : Hi row' row := fun j _ x => h j x
theorem Lo.mr {p : Nat → Nat} {row' row : Nat → Int32} (h : Lo row' row) (hM : MR p row 0) : MR p row' 0 := fun j hj => by rw [Nat.zero_add, h j (by omega)]; exact hM.at0 hj
theorem Lo.up {row : Nat → Int32} {k : Nat} {v : Int32} (h : 753 ≤ k) : Lo (upd row k v) row := fun j hj => by unfold upd; rw [if_neg (by omega)]
theorem s_layTried {row : Nat → Int32} {Q : (Nat → Int32) → Prop} (hQ : ∀ row', (∀ j, j < 17 → row' (753 + j) = row j) → Lo row' row → Q row') : wp_Mo_layTried row Q := by
  unfold wp_Mo_layTried
  obtain ⟨T, hT⟩ : ∃ T : Nat → Nat → Int32, T = fun j x => if 753 ≤ x ∧ x < 753 + j then row (x - 753) else row x := ⟨_, rfl⟩
  have hT0 : T 0 = row := by rw [hT]; funext x; simp only []; rw [if_neg (by omega)]
  rw [← hT0]
  refine lpw2_run nI T 17 ?_ ?_ 0 (Nat.zero_le _)
  · intro B j hj hB
    have ea : (753 : Int32) + nI j = nI (753 + j) := nI_add 753 j
    rw [ea]
    refine ⟨fun q => absurd q (nI_ge (b := 17) hj (by decide)), fun _ => ⟨vp_in_nI (by omega) (by omega), vp_in_nI (by omega) (by omega), ?_⟩⟩
    simp only [fe_e, nI_1, nI_clamp (show 753 + j < 2 ^ 31 by omega), nI_clamp (show j < 2 ^ 31 by omega)]
    have e : T (j + 1) = upd (T j) (753 + j) (T j j) := by
      rw [hT]
      funext x
      unfold upd
      by_cases hx : x = 753 + j
      · subst hx
        simp only [if_true]
        rw [if_pos (by omega), if_neg (show ¬ (753 ≤ j ∧ j < 753 + j) by omega)]
        exact congrArg row (by omega)
      · simp only [hx, if_false]
        by_cases h2 : 753 ≤ x ∧ x < 753 + j
        · rw [if_pos h2, if_pos (by omega)]
        · rw [if_neg h2, if_neg (by omega)]
    rw [← e]
    exact hB
  · intro B
    refine ⟨fun _ => hQ _ (fun j hj => ?_) (fun j hj => ?_), fun q => absurd (nI_le (a := 17) (b := 17) (Nat.le_refl _) (by decide)) q⟩
    · rw [hT]; simp only []; rw [if_pos (by omega), show 753 + j - 753 = j by omega]
    · rw [hT]; simp only []; rw [if_neg (by omega)]
theorem tried_Sg {p : Nat → Nat} {row row' : Nat → Int32} (hI : Inv p) (hM : MR p row 0) (h : ∀ j, j < 17 → row' (753 + j) = row j) : SgM (p 27) row' 753 p (fun i => p (8 + i)) (p 15) (p 16) := by
  have h7 := hI.1
  obtain ⟨s1, s2, s3, s4, s5⟩ := hM.SgM hI
  refine ⟨fun i hi => ?_, ?_, fun i hi => ?_, ?_, ?_⟩
  · rw [h i (by omega)]; have := s1 i hi; rwa [Nat.zero_add] at this
  · rw [h 7 (by omega)]; rwa [Nat.zero_add] at s2
  · rw [show 753 + 8 + i = 753 + (8 + i) by omega, h (8 + i) (by omega)]; have := s3 i hi; rwa [show 0 + 8 + i = 8 + i by omega] at this
  · rw [h 15 (by omega)]; rwa [Nat.zero_add] at s4
  · rw [h 16 (by omega)]; rwa [Nat.zero_add] at s5
theorem s_passT1 {p : Nat → Nat} {row : Nat → Int32} {w ce : Nat → Nat} {h d : Nat} (hI : Inv p) (hM : MR p row 0) (hS : SgM (p 27) row 753 w ce h d) (hw : ∀ i, i < p 27 → w i ≤ 99) (hce : ∀ i, i < p 27 → ce i < 25) (hh : h < 256) (hd : d < 2 ^ 30) {Q : (Nat → Int32) → Prop}
    (hQ : ∀ row', SgM (p 27) row' 753 (fun i => w i - lsT p (p (28 + i)) (ce i) h d) ce h (d + 1) → Lo row' row → Q row') : wp_Mo_passes 753 0 row Q := by
  have h7 := hI.1
  have hp := @s_passes (p 17) (p 27) 753 h d (fun k => p (18 + k)) (fun k => p (21 + k)) (fun k => p (24 + k)) (fun i => p (28 + i)) w ce row false (Or.inr rfl) hI.2.1 h7 (fun i hi => (hI.2.2.1 i hi).1) hce hw hh hd (hM.StM hI) hS Q
  exact hp (fun row' hS' hk => hQ row' hS' (fun j hj => hk j (by omega) (by omega) (by omega)))
theorem SgM.cong {nf b h d : Nat} {row : Nat → Int32} {w w' ce : Nat → Nat} (hS : SgM nf row b w ce h d) (e : ∀ i, i < nf → w' i = w i) : SgM nf row b w' ce h d := by
  obtain ⟨s1, s2, s3, s4, s5⟩ := hS
  exact ⟨fun i hi => by rw [e i hi]; exact s1 i hi, by rw [s2]; exact congrArg nI (lapN_cong (fun i hi => by rw [e i hi])), s3, s4, s5⟩
theorem s_passTried {p : Nat → Nat} {row : Nat → Int32} {w ce : Nat → Nat} {h d n : Nat} (hI : Inv p) (hM : MR p row 0) (hS : SgM (p 27) row 753 w ce h d) (hw : ∀ i, i < p 27 → w i ≤ 99) (hce : ∀ i, i < p 27 → ce i < 25) (hh : h < 256) (hd : d + n < 2 ^ 30) (hn : n < 1000) {Q : (Nat → Int32) → Prop}
    (hQ : ∀ row', SgM (p 27) row' 753 (fun i => w i - tkT p (p (28 + i)) (ce i) h d n) ce h (d + n) → Lo row' row → Q row') : wp_Mo_passTried (nI n) row Q := by
  unfold wp_Mo_passTried
  refine lpw2_rule (fun x r => ∃ j, x = nI j ∧ j ≤ n ∧ SgM (p 27) r 753 (fun i => w i - tkT p (p (28 + i)) (ce i) h d j) ce h (d + j) ∧ Lo r row) (fun x _ => n - x.toNatClampNeg) ?_ 0 row ⟨0, rfl, Nat.zero_le _, hS, Lo.rf⟩
  intro B x r hx hB
  obtain ⟨j, rfl, hj, hSj, hLj⟩ := hx
  refine ⟨fun q => ?_, fun q => ?_⟩
  · have q' := (nI_leI (by omega) (by omega)).mp q
    have e : j = n := by omega
    subst e
    exact hQ r hSj hLj
  · have q' : ¬ n ≤ j := fun z => q ((nI_leI (by omega) (by omega)).mpr z)
    refine s_passT1 hI (hLj.mr hM) hSj (fun i hi => by have := hw i hi; omega) hce hh (by omega) (fun row' hS' hL' => ?_)
    intro x' ex'
    subst ex'
    rw [nI_1]
    refine hB _ _ ⟨j + 1, rfl, by omega, hS'.cong (fun i hi => ?_), hL'.tr hLj⟩ (by rw [nI_clamp (by omega), nI_clamp (by omega)]; omega)
    simp only [tkT]
    omega
theorem w_hasT {nf : Nat} {row : Nat → Int32} {w ce : Nat → Nat} {h d i : Nat} (hS : SgM nf row 753 w ce h d) (h7 : nf ≤ 7) (hi : i < nf) (Q : Int32 → Prop) : wp_Mo_has (row (Int32.toNatClampNeg 760)) (nI i) Q = Q (if w i = 0 then 1 else 0) := by
  have e : row (Int32.toNatClampNeg 760) = nI (lapN w nf) := hS.2.1
  have hl := lapN_lt w nf
  have h128 : (2 : Nat) ^ nf ≤ 128 := Nat.le_trans (Nat.pow_le_pow_right (by omega) h7) (by decide)
  rw [w_has, e]
  simp only [bit_is (show lapN w nf < 256 by omega) (show i < 8 by omega), btN_lap w nf i hi]
  by_cases q : w i = 0 <;> simp [q]
theorem s_whenTried {p : Nat → Nat} {row : Nat → Int32} {w ce : Nat → Nat} {h d i : Nat} (hI : Inv p) (hM : MR p row 0) (hS : SgM (p 27) row 753 w ce h d) (hw : ∀ i, i < p 27 → w i ≤ 99) (hce : ∀ i, i < p 27 → ce i < 25) (hh : h < 256) (hd : d < 2 ^ 29) (hi : i < p 27) {Q : Int32 → (Nat → Int32) → Prop}
    (hQ : ∀ row', Lo row' row → Q (if whN (tkT p (p (28 + i)) (ce i) h d) (w i) 60 = 61 then 99999 else nI (whN (tkT p (p (28 + i)) (ce i) h d) (w i) 60)) row') : wp_Mo_whenTried (nI i) row Q := by
  have h7 := hI.1
  unfold wp_Mo_whenTried
  refine lpw2_rule (fun x r => ∃ j, x = nI j ∧ j ≤ 61 ∧ (∀ t, t < j → ¬ w i ≤ tkT p (p (28 + i)) (ce i) h d t) ∧ SgM (p 27) r 753 (fun i => w i - tkT p (p (28 + i)) (ce i) h d j) ce h (d + j) ∧ Lo r row) (fun x _ => 61 - x.toNatClampNeg) ?_ 0 row ⟨0, rfl, by omega, fun t ht => absurd ht (by omega), hS, Lo.rf⟩
  intro B x r hx hB
  obtain ⟨j, rfl, hj, hl, hSj, hLj⟩ := hx
  by_cases e : j = 61
  · subst e
    have hz : whN (tkT p (p (28 + i)) (ce i) h d) (w i) 60 = 61 := fsN_none _ (fun t ht => decide_eq_false (hl t ht))
    have hQ' := hQ r hLj
    rw [if_pos hz] at hQ'
    exact ⟨fun _ => hQ', fun q => absurd (nI_le (a := 61) (b := 61) (Nat.le_refl _) (by decide)) q⟩
  refine ⟨fun q => absurd q (nI_ge (b := 61) (by omega) (by decide)), fun _ => ?_⟩
  rw [w_hasT hSj h7 hi]
  by_cases q : w i - tkT p (p (28 + i)) (ce i) h d j = 0
  · rw [if_pos q]
    have hz : whN (tkT p (p (28 + i)) (ce i) h d) (w i) 60 = j := fsN_at (decide_eq_true (by omega)) (fun t ht => decide_eq_false (hl t ht)) _ (by omega)
    have hQ' := hQ r hLj
    rw [hz, if_neg e] at hQ'
    exact ⟨fun z => absurd z (by decide), fun _ => hQ'⟩
  · rw [if_neg q]
    refine ⟨fun _ => ?_, fun z => absurd rfl z⟩
    refine s_passTried (n := 1) hI (hLj.mr hM) hSj (fun i hi => by have := hw i hi; omega) hce hh (by omega) (by omega) (fun row' hS' hL' => ?_)
    intro x' ex'
    subst ex'
    rw [nI_1]
    refine hB _ _ ⟨j + 1, rfl, by omega, fun t ht => ?_, hS'.cong (fun i hi => ?_), hL'.tr hLj⟩ (by rw [nI_clamp (by omega), nI_clamp (by omega)]; omega)
    · by_cases et : t = j
      · subst et; omega
      · exact hl t (by omega)
    · simp only [tkT, Nat.add_zero]
      omega
