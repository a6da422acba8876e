theorem whN_iff {f : Nat → Nat} (hm : ∀ s t, s ≤ t → f s ≤ f t) {w n t : Nat} (ht : t ≤ n) : whN f w n ≤ t ↔ w ≤ f t := by
  unfold whN
  obtain ⟨h1, h2⟩ := fsN_spec (fun t => decide (w ≤ f t)) (n + 1)
  have h3 := fsN_le (fun t => decide (w ≤ f t)) (n + 1)
  obtain ⟨j, hj⟩ : ∃ j, j = fsN (fun t => decide (w ≤ f t)) (n + 1) := ⟨_, rfl⟩
  rw [← hj] at h1 h2 h3 ⊢
  constructor
  · intro q
    have h4 := of_decide_eq_true (h2 (by omega))
    have h5 := hm j t q
    omega
  · intro q
    apply Nat.le_of_not_lt
    intro z
    exact of_decide_eq_false (h1 t z) q
def fiB (p : Nat → Nat) (i w k : Nat) : Bool := decide (p (43 + 3 * k) = i → (w ≤ tkT p (p (28 + i)) (p (8 + i)) (p 15) (p 16) (p (44 + 3 * k)) ↔ p (45 + 3 * k) = 1))
theorem s_fits {p : Nat → Nat} {sz : Int32} {nu tk : Nat → Int32} (hI : Inv p) (hC : CRs p sz nu) {i w : Nat} (hi : i < p 27) (hw : w < 1000) (hT : ∀ t, t ≤ 60 → tk t = nI (tkT p (p (28 + i)) (p (8 + i)) (p 15) (p 16) t)) {Q : Int32 → Prop} (hQ : Q (if allN (fiB p i w) (p 42) = true then 1 else 0)) : wp_Fs_fits (nI i) (nI w) 3 sz nu tk Q := by
  obtain ⟨rfl, hA⟩ := hC
  have hsz := hI.2.2.2.2.1.1
  have h7 := hI.1
  unfold wp_Fs_fits
  refine lpw1_rule (fun y => ∃ j, y = nI j ∧ j ≤ p 42 ∧ allN (fiB p i w) j = true) (fun y => p 42 - y.toNatClampNeg) ?_ 0 ⟨0, rfl, Nat.zero_le _, rfl⟩
  intro B y hy hB
  obtain ⟨j, rfl, hj, hal⟩ := hy
  by_cases hj' : j = p 42
  · subst hj'
    rw [if_pos hal] at hQ
    exact ⟨fun _ => hQ, fun z => absurd (nI_le (Nat.le_refl _) (by omega)) z⟩
  have hj : j < p 42 := by omega
  refine ⟨fun z => absurd z (nI_ge hj (by omega)), fun _ => ?_⟩
  obtain ⟨g1, g2, g3⟩ := hI.2.2.2.2.1.2 j hj
  have em : nI j * 3 = nI (3 * j) := by rw [show (3 : Int32) = nI 3 from rfl, pk_mul, Nat.mul_comm]
  have i0 : nI j * 3 + 0 = nI (3 * j) := by rw [em]; exact nI_add _ 0
  have i1 : nI j * 3 + 1 = nI (3 * j + 1) := by rw [em]; exact nI_add _ 1
  have i2 : nI j * 3 + 2 = nI (3 * j + 2) := by rw [em]; exact nI_add _ 2
  have r0 : nu (3 * j) = nI (p (43 + 3 * j)) := hA (3 * j) (by omega)
  have r1 : nu (3 * j + 1) = nI (p (44 + 3 * j)) := by rw [hA (3 * j + 1) (by omega)]; show nI (p (43 + (3 * j + 1))) = _; congr 2; omega
  have r2 : nu (3 * j + 2) = nI (p (45 + 3 * j)) := by rw [hA (3 * j + 2) (by omega)]; show nI (p (43 + (3 * j + 2))) = _; congr 2; omega
  have v0 : vp_in (nI (3 * j)) 15 := vp_in_nI (by omega) (by omega)
  have v1 : vp_in (nI (3 * j + 1)) 15 := vp_in_nI (by omega) (by omega)
  have v2 : vp_in (nI (3 * j + 2)) 15 := vp_in_nI (by omega) (by omega)
  have v3 : vp_in (nI (p (44 + 3 * j))) 61 := vp_in_nI (by omega) (by omega)
  simp only [wp_Rw_at, jn0_e, jn1_e, i0, i1, i2, v0, v1, v2, v3, true_and, nI_clamp (show 3 * j < 2 ^ 31 by omega), nI_clamp (show 3 * j + 1 < 2 ^ 31 by omega), nI_clamp (show 3 * j + 2 < 2 ^ 31 by omega), nI_clamp (show p (44 + 3 * j) < 2 ^ 31 by omega), r0, r1, r2, fe_e, nI_1, hT _ g2]
  have hin : fiB p i w j = true → B (nI (j + 1)) := fun z => hB _ ⟨j + 1, rfl, by omega, by simp only [allN, hal, z]; rfl⟩ (by rw [nI_clamp (by omega), nI_clamp (by omega)]; omega)
  have hout : fiB p i w j = false → Q 0 := fun z => by rw [allN_f z _ hj] at hQ; exact hQ
  have ht := tkT_le hI (h := p 15) (d := p 16) (hI.2.2.1 i hi).1 (hI.c25 i hi) (p (44 + 3 * j))
  refine ⟨fun z => hin (decide_eq_true (fun e => absurd (by rw [e]) z)), fun z => ?_⟩
  have z' : p (43 + 3 * j) = i := (nI_eq (by omega) (by omega)).mp z
  have hlt : (nI (tkT p (p (28 + i)) (p (8 + i)) (p 15) (p 16) (p (44 + 3 * j))) < nI w) = (tkT p (p (28 + i)) (p (8 + i)) (p 15) (p 16) (p (44 + 3 * j)) < w) := propext (nI_ltI (by omega) (by omega))
  have h1 : (nI (p (45 + 3 * j)) = 1) = (p (45 + 3 * j) = 1) := propext (nI_eq (b := 1) (by omega) (by omega))
  simp only [hlt, h1]
  have c10 : ¬ ((1 : Int32) = 0) := by decide
  have c01 : ¬ ((0 : Int32) = 1) := by decide
  by_cases a : tkT p (p (28 + i)) (p (8 + i)) (p 15) (p 16) (p (44 + 3 * j)) < w
  · by_cases b : p (45 + 3 * j) = 1
    · have hf : fiB p i w j = false := decide_eq_false (fun q => by have := (q z').mpr b; omega)
      simp [a, b]
      exact hout hf
    · have hf : fiB p i w j = true := decide_eq_true (fun _ => ⟨fun q => by omega, fun q => absurd q b⟩)
      simp [a, b]
      exact hin hf
  · by_cases b : p (45 + 3 * j) = 1
    · have hf : fiB p i w j = true := decide_eq_true (fun _ => ⟨fun q => b, fun q => by omega⟩)
      simp [a, b]
      exact hin hf
    · have hf : fiB p i w j = false := decide_eq_false (fun q => b ((q z').mp (by omega)))
      simp [a, b]
      exact hout hf
def cwN (F : Nat → Bool) : Nat → Nat
  | 0 => 0
  | j + 1 => cwN F j + (if F (j + 1) = true then 1 else 0)
def fwN (F : Nat → Bool) : Nat → Nat
  | 0 => 0
  | j + 1 => if F (j + 1) = true ∧ fwN F j = 0 then j + 1 else fwN F j
def lwN (F : Nat → Bool) : Nat → Nat
  | 0 => 0
  | j + 1 => if F (j + 1) = true then j + 1 else lwN F j
def zI (x : Nat) : Int32 := if x = 0 then -1 else nI x
theorem fwN_le (F : Nat → Bool) : ∀ j, fwN F j ≤ j
  | 0 => Nat.le_refl _
  | j + 1 => by
    have h := fwN_le F j
    simp only [fwN]
    split <;> omega
theorem zI_m1 {x : Nat} (hx : x < 1000) : zI x = -1 ↔ x = 0 := by
  unfold zI
  by_cases e : x = 0
  · simp [e]
  · rw [if_neg e]
    exact ⟨fun q => absurd q (nI_em1 x (by omega)), fun q => absurd q e⟩
def wiI (F : Nat → Bool) (k : Nat) : Int32 := if k = 0 then nI (cwN F 99) else if k = 1 then zI (fwN F 99) else zI (lwN F 99)
theorem w_s {F : Nat → Bool} {j : Nat} (h : F (j + 1) = true) : cwN F (j + 1) = cwN F j + 1 ∧ lwN F (j + 1) = j + 1 := ⟨by simp only [cwN, h, if_true], if_pos h⟩
theorem w_f {F : Nat → Bool} {j : Nat} (h : ¬ F (j + 1) = true) : cwN F (j + 1) = cwN F j ∧ lwN F (j + 1) = lwN F j ∧ fwN F (j + 1) = fwN F j := ⟨by show cwN F j + (if _ then 1 else 0) = _; rw [if_neg h]; rfl, if_neg h, if_neg (fun z => h z.1)⟩
theorem s_fittingWills {p : Nat → Nat} {sz : Int32} {nu flCell flKind flStr faKind faCell tk0 : Nat → Int32} (hI : Inv p) (hC : CRs p sz nu) (a5 : Ar (p 27) faCell (fun i => p (8 + i))) (a6 : Ar (p 27) faKind (fun i => p (28 + i))) (a9 : Ar (p 17) flCell (fun k => p (21 + k))) (a10 : Ar (p 17) flKind (fun k => p (18 + k))) (a11 : Ar (p 17) flStr (fun k => p (24 + k))) {i k : Nat} (hi : i < p 27) (hk : k ≤ 2) {Q : Int32 → (Nat → Int32) → Prop} (hQ : ∀ tk, Q (wiI (fun w => allN (fiB p i w) (p 42)) k) tk) : wp_Fs_fittingWills (nI i) (nI k) (nI (p 17)) (nI (p 15)) (nI (p 16)) faCell faKind flCell flKind flStr 3 sz nu tk0 Q := by
  have h7 := hI.1
  have h15 := p15_lt hI
  unfold wp_Fs_fittingWills
  rw [nI_clamp (by omega), a5 i hi, a6 i hi]
  refine ⟨vp_in_nI (by omega) (by omega), vp_in_nI (by omega) (by omega), s_reckon (n := 60) hI a9 a10 a11 (hI.2.2.1 i hi).1 (hI.c25 i hi) (by omega) (by omega) (fun tk htk => ?_)⟩
  obtain ⟨F, hF⟩ : ∃ F : Nat → Bool, F = fun w => allN (fiB p i w) (p 42) := ⟨_, rfl⟩
  have hQ' := hQ tk
  rw [← hF] at hQ'
  refine lpw4_run (fun j => nI (cwN F j)) (fun j => zI (fwN F j)) (fun j => zI (lwN F j)) (fun j => nI (j + 1)) 99 ?_ ?_ 0 (Nat.zero_le _)
  · intro B j hj hB
    refine ⟨fun q => absurd q (nI_nlt (b := j + 1) (a := 99) (by omega) (by omega)), fun _ => ?_⟩
    refine s_fits hI hC hi (by omega) htk ?_
    have eF : allN (fiB p i (j + 1)) (p 42) = F (j + 1) := by rw [hF]
    rw [eF]
    simp only [jn3_e, jn1_e, fe_e, nI_1]
    have hle := fwN_le F j
    by_cases h : F (j + 1) = true
    · obtain ⟨g1, g2⟩ := w_s h
      rw [if_pos h]
      have ez : zI (lwN F (j + 1)) = nI (j + 1) := by rw [g2]; unfold zI; rw [if_neg (by omega)]
      refine ⟨fun z => absurd z (by decide), fun _ => ⟨fun q => ?_, fun q => ?_⟩⟩
      · have q' : fwN F j ≠ 0 := fun z => q ((zI_m1 (by omega)).mpr z)
        have g3 : fwN F (j + 1) = fwN F j := if_neg (fun z => q' z.2)
        rw [g1, g3, ez] at hB
        exact hB
      · have q' : fwN F j = 0 := (zI_m1 (by omega)).mp q
        have g3 : zI (fwN F (j + 1)) = nI (j + 1) := by rw [show fwN F (j + 1) = j + 1 from if_pos ⟨h, q'⟩]; unfold zI; rw [if_neg (by omega)]
        rw [g1, g3, ez] at hB
        exact hB
    · obtain ⟨g1, g2, g3⟩ := w_f h
      rw [if_neg h]
      rw [g1, g2, g3] at hB
      exact ⟨fun _ => hB, fun z => absurd rfl z⟩
  · intro B
    refine ⟨fun _ => ?_, fun q => absurd (nI_lt (a := 99) (b := 100) (by omega) (by omega)) q⟩
    unfold wiI at hQ'
    refine ⟨fun q => ⟨fun q2 => ?_, fun q2 => ?_⟩, fun q => ?_⟩
    · have q' : k ≠ 0 := fun z => q (by rw [z]; rfl)
      have q2' : k ≠ 1 := fun z => q2 (by rw [z]; rfl)
      rw [if_neg q', if_neg q2'] at hQ'
      exact hQ'
    · have q2' : k = 1 := (nI_eq (b := 1) (by omega) (by omega)).mp q2
      subst q2'
      exact hQ'
    · have q' : k = 0 := (nI_eq (b := 0) (by omega) (by omega)).mp q
      subst q'
      exact hQ'
set_option maxRecDepth 100000 in
theorem clr_nI0 : ∀ x, x < 128 → ∀ i, i < 7 → nI x &&& ((ishl 1 (nI i)) ^^^ (-1)) = nI (if btN x i = 1 then x - 2 ^ i else x) := by decide +kernel
theorem lapN_set {w : Nat → Nat} {n i v : Nat} (hi : i < n) (hv : v ≠ 0) : (if btN (lapN w n) i = 1 then lapN w n - 2 ^ i else lapN w n) = lapN (updN w i v) n := by
  rw [btN_lap w n i hi]
  by_cases h : w i = 0
  · rw [if_pos h, if_pos rfl]
    have h1 := lapN_up0 (updN w i v) n i hi (by rw [updN_s]; exact hv)
    have h2 : lapN (updN (updN w i v) i 0) n = lapN w n := lapN_cong (fun j _ => by
      by_cases e : j = i
      · subst e; rw [updN_s]; simp [h]
      · rw [updN_n e, updN_n e])
    omega
  · rw [if_neg h, if_neg (by decide)]
    exact (lapN_up1 w n i v h hv).symm
theorem s_isWill {p : Nat → Nat} {row : Nat → Int32} (hI : Inv p) (hM : MR p row 0) {i w : Nat} (hi : i < p 27) (hw1 : 1 ≤ w) (hw : w ≤ 99) {Q : Int32 → (Nat → Int32) → Prop} (hQ : ∀ row', Lo row' row → Q (if allN (fiB p i w) (p 42) = true then 1 else 0) row') : wp_Mo_isWill (nI i) (nI w) row Q := by
  have h7 := hI.1
  have hd := hI.d9
  have h15 := p15_lt hI
  have hsz := hI.2.2.2.2.1.1
  unfold wp_Mo_isWill
  refine s_layTried (fun row1 r1 hL1 => ?_)
  have e753 : (753 : Int32) + nI i = nI (753 + i) := nI_add 753 i
  rw [e753, nI_clamp (by omega)]
  refine ⟨vp_in_nI (by omega) (by omega), ?_⟩
  intro row2 er2 row3 er3
  obtain ⟨s1, s2, s3, s4, s5⟩ := tried_Sg hI hM r1
  have hl := lapN_lt p (p 27)
  have h128 : (2 : Nat) ^ (p 27) ≤ 128 := Nat.le_trans (Nat.pow_le_pow_right (by omega) h7) (by decide)
  have e760 : row2 (Int32.toNatClampNeg 760) = nI (lapN p (p 27)) := by
    rw [er2]; show upd row1 (753 + i) (nI w) 760 = _
    rw [pk_un (by omega)]; exact s2
  rw [e760, clr_nI0 _ (by omega) i (by omega), lapN_set hi (show w ≠ 0 by omega)] at er3
  have hL3 : Lo row3 row := by
    rw [er3, er2]
    exact (Lo.up (k := 760) (by omega)).tr ((Lo.up (by omega)).tr hL1)
  have hS3 : SgM (p 27) row3 753 (updN p i w) (fun i => p (8 + i)) (p 15) (p 16) := by
    have eo : ∀ j, j ≠ 760 → j ≠ 753 + i → row3 j = row1 j := fun j h1 h2 => by
      rw [er3, er2]
      show upd (upd row1 (753 + i) (nI w)) 760 _ j = _
      rw [pk_un h1, pk_un h2]
    refine ⟨fun j hj => ?_, ?_, fun j hj => by rw [eo _ (by omega) (by omega)]; exact s3 j hj, by rw [eo _ (by omega) (by omega)]; exact s4, by rw [eo _ (by omega) (by omega)]; exact s5⟩
    · by_cases e : j = i
      · subst e
        rw [er3, er2]
        show upd (upd row1 (753 + j) (nI w)) 760 _ (753 + j) = _
        rw [pk_un (by omega), pk_us, updN_s]
      · rw [eo _ (by omega) (by omega), updN_n e]; exact s1 j hj
    · rw [er3]
      show upd row2 760 _ 760 = _
      rw [pk_us]
  refine s_whenTried hI (hL3.mr hM) hS3 (fun j hj => ?_) hI.c25 (by omega) (by omega) hi (fun row4 hL4 => ?_)
  · by_cases e : j = i
    · subst e; rw [updN_s]; exact hw
    · rw [updN_n e]; exact hI.w99 j hj
  rw [updN_s]
  have hL5 := hL4.tr hL3
  have hM5 := hL5.mr hM
  obtain ⟨wh, hwh⟩ : ∃ wh, wh = whN (tkT p (p (28 + i)) (p (8 + i)) (p 15) (p 16)) w 60 := ⟨_, rfl⟩
  have hwl : wh ≤ 61 := by rw [hwh]; exact whN_le _ _ _
  have hiff : ∀ t, t ≤ 60 → (wh ≤ t ↔ w ≤ tkT p (p (28 + i)) (p (8 + i)) (p 15) (p 16) t) := fun t ht => by rw [hwh]; exact whN_iff (fun s t hst => tkT_mono p _ _ _ _ t hst) ht
  have er : (if whN (tkT p (p (28 + i)) (p (8 + i)) (p 15) (p 16)) w 60 = 61 then (99999 : Int32) else nI (whN (tkT p (p (28 + i)) (p (8 + i)) (p 15) (p 16)) w 60)) = nI (psN wh) := by
    rw [← hwh]
    unfold psN
    by_cases q : wh = 61
    · simp only [q, if_true]; rfl
    · simp only [q, if_false]
  have hpl : psN wh < 100000 := by unfold psN; split <;> omega
  have hps : ∀ t, t ≤ 60 → (t < psN wh ↔ ¬ w ≤ tkT p (p (28 + i)) (p (8 + i)) (p 15) (p 16) t) := fun t ht => by
    rw [← hiff t ht]
    unfold psN
    by_cases q : wh = 61
    · rw [if_pos q]; omega
    · rw [if_neg q]; omega
  simp only [er]
  have e42 : row4 (Int32.toNatClampNeg 42) = nI (p 42) := hM5.at0 (j := 42) (by omega)
  have ee : (43 : Int32) + 3 * nI (p 42) = nI (43 + 3 * p 42) := by rw [show (3 : Int32) * nI (p 42) = nI (3 * p 42) from pk_mul 3 _]; exact nI_add 43 _
  simp only [e42, ee]
  refine lpw2_run (fun k => if allN (fiB p i w) k = true then 1 else 0) (fun k => nI (43 + 3 * k)) (p 42) ?_ ?_ 0 (Nat.zero_le _)
  · intro B k hk hB
    refine ⟨fun q => absurd q (nI_ge (by omega) (by omega)), fun _ => ?_⟩
    obtain ⟨g1, g2, g3⟩ := hI.2.2.2.2.1.2 k hk
    have j1 : nI (43 + 3 * k) + 1 = nI (44 + 3 * k) := by rw [show nI (43 + 3 * k) + 1 = nI (43 + 3 * k + 1) from nI_add _ 1]; exact congrArg nI (by omega)
    have j2 : nI (43 + 3 * k) + 2 = nI (45 + 3 * k) := by rw [show nI (43 + 3 * k) + 2 = nI (43 + 3 * k + 2) from nI_add _ 2]; exact congrArg nI (by omega)
    have j3 : nI (43 + 3 * k) + 3 = nI (43 + 3 * (k + 1)) := by rw [show nI (43 + 3 * k) + 3 = nI (43 + 3 * k + 3) from nI_add _ 3]; exact congrArg nI (by omega)
    have w0 : vp_in (nI (43 + 3 * k)) 770 := vp_in_nI (by omega) (by omega)
    have w1 : vp_in (nI (44 + 3 * k)) 770 := vp_in_nI (by omega) (by omega)
    have w2 : vp_in (nI (45 + 3 * k)) 770 := vp_in_nI (by omega) (by omega)
    have r0 : row4 (43 + 3 * k) = nI (p (43 + 3 * k)) := hM5.at0 (by omega)
    have r1 : row4 (44 + 3 * k) = nI (p (44 + 3 * k)) := hM5.at0 (by omega)
    have r2 : row4 (45 + 3 * k) = nI (p (45 + 3 * k)) := hM5.at0 (by omega)
    have hlt : (nI (p (44 + 3 * k)) < nI (psN wh)) = (¬ w ≤ tkT p (p (28 + i)) (p (8 + i)) (p 15) (p 16) (p (44 + 3 * k))) := propext ((nI_ltI (by omega) (by omega)).trans (hps _ g2))
    have h1 : (nI (p (45 + 3 * k)) = 1) = (p (45 + 3 * k) = 1) := propext (nI_eq (b := 1) (by omega) (by omega))
    have h0 : (nI (p (43 + 3 * k)) = nI i) = (p (43 + 3 * k) = i) := propext (nI_eq (by omega) (by omega))
    simp only [jn1_e, jn0_e, fe_e, j1, j2, j3, w0, w1, w2, true_and, nI_clamp (show 43 + 3 * k < 2 ^ 31 by omega), nI_clamp (show 44 + 3 * k < 2 ^ 31 by omega), nI_clamp (show 45 + 3 * k < 2 ^ 31 by omega), r0, r1, r2, hlt, h1, h0]
    have eA : allN (fiB p i w) (k + 1) = (allN (fiB p i w) k && fiB p i w k) := rfl
    rw [eA] at hB
    by_cases ha : allN (fiB p i w) k = true
    · rw [ha, Bool.true_and] at hB
      by_cases b : p (43 + 3 * k) = i
      · by_cases c : w ≤ tkT p (p (28 + i)) (p (8 + i)) (p 15) (p 16) (p (44 + 3 * k))
        · by_cases d : p (45 + 3 * k) = 1
          · have hf : fiB p i w k = true := decide_eq_true (fun _ => ⟨fun _ => d, fun _ => c⟩)
            simp [hf] at hB; simp [ha, b, c, d]; exact hB
          · have hf : fiB p i w k = false := decide_eq_false (fun q => d ((q b).mp c))
            simp [hf] at hB; simp [ha, b, c, d]; exact hB
        · by_cases d : p (45 + 3 * k) = 1
          · have hf : fiB p i w k = false := decide_eq_false (fun q => c ((q b).mpr d))
            simp [hf] at hB; simp [ha, b, c, d]; exact hB
          · have hf : fiB p i w k = true := decide_eq_true (fun _ => ⟨fun z => absurd z c, fun z => absurd z d⟩)
            simp [hf] at hB; simp [ha, b, c, d]; exact hB
      · have hf : fiB p i w k = true := decide_eq_true (fun z => absurd z b)
        simp [hf] at hB; simp [ha, b]; exact hB
    · have ha' : allN (fiB p i w) k = false := by simpa using ha
      rw [ha', Bool.false_and] at hB
      simp at hB; simp [ha']; exact hB
  · intro B
    refine ⟨fun _ => ⟨?_, hQ row4 hL5⟩, fun q => absurd (nI_le (Nat.le_refl _) (by omega)) q⟩
    by_cases ha : allN (fiB p i w) (p 42) = true
    · rw [if_pos ha]; exact bz1
    · rw [if_neg ha]; exact bz0
set_option maxHeartbeats 4000000 in
set_option maxRecDepth 100000 in
theorem po_wills {x_textLength : Int32} {x_above : Int64} {x_below : Int64} {x_timesBad : Int32} {x_timesNo : Int32} {x_timesFull : Int32} {x_foresight_taken : Nat → Int32} {x_images_0_flitchCount : Int32} {x_images_0_familyCount : Int32} {x_images_0_hung : Int32} {x_images_0_day : Int32} {x_images_0_familyCell : Nat → Int32} {x_images_0_familyKind : Nat → Int32} {x_images_0_familySide : Nat → Int32} {x_images_0_familyWill : Nat → Int32} {x_images_0_flitchCell : Nat → Int32} {x_images_0_flitchKind : Nat → Int32} {x_images_0_flitchStrength : Nat → Int32} {x_images_0_marks_size : Int32} {x_images_0_marks_numbers : Nat → Int32} {x_images_0_notes_size : Int32} {x_images_0_notes_numbers : Nat → Int32} {x_images_0_past_size : Int32} {x_images_0_past_numbers : Nat → Int32} {x_images_0_sightings_size : Int32} {x_images_0_sightings_numbers : Nat → Int32} {x_images_1_flitchCount : Int32} {x_images_1_familyCount : Int32} {x_images_1_hung : Int32} {x_images_1_day : Int32} {x_images_1_familyCell : Nat → Int32} {x_images_1_familyKind : Nat → Int32} {x_images_1_familySide : Nat → Int32} {x_images_1_familyWill : Nat → Int32} {x_images_1_flitchCell : Nat → Int32} {x_images_1_flitchKind : Nat → Int32} {x_images_1_flitchStrength : Nat → Int32} {x_images_1_marks_size : Int32} {x_images_1_marks_numbers : Nat → Int32} {x_images_1_notes_size : Int32} {x_images_1_notes_numbers : Nat → Int32} {x_images_1_past_size : Int32} {x_images_1_past_numbers : Nat → Int32} {x_images_1_sightings_size : Int32} {x_images_1_sightings_numbers : Nat → Int32} {x_kept : Nat → Int32} {x_now_flitchCount : Int32} {x_now_familyCount : Int32} {x_now_hung : Int32} {x_now_day : Int32} {x_now_familyCell : Nat → Int32} {x_now_familyKind : Nat → Int32} {x_now_familySide : Nat → Int32} {x_now_familyWill : Nat → Int32} {x_now_flitchCell : Nat → Int32} {x_now_flitchKind : Nat → Int32} {x_now_flitchStrength : Nat → Int32} {x_now_marks_width : Int32} {x_now_marks_limit : Int32} {x_now_marks_size : Int32} {x_now_marks_numbers : Nat → Int32} {x_now_notes_width : Int32} {x_now_notes_limit : Int32} {x_now_notes_size : Int32} {x_now_notes_numbers : Nat → Int32} {x_now_past_width : Int32} {x_now_past_limit : Int32} {x_now_past_size : Int32} {x_now_past_numbers : Nat → Int32} {x_now_sightings_width : Int32} {x_now_sightings_limit : Int32} {x_now_sightings_size : Int32} {x_now_sightings_numbers : Nat → Int32} {x_text : Nat → Int32} {m_above : Int64} {m_below : Int64} {m_length : Int32} {m_isKept : Nat → Int32} {m_refused : Nat → Int32} {m_row : Nat → Int32} {m_text : Nat → Int32} {m_words : Nat → Int32} (h : Rel x_textLength x_above x_below x_timesBad x_timesNo x_timesFull x_images_0_flitchCount x_images_0_familyCount x_images_0_hung x_images_0_day x_images_0_familyCell x_images_0_familyKind x_images_0_familySide x_images_0_familyWill x_images_0_flitchCell x_images_0_flitchKind x_images_0_flitchStrength x_images_0_marks_size x_images_0_marks_numbers x_images_0_notes_size x_images_0_notes_numbers x_images_0_past_size x_images_0_past_numbers x_images_0_sightings_size x_images_0_sightings_numbers x_images_1_flitchCount x_images_1_familyCount x_images_1_hung x_images_1_day x_images_1_familyCell x_images_1_familyKind x_images_1_familySide x_images_1_familyWill x_images_1_flitchCell x_images_1_flitchKind x_images_1_flitchStrength x_images_1_marks_size x_images_1_marks_numbers x_images_1_notes_size x_images_1_notes_numbers x_images_1_past_size x_images_1_past_numbers x_images_1_sightings_size x_images_1_sightings_numbers x_kept x_now_flitchCount x_now_familyCount x_now_hung x_now_day x_now_familyCell x_now_familyKind x_now_familySide x_now_familyWill x_now_flitchCell x_now_flitchKind x_now_flitchStrength x_now_marks_width x_now_marks_limit x_now_marks_size x_now_marks_numbers x_now_notes_width x_now_notes_limit x_now_notes_size x_now_notes_numbers x_now_past_width x_now_past_limit x_now_past_size x_now_past_numbers x_now_sightings_width x_now_sightings_limit x_now_sightings_size x_now_sightings_numbers x_text m_above m_below m_length m_isKept m_refused m_row m_text m_words) (x1 : Int32) (x2 : Int32) : wp_Rc_wills x1 x2 x_timesBad x_foresight_taken x_now_flitchCount x_now_familyCount x_now_hung x_now_day x_now_familyCell x_now_familyKind x_now_flitchCell x_now_flitchKind x_now_flitchStrength x_now_sightings_width x_now_sightings_size x_now_sightings_numbers (fun (r : Int32) (x_timesBad' : Int32) (x_foresight_taken' : Nat → Int32) => wp_Mo_wills x1 x2 m_refused m_row (fun (r' : Int32) (m_refused' : Nat → Int32) (m_row' : Nat → Int32) => r = r' ∧ Rel x_textLength x_above x_below x_timesBad' x_timesNo x_timesFull x_images_0_flitchCount x_images_0_familyCount x_images_0_hung x_images_0_day x_images_0_familyCell x_images_0_familyKind x_images_0_familySide x_images_0_familyWill x_images_0_flitchCell x_images_0_flitchKind x_images_0_flitchStrength x_images_0_marks_size x_images_0_marks_numbers x_images_0_notes_size x_images_0_notes_numbers x_images_0_past_size x_images_0_past_numbers x_images_0_sightings_size x_images_0_sightings_numbers x_images_1_flitchCount x_images_1_familyCount x_images_1_hung x_images_1_day x_images_1_familyCell x_images_1_familyKind x_images_1_familySide x_images_1_familyWill x_images_1_flitchCell x_images_1_flitchKind x_images_1_flitchStrength x_images_1_marks_size x_images_1_marks_numbers x_images_1_notes_size x_images_1_notes_numbers x_images_1_past_size x_images_1_past_numbers x_images_1_sightings_size x_images_1_sightings_numbers x_kept x_now_flitchCount x_now_familyCount x_now_hung x_now_day x_now_familyCell x_now_familyKind x_now_familySide x_now_familyWill x_now_flitchCell x_now_flitchKind x_now_flitchStrength x_now_marks_width x_now_marks_limit x_now_marks_size x_now_marks_numbers x_now_notes_width x_now_notes_limit x_now_notes_size x_now_notes_numbers x_now_past_width x_now_past_limit x_now_past_size x_now_past_numbers x_now_sightings_width x_now_sightings_limit x_now_sightings_size x_now_sightings_numbers x_text m_above m_below m_length m_isKept m_refused' m_row' m_text m_words)) := by
  obtain ⟨⟨p, hPS, hM⟩, ⟨rfl, rfl, rfl, rfl, rfl, rfl, rfl, rfl⟩, hk0, hk1, hTx, hFr, hRf, hWo⟩ := id h
  obtain ⟨hI, ⟨rfl, rfl, rfl, rfl, a5, a6, a7, a8, a9, a10, a11⟩, hm, hn, hp, hs⟩ := id hPS
  have h7 := hI.1
  have h3 := hI.2.1.1
  have e27 : m_row 27 = nI (p 27) := hM.at0 (by omega)
  have e17 : m_row 17 = nI (p 17) := hM.at0 (by omega)
  by_cases q1 : inB x1 0 (nI (p 27) - 1) = 0
  · simp only [wp_Rc_wills, wp_Mo_wills, true_implies, false_implies, not_true_eq_false, not_false_eq_true, and_true, true_and, jn0_e, w_bad, w_no, w_full, w_badApart, w_refB, w_refN, w_refF, w_badAs, w_within, w_in, w_isCell, w_isFamC, w_isFliC, w_isFamM, w_isFliM, e27, q1]; first | exact rel_bad h | exact ⟨rfl, rel_bad h⟩
  by_cases q2 : inB x2 0 2 = 0
  · simp only [wp_Rc_wills, wp_Mo_wills, true_implies, false_implies, not_true_eq_false, not_false_eq_true, and_true, true_and, jn0_e, w_bad, w_no, w_full, w_badApart, w_refB, w_refN, w_refF, w_badAs, w_within, w_in, w_isCell, w_isFamC, w_isFliC, w_isFamM, w_isFliM, e27, q1, q2]; first | exact rel_bad h | exact ⟨rfl, rel_bad h⟩
  obtain ⟨i, hi, rfl⟩ := inB_pl (by omega) q1
  obtain ⟨k, -, hk, rfl⟩ := inB_nI (lo := 0) (hi := 2) (by omega) (by omega) q2
  simp only [wp_Rc_wills, wp_Mo_wills, true_implies, false_implies, not_true_eq_false, not_false_eq_true, and_true, true_and, jn0_e, w_bad, w_no, w_full, w_badApart, w_refB, w_refN, w_refF, w_badAs, w_within, w_in, w_isCell, w_isFamC, w_isFliC, w_isFamM, w_isFliM, e27, q1, q2]
  refine s_fittingWills hI hs a5 a6 a9 a10 a11 hi hk (fun tk => ?_)
  obtain ⟨F, hF⟩ : ∃ F : Nat → Bool, F = fun w => allN (fiB p i w) (p 42) := ⟨_, rfl⟩
  rw [← hF]
  refine lpw5_rule (fun x3 x4 x5 x6 r => ∃ j, j ≤ 99 ∧ x3 = nI (cwN F j) ∧ x4 = zI (fwN F j) ∧ x5 = zI (lwN F j) ∧ x6 = nI (j + 1) ∧ Lo r m_row) (fun _ _ _ x6 _ => 101 - x6.toNatClampNeg) ?_ 0 (-1) (-1) 1 m_row ⟨0, by omega, rfl, rfl, rfl, rfl, Lo.rf⟩
  intro B x3 x4 x5 x6 r hx hB
  obtain ⟨j, hj, rfl, rfl, rfl, rfl, hLr⟩ := hx
  by_cases e : j = 99
  · subst e
    refine ⟨fun _ => ?_, fun q => absurd (nI_le (a := 100) (b := 100) (Nat.le_refl _) (by decide)) q⟩
    have hr := rel_now h p hPS (hLr.mr hM) hLr.hi
    unfold wiI
    refine ⟨fun q => ⟨fun q2 => ?_, fun q2 => ?_⟩, fun q => ?_⟩
    · have q' : k ≠ 0 := fun z => q (by rw [z]; rfl)
      have q2' : k ≠ 1 := fun z => q2 (by rw [z]; rfl)
      rw [if_neg q', if_neg q2']
      exact ⟨rfl, hr⟩
    · have q2' : k = 1 := (nI_eq (b := 1) (by omega) (by omega)).mp q2
      subst q2'
      exact ⟨rfl, hr⟩
    · have q' : k = 0 := (nI_eq (b := 0) (by omega) (by omega)).mp q
      subst q'
      exact ⟨rfl, hr⟩
  refine ⟨fun q => absurd q (nI_ge (b := 100) (by omega) (by decide)), fun _ => ?_⟩
  refine s_isWill hI (hLr.mr hM) hi (by omega) (by omega) (fun row' hL' => ?_)
  have eF : allN (fiB p i (j + 1)) (p 42) = F (j + 1) := by rw [hF]
  rw [eF]
  have hle := fwN_le F j
  have hB' := hB (nI (cwN F (j + 1))) (zI (fwN F (j + 1))) (zI (lwN F (j + 1))) (nI (j + 2)) row' ⟨j + 1, by omega, rfl, rfl, rfl, rfl, hL'.tr hLr⟩ (by rw [nI_clamp (by omega), nI_clamp (by omega)]; omega)
  have z0 : ∀ n, nI n + 0 = nI n := fun n => nI_add n 0
  have z10 : ((1 : Int32) = 0) = False := by decide
  by_cases hf : F (j + 1) = true
  · obtain ⟨g1, g2⟩ := w_s hf
    have ez : zI (lwN F (j + 1)) = nI (j + 1) := by rw [g2]; unfold zI; rw [if_neg (by omega)]
    rw [g1, ez] at hB'
    simp only [hf, if_true, jn1_e, jn0_e, fe_e, z10, false_implies, true_and, not_false_eq_true, true_implies, nI_1]
    refine ⟨fun q => ?_, fun q => ?_⟩
    · have q' : fwN F j ≠ 0 := fun z => q ((zI_m1 (by omega)).mpr z)
      have g3 : fwN F (j + 1) = fwN F j := if_neg (fun z => q' z.2)
      rw [g3] at hB'
      exact hB'
    · have q' : fwN F j = 0 := (zI_m1 (by omega)).mp q
      have g3 : zI (fwN F (j + 1)) = nI (j + 1) := by rw [show fwN F (j + 1) = j + 1 from if_pos ⟨hf, q'⟩]; unfold zI; rw [if_neg (by omega)]
      rw [g3] at hB'
      exact hB'
  · obtain ⟨g1, g2, g3⟩ := w_f hf
    rw [g1, g2, g3] at hB'
    have hf' : F (j + 1) = false := by simpa using hf
    simp only [hf', jn1_e, jn0_e, fe_e, nI_1, z0, show (false = true) = False from by decide, if_false, true_implies, not_true_eq_false, false_implies, and_true]
    exact hB'

