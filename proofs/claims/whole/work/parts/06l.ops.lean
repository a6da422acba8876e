theorem imax_nI {a b : Nat} (ha : a < 2 ^ 31) (hb : b < 2 ^ 31) : imax (nI a) (nI b) = nI (max a b) := by
  show (if nI a < nI b then nI b else nI a) = _
  by_cases h : a < b
  · rw [if_pos (nI_lt h hb)]; congr 1; omega
  · rw [if_neg (nI_nlt (by omega) ha)]; congr 1; omega
def eqN (s : Nat) (o : Nat → Int32) (k i : Nat) : Nat := if btN s k = 1 ∧ btN s i = 1 ∧ o k = o i then 1 else 0
def caN (s : Nat) (o : Nat → Int32) (k : Nat) : Nat → Nat
  | 0 => 0
  | n + 1 => caN s o k n + eqN s o k n
def maN (s : Nat) (o : Nat → Int32) : Nat → Nat
  | 0 => 0
  | n + 1 => max (maN s o n) (caN s o n 6)
theorem caN_le (s : Nat) (o : Nat → Int32) (k : Nat) : ∀ n, caN s o k n ≤ n
  | 0 => Nat.le_refl _
  | n + 1 => by
    have h := caN_le s o k n
    simp only [caN, eqN]
    split <;> omega
theorem maN_le (s : Nat) (o : Nat → Int32) : ∀ n, maN s o n ≤ 6
  | 0 => by simp [maN]
  | n + 1 => by
    have h := maN_le s o n
    have h2 := caN_le s o n 6
    simp only [maN]
    omega
theorem s_mostAlikeC {s : Nat} (hs : s < 64) {A o : Nat → Int32} (hA : ∀ k, k < 6 → A k = o k) {Q : Int32 → Prop} (hQ : Q (nI (maN s o 6))) : wp_Gs_mostAlike (nI s) A Q := by
  unfold wp_Gs_mostAlike
  refine lpw2_run (fun k => nI (maN s o k)) nI 6 ?_ ?_ 0 (Nat.zero_le _)
  · intro B k hk hB
    refine ⟨fun q => absurd q (nI_ge (b := 6) hk (by decide)), fun _ => ?_⟩
    refine lpw2_run (fun i => nI (caN s o k i)) nI 6 ?_ ?_ 0 (Nat.zero_le _)
    · intro B2 i hi hB2
      refine ⟨fun q => absurd q (nI_ge (b := 6) hi (by decide)), fun _ => ?_⟩
      have vk : vp_in (nI k) 6 := vp_in_nI hk (by omega)
      have vi : vp_in (nI i) 6 := vp_in_nI hi (by omega)
      simp only [jn1_e, jn0_e, bit_is (show s < 256 by omega) (show k < 8 by omega), bit_is (show s < 256 by omega) (show i < 8 by omega), nI_clamp (show k < 2 ^ 31 by omega), nI_clamp (show i < 2 ^ 31 by omega), hA k hk, hA i hi, vk, vi, true_and, fe_e, nI_1]
      simp only [caN, eqN] at hB2
      by_cases a : btN s k = 1
      · by_cases b : btN s i = 1
        · by_cases c : o k = o i
          · simp [a, b, c] at hB2 ⊢; exact hB2
          · simp [a, b, c] at hB2 ⊢; exact hB2
        · simp [a, b] at hB2 ⊢; exact hB2
      · simp [a] at hB2 ⊢; exact hB2
    · intro B2
      refine ⟨fun _ => ?_, fun q => absurd (nI_le (a := 6) (b := 6) (Nat.le_refl _) (by decide)) q⟩
      have h1 := maN_le s o k
      have h2 := caN_le s o k 6
      simp only [fe_e, nI_1, imax_nI (show maN s o k < 2 ^ 31 by omega) (show caN s o k 6 < 2 ^ 31 by omega)]
      exact hB
  · intro B
    exact ⟨fun _ => hQ, fun q => absurd (nI_le (a := 6) (b := 6) (Nat.le_refl _) (by decide)) q⟩
theorem s_mostAlikeM {s : Nat} (hs : s < 64) {A o : Nat → Int32} (hA : ∀ k, k < 6 → A k = o k) {Q : Int32 → Prop} (hQ : Q (nI (maN s o 6))) : wp_Mo_mostAlike (nI s) A Q := by
  unfold wp_Mo_mostAlike
  refine lpw2_run (fun k => nI (maN s o k)) nI 6 ?_ ?_ 0 (Nat.zero_le _)
  · intro B k hk hB
    refine ⟨fun q => absurd q (nI_ge (b := 6) hk (by decide)), fun _ => ?_⟩
    refine lpw2_run (fun i => nI (caN s o k i)) nI 6 ?_ ?_ 0 (Nat.zero_le _)
    · intro B2 i hi hB2
      refine ⟨fun q => absurd q (nI_ge (b := 6) hi (by decide)), fun _ => ?_⟩
      have vk : vp_in (nI k) 6 := vp_in_nI hk (by omega)
      have vi : vp_in (nI i) 6 := vp_in_nI hi (by omega)
      have z0 : ∀ n, nI n + 0 = nI n := fun n => nI_add n 0
      simp only [w_has, jn1_e, jn0_e, bit_is (show s < 256 by omega) (show k < 8 by omega), bit_is (show s < 256 by omega) (show i < 8 by omega), nI_clamp (show k < 2 ^ 31 by omega), nI_clamp (show i < 2 ^ 31 by omega), hA k hk, hA i hi, vk, vi, true_and, fe_e, nI_1]
      simp only [caN, eqN] at hB2
      by_cases a : btN s k = 1
      · by_cases b : btN s i = 1
        · by_cases c : o k = o i
          · simp [a, b, c, nI_1] at hB2 ⊢; exact hB2
          · simp [a, b, c, z0] at hB2 ⊢; exact hB2
        · simp [a, b, z0] at hB2 ⊢; exact hB2
      · simp [a, z0] at hB2 ⊢; exact hB2
    · intro B2
      refine ⟨fun _ => ?_, fun q => absurd (nI_le (a := 6) (b := 6) (Nat.le_refl _) (by decide)) q⟩
      have h1 := maN_le s o k
      have h2 := caN_le s o k 6
      simp only [fe_e, nI_1, jn1_e]
      simp only [maN] at hB
      refine ⟨fun z => ?_, fun z => ?_⟩
      · have z' := (nI_leI (by omega) (by omega)).mp z
        rw [show max (maN s o k) (caN s o k 6) = maN s o k by omega] at hB
        exact hB
      · have z' : ¬ caN s o k 6 ≤ maN s o k := fun q => z ((nI_leI (by omega) (by omega)).mpr q)
        rw [show max (maN s o k) (caN s o k 6) = caN s o k 6 by omega] at hB
        exact hB
  · intro B
    exact ⟨fun _ => hQ, fun q => absurd (nI_le (a := 6) (b := 6) (Nat.le_refl _) (by decide)) q⟩
def bsT (c : Nat) (m : Nat → Nat) : Nat → Nat
  | 0 => c
  | t + 1 => if bsT c m t ≤ m t then bsT c m t else m t
def anT (c : Nat) (m : Nat → Nat) (e : Nat → Int32) : Nat → Int32
  | 0 => -1
  | t + 1 => if bsT c m t ≤ m t then anT c m e t else e t
theorem bsT_p {c : Nat} {m : Nat → Nat} {t : Nat} (h : bsT c m t ≤ m t) : bsT c m (t + 1) = bsT c m t := if_pos h
theorem bsT_n {c : Nat} {m : Nat → Nat} {t : Nat} (h : ¬ bsT c m t ≤ m t) : bsT c m (t + 1) = m t := if_neg h
theorem anT_p {c : Nat} {m : Nat → Nat} {e : Nat → Int32} {t : Nat} (h : bsT c m t ≤ m t) : anT c m e (t + 1) = anT c m e t := if_pos h
theorem anT_n {c : Nat} {m : Nat → Nat} {e : Nat → Int32} {t : Nat} (h : ¬ bsT c m t ≤ m t) : anT c m e (t + 1) = e t := if_neg h
theorem bsT_le (c : Nat) (m : Nat → Nat) (hc : c < 100) (hm : ∀ t, m t ≤ 6) : ∀ t, bsT c m t < 100
  | 0 => hc
  | t + 1 => by
    have h := bsT_le c m hc hm t
    have h2 := hm t
    simp only [bsT]
    split <;> omega
theorem scan_eq (m : Nat → Nat) (e : Nat → Int32) (hm : ∀ t, m t ≤ 6) : ∀ t, bsT 7 m (t + 1) = bsT 99 m (t + 1) ∧ anT 7 m e (t + 1) = anT 99 m e (t + 1)
  | 0 => by
    have h := hm 0
    rw [bsT_n (show ¬ bsT 7 m 0 ≤ m 0 by show ¬ 7 ≤ m 0; omega), bsT_n (show ¬ bsT 99 m 0 ≤ m 0 by show ¬ 99 ≤ m 0; omega), anT_n (show ¬ bsT 7 m 0 ≤ m 0 by show ¬ 7 ≤ m 0; omega), anT_n (show ¬ bsT 99 m 0 ≤ m 0 by show ¬ 99 ≤ m 0; omega)]
    exact ⟨rfl, rfl⟩
  | t + 1 => by
    obtain ⟨h1, h2⟩ := scan_eq m e hm t
    constructor
    · rw [show bsT 7 m (t + 1 + 1) = (if bsT 7 m (t + 1) ≤ m (t + 1) then bsT 7 m (t + 1) else m (t + 1)) from rfl, h1]; rfl
    · rw [show anT 7 m e (t + 1 + 1) = (if bsT 7 m (t + 1) ≤ m (t + 1) then anT 7 m e (t + 1) else e (t + 1)) from rfl, h1, h2]; rfl
def flT (A o : Nat → Int32) (k : Nat) : Nat → Int32 := fun x => if x < k then o x else A x
theorem flT_0 (A o : Nat → Int32) : flT A o 0 = A := by funext x; simp [flT]
theorem flT_s (A o : Nat → Int32) (k : Nat) : flT A o (k + 1) = upd (flT A o k) k (o k) := by
  funext x
  unfold flT upd
  by_cases e : x = k
  · subst e; simp
  · by_cases h : x < k
    · simp [e, h, show x < k + 1 by omega]
    · simp [e, h, show ¬ x < k + 1 by omega]
theorem flT_in (A o : Nat → Int32) {k : Nat} (h : k < 6) : flT A o 6 k = o k := by simp [flT, h]
def arT (A : Nat → Int32) (o : Nat → Nat → Int32) : Nat → Nat → Int32
  | 0 => A
  | t + 1 => flT (arT A o t) (o t) 6
theorem s_nextLook {p : Nat → Nat} {sz : Int32} {nu A : Nat → Int32} (hI : Inv p) (hC : CRn p sz nu) {x : Nat} (hx : x < 3) {st : Nat} {fS : Nat → Int32} (hS : fS x = nI st) {Q : Int32 → (Nat → Int32) → Prop} (hQ : ∀ A', Q (if bsN (alN (fnN p x) (p 58)) 6 = 0 then -1 else (anT 7 (fun t => maN (bsN (alN (fnN p x) (p 58)) 6) ((fun t k => scF (nI k) (nI st) (nI (t / 2)) (nI (t % 2))) t) 6) (fun t => nI (10 * (t / 2) + t % 2)) 18)) A') : wp_Gs_nextLook (nI x) A fS 5 sz nu Q := by
  unfold wp_Gs_nextLook
  refine s_flitchKinds hI hC (by omega) ?_
  obtain ⟨s, hs⟩ : ∃ s, s = bsN (alN (fnN p x) (p 58)) 6 := ⟨_, rfl⟩
  have hs64 : s < 64 := by rw [hs]; exact bsN_lt _ 6
  simp only [← hs] at hQ ⊢
  by_cases h0 : s = 0
  · rw [if_pos h0] at hQ
    refine lpw4_run (fun _ => -1) (fun _ => 7) (fun _ => 0) (fun _ => A) 0 ?_ ?_ 0 (Nat.zero_le _)
    · intro B j hj; exact absurd hj (by omega)
    · intro B
      exact ⟨fun _ => hQ _, fun _ => ⟨fun _ => hQ _, fun z => absurd (by rw [h0]; rfl) z⟩⟩
  rw [if_neg h0] at hQ
  have hr : ¬ nI s = 0 := nI_ne (b := 0) (by omega) (by omega) h0
  obtain ⟨o, ho⟩ : ∃ o : Nat → Nat → Int32, o = (fun t k => scF (nI k) (nI st) (nI (t / 2)) (nI (t % 2))) := ⟨_, rfl⟩
  obtain ⟨m, hm⟩ : ∃ m : Nat → Nat, m = fun t => maN s (o t) 6 := ⟨_, rfl⟩
  obtain ⟨e, he⟩ : ∃ e : Nat → Int32, e = (fun t => nI (10 * (t / 2) + t % 2)) := ⟨_, rfl⟩
  have hQ' : ∀ A', Q (anT 7 m e 18) A' := by rw [hm, he, ho]; exact hQ
  have hm6 : ∀ t, m t ≤ 6 := fun t => by rw [hm]; exact maN_le _ _ _
  have hbs : ∀ t, bsT 7 m t < 100 := bsT_le 7 m (by omega) hm6
  refine lpw4_run (fun f => anT 7 m e (2 * f)) (fun f => nI (bsT 7 m (2 * f))) nI (fun f => arT A o (2 * f)) 9 ?_ ?_ 0 (Nat.zero_le _)
  · intro B f hf hB
    refine ⟨fun q => absurd q (nI_nlt (b := f) (a := 8) (by omega) (by omega)), fun _ => ⟨fun z => absurd z hr, fun _ => ?_⟩⟩
    refine lpw4_run (fun d => anT 7 m e (2 * f + d)) (fun d => nI (bsT 7 m (2 * f + d))) nI (fun d => arT A o (2 * f + d)) 2 ?_ ?_ 0 (Nat.zero_le _)
    · intro B2 d hd hB2
      refine ⟨fun q => absurd q (nI_nlt (b := d) (a := 1) (by omega) (by omega)), fun _ => ?_⟩
      have ef : (2 * f + d) / 2 = f := by omega
      have ed : (2 * f + d) % 2 = d := by omega
      have fin : wp_Gs_mostAlike (nI s) (arT A o (2 * f + (d + 1))) (fun r => jn2 (fun (J : Int32 → Int32 → Prop) => ((nI (bsT 7 m (2 * f + d)) ≤ r → J (anT 7 m e (2 * f + d)) (nI (bsT 7 m (2 * f + d)))) ∧ (¬ nI (bsT 7 m (2 * f + d)) ≤ r → ∀ y : Int32, y = ((10 * nI f) + nI d) → J y r))) (fun a b => ∀ y : Int32, y = nI d + 1 → B2 a b y (arT A o (2 * f + (d + 1))))) := by
        refine s_mostAlikeC hs64 (o := o (2 * f + d)) (fun k hk => flT_in _ _ hk) ?_
        have em : maN s (o (2 * f + d)) 6 = m (2 * f + d) := by rw [hm]
        have h6 := hm6 (2 * f + d)
        have hb9 := hbs (2 * f + d)
        simp only [em, jn2_e, fe_e, nI_1]
        have ee : (10 : Int32) * nI f + nI d = e (2 * f + d) := by
          rw [he]
          show _ = nI (10 * ((2 * f + d) / 2) + (2 * f + d) % 2)
          rw [ef, ed, show (10 : Int32) * nI f = nI (10 * f) from pk_mul 10 _, nI_add]
        rw [ee]
        refine ⟨fun z => ?_, fun z => ?_⟩
        · have z' := (nI_leI (by omega) (by omega)).mp z
          have e1 : anT 7 m e (2 * f + (d + 1)) = anT 7 m e (2 * f + d) := anT_p z'
          have e2 : bsT 7 m (2 * f + (d + 1)) = bsT 7 m (2 * f + d) := bsT_p z'
          simp only [e1, e2] at hB2
          exact hB2
        · have z' : ¬ bsT 7 m (2 * f + d) ≤ m (2 * f + d) := fun q => z ((nI_leI (by omega) (by omega)).mpr q)
          have e1 : anT 7 m e (2 * f + (d + 1)) = e (2 * f + d) := anT_n z'
          have e2 : bsT 7 m (2 * f + (d + 1)) = m (2 * f + d) := bsT_n z'
          simp only [e1, e2] at hB2
          exact hB2
      have e0 : arT A o (2 * f + d) = flT (arT A o (2 * f + d)) (o (2 * f + d)) 0 := (flT_0 _ _).symm
      rw [e0]
      refine lpw2_run nI (fun k => flT (arT A o (2 * f + d)) (o (2 * f + d)) k) 6 ?_ ?_ 0 (Nat.zero_le _)
      · intro B3 k hk hB3
        refine ⟨fun q => absurd q (nI_ge (b := 6) hk (by decide)), fun _ => ?_⟩
        have eo : o (2 * f + d) k = scF (nI k) (nI st) (nI f) (nI d) := by
          rw [ho]
          show scF (nI k) (nI st) (nI ((2 * f + d) / 2)) (nI ((2 * f + d) % 2)) = _
          rw [ef, ed]
        rw [flT_s, eo] at hB3
        simp only [w_scent, fe_e, nI_1, nI_clamp (show k < 2 ^ 31 by omega), nI_clamp (show x < 2 ^ 31 by omega), hS]
        exact ⟨vp_in_nI (by omega) (by omega), vp_in_nI hk (by omega), hB3⟩
      · intro B3
        refine ⟨fun _ => fin, fun q => absurd (nI_le (a := 6) (b := 6) (Nat.le_refl _) (by decide)) q⟩
    · intro B2
      refine ⟨fun _ => ?_, fun q => absurd (nI_lt (a := 1) (b := 2) (by omega) (by omega)) q⟩
      simp only [fe_e, nI_1]
      exact hB
  · intro B
    refine ⟨fun _ => hQ' _, fun q => absurd (nI_lt (a := 8) (b := 9) (by omega) (by omega)) q⟩
theorem s_mlook {p : Nat → Nat} {row A : Nat → Int32} (hI : Inv p) (hM : MR p row 0) {x : Nat} (hx : x < 3) {st : Nat} (hS : row (24 + x) = nI st) {Q : Int32 → (Nat → Int32) → Prop} (hQ : ∀ A', Q (if bsN (alN (fnN p x) (p 58)) 6 = 0 then -1 else (anT 7 (fun t => maN (bsN (alN (fnN p x) (p 58)) 6) ((fun t k => scF (nI k) (nI st) (nI (t / 2)) (nI (t % 2))) t) 6) (fun t => nI (10 * (t / 2) + t % 2)) 18)) A') : wp_Mo_sortsOf (nI x) row (fun (r_3 : Int32) => ∃ n : Nat, lpw4 (fun (B30 : Int32 → Int32 → Int32 → (Nat → Int32) → Prop) (x3_4 : Int32) (x4_5 : Int32) (x5_6 : Int32) (s_comes_7 : Nat → Int32) => ((18 ≤ x5_6 → Q x3_4 s_comes_7) ∧ (¬ 18 ≤ x5_6 → ((r_3 = 0 → Q x3_4 s_comes_7) ∧ (¬ r_3 = 0 → ∃ n : Nat, lpw2 (fun (B44 : Int32 → (Nat → Int32) → Prop) (x6_11 : Int32) (s_comes_12 : Nat → Int32) => ((6 ≤ x6_11 → wp_Mo_mostAlike r_3 s_comes_12 (fun (r_15 : Int32) => jn1 (fun (J116 : Int32 → Prop) => ((x4_5 ≤ r_15 → J116 x3_4) ∧ (¬ x4_5 ≤ r_15 → J116 ((10 * (x5_6 / 2)) + (irem x5_6 2))))) (fun (v_16 : Int32) => jn1 (fun (J131 : Int32 → Prop) => ((x4_5 ≤ r_15 → J131 x4_5) ∧ (¬ x4_5 ≤ r_15 → J131 r_15))) (fun (v_18 : Int32) => ∀ x5_20 : Int32, x5_20 = x5_6 + 1 → B30 v_16 v_18 x5_20 s_comes_12)))) ∧ (¬ 6 ≤ x6_11 → vp_in (24 + nI x) 770 ∧ wp_Mo_smellBy x6_11 (row (Int32.toNatClampNeg (24 + nI x))) (x5_6 / 2) (irem x5_6 2) (fun (r_24 : Int32) => vp_in x6_11 6 ∧ ∀ s_comes_26 : Nat → Int32, s_comes_26 = upd s_comes_12 (Int32.toNatClampNeg x6_11) r_24 → ∀ x6_27 : Int32, x6_27 = x6_11 + 1 → B44 x6_27 s_comes_26)))) n 0 s_comes_7))))) n (-1) 99 0 A) := by
  have h7 := hI.1
  have h3 := hI.2.1.1
  refine s_sortsOf hI hM (by omega) ?_
  obtain ⟨s, hs⟩ : ∃ s, s = bsN (alN (fnN p x) (p 58)) 6 := ⟨_, rfl⟩
  have hs64 : s < 64 := by rw [hs]; exact bsN_lt _ 6
  simp only [← hs] at hQ ⊢
  by_cases h0 : s = 0
  · rw [if_pos h0] at hQ
    refine lpw4_run (fun _ => -1) (fun _ => 99) (fun _ => 0) (fun _ => A) 0 ?_ ?_ 0 (Nat.zero_le _)
    · intro B j hj; exact absurd hj (by omega)
    · intro B
      exact ⟨fun _ => hQ _, fun _ => ⟨fun _ => hQ _, fun z => absurd (by rw [h0]; rfl) z⟩⟩
  rw [if_neg h0] at hQ
  have hr : ¬ nI s = 0 := nI_ne (b := 0) (by omega) (by omega) h0
  obtain ⟨o, ho⟩ : ∃ o : Nat → Nat → Int32, o = (fun t k => scF (nI k) (nI st) (nI (t / 2)) (nI (t % 2))) := ⟨_, rfl⟩
  obtain ⟨m, hm⟩ : ∃ m : Nat → Nat, m = fun t => maN s (o t) 6 := ⟨_, rfl⟩
  obtain ⟨e, he⟩ : ∃ e : Nat → Int32, e = (fun t => nI (10 * (t / 2) + t % 2)) := ⟨_, rfl⟩
  have hm6 : ∀ t, m t ≤ 6 := fun t => by rw [hm]; exact maN_le _ _ _
  have hQ' : ∀ A', Q (anT 99 m e 18) A' := by rw [← (scan_eq m e hm6 17).2, hm, he, ho]; exact hQ
  have hbs : ∀ t, bsT 99 m t < 100 := bsT_le 99 m (by omega) hm6
  refine lpw4_run (fun t => anT 99 m e t) (fun t => nI (bsT 99 m t)) nI (fun t => arT A o t) 18 ?_ ?_ 0 (Nat.zero_le _)
  · intro B t ht hB
    refine ⟨fun q => absurd q (nI_ge (b := 18) ht (by decide)), fun _ => ⟨fun z => absurd z hr, fun _ => ?_⟩⟩
    have ef : nI t / 2 = nI (t / 2) := pk_div (d := 2) (by omega) (by omega) (by omega)
    have ed : irem (nI t) 2 = nI (t % 2) := irem_nI (m := 2) (by omega) (by omega) (by omega)
    have e0 : arT A o t = flT (arT A o t) (o t) 0 := (flT_0 _ _).symm
    have ee : (10 : Int32) * nI (t / 2) + nI (t % 2) = e t := by
      rw [he]
      rw [show (10 : Int32) * nI (t / 2) = nI (10 * (t / 2)) from pk_mul 10 _, nI_add]
    simp only [ef, ed, ee]
    rw [e0]
    refine lpw2_run nI (fun k => flT (arT A o t) (o t) k) 6 ?_ ?_ 0 (Nat.zero_le _)
    · intro B3 k hk hB3
      refine ⟨fun q => absurd q (nI_ge (b := 6) hk (by decide)), fun _ => ?_⟩
      have eo : o t k = scF (nI k) (nI st) (nI (t / 2)) (nI (t % 2)) := by rw [ho]
      rw [flT_s, eo] at hB3
      have e24 : (24 : Int32) + nI x = nI (24 + x) := nI_add 24 x
      simp only [w_smellBy, fe_e, nI_1, nI_clamp (show k < 2 ^ 31 by omega), e24, nI_clamp (show 24 + x < 2 ^ 31 by omega), hS]
      exact ⟨vp_in_nI (by omega) (by omega), vp_in_nI hk (by omega), hB3⟩
    · intro B3
      refine ⟨fun _ => ?_, fun q => absurd (nI_le (a := 6) (b := 6) (Nat.le_refl _) (by decide)) q⟩
      refine s_mostAlikeM hs64 (o := o t) (fun k hk => flT_in _ _ hk) ?_
      have em : maN s (o t) 6 = m t := by rw [hm]
      have h6 := hm6 t
      have hb9 := hbs t
      simp only [em, jn1_e, fe_e, nI_1]
      refine ⟨fun z => ⟨fun _ => ?_, fun q => absurd z q⟩, fun z => ⟨fun q => absurd q z, fun _ => ?_⟩⟩
      · have z' := (nI_leI (by omega) (by omega)).mp z
        have e1 : anT 99 m e (t + 1) = anT 99 m e t := anT_p z'
        have e2 : bsT 99 m (t + 1) = bsT 99 m t := bsT_p z'
        simp only [e1, e2] at hB
        exact hB
      · have z' : ¬ bsT 99 m t ≤ m t := fun q => z ((nI_leI (by omega) (by omega)).mpr q)
        have e1 : anT 99 m e (t + 1) = e t := anT_n z'
        have e2 : bsT 99 m (t + 1) = m t := bsT_n z'
        simp only [e1, e2] at hB
        exact hB
  · intro B
    exact ⟨fun _ => hQ' _, fun q => absurd (nI_le (a := 18) (b := 18) (Nat.le_refl _) (by decide)) q⟩
set_option maxHeartbeats 4000000 in
set_option maxRecDepth 100000 in
theorem po_look {x_textLength : Int32} {x_above : Int64} {x_below : Int64} {x_timesBad : Int32} {x_timesNo : Int32} {x_timesFull : Int32} {x_guesses_outcome : Nat → Int32} {x_images_0_flitchCount : Int32} {x_images_0_familyCount : Int32} {x_images_0_hung : Int32} {x_images_0_day : Int32} {x_images_0_familyCell : Nat → Int32} {x_images_0_familyKind : Nat → Int32} {x_images_0_familySide : Nat → Int32} {x_images_0_familyWill : Nat → Int32} {x_images_0_flitchCell : Nat → Int32} {x_images_0_flitchKind : Nat → Int32} {x_images_0_flitchStrength : Nat → Int32} {x_images_0_marks_size : Int32} {x_images_0_marks_numbers : Nat → Int32} {x_images_0_notes_size : Int32} {x_images_0_notes_numbers : Nat → Int32} {x_images_0_past_size : Int32} {x_images_0_past_numbers : Nat → Int32} {x_images_0_sightings_size : Int32} {x_images_0_sightings_numbers : Nat → Int32} {x_images_1_flitchCount : Int32} {x_images_1_familyCount : Int32} {x_images_1_hung : Int32} {x_images_1_day : Int32} {x_images_1_familyCell : Nat → Int32} {x_images_1_familyKind : Nat → Int32} {x_images_1_familySide : Nat → Int32} {x_images_1_familyWill : Nat → Int32} {x_images_1_flitchCell : Nat → Int32} {x_images_1_flitchKind : Nat → Int32} {x_images_1_flitchStrength : Nat → Int32} {x_images_1_marks_size : Int32} {x_images_1_marks_numbers : Nat → Int32} {x_images_1_notes_size : Int32} {x_images_1_notes_numbers : Nat → Int32} {x_images_1_past_size : Int32} {x_images_1_past_numbers : Nat → Int32} {x_images_1_sightings_size : Int32} {x_images_1_sightings_numbers : Nat → Int32} {x_kept : Nat → Int32} {x_now_flitchCount : Int32} {x_now_familyCount : Int32} {x_now_hung : Int32} {x_now_day : Int32} {x_now_familyCell : Nat → Int32} {x_now_familyKind : Nat → Int32} {x_now_familySide : Nat → Int32} {x_now_familyWill : Nat → Int32} {x_now_flitchCell : Nat → Int32} {x_now_flitchKind : Nat → Int32} {x_now_flitchStrength : Nat → Int32} {x_now_marks_width : Int32} {x_now_marks_limit : Int32} {x_now_marks_size : Int32} {x_now_marks_numbers : Nat → Int32} {x_now_notes_width : Int32} {x_now_notes_limit : Int32} {x_now_notes_size : Int32} {x_now_notes_numbers : Nat → Int32} {x_now_past_width : Int32} {x_now_past_limit : Int32} {x_now_past_size : Int32} {x_now_past_numbers : Nat → Int32} {x_now_sightings_width : Int32} {x_now_sightings_limit : Int32} {x_now_sightings_size : Int32} {x_now_sightings_numbers : Nat → Int32} {x_text : Nat → Int32} {m_above : Int64} {m_below : Int64} {m_length : Int32} {m_comes : Nat → Int32} {m_isKept : Nat → Int32} {m_refused : Nat → Int32} {m_row : Nat → Int32} {m_text : Nat → Int32} {m_words : Nat → Int32} (h : Rel x_textLength x_above x_below x_timesBad x_timesNo x_timesFull x_images_0_flitchCount x_images_0_familyCount x_images_0_hung x_images_0_day x_images_0_familyCell x_images_0_familyKind x_images_0_familySide x_images_0_familyWill x_images_0_flitchCell x_images_0_flitchKind x_images_0_flitchStrength x_images_0_marks_size x_images_0_marks_numbers x_images_0_notes_size x_images_0_notes_numbers x_images_0_past_size x_images_0_past_numbers x_images_0_sightings_size x_images_0_sightings_numbers x_images_1_flitchCount x_images_1_familyCount x_images_1_hung x_images_1_day x_images_1_familyCell x_images_1_familyKind x_images_1_familySide x_images_1_familyWill x_images_1_flitchCell x_images_1_flitchKind x_images_1_flitchStrength x_images_1_marks_size x_images_1_marks_numbers x_images_1_notes_size x_images_1_notes_numbers x_images_1_past_size x_images_1_past_numbers x_images_1_sightings_size x_images_1_sightings_numbers x_kept x_now_flitchCount x_now_familyCount x_now_hung x_now_day x_now_familyCell x_now_familyKind x_now_familySide x_now_familyWill x_now_flitchCell x_now_flitchKind x_now_flitchStrength x_now_marks_width x_now_marks_limit x_now_marks_size x_now_marks_numbers x_now_notes_width x_now_notes_limit x_now_notes_size x_now_notes_numbers x_now_past_width x_now_past_limit x_now_past_size x_now_past_numbers x_now_sightings_width x_now_sightings_limit x_now_sightings_size x_now_sightings_numbers x_text m_above m_below m_length m_isKept m_refused m_row m_text m_words) (x1 : Int32) : wp_Rc_look x1 x_timesBad x_guesses_outcome x_now_flitchCount x_now_flitchStrength x_now_notes_width x_now_notes_size x_now_notes_numbers (fun (r : Int32) (x_timesBad' : Int32) (x_guesses_outcome' : Nat → Int32) => wp_Mo_look x1 m_comes m_refused m_row (fun (r' : Int32) (m_comes' : Nat → Int32) (m_refused' : Nat → Int32) => r = r' ∧ Rel x_textLength x_above x_below x_timesBad' x_timesNo x_timesFull x_images_0_flitchCount x_images_0_familyCount x_images_0_hung x_images_0_day x_images_0_familyCell x_images_0_familyKind x_images_0_familySide x_images_0_familyWill x_images_0_flitchCell x_images_0_flitchKind x_images_0_flitchStrength x_images_0_marks_size x_images_0_marks_numbers x_images_0_notes_size x_images_0_notes_numbers x_images_0_past_size x_images_0_past_numbers x_images_0_sightings_size x_images_0_sightings_numbers x_images_1_flitchCount x_images_1_familyCount x_images_1_hung x_images_1_day x_images_1_familyCell x_images_1_familyKind x_images_1_familySide x_images_1_familyWill x_images_1_flitchCell x_images_1_flitchKind x_images_1_flitchStrength x_images_1_marks_size x_images_1_marks_numbers x_images_1_notes_size x_images_1_notes_numbers x_images_1_past_size x_images_1_past_numbers x_images_1_sightings_size x_images_1_sightings_numbers x_kept x_now_flitchCount x_now_familyCount x_now_hung x_now_day x_now_familyCell x_now_familyKind x_now_familySide x_now_familyWill x_now_flitchCell x_now_flitchKind x_now_flitchStrength x_now_marks_width x_now_marks_limit x_now_marks_size x_now_marks_numbers x_now_notes_width x_now_notes_limit x_now_notes_size x_now_notes_numbers x_now_past_width x_now_past_limit x_now_past_size x_now_past_numbers x_now_sightings_width x_now_sightings_limit x_now_sightings_size x_now_sightings_numbers x_text m_above m_below m_length m_isKept m_refused' m_row m_text m_words)) := by
  obtain ⟨⟨p, hPS, hM⟩, ⟨rfl, rfl, rfl, rfl, rfl, rfl, rfl, rfl⟩, hk0, hk1, hTx, hFr, hRf, hWo⟩ := id h
  obtain ⟨hI, ⟨rfl, rfl, rfl, rfl, a5, a6, a7, a8, a9, a10, a11⟩, hm, hn, hp, hs⟩ := id hPS
  have h7 := hI.1
  have h3 := hI.2.1.1
  have e27 : m_row 27 = nI (p 27) := hM.at0 (by omega)
  have e17 : m_row 17 = nI (p 17) := hM.at0 (by omega)
  by_cases q1 : inB x1 0 (nI (p 17) - 1) = 0
  · simp only [wp_Rc_look, wp_Mo_look, true_implies, false_implies, not_true_eq_false, not_false_eq_true, and_true, true_and, jn0_e, w_bad, w_no, w_full, w_badApart, w_refB, w_refN, w_refF, w_badAs, w_within, w_in, w_isCell, w_isFamC, w_isFliC, w_isFamM, w_isFliM, e27, e17, q1]; first | exact rel_bad h | exact ⟨rfl, rel_bad h⟩
  obtain ⟨x, hx, rfl⟩ := inB_pl (by omega) q1
  simp only [wp_Rc_look, wp_Mo_look, true_implies, false_implies, not_true_eq_false, not_false_eq_true, and_true, true_and, jn0_e, w_bad, w_no, w_full, w_badApart, w_refB, w_refN, w_refF, w_badAs, w_within, w_in, w_isCell, w_isFamC, w_isFliC, w_isFamM, w_isFliM, e27, e17, q1]
  refine s_nextLook hI hn (by omega) (a11 x hx) (fun A' => ?_)
  exact s_mlook hI hM (by omega) (hM.at0 (by omega)) (fun A'' => ⟨rfl, h⟩)

theorem s_nextAsk {p : Nat → Nat} {sz : Int32} {nu A : Nat → Int32} (hI : Inv p) (hC : CRm p sz nu) {x : Nat} (hx : x < 7)  {Q : Int32 → (Nat → Int32) → Prop} (hQ : ∀ A', Q (if bsN (alN (fmN p x) (p 89)) 6 = 0 then -1 else (anT 7 (fun t => maN (bsN (alN (fmN p x) (p 89)) 6) ((fun t k => lsF (nI k) (nI (t % 61)) (nI (t / 61))) t) 6) (fun t => nI (100 * (t / 61) + t % 61)) 122)) A') : wp_Gs_nextAsk (nI x) A 4 sz nu Q := by
  unfold wp_Gs_nextAsk
  refine s_familyKinds hI hC (by omega) ?_
  obtain ⟨s, hs⟩ : ∃ s, s = bsN (alN (fmN p x) (p 89)) 6 := ⟨_, rfl⟩
  have hs64 : s < 64 := by rw [hs]; exact bsN_lt _ 6
  simp only [← hs] at hQ ⊢
  by_cases h0 : s = 0
  · rw [if_pos h0] at hQ
    refine lpw4_run (fun _ => -1) (fun _ => 7) (fun _ => 0) (fun _ => A) 0 ?_ ?_ 0 (Nat.zero_le _)
    · intro B j hj; exact absurd hj (by omega)
    · intro B
      exact ⟨fun _ => hQ _, fun _ => ⟨fun _ => hQ _, fun z => absurd (by rw [h0]; rfl) z⟩⟩
  rw [if_neg h0] at hQ
  have hr : ¬ nI s = 0 := nI_ne (b := 0) (by omega) (by omega) h0
  obtain ⟨o, ho⟩ : ∃ o : Nat → Nat → Int32, o = (fun t k => lsF (nI k) (nI (t % 61)) (nI (t / 61))) := ⟨_, rfl⟩
  obtain ⟨m, hm⟩ : ∃ m : Nat → Nat, m = fun t => maN s (o t) 6 := ⟨_, rfl⟩
  obtain ⟨e, he⟩ : ∃ e : Nat → Int32, e = (fun t => nI (100 * (t / 61) + t % 61)) := ⟨_, rfl⟩
  have hQ' : ∀ A', Q (anT 7 m e 122) A' := by rw [hm, he, ho]; exact hQ
  have hm6 : ∀ t, m t ≤ 6 := fun t => by rw [hm]; exact maN_le _ _ _
  have hbs : ∀ t, bsT 7 m t < 100 := bsT_le 7 m (by omega) hm6
  refine lpw4_run (fun f => anT 7 m e (61 * f)) (fun f => nI (bsT 7 m (61 * f))) nI (fun f => arT A o (61 * f)) 2 ?_ ?_ 0 (Nat.zero_le _)
  · intro B f hf hB
    refine ⟨fun q => absurd q (nI_nlt (b := f) (a := 1) (by omega) (by omega)), fun _ => ⟨fun z => absurd z hr, fun _ => ?_⟩⟩
    refine lpw4_run (fun d => anT 7 m e (61 * f + d)) (fun d => nI (bsT 7 m (61 * f + d))) nI (fun d => arT A o (61 * f + d)) 61 ?_ ?_ 0 (Nat.zero_le _)
    · intro B2 d hd hB2
      refine ⟨fun q => absurd q (nI_nlt (b := d) (a := 60) (by omega) (by omega)), fun _ => ?_⟩
      have ef : (61 * f + d) / 61 = f := by omega
      have ed : (61 * f + d) % 61 = d := by omega
      have fin : wp_Gs_mostAlike (nI s) (arT A o (61 * f + (d + 1))) (fun r => jn2 (fun (J : Int32 → Int32 → Prop) => ((nI (bsT 7 m (61 * f + d)) ≤ r → J (anT 7 m e (61 * f + d)) (nI (bsT 7 m (61 * f + d)))) ∧ (¬ nI (bsT 7 m (61 * f + d)) ≤ r → ∀ y : Int32, y = ((100 * nI f) + nI d) → J y r))) (fun a b => ∀ y : Int32, y = nI d + 1 → B2 a b y (arT A o (61 * f + (d + 1))))) := by
        refine s_mostAlikeC hs64 (o := o (61 * f + d)) (fun k hk => flT_in _ _ hk) ?_
        have em : maN s (o (61 * f + d)) 6 = m (61 * f + d) := by rw [hm]
        have h6 := hm6 (61 * f + d)
        have hb9 := hbs (61 * f + d)
        simp only [em, jn2_e, fe_e, nI_1]
        have ee : (100 : Int32) * nI f + nI d = e (61 * f + d) := by
          rw [he]
          show _ = nI (100 * ((61 * f + d) / 61) + (61 * f + d) % 61)
          rw [ef, ed, show (100 : Int32) * nI f = nI (100 * f) from pk_mul 100 _, nI_add]
        rw [ee]
        refine ⟨fun z => ?_, fun z => ?_⟩
        · have z' := (nI_leI (by omega) (by omega)).mp z
          have e1 : anT 7 m e (61 * f + (d + 1)) = anT 7 m e (61 * f + d) := anT_p z'
          have e2 : bsT 7 m (61 * f + (d + 1)) = bsT 7 m (61 * f + d) := bsT_p z'
          simp only [e1, e2] at hB2
          exact hB2
        · have z' : ¬ bsT 7 m (61 * f + d) ≤ m (61 * f + d) := fun q => z ((nI_leI (by omega) (by omega)).mpr q)
          have e1 : anT 7 m e (61 * f + (d + 1)) = e (61 * f + d) := anT_n z'
          have e2 : bsT 7 m (61 * f + (d + 1)) = m (61 * f + d) := bsT_n z'
          simp only [e1, e2] at hB2
          exact hB2
      have e0 : arT A o (61 * f + d) = flT (arT A o (61 * f + d)) (o (61 * f + d)) 0 := (flT_0 _ _).symm
      rw [e0]
      refine lpw2_run nI (fun k => flT (arT A o (61 * f + d)) (o (61 * f + d)) k) 6 ?_ ?_ 0 (Nat.zero_le _)
      · intro B3 k hk hB3
        refine ⟨fun q => absurd q (nI_ge (b := 6) hk (by decide)), fun _ => ?_⟩
        have eo : o (61 * f + d) k = lsF (nI k) (nI d) (nI f) := by
          rw [ho]
          show lsF (nI k) (nI ((61 * f + d) % 61)) (nI ((61 * f + d) / 61)) = _
          rw [ef, ed]
        rw [flT_s, eo] at hB3
        simp only [w_loss, fe_e, nI_1, nI_clamp (show k < 2 ^ 31 by omega), true_and]
        exact ⟨ vp_in_nI hk (by omega), hB3⟩
      · intro B3
        refine ⟨fun _ => fin, fun q => absurd (nI_le (a := 6) (b := 6) (Nat.le_refl _) (by decide)) q⟩
    · intro B2
      refine ⟨fun _ => ?_, fun q => absurd (nI_lt (a := 60) (b := 61) (by omega) (by omega)) q⟩
      simp only [fe_e, nI_1]
      exact hB
  · intro B
    refine ⟨fun _ => hQ' _, fun q => absurd (nI_lt (a := 1) (b := 2) (by omega) (by omega)) q⟩
theorem s_mask {p : Nat → Nat} {row A : Nat → Int32} (hI : Inv p) (hM : MR p row 0) {x : Nat} (hx : x < 7)  {Q : Int32 → (Nat → Int32) → Prop} (hQ : ∀ A', Q (if bsN (alN (fmN p x) (p 89)) 6 = 0 then -1 else (anT 7 (fun t => maN (bsN (alN (fmN p x) (p 89)) 6) ((fun t k => lsF (nI k) (nI (t % 61)) (nI (t / 61))) t) 6) (fun t => nI (100 * (t / 61) + t % 61)) 122)) A') : wp_Mo_kindsOf (nI x) row (fun (r_3 : Int32) => ∃ n : Nat, lpw4 (fun (B30 : Int32 → Int32 → Int32 → (Nat → Int32) → Prop) (x3_4 : Int32) (x4_5 : Int32) (x5_6 : Int32) (s_comes_7 : Nat → Int32) => ((122 ≤ x5_6 → Q x3_4 s_comes_7) ∧ (¬ 122 ≤ x5_6 → ((r_3 = 0 → Q x3_4 s_comes_7) ∧ (¬ r_3 = 0 → ∃ n : Nat, lpw2 (fun (B44 : Int32 → (Nat → Int32) → Prop) (x6_11 : Int32) (s_comes_12 : Nat → Int32) => ((6 ≤ x6_11 → wp_Mo_mostAlike r_3 s_comes_12 (fun (r_15 : Int32) => jn1 (fun (J116 : Int32 → Prop) => ((x4_5 ≤ r_15 → J116 x3_4) ∧ (¬ x4_5 ≤ r_15 → J116 ((100 * (x5_6 / 61)) + (irem x5_6 61))))) (fun (v_16 : Int32) => jn1 (fun (J131 : Int32 → Prop) => ((x4_5 ≤ r_15 → J131 x4_5) ∧ (¬ x4_5 ≤ r_15 → J131 r_15))) (fun (v_18 : Int32) => ∀ x5_20 : Int32, x5_20 = x5_6 + 1 → B30 v_16 v_18 x5_20 s_comes_12)))) ∧ (¬ 6 ≤ x6_11 → wp_Mo_takesBy x6_11 (irem x5_6 61) (x5_6 / 61) (fun (r_24 : Int32) => vp_in x6_11 6 ∧ ∀ s_comes_26 : Nat → Int32, s_comes_26 = upd s_comes_12 (Int32.toNatClampNeg x6_11) r_24 → ∀ x6_27 : Int32, x6_27 = x6_11 + 1 → B44 x6_27 s_comes_26)))) n 0 s_comes_7))))) n (-1) 99 0 A) := by
  have h7 := hI.1
  have h3 := hI.2.1.1
  refine s_kindsOf hI hM (by omega) ?_
  obtain ⟨s, hs⟩ : ∃ s, s = bsN (alN (fmN p x) (p 89)) 6 := ⟨_, rfl⟩
  have hs64 : s < 64 := by rw [hs]; exact bsN_lt _ 6
  simp only [← hs] at hQ ⊢
  by_cases h0 : s = 0
  · rw [if_pos h0] at hQ
    refine lpw4_run (fun _ => -1) (fun _ => 99) (fun _ => 0) (fun _ => A) 0 ?_ ?_ 0 (Nat.zero_le _)
    · intro B j hj; exact absurd hj (by omega)
    · intro B
      exact ⟨fun _ => hQ _, fun _ => ⟨fun _ => hQ _, fun z => absurd (by rw [h0]; rfl) z⟩⟩
  rw [if_neg h0] at hQ
  have hr : ¬ nI s = 0 := nI_ne (b := 0) (by omega) (by omega) h0
  obtain ⟨o, ho⟩ : ∃ o : Nat → Nat → Int32, o = (fun t k => lsF (nI k) (nI (t % 61)) (nI (t / 61))) := ⟨_, rfl⟩
  obtain ⟨m, hm⟩ : ∃ m : Nat → Nat, m = fun t => maN s (o t) 6 := ⟨_, rfl⟩
  obtain ⟨e, he⟩ : ∃ e : Nat → Int32, e = (fun t => nI (100 * (t / 61) + t % 61)) := ⟨_, rfl⟩
  have hm6 : ∀ t, m t ≤ 6 := fun t => by rw [hm]; exact maN_le _ _ _
  have hQ' : ∀ A', Q (anT 99 m e 122) A' := by rw [← (scan_eq m e hm6 121).2, hm, he, ho]; exact hQ
  have hbs : ∀ t, bsT 99 m t < 100 := bsT_le 99 m (by omega) hm6
  refine lpw4_run (fun t => anT 99 m e t) (fun t => nI (bsT 99 m t)) nI (fun t => arT A o t) 122 ?_ ?_ 0 (Nat.zero_le _)
  · intro B t ht hB
    refine ⟨fun q => absurd q (nI_ge (b := 122) ht (by decide)), fun _ => ⟨fun z => absurd z hr, fun _ => ?_⟩⟩
    have ef : nI t / 61 = nI (t / 61) := pk_div (d := 61) (by omega) (by omega) (by omega)
    have ed : irem (nI t) 61 = nI (t % 61) := irem_nI (m := 61) (by omega) (by omega) (by omega)
    have e0 : arT A o t = flT (arT A o t) (o t) 0 := (flT_0 _ _).symm
    have ee : (100 : Int32) * nI (t / 61) + nI (t % 61) = e t := by
      rw [he]
      rw [show (100 : Int32) * nI (t / 61) = nI (100 * (t / 61)) from pk_mul 100 _, nI_add]
    simp only [ef, ed, ee]
    rw [e0]
    refine lpw2_run nI (fun k => flT (arT A o t) (o t) k) 6 ?_ ?_ 0 (Nat.zero_le _)
    · intro B3 k hk hB3
      refine ⟨fun q => absurd q (nI_ge (b := 6) hk (by decide)), fun _ => ?_⟩
      have eo : o t k = lsF (nI k) (nI (t % 61)) (nI (t / 61)) := by rw [ho]
      rw [flT_s, eo] at hB3
      simp only [w_takesBy, fe_e, nI_1, nI_clamp (show k < 2 ^ 31 by omega), true_and]
      exact ⟨ vp_in_nI hk (by omega), hB3⟩
    · intro B3
      refine ⟨fun _ => ?_, fun q => absurd (nI_le (a := 6) (b := 6) (Nat.le_refl _) (by decide)) q⟩
      refine s_mostAlikeM hs64 (o := o t) (fun k hk => flT_in _ _ hk) ?_
      have em : maN s (o t) 6 = m t := by rw [hm]
      have h6 := hm6 t
      have hb9 := hbs t
      simp only [em, jn1_e, fe_e, nI_1]
      refine ⟨fun z => ⟨fun _ => ?_, fun q => absurd z q⟩, fun z => ⟨fun q => absurd q z, fun _ => ?_⟩⟩
      · have z' := (nI_leI (by omega) (by omega)).mp z
        have e1 : anT 99 m e (t + 1) = anT 99 m e t := anT_p z'
        have e2 : bsT 99 m (t + 1) = bsT 99 m t := bsT_p z'
        simp only [e1, e2] at hB
        exact hB
      · have z' : ¬ bsT 99 m t ≤ m t := fun q => z ((nI_leI (by omega) (by omega)).mpr q)
        have e1 : anT 99 m e (t + 1) = e t := anT_n z'
        have e2 : bsT 99 m (t + 1) = m t := bsT_n z'
        simp only [e1, e2] at hB
        exact hB
  · intro B
    exact ⟨fun _ => hQ' _, fun q => absurd (nI_le (a := 122) (b := 122) (Nat.le_refl _) (by decide)) q⟩
set_option maxHeartbeats 4000000 in
set_option maxRecDepth 100000 in
theorem po_ask {x_textLength : Int32} {x_above : Int64} {x_below : Int64} {x_timesBad : Int32} {x_timesNo : Int32} {x_timesFull : Int32} {x_guesses_outcome : Nat → Int32} {x_images_0_flitchCount : Int32} {x_images_0_familyCount : Int32} {x_images_0_hung : Int32} {x_images_0_day : Int32} {x_images_0_familyCell : Nat → Int32} {x_images_0_familyKind : Nat → Int32} {x_images_0_familySide : Nat → Int32} {x_images_0_familyWill : Nat → Int32} {x_images_0_flitchCell : Nat → Int32} {x_images_0_flitchKind : Nat → Int32} {x_images_0_flitchStrength : Nat → Int32} {x_images_0_marks_size : Int32} {x_images_0_marks_numbers : Nat → Int32} {x_images_0_notes_size : Int32} {x_images_0_notes_numbers : Nat → Int32} {x_images_0_past_size : Int32} {x_images_0_past_numbers : Nat → Int32} {x_images_0_sightings_size : Int32} {x_images_0_sightings_numbers : Nat → Int32} {x_images_1_flitchCount : Int32} {x_images_1_familyCount : Int32} {x_images_1_hung : Int32} {x_images_1_day : Int32} {x_images_1_familyCell : Nat → Int32} {x_images_1_familyKind : Nat → Int32} {x_images_1_familySide : Nat → Int32} {x_images_1_familyWill : Nat → Int32} {x_images_1_flitchCell : Nat → Int32} {x_images_1_flitchKind : Nat → Int32} {x_images_1_flitchStrength : Nat → Int32} {x_images_1_marks_size : Int32} {x_images_1_marks_numbers : Nat → Int32} {x_images_1_notes_size : Int32} {x_images_1_notes_numbers : Nat → Int32} {x_images_1_past_size : Int32} {x_images_1_past_numbers : Nat → Int32} {x_images_1_sightings_size : Int32} {x_images_1_sightings_numbers : Nat → Int32} {x_kept : Nat → Int32} {x_now_flitchCount : Int32} {x_now_familyCount : Int32} {x_now_hung : Int32} {x_now_day : Int32} {x_now_familyCell : Nat → Int32} {x_now_familyKind : Nat → Int32} {x_now_familySide : Nat → Int32} {x_now_familyWill : Nat → Int32} {x_now_flitchCell : Nat → Int32} {x_now_flitchKind : Nat → Int32} {x_now_flitchStrength : Nat → Int32} {x_now_marks_width : Int32} {x_now_marks_limit : Int32} {x_now_marks_size : Int32} {x_now_marks_numbers : Nat → Int32} {x_now_notes_width : Int32} {x_now_notes_limit : Int32} {x_now_notes_size : Int32} {x_now_notes_numbers : Nat → Int32} {x_now_past_width : Int32} {x_now_past_limit : Int32} {x_now_past_size : Int32} {x_now_past_numbers : Nat → Int32} {x_now_sightings_width : Int32} {x_now_sightings_limit : Int32} {x_now_sightings_size : Int32} {x_now_sightings_numbers : Nat → Int32} {x_text : Nat → Int32} {m_above : Int64} {m_below : Int64} {m_length : Int32} {m_comes : Nat → Int32} {m_isKept : Nat → Int32} {m_refused : Nat → Int32} {m_row : Nat → Int32} {m_text : Nat → Int32} {m_words : Nat → Int32} (h : Rel x_textLength x_above x_below x_timesBad x_timesNo x_timesFull x_images_0_flitchCount x_images_0_familyCount x_images_0_hung x_images_0_day x_images_0_familyCell x_images_0_familyKind x_images_0_familySide x_images_0_familyWill x_images_0_flitchCell x_images_0_flitchKind x_images_0_flitchStrength x_images_0_marks_size x_images_0_marks_numbers x_images_0_notes_size x_images_0_notes_numbers x_images_0_past_size x_images_0_past_numbers x_images_0_sightings_size x_images_0_sightings_numbers x_images_1_flitchCount x_images_1_familyCount x_images_1_hung x_images_1_day x_images_1_familyCell x_images_1_familyKind x_images_1_familySide x_images_1_familyWill x_images_1_flitchCell x_images_1_flitchKind x_images_1_flitchStrength x_images_1_marks_size x_images_1_marks_numbers x_images_1_notes_size x_images_1_notes_numbers x_images_1_past_size x_images_1_past_numbers x_images_1_sightings_size x_images_1_sightings_numbers x_kept x_now_flitchCount x_now_familyCount x_now_hung x_now_day x_now_familyCell x_now_familyKind x_now_familySide x_now_familyWill x_now_flitchCell x_now_flitchKind x_now_flitchStrength x_now_marks_width x_now_marks_limit x_now_marks_size x_now_marks_numbers x_now_notes_width x_now_notes_limit x_now_notes_size x_now_notes_numbers x_now_past_width x_now_past_limit x_now_past_size x_now_past_numbers x_now_sightings_width x_now_sightings_limit x_now_sightings_size x_now_sightings_numbers x_text m_above m_below m_length m_isKept m_refused m_row m_text m_words) (x1 : Int32) : wp_Rc_ask x1 x_timesBad x_guesses_outcome x_now_familyCount x_now_marks_width x_now_marks_size x_now_marks_numbers (fun (r : Int32) (x_timesBad' : Int32) (x_guesses_outcome' : Nat → Int32) => wp_Mo_ask x1 m_comes m_refused m_row (fun (r' : Int32) (m_comes' : Nat → Int32) (m_refused' : Nat → Int32) => r = r' ∧ Rel x_textLength x_above x_below x_timesBad' x_timesNo x_timesFull x_images_0_flitchCount x_images_0_familyCount x_images_0_hung x_images_0_day x_images_0_familyCell x_images_0_familyKind x_images_0_familySide x_images_0_familyWill x_images_0_flitchCell x_images_0_flitchKind x_images_0_flitchStrength x_images_0_marks_size x_images_0_marks_numbers x_images_0_notes_size x_images_0_notes_numbers x_images_0_past_size x_images_0_past_numbers x_images_0_sightings_size x_images_0_sightings_numbers x_images_1_flitchCount x_images_1_familyCount x_images_1_hung x_images_1_day x_images_1_familyCell x_images_1_familyKind x_images_1_familySide x_images_1_familyWill x_images_1_flitchCell x_images_1_flitchKind x_images_1_flitchStrength x_images_1_marks_size x_images_1_marks_numbers x_images_1_notes_size x_images_1_notes_numbers x_images_1_past_size x_images_1_past_numbers x_images_1_sightings_size x_images_1_sightings_numbers x_kept x_now_flitchCount x_now_familyCount x_now_hung x_now_day x_now_familyCell x_now_familyKind x_now_familySide x_now_familyWill x_now_flitchCell x_now_flitchKind x_now_flitchStrength x_now_marks_width x_now_marks_limit x_now_marks_size x_now_marks_numbers x_now_notes_width x_now_notes_limit x_now_notes_size x_now_notes_numbers x_now_past_width x_now_past_limit x_now_past_size x_now_past_numbers x_now_sightings_width x_now_sightings_limit x_now_sightings_size x_now_sightings_numbers x_text m_above m_below m_length m_isKept m_refused' m_row m_text m_words)) := by
  obtain ⟨⟨p, hPS, hM⟩, ⟨rfl, rfl, rfl, rfl, rfl, rfl, rfl, rfl⟩, hk0, hk1, hTx, hFr, hRf, hWo⟩ := id h
  obtain ⟨hI, ⟨rfl, rfl, rfl, rfl, a5, a6, a7, a8, a9, a10, a11⟩, hm, hn, hp, hs⟩ := id hPS
  have h7 := hI.1
  have h3 := hI.2.1.1
  have e27 : m_row 27 = nI (p 27) := hM.at0 (by omega)
  have e17 : m_row 17 = nI (p 17) := hM.at0 (by omega)
  by_cases q1 : inB x1 0 (nI (p 27) - 1) = 0
  · simp only [wp_Rc_ask, wp_Mo_ask, true_implies, false_implies, not_true_eq_false, not_false_eq_true, and_true, true_and, jn0_e, w_bad, w_no, w_full, w_badApart, w_refB, w_refN, w_refF, w_badAs, w_within, w_in, w_isCell, w_isFamC, w_isFliC, w_isFamM, w_isFliM, e27, e17, q1]; first | exact rel_bad h | exact ⟨rfl, rel_bad h⟩
  obtain ⟨x, hx, rfl⟩ := inB_pl (by omega) q1
  simp only [wp_Rc_ask, wp_Mo_ask, true_implies, false_implies, not_true_eq_false, not_false_eq_true, and_true, true_and, jn0_e, w_bad, w_no, w_full, w_badApart, w_refB, w_refN, w_refF, w_badAs, w_within, w_in, w_isCell, w_isFamC, w_isFliC, w_isFamM, w_isFliM, e27, e17, q1]
  refine s_nextAsk hI hm (by omega) (fun A' => ?_)
  exact s_mask hI hM (by omega) (fun A'' => ⟨rfl, h⟩)

