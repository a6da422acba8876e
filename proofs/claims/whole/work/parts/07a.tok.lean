/-! PURE: the tokens of a text, both sides -/
def bI (b : Bool) : Int32 := if b = true then 1 else 0
theorem bI_t : bI true = 1 := rfl
theorem bI_f : bI false = 0 := rfl
theorem bI_br {b : Bool} {A B : Prop} (h : if b = true then B else A) : (bI b = 0 → A) ∧ (¬ bI b = 0 → B) := by
  cases b
  · exact ⟨fun _ => h, fun q => absurd rfl q⟩
  · exact ⟨fun q => absurd q (by decide), fun _ => h⟩
def ltP (c : Nat) : Bool := decide (97 ≤ c ∧ c ≤ 122)
def fgP (c : Nat) : Bool := decide (48 ≤ c ∧ c ≤ 57)
def spP (c : Nat) : Bool := decide (c = 32)
/-- how far P goes from i on -/
def scn (P : Nat → Bool) (n : Nat) (t : Nat → Nat) : Nat → Nat → Nat
  | 0, i => i
  | f + 1, i => if i < n ∧ P (t i) = true then scn P n t f (i + 1) else i
def enN (P : Nat → Bool) (n : Nat) (t : Nat → Nat) (i : Nat) : Nat := scn P n t (n - i) i
theorem scn_spec (P : Nat → Bool) (n : Nat) (t : Nat → Nat) : ∀ f i, n - i ≤ f → i ≤ n → i ≤ scn P n t f i ∧ scn P n t f i ≤ n ∧ (∀ j, i ≤ j → j < scn P n t f i → P (t j) = true) ∧ (scn P n t f i < n → P (t (scn P n t f i)) = false) := by
  intro f
  induction f with
  | zero =>
    intro i h hi
    refine ⟨Nat.le_refl _, hi, fun j a b => ?_, fun q => ?_⟩
    · have b' : j < i := b
      omega
    · have q' : i < n := q
      omega
  | succ f ih =>
    intro i h hi
    unfold scn
    by_cases q : i < n ∧ P (t i) = true
    · rw [if_pos q]
      obtain ⟨a, b, c, d⟩ := ih (i + 1) (by omega) (by omega)
      refine ⟨by omega, b, fun j x y => ?_, d⟩
      by_cases e : j = i
      · rw [e]; exact q.2
      · exact c j (by omega) y
    · rw [if_neg q]
      refine ⟨Nat.le_refl _, hi, fun j a b => absurd b (by omega), fun z => ?_⟩
      cases hP : P (t i)
      · rfl
      · exact absurd ⟨z, hP⟩ q
theorem enN_spec (P : Nat → Bool) {n : Nat} (t : Nat → Nat) {i : Nat} (hi : i ≤ n) : i ≤ enN P n t i ∧ enN P n t i ≤ n ∧ (∀ j, i ≤ j → j < enN P n t i → P (t j) = true) ∧ (enN P n t i < n → P (t (enN P n t i)) = false) := scn_spec P n t (n - i) i (Nat.le_refl _) hi
theorem enN_step {P : Nat → Bool} {n : Nat} {t : Nat → Nat} {i : Nat} (hi : i < n) (h : P (t i) = true) : enN P n t i = enN P n t (i + 1) := by
  unfold enN
  have e : n - i = (n - (i + 1)) + 1 := by omega
  rw [e]
  exact if_pos ⟨hi, h⟩
def TX (n : Nat) (t : Nat → Nat) (xt : Nat → Int32) : Prop := n ≤ 150 ∧ ∀ j, j < n → t j < 128 ∧ xt j = nI (t j)
set_option maxRecDepth 100000 in
theorem inB_lt0 : ∀ c, c < 128 → inB (nI c) 97 122 = bI (ltP c) := by decide +kernel
set_option maxRecDepth 100000 in
theorem inB_fg0 : ∀ c, c < 128 → inB (nI c) 48 57 = bI (fgP c) := by decide +kernel
theorem w_tlLet (x : Int32) (Q : Int32 → Prop) : wp_Tl_isLetter x Q = Q (inB x 97 122) := by
  unfold wp_Tl_isLetter inB
  by_cases h : x < 97
  · simp [h]
  · by_cases h2 : 122 < x <;> simp [h, h2]
theorem w_tlFig (x : Int32) (Q : Int32 → Prop) : wp_Tl_isFigure x Q = Q (inB x 48 57) := by
  unfold wp_Tl_isFigure inB
  by_cases h : x < 48
  · simp [h]
  · by_cases h2 : 57 < x <;> simp [h, h2]
theorem TX.at {n : Nat} {t : Nat → Nat} {xt : Nat → Int32} (hT : TX n t xt) {k : Nat} (hk : k < n) : xt (Int32.toNatClampNeg (nI k)) = nI (t k) := by
  have := hT.1
  rw [nI_clamp (by omega)]
  exact (hT.2 k hk).2
theorem TX.vp {n : Nat} {t : Nat → Nat} {xt : Nat → Int32} (hT : TX n t xt) {k : Nat} (hk : k < n) : vp_in (nI k) 150 := vp_in_nI (by have := hT.1; omega) (by omega)
theorem w_moLet {n : Nat} {t : Nat → Nat} {mt : Nat → Int32} (hT : TX n t mt) {k : Nat} (hk : k < 1000) (Q : Int32 → Prop) : wp_Mo_isLetter (nI k) (nI n) mt Q = Q (bI (decide (k < n) && ltP (t k))) := by
  have h150 := hT.1
  unfold wp_Mo_isLetter
  by_cases h : k < n
  · have e : (nI n ≤ nI k) = False := eq_false (nI_ge h (by omega))
    rw [hT.at h]
    simp only [e, w_in, inB_lt0 _ (hT.2 k h).1, false_implies, not_false_eq_true, true_implies, true_and, hT.vp h, decide_eq_true h, Bool.true_and]
    cases ltP (t k)
    · simp [bI]
    · simp [bI]
  · have e : (nI n ≤ nI k) = True := eq_true (nI_le (by omega) (by omega))
    simp only [e, true_implies, not_true_eq_false, false_implies, and_true, decide_eq_false h, Bool.false_and]
    rfl
theorem w_moFig {n : Nat} {t : Nat → Nat} {mt : Nat → Int32} (hT : TX n t mt) {k : Nat} (hk : k < 1000) (Q : Int32 → Prop) : wp_Mo_isFigure (nI k) (nI n) mt Q = Q (bI (decide (k < n) && fgP (t k))) := by
  have h150 := hT.1
  unfold wp_Mo_isFigure
  by_cases h : k < n
  · have e : (nI n ≤ nI k) = False := eq_false (nI_ge h (by omega))
    rw [hT.at h]
    simp only [e, w_in, inB_fg0 _ (hT.2 k h).1, false_implies, not_false_eq_true, true_implies, true_and, hT.vp h, decide_eq_true h, Bool.true_and]
    cases fgP (t k)
    · simp [bI]
    · simp [bI]
  · have e : (nI n ≤ nI k) = True := eq_true (nI_le (by omega) (by omega))
    simp only [e, true_implies, not_true_eq_false, false_implies, and_true, decide_eq_false h, Bool.false_and]
    rfl
/-- a token: its start, its end, its kind, its value -/
def teA (n : Nat) (t : Nat → Nat) (a : Nat) : Nat := if n ≤ a then a else if ltP (t a) = true then enN ltP n t a else if fgP (t a) = true then enN fgP n t a else a + 1
def tkA (n : Nat) (t : Nat → Nat) (a : Nat) : Nat := if n ≤ a then 0 else if ltP (t a) = true then 3 else if fgP (t a) = true then (if enN fgP n t a - a ≤ 2 then 2 else 4) else if t a = 59 then 1 else 4
def fvN (t : Nat → Nat) (a : Nat) : Nat → Nat
  | 0 => 0
  | k + 1 => (10 * fvN t a k + t (a + k) - 48) % 1000
def tvA (n : Nat) (t : Nat → Nat) (a : Nat) : Nat := if n ≤ a then 0 else if ltP (t a) = true then 0 else if fgP (t a) = true then fvN t a (enN fgP n t a - a) else 0
def tsN (n : Nat) (t : Nat → Nat) (i : Nat) : Nat := enN spP n t i
def teN (n : Nat) (t : Nat → Nat) (i : Nat) : Nat := teA n t (tsN n t i)
def tkN (n : Nat) (t : Nat → Nat) (i : Nat) : Nat := tkA n t (tsN n t i)
def tvN (n : Nat) (t : Nat → Nat) (i : Nat) : Nat := tvA n t (tsN n t i)
theorem fvN_lt (t : Nat → Nat) (a : Nat) : ∀ k, fvN t a k < 1000
  | 0 => by show 0 < 1000; omega
  | _ + 1 => Nat.mod_lt _ (by omega)
theorem tvA_lt (n : Nat) (t : Nat → Nat) (a : Nat) : tvA n t a < 1000 := by
  unfold tvA
  have := fvN_lt t a (enN fgP n t a - a)
  split
  · omega
  · split
    · omega
    · split <;> omega
theorem ts_spec {n : Nat} (t : Nat → Nat) {i : Nat} (hi : i ≤ n) : i ≤ tsN n t i ∧ tsN n t i ≤ n := ⟨(enN_spec spP t hi).1, (enN_spec spP t hi).2.1⟩
theorem teA_spec {n : Nat} (t : Nat → Nat) {a : Nat} (ha : a ≤ n) : a ≤ teA n t a ∧ teA n t a ≤ n ∧ (a < n → a < teA n t a) := by
  unfold teA
  by_cases h : n ≤ a
  · rw [if_pos h]; exact ⟨Nat.le_refl _, ha, fun q => absurd q (by omega)⟩
  · rw [if_neg h]
    by_cases h1 : ltP (t a) = true
    · rw [if_pos h1, enN_step (by omega) h1]
      obtain ⟨x, y, -, -⟩ := enN_spec ltP t (show a + 1 ≤ n by omega)
      exact ⟨by omega, y, fun _ => by omega⟩
    · rw [if_neg h1]
      by_cases h2 : fgP (t a) = true
      · rw [if_pos h2, enN_step (by omega) h2]
        obtain ⟨x, y, -, -⟩ := enN_spec fgP t (show a + 1 ≤ n by omega)
        exact ⟨by omega, y, fun _ => by omega⟩
      · rw [if_neg h2]; exact ⟨by omega, by omega, fun _ => by omega⟩
theorem tk_0 {n : Nat} {t : Nat → Nat} {a : Nat} : tkA n t a = 0 ↔ n ≤ a := by
  unfold tkA
  by_cases h : n ≤ a
  · simp [h]
  · rw [if_neg h]
    refine ⟨fun q => ?_, fun q => absurd q h⟩
    split at q
    · omega
    · split at q
      · split at q <;> omega
      · split at q <;> omega
theorem te_spec {n : Nat} (t : Nat → Nat) {i : Nat} (hi : i ≤ n) : i ≤ teN n t i ∧ teN n t i ≤ n ∧ (tkN n t i ≠ 0 → i < teN n t i) := by
  obtain ⟨a, b⟩ := ts_spec t hi
  obtain ⟨c, d, e⟩ := teA_spec t b
  refine ⟨Nat.le_trans a c, d, fun q => ?_⟩
  have : ¬ n ≤ tsN n t i := fun z => q (tk_0.mpr z)
  have := e (by omega)
  unfold teN
  omega
theorem s_takeLetters {n a : Nat} {t : Nat → Nat} {xt : Nat → Int32} {tk : Int32} {Q : Int32 → Int32 → Prop} (hT : TX n t xt) (ha : a ≤ n) (hQ : Q (nI (enN ltP n t a)) 3) : wp_Tl_takeLetters (nI n) (nI a) tk xt Q := by
  have h150 := hT.1
  obtain ⟨h1, h2, h3, h4⟩ := enN_spec ltP t ha
  unfold wp_Tl_takeLetters
  refine lpw1_run (fun j => nI (a + j)) (enN ltP n t a - a) ?_ ?_ 0 (Nat.zero_le _)
  · intro B j hj hB
    have e := hT.at (show a + j < n by omega)
    have e2 := inB_lt0 _ (hT.2 (a + j) (by omega)).1
    rw [h3 (a + j) (by omega) (by omega)] at e2
    simp only [jn0_e, e, w_tlLet, e2, fe_e, nI_1]
    exact ⟨fun q => absurd q (nI_ge (by omega) (by omega)), fun _ => ⟨hT.vp (by omega), fun q => absurd q (by decide), fun _ => hB⟩⟩
  · intro B
    have ea : a + (enN ltP n t a - a) = enN ltP n t a := by omega
    simp only [jn0_e, ea]
    refine ⟨fun _ => hQ, fun q => ?_⟩
    have hlt : enN ltP n t a < n := by
      by_cases z : enN ltP n t a < n
      · exact z
      · exact absurd (nI_le (by omega) (by omega)) q
    have e2 := inB_lt0 _ (hT.2 _ hlt).1
    rw [h4 hlt] at e2
    simp only [hT.at hlt, w_tlLet, e2]
    exact ⟨hT.vp hlt, fun _ => hQ, fun q => absurd rfl q⟩
theorem s_takeFigures {n a : Nat} {t : Nat → Nat} {xt : Nat → Int32} {tk : Int32} {Q : Int32 → Int32 → Int32 → Prop} (hT : TX n t xt) (ha : a ≤ n) (hQ : Q (nI (enN fgP n t a)) (nI (if enN fgP n t a - a ≤ 2 then 2 else 4)) (nI (fvN t a (enN fgP n t a - a)))) : wp_Tl_takeFigures (nI n) (nI a) (nI a) tk 0 xt Q := by
  have h150 := hT.1
  obtain ⟨h1, h2, h3, h4⟩ := enN_spec fgP t ha
  unfold wp_Tl_takeFigures
  refine lpw2_run (fun j => nI (a + j)) (fun j => nI (fvN t a j)) (enN fgP n t a - a) ?_ ?_ 0 (Nat.zero_le _)
  · intro B j hj hB
    have e := hT.at (show a + j < n by omega)
    have e2 := inB_fg0 _ (hT.2 (a + j) (by omega)).1
    have e3 := h3 (a + j) (by omega) (by omega)
    have e4 : 48 ≤ t (a + j) ∧ t (a + j) ≤ 57 := of_decide_eq_true e3
    rw [e3] at e2
    have hv := fvN_lt t a j
    have e5 : irem (10 * nI (fvN t a j) + nI (t (a + j)) - 48) 1000 = nI (fvN t a (j + 1)) := by
      rw [show (10 : Int32) * nI (fvN t a j) = nI (10 * fvN t a j) from pk_mul 10 _, nI_add, show nI (10 * fvN t a j + t (a + j)) - 48 = nI (10 * fvN t a j + t (a + j) - 48) from pk_sub (b := 48) (by omega)]
      exact irem_nI (m := 1000) (by omega) (by omega) (by omega)
    simp only [jn0_e, e, w_tlFig, e2, fe_e, nI_1, e5]
    exact ⟨fun q => absurd q (nI_ge (by omega) (by omega)), fun _ => ⟨hT.vp (by omega), fun q => absurd q (by decide), fun _ => ⟨hT.vp (by omega), hB⟩⟩⟩
  · intro B
    have ea : a + (enN fgP n t a - a) = enN fgP n t a := by omega
    have es : nI (enN fgP n t a) - nI a = nI (enN fgP n t a - a) := pk_sub h1
    have key : ((2 : Int32) < nI (enN fgP n t a - a) → Q (nI (enN fgP n t a)) 4 (nI (fvN t a (enN fgP n t a - a)))) ∧ (¬ (2 : Int32) < nI (enN fgP n t a - a) → Q (nI (enN fgP n t a)) 2 (nI (fvN t a (enN fgP n t a - a)))) := by
      by_cases z : enN fgP n t a - a ≤ 2
      · rw [if_pos z] at hQ
        exact ⟨fun q => absurd q (nI_nlt (b := enN fgP n t a - a) (a := 2) z (by omega)), fun _ => hQ⟩
      · rw [if_neg z] at hQ
        exact ⟨fun _ => hQ, fun q => absurd (nI_lt (a := 2) (by omega) (by omega)) q⟩
    simp only [jn0_e, jn1_e, ea, es]
    refine ⟨fun _ => key, fun q => ?_⟩
    have hlt : enN fgP n t a < n := by
      by_cases z : enN fgP n t a < n
      · exact z
      · exact absurd (nI_le (by omega) (by omega)) q
    have e2 := inB_fg0 _ (hT.2 _ hlt).1
    rw [h4 hlt] at e2
    simp only [hT.at hlt, w_tlFig, e2]
    exact ⟨hT.vp hlt, fun _ => key, fun q => absurd rfl q⟩
theorem s_advance {n i : Nat} {t : Nat → Nat} {xt : Nat → Int32} {st tk v : Int32} {Q : Int32 → Int32 → Int32 → Int32 → Prop} (hT : TX n t xt) (hi : i ≤ n) (hQ : Q (nI (teN n t i)) (nI (tsN n t i)) (nI (tkN n t i)) (nI (tvN n t i))) : wp_Tl_advance (nI n) (nI i) st tk v xt Q := by
  have h150 := hT.1
  obtain ⟨h1, h2, h3, h4⟩ := enN_spec spP t hi
  unfold teN tkN tvN at hQ
  change Q (nI (teA n t (enN spP n t i))) (nI (enN spP n t i)) (nI (tkA n t (enN spP n t i))) (nI (tvA n t (enN spP n t i))) at hQ
  obtain ⟨a, ha⟩ : ∃ a, a = enN spP n t i := ⟨_, rfl⟩
  rw [← ha] at h1 h2 h3 h4 hQ
  unfold wp_Tl_advance
  refine lpw1_run (fun j => nI (i + j)) (a - i) ?_ ?_ 0 (Nat.zero_le _)
  · intro B j hj hB
    have e := hT.at (show i + j < n by omega)
    have e3 : t (i + j) = 32 := of_decide_eq_true (h3 (i + j) (by omega) (by omega))
    rw [e3] at e
    simp only [jn0_e, e, fe_e, nI_1]
    exact ⟨fun q => absurd q (nI_ge (by omega) (by omega)), fun _ => ⟨hT.vp (by omega), fun q => absurd rfl q, fun _ => hB⟩⟩
  · intro B
    have ea : i + (a - i) = a := by omega
    by_cases hn : n ≤ a
    · have f1 : (nI n ≤ nI a) = True := eq_true (nI_le hn (by omega))
      have f2 : (nI a < nI n) = False := eq_false (nI_nlt hn (by omega))
      rw [show teA n t a = a from if_pos hn, show tkA n t a = 0 from if_pos hn, show tvA n t a = 0 from if_pos hn] at hQ
      simp only [jn0_e, ea, f1, f2, true_implies, false_implies, not_true_eq_false, not_false_eq_true, and_true, true_and]
      exact hQ
    · have hlt : a < n := by omega
      have f1 : (nI n ≤ nI a) = False := eq_false (nI_ge hlt (by omega))
      have f2 : (nI a < nI n) = True := eq_true (nI_lt hlt (by omega))
      have e := hT.at hlt
      have c128 := (hT.2 a hlt).1
      have hne : t a ≠ 32 := of_decide_eq_false (h4 hlt)
      have f3 : (nI (t a) = 32) = False := eq_false (nI_ne (b := 32) (by omega) (by omega) hne)
      have vp := hT.vp hlt
      simp only [jn0_e, jn1_e, ea, f1, f2, f3, e, vp, w_tlLet, w_tlFig, inB_lt0 _ c128, inB_fg0 _ c128, true_implies, false_implies, not_true_eq_false, not_false_eq_true, and_true, true_and, fe_e, nI_1]
      apply bI_br
      by_cases g1 : ltP (t a) = true
      · rw [if_pos g1]
        rw [show teA n t a = enN ltP n t a by unfold teA; rw [if_neg hn, if_pos g1], show tkA n t a = 3 by unfold tkA; rw [if_neg hn, if_pos g1], show tvA n t a = 0 by unfold tvA; rw [if_neg hn, if_pos g1]] at hQ
        exact s_takeLetters hT h2 hQ
      · rw [if_neg g1]
        apply bI_br
        by_cases g2 : fgP (t a) = true
        · rw [if_pos g2]
          rw [show teA n t a = enN fgP n t a by unfold teA; rw [if_neg hn, if_neg g1, if_pos g2], show tkA n t a = (if enN fgP n t a - a ≤ 2 then 2 else 4) by unfold tkA; rw [if_neg hn, if_neg g1, if_pos g2], show tvA n t a = fvN t a (enN fgP n t a - a) by unfold tvA; rw [if_neg hn, if_neg g1, if_pos g2]] at hQ
          exact s_takeFigures hT h2 hQ
        · rw [if_neg g2]
          rw [show teA n t a = a + 1 by unfold teA; rw [if_neg hn, if_neg g1, if_neg g2], show tkA n t a = (if t a = 59 then 1 else 4) by unfold tkA; rw [if_neg hn, if_neg g1, if_neg g2], show tvA n t a = 0 by unfold tvA; rw [if_neg hn, if_neg g1, if_neg g2]] at hQ
          by_cases g3 : t a = 59
          · rw [if_pos g3] at hQ
            rw [g3]
            exact ⟨fun q => absurd rfl q, fun _ => hQ⟩
          · rw [if_neg g3] at hQ
            exact ⟨fun _ => hQ, fun q => absurd q (nI_ne (b := 59) (by omega) (by omega) g3)⟩
/-- the reference's second half of next -/
theorem s_nextF {n a b0 : Nat} {t : Nat → Nat} {mt : Nat → Int32} {Q : Int32 → Int32 → Prop} (hT : TX n t mt) (ha : a < 1000) (hb : b0 ≤ n) (hQ : Q (nI a) (nI (if a < n ∧ fgP (t a) = true then enN fgP n t b0 else b0))) : ∃ m : Nat, lpw1 (fun (B109 : Int32 → Prop) (s_behind_10 : Int32) => wp_Mo_isFigure (nI a) (nI n) mt (fun (r_12 : Int32) => ((r_12 = 0 → Q (nI a) s_behind_10) ∧ (¬ r_12 = 0 → wp_Mo_isFigure s_behind_10 (nI n) mt (fun (r_14 : Int32) => ((r_14 = 0 → Q (nI a) s_behind_10) ∧ (¬ r_14 = 0 → ∀ s_behind_16 : Int32, s_behind_16 = (s_behind_10 + 1) → B109 s_behind_16))))))) m (nI b0) := by
  have h150 := hT.1
  simp only [w_moFig hT ha]
  by_cases h : a < n ∧ fgP (t a) = true
  · rw [if_pos h] at hQ
    obtain ⟨h1, h2, h3, h4⟩ := enN_spec fgP t hb
    have e0 : bI (decide (a < n) && fgP (t a)) = 1 := by rw [decide_eq_true h.1, h.2]; rfl
    refine lpw1_run (fun j => nI (b0 + j)) (enN fgP n t b0 - b0) ?_ ?_ 0 (Nat.zero_le _)
    · intro B j hj hB
      have e1 : bI (decide (b0 + j < n) && fgP (t (b0 + j))) = 1 := by rw [decide_eq_true (show b0 + j < n by omega), h3 (b0 + j) (by omega) (by omega)]; rfl
      simp only [e0, w_moFig hT (show b0 + j < 1000 by omega), e1, fe_e, nI_1]
      exact ⟨fun q => absurd q (by decide), fun _ => ⟨fun q => absurd q (by decide), fun _ => hB⟩⟩
    · intro B
      have ea : b0 + (enN fgP n t b0 - b0) = enN fgP n t b0 := by omega
      have e1 : bI (decide (enN fgP n t b0 < n) && fgP (t (enN fgP n t b0))) = 0 := by
        by_cases z : enN fgP n t b0 < n
        · rw [decide_eq_true z, h4 z]; rfl
        · rw [decide_eq_false z]; rfl
      simp only [e0, ea, w_moFig hT (show enN fgP n t b0 < 1000 by omega), e1]
      exact ⟨fun q => absurd q (by decide), fun _ => ⟨fun _ => hQ, fun q => absurd trivial q⟩⟩
  · rw [if_neg h] at hQ
    have e0 : bI (decide (a < n) && fgP (t a)) = 0 := by
      by_cases z : a < n
      · rw [decide_eq_true z]
        cases hf : fgP (t a)
        · rfl
        · exact absurd ⟨z, hf⟩ h
      · rw [decide_eq_false z]; rfl
    refine lpw1_run (fun _ => nI b0) 0 (fun B j hj => absurd hj (by omega)) ?_ 0 (Nat.zero_le _)
    intro B
    simp only [e0]
    exact ⟨fun _ => hQ, fun q => absurd trivial q⟩
theorem s_next {n i : Nat} {t : Nat → Nat} {mt : Nat → Int32} {at0 : Int32} {Q : Int32 → Int32 → Prop} (hT : TX n t mt) (hi : i ≤ n) (hQ : Q (nI (tsN n t i)) (nI (teN n t i))) : wp_Mo_next (nI n) at0 (nI i) mt Q := by
  have h150 := hT.1
  obtain ⟨h1, h2, h3, h4⟩ := enN_spec spP t hi
  unfold teN at hQ
  change Q (nI (enN spP n t i)) (nI (teA n t (enN spP n t i))) at hQ
  obtain ⟨a, ha⟩ : ∃ a, a = enN spP n t i := ⟨_, rfl⟩
  rw [← ha] at h1 h2 h3 h4 hQ
  unfold wp_Mo_next
  refine lpw1_run (fun j => nI (i + j)) (a - i) ?_ ?_ 0 (Nat.zero_le _)
  · intro B j hj hB
    have e := hT.at (show i + j < n by omega)
    have e3 : t (i + j) = 32 := of_decide_eq_true (h3 (i + j) (by omega) (by omega))
    rw [e3] at e
    simp only [jn0_e, e, fe_e, nI_1]
    exact ⟨fun q => absurd q (nI_ge (by omega) (by omega)), fun _ => ⟨hT.vp (by omega), fun q => absurd rfl q, fun _ => hB⟩⟩
  · intro B
    have ea : i + (a - i) = a := by omega
    by_cases hn : n ≤ a
    · have f1 : (nI n ≤ nI a) = True := eq_true (nI_le hn (by omega))
      have e0 : bI (decide (a < n) && ltP (t a)) = 0 := by rw [decide_eq_false (by omega)]; rfl
      rw [show teA n t a = a from if_pos hn] at hQ
      simp only [jn0_e, jn1_e, ea, f1, true_implies, false_implies, not_true_eq_false, not_false_eq_true, and_true, true_and]
      refine lpw1_run (fun _ => nI a) 0 (fun B j hj => absurd hj (by omega)) ?_ 0 (Nat.zero_le _)
      intro B
      simp only [w_moLet hT (show a < 1000 by omega), e0]
      refine ⟨fun _ => ?_, fun q => absurd trivial q⟩
      refine s_nextF hT (by omega) h2 ?_
      rw [if_neg (by omega)]
      exact hQ
    · have hlt : a < n := by omega
      have f1 : (nI n ≤ nI a) = False := eq_false (nI_ge hlt (by omega))
      have e := hT.at hlt
      have c128 := (hT.2 a hlt).1
      have hne : t a ≠ 32 := of_decide_eq_false (h4 hlt)
      have f3 : (nI (t a) = 32) = False := eq_false (nI_ne (b := 32) (by omega) (by omega) hne)
      have vp := hT.vp hlt
      simp only [jn0_e, jn1_e, ea, f1, f3, e, vp, true_implies, false_implies, not_true_eq_false, not_false_eq_true, and_true, true_and, nI_1]
      by_cases g1 : ltP (t a) = true
      · have e0 : bI (decide (a < n) && ltP (t a)) = 1 := by rw [decide_eq_true hlt, g1]; rfl
        obtain ⟨k1, k2, k3, k4⟩ := enN_spec ltP t (show a + 1 ≤ n by omega)
        have hg2 : ¬ (a < n ∧ fgP (t a) = true) := fun z => by
          have q1 : 97 ≤ t a ∧ t a ≤ 122 := of_decide_eq_true g1
          have q2 : 48 ≤ t a ∧ t a ≤ 57 := of_decide_eq_true z.2
          omega
        rw [show teA n t a = enN ltP n t (a + 1) by unfold teA; rw [if_neg hn, if_pos g1, enN_step hlt g1]] at hQ
        refine lpw1_run (fun j => nI (a + 1 + j)) (enN ltP n t (a + 1) - (a + 1)) ?_ ?_ 0 (Nat.zero_le _)
        · intro B j hj hB
          have e1 : bI (decide (a + 1 + j < n) && ltP (t (a + 1 + j))) = 1 := by rw [decide_eq_true (show a + 1 + j < n by omega), k3 (a + 1 + j) (by omega) (by omega)]; rfl
          simp only [w_moLet hT (show a < 1000 by omega), e0, w_moLet hT (show a + 1 + j < 1000 by omega), e1, fe_e, nI_1]
          exact ⟨fun q => absurd q (by decide), fun _ => ⟨fun q => absurd q (by decide), fun _ => hB⟩⟩
        · intro B
          have eb : a + 1 + (enN ltP n t (a + 1) - (a + 1)) = enN ltP n t (a + 1) := by omega
          have e1 : bI (decide (enN ltP n t (a + 1) < n) && ltP (t (enN ltP n t (a + 1)))) = 0 := by
            by_cases z : enN ltP n t (a + 1) < n
            · rw [decide_eq_true z, k4 z]; rfl
            · rw [decide_eq_false z]; rfl
          simp only [eb, w_moLet hT (show a < 1000 by omega), e0, w_moLet hT (show enN ltP n t (a + 1) < 1000 by omega), e1]
          have key := s_nextF (Q := Q) hT (show a < 1000 by omega) k2 (by rw [if_neg hg2]; exact hQ)
          exact ⟨fun q => absurd q (by decide), fun _ => ⟨fun _ => key, fun q => absurd trivial q⟩⟩
      · have e0 : bI (decide (a < n) && ltP (t a)) = 0 := by
          rw [decide_eq_true hlt]
          cases hf : ltP (t a)
          · rfl
          · exact absurd hf g1
        refine lpw1_run (fun _ => nI (a + 1)) 0 (fun B j hj => absurd hj (by omega)) ?_ 0 (Nat.zero_le _)
        intro B
        simp only [w_moLet hT (show a < 1000 by omega), e0]
        refine ⟨fun _ => ?_, fun q => absurd trivial q⟩
        refine s_nextF hT (by omega) (by omega) ?_
        by_cases g2 : fgP (t a) = true
        · rw [if_pos ⟨hlt, g2⟩]
          rw [show teA n t a = enN fgP n t (a + 1) by unfold teA; rw [if_neg hn, if_neg g1, if_pos g2, enN_step hlt g2]] at hQ
          exact hQ
        · rw [if_neg (fun z => g2 z.2)]
          rw [show teA n t a = a + 1 by unfold teA; rw [if_neg hn, if_neg g1, if_neg g2]] at hQ
          exact hQ
