/-! what flitches and families do, in plain numbers -/
def scN (k s f : Nat) (dr : Bool) : Nat :=
  if k = 1 then (if s - 2 * f = 0 then 0 else s - 2 * f + 2) else if k = 2 then (if dr then s - 2 * f + 5 else s - 2 * f) else if k = 3 then 2 * (if s - 2 * f = 0 then 0 else s - 2 * f + 2) else if k = 4 then (s - 2 * f + 1) / 2 else if k = 5 then max 1 ((if dr then s - 2 * f + 5 else s - 2 * f) - f) else s - 2 * f
def lsN (k x : Nat) (m h : Bool) : Nat :=
  if k = 1 then x / 2 - 1 else if k = 2 then (if x = 0 then 0 else x / 2 + 2) else if k = 3 then (if m then 6 else x / 2 - 1) else if k = 4 then (if h then x / 2 + 1 else x / 2) else if k = 5 then min 9 (2 * (if x = 0 then 0 else x / 2 + 2)) else x / 2
def scG (k s f : Int32) (dr : Bool) : Int32 :=
  if k = 1 then smF (plF s f) else if k = 2 then (if dr then plF s f + 5 else plF s f) else if k = 3 then 2 * smF (plF s f) else if k = 4 then (plF s f + 1) / 2 else if k = 5 then suF ((if dr then plF s f + 5 else plF s f) - f) else plF s f
def lsG (k x : Int32) (m h : Bool) : Int32 :=
  if k = 1 then grF (x / 2) else if k = 2 then chF x else if k = 3 then (if m then 6 else grF (x / 2)) else if k = 4 then (if h then x / 2 + 1 else x / 2) else if k = 5 then (if 2 * chF x ≤ 9 then 2 * chF x else 9) else x / 2
theorem scF_scG (k s f d : Int32) : scF k s f d = scG k s f (decide (irem d 7 = 0)) := by
  unfold scF scG drF
  by_cases h : irem d 7 = 0 <;> simp [h]
theorem lsF_lsG (k x d : Int32) : lsF k x d = lsG k x (decide (irem d 13 = 0)) (decide (¬ d < 20)) := by
  unfold lsF lsG
  by_cases h : irem d 13 = 0 <;> by_cases h2 : d < 20 <;> simp [h, h2]
set_option maxRecDepth 100000 in
theorem scG_nI : ∀ k, k < 6 → ∀ s, s < 21 → ∀ f, f < 9 → (scG (nI k) (nI s) (nI f) true = nI (scN k s f true) ∧ scG (nI k) (nI s) (nI f) false = nI (scN k s f false) ∧ scN k s f true ≤ 44 ∧ scN k s f false ≤ 44) := by decide +kernel
set_option maxRecDepth 100000 in
theorem lsG_nI : ∀ k, k < 6 → ∀ x, x < 133 → (lsG (nI k) (nI x) true true = nI (lsN k x true true) ∧ lsG (nI k) (nI x) true false = nI (lsN k x true false) ∧ lsG (nI k) (nI x) false true = nI (lsN k x false true) ∧ lsG (nI k) (nI x) false false = nI (lsN k x false false) ∧ lsN k x true true ≤ 68 ∧ lsN k x true false ≤ 68 ∧ lsN k x false true ≤ 68 ∧ lsN k x false false ≤ 68) := by decide +kernel
theorem irem_nI {a m : Nat} (ha : a < 2 ^ 31) (h0 : 0 < m) (hm : m < 2 ^ 31) : irem (nI a) (nI m) = nI (a % m) := pk_rem ha h0 hm
theorem lit7 : (7 : Int32) = nI 7 := rfl
theorem lit13 : (13 : Int32) = nI 13 := rfl
theorem lit20 : (20 : Int32) = nI 20 := rfl
theorem irem7 {d : Nat} (hd : d < 2 ^ 31) : (irem (nI d) 7 = 0) = (d % 7 = 0) := by
  rw [lit7, irem_nI hd (by omega) (by omega), ← nI_0]
  exact propext (nI_eq (by omega) (by omega))
theorem irem13 {d : Nat} (hd : d < 2 ^ 31) : (irem (nI d) 13 = 0) = (d % 13 = 0) := by
  rw [lit13, irem_nI hd (by omega) (by omega), ← nI_0]
  exact propext (nI_eq (by omega) (by omega))
/-- by day -/
def scD (k s f d : Nat) : Nat := scN k s f (decide (d % 7 = 0))
def lsD (k x d : Nat) : Nat := lsN k x (decide (d % 13 = 0)) (decide (20 ≤ d))
theorem scF_nI {k s f d : Nat} (hk : k < 6) (hs : s < 21) (hf : f < 9) (hd : d < 2 ^ 31) : scF (nI k) (nI s) (nI f) (nI d) = nI (scD k s f d) := by
  rw [scF_scG, scD]
  obtain ⟨h1, h2, -, -⟩ := scG_nI k hk s hs f hf
  by_cases h : d % 7 = 0
  · have h' : (irem (nI d) 7 = 0) := by rw [irem7 hd]; exact h
    simp only [h, h', decide_true]; exact h1
  · have h' : ¬ (irem (nI d) 7 = 0) := by rw [irem7 hd]; exact h
    simp only [h, h', decide_false]; exact h2
theorem scD_le {k s f d : Nat} (hk : k < 6) (hs : s < 21) (hf : f < 9) : scD k s f d ≤ 44 := by
  obtain ⟨-, -, h3, h4⟩ := scG_nI k hk s hs f hf
  unfold scD
  by_cases h : d % 7 = 0
  · simp only [h, decide_true]; exact h3
  · simp only [h, decide_false]; exact h4
theorem lsF_nI {k x d : Nat} (hk : k < 6) (hx : x < 133) (hd : d < 2 ^ 31) : lsF (nI k) (nI x) (nI d) = nI (lsD k x d) := by
  rw [lsF_lsG, lsD]
  obtain ⟨h1, h2, h3, h4, -⟩ := lsG_nI k hk x hx
  have e20 : (¬ nI d < 20) = (20 ≤ d) := by
    rw [lit20]
    apply propext
    rw [nI_ltI hd (by omega)]
    omega
  by_cases ha : d % 13 = 0
  · have ha' : (irem (nI d) 13 = 0) := by rw [irem13 hd]; exact ha
    by_cases hb : 20 ≤ d
    · simp only [ha, ha', e20, hb, decide_true]; exact h1
    · simp only [ha, ha', e20, hb, decide_true, decide_false]; exact h2
  · have ha' : ¬ (irem (nI d) 13 = 0) := by rw [irem13 hd]; exact ha
    by_cases hb : 20 ≤ d
    · simp only [ha, ha', e20, hb, decide_true, decide_false]; exact h3
    · simp only [ha, ha', e20, hb, decide_false]; exact h4
theorem lsD_le {k x d : Nat} (hk : k < 6) (hx : x < 133) : lsD k x d ≤ 68 := by
  obtain ⟨-, -, -, -, h1, h2, h3, h4⟩ := lsG_nI k hk x hx
  unfold lsD
  by_cases ha : d % 13 = 0 <;> by_cases hb : 20 ≤ d <;> simp only [ha, hb, decide_true, decide_false] <;> assumption
/-- one bit of a small set -/
def btN (h k : Nat) : Nat := h / 2 ^ k % 2
set_option maxRecDepth 100000 in
theorem bit_nI0 : ∀ h, h < 256 → ∀ k, k < 8 → (ishr (nI h) (nI k)) &&& 1 = nI (btN h k) := by decide +kernel
theorem bit_nI {h k : Nat} (hh : h < 256) (hk : k < 8) : (ishr (nI h) (nI k)) &&& 1 = nI (btN h k) := bit_nI0 h hh k hk
theorem btN_lt (h k : Nat) : btN h k < 2 := Nat.mod_lt _ (by decide)
theorem bit_is {h k : Nat} (hh : h < 256) (hk : k < 8) : ((ishr (nI h) (nI k)) &&& 1 = 1) = (btN h k = 1) := by
  rw [bit_nI hh hk, show (1 : Int32) = nI 1 from rfl]
  exact propext (nI_eq (by have := btN_lt h k; omega) (by omega))
/-- how far -/
def farN (a b : Nat) : Nat := (a / 5 - b / 5) + (b / 5 - a / 5) + ((a % 5 - b % 5) + (b % 5 - a % 5))
def apI (a b : Int32) : Int32 := if a ≤ b then b - a else a - b
def farC (c f : Int32) : Int32 := iabs ((c / 5) - (f / 5)) + iabs ((irem c 5) - (irem f 5))
def farM (f c : Int32) : Int32 := apI (f / 5) (c / 5) + apI (irem f 5) (irem c 5)
set_option maxRecDepth 100000 in
theorem far_nI : ∀ c, c < 25 → ∀ f, f < 25 → (farC (nI c) (nI f) = nI (farN c f) ∧ farM (nI f) (nI c) = nI (farN c f) ∧ farN c f < 9) := by decide +kernel
theorem w_apart (a b : Int32) (Q : Int32 → Prop) : wp_Mo_apart a b Q = Q (apI a b) := by
  unfold wp_Mo_apart apI
  simp only [br_ite, apply_ite Q]
theorem w_far (f c : Int32) (Q : Int32 → Prop) : wp_Mo_far f c Q = Q (farM f c) := by
  unfold wp_Mo_far farM
  simp only [w_apart]
theorem w_has (s k : Int32) (Q : Int32 → Prop) : wp_Mo_has s k Q = Q (if (ishr s k) &&& 1 = 1 then 1 else 0) := by
  unfold wp_Mo_has
  simp only [br_itn, apply_ite Q]
/-- the smell of a cell: of the first n flitches -/
def smN (fk fc fs : Nat → Nat) (h c d : Nat) : Nat → Nat
  | 0 => 0
  | n + 1 => smN fk fc fs h c d n + (if btN h n = 1 then scD (fk n) (fs n) (farN c (fc n)) d else 0)
def FlOk (nl : Nat) (fk fc fs : Nat → Nat) : Prop := nl ≤ 3 ∧ ∀ k, k < nl → fk k < 6 ∧ fc k < 25 ∧ 1 ≤ fs k ∧ fs k ≤ 20
theorem smN_le {nl : Nat} {fk fc fs : Nat → Nat} (hF : FlOk nl fk fc fs) (h c d : Nat) (hc : c < 25) : ∀ n, n ≤ nl → smN fk fc fs h c d n ≤ 44 * n := by
  intro n
  induction n with
  | zero => intro _; simp [smN]
  | succ n ih =>
    intro hn
    have h1 := ih (by omega)
    obtain ⟨g1, g2, g3, g4⟩ := hF.2 n (by omega)
    have h2 := scD_le (k := fk n) (s := fs n) (f := farN c (fc n)) (d := d) g1 (by omega) (far_nI c hc (fc n) g2).2.2
    simp only [smN]
    split <;> omega
theorem smN_133 {nl : Nat} {fk fc fs : Nat → Nat} (hF : FlOk nl fk fc fs) (h c d : Nat) (hc : c < 25) : smN fk fc fs h c d nl < 133 := by
  have := smN_le hF h c d hc nl (Nat.le_refl _)
  have := hF.1
  omega
/-- an array holds numbers -/
def Ar (n : Nat) (f : Nat → Int32) (g : Nat → Nat) : Prop := ∀ i, i < n → f i = nI (g i)
theorem s_scentAt {nl h c d : Nat} {fk fc fs : Nat → Nat} {K C S : Nat → Int32} (hF : FlOk nl fk fc fs) (hK : Ar nl K fk) (hC : Ar nl C fc) (hS : Ar nl S fs) (hh : h < 256) (hc : c < 25) (hd : d < 2 ^ 31) {Q : Int32 → Prop} (hQ : Q (nI (smN fk fc fs h c d nl))) : wp_Pa_scentAt (nI c) (nI d) (nI h) (nI nl) C K S Q := by
  have hn := hF.1
  unfold wp_Pa_scentAt
  refine lpw2_run (fun j => nI (smN fk fc fs h c d j)) nI nl ?_ ?_ 0 (Nat.zero_le _)
  · intro B j hj hB
    obtain ⟨g1, g2, g3, g4⟩ := hF.2 j hj
    obtain ⟨f1, -, f3⟩ := far_nI c hc (fc j) g2
    refine ⟨fun q => absurd q (nI_ge hj (by omega)), fun _ => ?_⟩
    have hv : vp_in (nI j) 3 := vp_in_nI (by omega) (by omega)
    simp only [br_itn, bit_is hh (show j < 8 by omega), fe_e, w_scent, nI_clamp (show j < 2 ^ 31 by omega), hK j hj, hC j hj, hS j hj, hv, true_and]
    have e1 : iabs ((nI c / 5) - (nI (fc j) / 5)) + iabs ((irem (nI c) 5) - (irem (nI (fc j)) 5)) = nI (farN c (fc j)) := f1
    rw [e1, scF_nI g1 (by omega) f3 hd]
    simp only [nI_add, nI_1]
    by_cases hb : btN h j = 1
    · simp only [hb, if_true]
      simp only [smN, hb, if_true] at hB
      exact hB
    · simp only [hb, if_false]
      simp only [smN, hb, if_false, Nat.add_zero] at hB
      exact hB
  · intro B
    exact ⟨fun _ => hQ, fun q => absurd (nI_le (Nat.le_refl _) (by omega)) q⟩
theorem s_smellOf {nl h c d : Nat} {fk fc fs : Nat → Nat} {row : Nat → Int32} (hF : FlOk nl fk fc fs) (hn : row 17 = nI nl) (hK : Ar nl (fun k => row (18 + k)) fk) (hC : Ar nl (fun k => row (21 + k)) fc) (hS : Ar nl (fun k => row (24 + k)) fs) (hh : h < 256) (hc : c < 25) (hd : d < 2 ^ 31) {Q : Int32 → Prop} (hQ : Q (nI (smN fk fc fs h c d nl))) : wp_Mo_smellOf (nI h) (nI c) (nI d) row Q := by
  have hn3 := hF.1
  unfold wp_Mo_smellOf
  have e17 : row (Int32.toNatClampNeg 17) = nI nl := hn
  simp only [e17]
  refine lpw2_run (fun j => nI (smN fk fc fs h c d j)) nI nl ?_ ?_ 0 (Nat.zero_le _)
  · intro B j hj hB
    obtain ⟨g1, g2, g3, g4⟩ := hF.2 j hj
    obtain ⟨-, f2, f3⟩ := far_nI c hc (fc j) g2
    refine ⟨fun q => absurd q (nI_ge hj (by omega)), fun _ => ?_⟩
    have a1 : (18 : Int32) + nI j = nI (18 + j) := nI_add 18 j
    have a2 : (24 : Int32) + nI j = nI (24 + j) := nI_add 24 j
    have a3 : (21 : Int32) + nI j = nI (21 + j) := nI_add 21 j
    have v1 : vp_in (nI (18 + j)) 770 := vp_in_nI (by omega) (by omega)
    have v2 : vp_in (nI (24 + j)) 770 := vp_in_nI (by omega) (by omega)
    have v3 : vp_in (nI (21 + j)) 770 := vp_in_nI (by omega) (by omega)
    have k1 : row (18 + j) = nI (fk j) := hK j hj
    have k2 : row (24 + j) = nI (fs j) := hS j hj
    have k3 : row (21 + j) = nI (fc j) := hC j hj
    simp only [w_has, br_ite, w_far, w_smellBy, fe_e, a1, a2, a3, v1, v2, v3, true_and, nI_clamp (show 18 + j < 2 ^ 31 by omega), nI_clamp (show 24 + j < 2 ^ 31 by omega), nI_clamp (show 21 + j < 2 ^ 31 by omega), k1, k2, k3, f2, scF_nI g1 (show fs j < 21 by omega) f3 hd, bit_is hh (show j < 8 by omega)]
    by_cases hb : btN h j = 1
    · simp only [hb, if_true, jn1, show ¬ ((1 : Int32) = 0) by decide, if_false, nI_add, nI_1]
      simp only [smN, hb, if_true] at hB
      exact hB
    · simp only [hb, if_false, jn1, if_true, nI_1]
      simp only [smN, hb, if_false, Nat.add_zero] at hB
      rw [show nI (smN fk fc fs h c d j) + 0 = nI (smN fk fc fs h c d j) from nI_add _ 0]
      exact hB
  · intro B
    exact ⟨fun _ => hQ, fun q => absurd (nI_le (Nat.le_refl _) (by omega)) q⟩
