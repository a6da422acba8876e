/-! PURE PART. The connectives, as equations -/
theorem br_ite {c A B : Prop} [Decidable c] : ((c → A) ∧ (¬ c → B)) = (if c then A else B) := by
  by_cases h : c <;> simp [h]
theorem br_itn {c A B : Prop} [Decidable c] : ((¬ c → B) ∧ (c → A)) = (if c then A else B) := by
  by_cases h : c <;> simp [h]
theorem fe_e {α : Sort _} {e : α} {P : α → Prop} : (∀ x, x = e → P x) = P e := by
  apply propext
  exact ⟨fun h => h e rfl, fun h x hx => hx ▸ h⟩
theorem jn1_br {α : Type} {c : Prop} [Decidable c] {a b : α} {K : α → Prop} : jn1 (fun J => ((c → J a) ∧ (¬ c → J b))) K = K (if c then a else b) := by
  show ((c → K a) ∧ (¬ c → K b)) = _
  by_cases h : c <;> simp [h]
theorem jn1_brn {α : Type} {c : Prop} [Decidable c] {a b : α} {K : α → Prop} : jn1 (fun J => ((¬ c → J b) ∧ (c → J a))) K = K (if c then a else b) := by
  show ((¬ c → K b) ∧ (c → K a)) = _
  by_cases h : c <;> simp [h]
theorem jn1_it {α : Type} {c : Prop} [Decidable c] {a b : α} {K : α → Prop} : jn1 (fun J => (if c then J a else J b)) K = K (if c then a else b) := by
  show (if c then K a else K b) = _
  by_cases h : c <;> simp [h]
/-- a test's answer -/
def inB (x lo hi : Int32) : Int32 := if x < lo then 0 else if hi < x then 0 else 1
theorem inB_bz (x lo hi : Int32) : bz (inB x lo hi) := by
  unfold inB
  split
  · exact bz0
  · split
    · exact bz0
    · exact bz1
theorem inB_0 (x lo hi : Int32) : inB x lo hi = 0 ↔ ¬ (lo ≤ x ∧ x ≤ hi) := by
  unfold inB
  split
  · rename_i h; simp; intro h2; exact absurd h (Int32.not_lt.mpr h2)
  · rename_i h
    split
    · rename_i h2; simp; intro _; exact h2
    · rename_i h2; simp; exact ⟨Int32.not_lt.mp h, Int32.not_lt.mp h2⟩
theorem w_within (x lo hi : Int32) (Q : Int32 → Prop) : wp_Rc_within x lo hi Q = Q (inB x lo hi) := by
  unfold wp_Rc_within inB
  by_cases h : x < lo
  · simp [h]
  · by_cases h2 : hi < x <;> simp [h, h2]
theorem w_in (x lo hi : Int32) (Q : Int32 → Prop) : wp_Mo_in x lo hi Q = Q (inB x lo hi) := by
  unfold wp_Mo_in inB
  by_cases h : x < lo
  · simp [h]
  · by_cases h2 : hi < x <;> simp [h, h2]
/-- how a flitch smells -/
def plF (s f : Int32) : Int32 := if s ≤ 2 * f then 0 else s - 2 * f
def smF (p : Int32) : Int32 := if p < 1 then 0 else p + 2
def drF (p d : Int32) : Int32 := if irem d 7 = 0 then p + 5 else p
def suF (q : Int32) : Int32 := if q ≤ 1 then 1 else q
def scF (k s f d : Int32) : Int32 :=
  if k = 1 then smF (plF s f) else if k = 2 then drF (plF s f) d else if k = 3 then 2 * smF (plF s f) else if k = 4 then (plF s f + 1) / 2 else if k = 5 then suF (drF (plF s f) d - f) else plF s f
/-- what a smell takes -/
def grF (p : Int32) : Int32 := if p ≤ 0 then 0 else p - 1
def chF (x : Int32) : Int32 := if x < 1 then x / 2 else x / 2 + 2
def lsF (k x d : Int32) : Int32 :=
  if k = 1 then grF (x / 2) else if k = 2 then chF x else if k = 3 then (if irem d 13 = 0 then 6 else grF (x / 2)) else if k = 4 then (if d < 20 then x / 2 else x / 2 + 1) else if k = 5 then (if 2 * chF x ≤ 9 then 2 * chF x else 9) else x / 2
theorem w_scent (k s f d : Int32) (Q : Int32 → Prop) : wp_Nt_scent k s f d Q = Q (scF k s f d) := by
  unfold wp_Nt_scent
  simp only [br_ite, br_itn, jn1_it]
  unfold scF smF drF suF plF
  simp only [apply_ite Q]
theorem lt1 (p : Int32) : p ≤ 0 ↔ p < 1 := by
  rw [Int32.le_iff_toInt_le, Int32.lt_iff_toInt_lt]
  show p.toInt ≤ 0 ↔ p.toInt < 1
  omega
theorem w_smellBy (k s f d : Int32) (Q : Int32 → Prop) : wp_Mo_smellBy k s f d Q = Q (scF k s f d) := by
  unfold wp_Mo_smellBy
  simp only [br_ite, br_itn, jn1_it, lt1]
  unfold scF smF drF suF plF
  simp only [apply_ite Q]
  have h : ∀ q : Int32, (if 1 ≤ q then Q q else Q 1) = (if q ≤ 1 then Q 1 else Q q) := by
    intro q
    by_cases h1 : 1 ≤ q
    · by_cases h2 : q ≤ 1
      · have : q = 1 := Int32.le_antisymm h2 h1
        simp [this]
      · simp [h1, h2]
    · have h2 : q ≤ 1 := Int32.le_of_lt (Int32.not_le.mp h1)
      simp [h1, h2]
  simp only [h]
theorem w_loss (k x d : Int32) (Q : Int32 → Prop) : wp_Nt_loss k x d Q = Q (lsF k x d) := by
  unfold wp_Nt_loss
  simp only [br_ite, br_itn, jn1_it, fe_e]
  have hg : imax 0 (x / 2 - 1) = grF (x / 2) := by
    unfold grF
    have hb : -1073741824 ≤ (x / 2).toInt ∧ (x / 2).toInt ≤ 1073741824 := by
      have := Int32.toInt_div x 2
      rw [this]
      have h1 := Int32.toInt_lt x
      have h2 := Int32.le_toInt x
      show -1073741824 ≤ (x.toInt.tdiv 2).bmod (2 ^ 32) ∧ (x.toInt.tdiv 2).bmod (2 ^ 32) ≤ 1073741824
      have h3 : -1073741824 ≤ x.toInt.tdiv 2 ∧ x.toInt.tdiv 2 ≤ 1073741824 := by
        rcases Int.le_total 0 x.toInt with h | h
        · rw [Int.tdiv_eq_ediv_of_nonneg h]; omega
        · have e : x.toInt.tdiv 2 = -((-x.toInt).tdiv 2) := by rw [Int.neg_tdiv]; omega
          rw [e, Int.tdiv_eq_ediv_of_nonneg (by omega)]; omega
      rw [Int.bmod_eq_of_le] <;> omega
    have hs : (x / 2 - 1).toInt = (x / 2).toInt - 1 := by
      rw [Int32.toInt_sub]
      show ((x / 2).toInt - 1).bmod (2 ^ 32) = _
      rw [Int.bmod_eq_of_le] <;> omega
    show (if 0 < x / 2 - 1 then x / 2 - 1 else 0) = _
    by_cases h1 : x / 2 ≤ 0
    · rw [if_pos h1, if_neg]
      intro h2
      rw [Int32.lt_iff_toInt_lt, hs] at h2
      rw [Int32.le_iff_toInt_le] at h1
      have e0 : (0 : Int32).toInt = 0 := rfl
      omega
    · rw [if_neg h1]
      by_cases h2 : 0 < x / 2 - 1
      · rw [if_pos h2]
      · rw [if_neg h2]
        apply Int32.toInt_inj.mp
        rw [hs]
        rw [Int32.lt_iff_toInt_lt, hs] at h2
        rw [Int32.le_iff_toInt_le] at h1
        have e0 : (0 : Int32).toInt = 0 := rfl
        omega
  have hm : ∀ y : Int32, imin 9 y = (if y ≤ 9 then y else 9) := by
    intro y
    show (if y < 9 then y else 9) = _
    by_cases h1 : y < 9
    · rw [if_pos h1, if_pos (Int32.le_of_lt h1)]
    · rw [if_neg h1]
      by_cases h2 : y ≤ 9
      · rw [if_pos h2]; exact (Int32.le_antisymm h2 (Int32.not_lt.mp h1)).symm
      · rw [if_neg h2]
  rw [hg]
  simp only [hm]
  unfold lsF chF
  simp only [apply_ite Q]
theorem w_takesBy (k x d : Int32) (Q : Int32 → Prop) : wp_Mo_takesBy k x d Q = Q (lsF k x d) := by
  unfold wp_Mo_takesBy
  simp only [br_ite, br_itn, jn1_it, fe_e]
  have h19 : d ≤ 19 ↔ d < 20 := by
    rw [Int32.le_iff_toInt_le, Int32.lt_iff_toInt_lt]
    show d.toInt ≤ 19 ↔ d.toInt < 20
    omega
  unfold lsF chF grF
  simp only [apply_ite Q, h19, lt1 x]
