/-! PURE PART. The connectives, as equations -/
theorem br_ite {c A B : Prop} [Decidable c] : ((c → A) ∧ (¬ c → B)) = (if c then A else B) := by
  by_cases h : c <;> simp [h]
theorem br_itn {c A B : Prop} [Decidable c] : ((¬ c → B) ∧ (c → A)) = (if c then A else B) := by
  by_cases h : c <;> simp [h]
theorem fe_e {α : Sort _} {e : α} {P : α → Prop} : (∀ x, x = e → P x) = P e := by
  apply propext
  exact ⟨fun h => h e rfl, fun h x hx => hx ▸ h⟩
theorem jn1_br {α : Type} {c : Prop} [Decidable c] {a b : α} {K : α → Prop} : jn1 (fun J => ((c → J a) ∧ (¬ c → J b))) K = K (if c then a else b) := by
  show ((c → K a) ∧ (¬ c → K b)) = _
  by_cases h : c <;> simp [h]
theorem jn1_brn {α : Type} {c : Prop} [Decidable c] {a b : α} {K : α → Prop} : jn1 (fun J => ((¬ c → J b) ∧ (c → J a))) K = K (if c then a else b) := by
  show ((¬ c → K b) ∧ (c → K a)) = _
  by_cases h : c <;> simp [h]
/-- a test's answer -/
def inB (x lo hi : Int32) : Int32 := if x < lo then 0 else if hi < x then 0 else 1
theorem inB_bz (x lo hi : Int32) : bz (inB x lo hi) := by
  unfold inB
  split
  · exact bz0
  · split
    · exact bz0
    · exact bz1
theorem inB_0 (x lo hi : Int32) : inB x lo hi = 0 ↔ ¬ (lo ≤ x ∧ x ≤ hi) := by
  unfold inB
  split
  · rename_i h; simp; intro h2; exact absurd h (Int32.not_lt.mpr h2)
  · rename_i h
    split
    · rename_i h2; simp; intro _; exact h2
    · rename_i h2; simp; exact ⟨Int32.not_lt.mp h, Int32.not_lt.mp h2⟩
theorem w_within (x lo hi : Int32) (Q : Int32 → Prop) : wp_Rc_within x lo hi Q = Q (inB x lo hi) := by
  unfold wp_Rc_within inB
  by_cases h : x < lo
  · simp [h]
  · by_cases h2 : hi < x <;> simp [h, h2]
theorem w_in (x lo hi : Int32) (Q : Int32 → Prop) : wp_Mo_in x lo hi Q = Q (inB x lo hi) := by
  unfold wp_Mo_in inB
  by_cases h : x < lo
  · simp [h]
  · by_cases h2 : hi < x <;> simp [h, h2]
/-- how a flitch smells -/
def plF (s f : Int32) : Int32 := if s ≤ 2 * f then 0 else s - 2 * f
def smF (p : Int32) : Int32 := if p < 1 then 0 else p + 2
def drF (p d : Int32) : Int32 := if irem d 7 = 0 then p + 5 else p
def suF (q : Int32) : Int32 := if q ≤ 1 then 1 else q
def scF (k s f d : Int32) : Int32 :=
  if k = 1 then smF (plF s f) else if k = 2 then drF (plF s f) d else if k = 3 then 2 * smF (plF s f) else if k = 4 then (plF s f + 1) / 2 else if k = 5 then suF (drF (plF s f) d - f) else plF s f
/-- what a smell takes -/
def grF (p : Int32) : Int32 := if p ≤ 0 then 0 else p - 1
def chF (x : Int32) : Int32 := if x < 1 then x / 2 else x / 2 + 2
def lsF (k x d : Int32) : Int32 :=
  if k = 1 then grF (x / 2) else if k = 2 then chF x else if k = 3 then (if irem d 13 = 0 then 6 else grF (x / 2)) else if k = 4 then (if d < 20 then x / 2 else x / 2 + 1) else if k = 5 then (if 2 * chF x ≤ 9 then 2 * chF x else 9) else x / 2
theorem w_scent (k s f d : Int32) (Q : Int32 → Prop) : wp_Nt_scent k s f d Q = Q (scF k s f d) := by
  unfold wp_Nt_scent
  simp only [jn1_br, jn1_brn, br_ite, br_itn]
  unfold scF smF drF suF plF
  simp only [apply_ite Q]
theorem lt1 (p : Int32) : p ≤ 0 ↔ p < 1 := by
  rw [Int32.le_iff_toInt_le, Int32.lt_iff_toInt_lt]
  show p.toInt ≤ 0 ↔ p.toInt < 1
  omega
theorem w_smellBy (k s f d : Int32) (Q : Int32 → Prop) : wp_Mo_smellBy k s f d Q = Q (scF k s f d) := by
  unfold wp_Mo_smellBy
  simp only [jn1_br, jn1_brn, br_ite, br_itn, lt1]
  unfold scF smF drF suF plF
  simp only [apply_ite Q]
  have h : ∀ q : Int32, (if 1 ≤ q then Q q else Q 1) = (if q ≤ 1 then Q 1 else Q q) := by
    intro q
    by_cases h1 : 1 ≤ q
    · by_cases h2 : q ≤ 1
      · have : q = 1 := Int32.le_antisymm h2 h1
        simp [this]
      · simp [h1, h2]
    · have h2 : q ≤ 1 := Int32.le_of_lt (Int32.not_le.mp h1)
      simp [h1, h2]
  simp only [h]
