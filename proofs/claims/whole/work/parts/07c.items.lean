/-! PURE: items of a text, both sides -/
def tnK {α : Type} (n : Nat) (t : Nat → Nat) (w a i fl fa : Nat) (bad : Nat → α) (ok : Nat → Nat → Nat → Nat → Nat → α) : α :=
  if w = 2 then (if 3 ≤ fl then bad a else numK n t i 0 6 bad (fun v0 i0 => numK n t i0 0 25 bad (fun v1 i1 => numK n t i1 1 21 bad (fun v2 i2 => ok v0 v1 v2 0 i2))))
  else if w = 3 then (if 7 ≤ fa then bad a else numK n t i 0 6 bad (fun v0 i0 => numK n t i0 0 2 bad (fun v1 i1 => numK n t i1 0 25 bad (fun v2 i2 => numK n t i2 1 100 bad (fun v3 i3 => ok v0 v1 v2 v3 i3)))))
  else if w = 4 then numK n t i 0 fl bad (fun v0 i0 => ok v0 0 0 0 i0)
  else if w = 5 then numK n t i 1 100 bad (fun v0 i0 => ok v0 0 0 0 i0)
  else bad a
def BdN (w fl fa v0 v1 v2 v3 : Nat) : Prop := (w = 2 ∧ fl < 3 ∧ v0 < 6 ∧ v1 < 25 ∧ 1 ≤ v2 ∧ v2 ≤ 20) ∨ (w = 3 ∧ fa < 7 ∧ v0 < 6 ∧ v1 < 2 ∧ v2 < 25 ∧ 1 ≤ v3 ∧ v3 ≤ 99) ∨ (w = 4 ∧ v0 < fl) ∨ (w = 5 ∧ 1 ≤ v0 ∧ v0 ≤ 99)
theorem tnK_map {α β : Type} (g : α → β) (n : Nat) (t : Nat → Nat) (w a i fl fa : Nat) (bad : Nat → α) (ok : Nat → Nat → Nat → Nat → Nat → α) : g (tnK n t w a i fl fa bad ok) = tnK n t w a i fl fa (fun a => g (bad a)) (fun v0 v1 v2 v3 j => g (ok v0 v1 v2 v3 j)) := by
  unfold tnK
  split
  · split
    · rfl
    · simp only [numK_map g]
  · split
    · split
      · rfl
      · simp only [numK_map g]
    · split
      · simp only [numK_map g]
      · split
        · simp only [numK_map g]
        · rfl
theorem tnK_mono {n : Nat} {t : Nat → Nat} {w a i fl fa : Nat} {bad bad' : Nat → Prop} {ok ok' : Nat → Nat → Nat → Nat → Nat → Prop} (hi : i ≤ n) (ha : a ≤ n) (hb : ∀ a, a ≤ n → bad a → bad' a) (ho : ∀ v0 v1 v2 v3 j, BdN w fl fa v0 v1 v2 v3 → i < j → j ≤ n → ok v0 v1 v2 v3 j → ok' v0 v1 v2 v3 j) (h : tnK n t w a i fl fa bad ok) : tnK n t w a i fl fa bad' ok' := by
  unfold tnK at h ⊢
  by_cases w2 : w = 2
  · rw [if_pos w2] at h ⊢
    by_cases q : 3 ≤ fl
    · rw [if_pos q] at h ⊢; exact hb _ ha h
    · rw [if_neg q] at h ⊢
      exact numK_mono hi hb (fun v0 i0 a1 a2 a3 a4 h => numK_mono a4 hb (fun v1 i1 b1 b2 b3 b4 h => numK_mono b4 hb (fun v2 i2 c1 c2 c3 c4 h => ho v0 v1 v2 0 i2 (Or.inl ⟨w2, by omega, a2, b2, c1, by omega⟩) (by omega) c4 h) h) h) h
  · rw [if_neg w2] at h ⊢
    by_cases w3 : w = 3
    · rw [if_pos w3] at h ⊢
      by_cases q : 7 ≤ fa
      · rw [if_pos q] at h ⊢; exact hb _ ha h
      · rw [if_neg q] at h ⊢
        exact numK_mono hi hb (fun v0 i0 a1 a2 a3 a4 h => numK_mono a4 hb (fun v1 i1 b1 b2 b3 b4 h => numK_mono b4 hb (fun v2 i2 c1 c2 c3 c4 h => numK_mono c4 hb (fun v3 i3 d1 d2 d3 d4 h => ho v0 v1 v2 v3 i3 (Or.inr (Or.inl ⟨w3, by omega, a2, b2, c2, d1, by omega⟩)) (by omega) d4 h) h) h) h) h
    · rw [if_neg w3] at h ⊢
      by_cases w4 : w = 4
      · rw [if_pos w4] at h ⊢
        exact numK_mono hi hb (fun v0 i0 a1 a2 a3 a4 h => ho v0 0 0 0 i0 (Or.inr (Or.inr (Or.inl ⟨w4, a2⟩))) a3 a4 h) h
      · rw [if_neg w4] at h ⊢
        by_cases w5 : w = 5
        · rw [if_pos w5] at h ⊢
          exact numK_mono hi hb (fun v0 i0 a1 a2 a3 a4 h => ho v0 0 0 0 i0 (Or.inr (Or.inr (Or.inr ⟨w5, a1, by omega⟩))) a3 a4 h) h
        · rw [if_neg w5] at h ⊢; exact hb _ ha h
def NuOk (w : Nat) (nu : Nat → Int32) (v0 v1 v2 v3 : Nat) : Prop := nu 0 = nI v0 ∧ (w = 2 ∨ w = 3 → nu 1 = nI v1 ∧ nu 2 = nI v2) ∧ (w = 3 → nu 3 = nI v3)
theorem n01 : ¬ (1 : Int32) = 0 := by decide
theorem s_takesNumbers {n a i w fl fa : Nat} {t : Nat → Nat} {xt nums : Nat → Int32} {tk v : Int32} {Q : Int32 → Int32 → Int32 → Int32 → Int32 → (Nat → Int32) → Prop} (hT : TX n t xt) (hi : i ≤ n) (hw : w < 6) (hfl : fl ≤ 3) (hfa : fa ≤ 7)
    (h : tnK n t w a i fl fa (fun a => ∀ pl tk v nu, Q 0 pl (nI a) tk v nu) (fun v0 v1 v2 v3 j => ∀ st tk vv nu, NuOk w nu v0 v1 v2 v3 → Q 1 (nI j) st tk vv nu)) : wp_Tl_takesNumbers (nI w) (nI n) (nI i) (nI a) tk v xt (nI fl) (nI fa) nums Q := by
  unfold wp_Tl_takesNumbers
  unfold tnK at h
  by_cases w2 : w = 2
  · subst w2
    rw [if_pos rfl] at h
    refine ⟨fun _ => ?_, fun z => absurd rfl z⟩
    by_cases q : 3 ≤ fl
    · rw [if_pos q] at h
      exact ⟨fun _ => h _ _ _ _, fun z => absurd (nI_le (a := 3) q (by omega)) z⟩
    · rw [if_neg q] at h
      refine ⟨fun z => absurd z (nI_ge (b := 3) (by omega) (by decide)), fun _ => ?_⟩
      refine s_takesNumber (lo := 0) (hs := 6) (slot := 0) hT hi rfl rfl rfl (by omega) (by omega) (by omega) (numK_mono hi (fun a _ hb pl tk v nu => ⟨fun _ => hb _ _ _ _, fun z => absurd rfl z⟩) (fun v0 i0 a1 a2 a3 a4 h st tk => ⟨fun z => absurd z n01, fun _ => ?_⟩) h)
      refine s_takesNumber (lo := 0) (hs := 25) (slot := 1) hT a4 rfl rfl rfl (by omega) (by omega) (by omega) (numK_mono a4 (fun a _ hb pl tk v nu => ⟨fun _ => hb _ _ _ _, fun z => absurd rfl z⟩) (fun v1 i1 b1 b2 b3 b4 h st tk => ⟨fun z => absurd z n01, fun _ => ?_⟩) h)
      refine s_takesNumber (lo := 1) (hs := 21) (slot := 2) hT b4 rfl rfl rfl (by omega) (by omega) (by omega) (numK_mono b4 (fun a _ hb pl tk v nu => ⟨fun _ => hb _ _ _ _, fun z => absurd rfl z⟩) (fun v2 i2 c1 c2 c3 c4 h st tk => ⟨fun z => absurd z n01, fun _ => ?_⟩) h)
      refine h _ _ _ _ ⟨?_, fun _ => ⟨?_, ?_⟩, fun z => absurd z (by omega)⟩
      · rw [pk_un (by omega), pk_un (by omega), pk_us]
      · rw [pk_un (by omega), pk_us]
      · rw [pk_us]
  · rw [if_neg w2] at h
    refine ⟨fun z => absurd ((nI_eq (b := 2) (by omega) (by omega)).mp z) w2, fun _ => ?_⟩
    by_cases w3 : w = 3
    · subst w3
      rw [if_pos rfl] at h
      refine ⟨fun _ => ?_, fun z => absurd rfl z⟩
      by_cases q : 7 ≤ fa
      · rw [if_pos q] at h
        exact ⟨fun _ => h _ _ _ _, fun z => absurd (nI_le (a := 7) q (by omega)) z⟩
      · rw [if_neg q] at h
        refine ⟨fun z => absurd z (nI_ge (b := 7) (by omega) (by decide)), fun _ => ?_⟩
        refine s_takesNumber (lo := 0) (hs := 6) (slot := 0) hT hi rfl rfl rfl (by omega) (by omega) (by omega) (numK_mono hi (fun a _ hb pl tk v nu => ⟨fun _ => hb _ _ _ _, fun z => absurd rfl z⟩) (fun v0 i0 a1 a2 a3 a4 h st tk => ⟨fun z => absurd z n01, fun _ => ?_⟩) h)
        refine s_takesNumber (lo := 0) (hs := 2) (slot := 1) hT a4 rfl rfl rfl (by omega) (by omega) (by omega) (numK_mono a4 (fun a _ hb pl tk v nu => ⟨fun _ => hb _ _ _ _, fun z => absurd rfl z⟩) (fun v1 i1 b1 b2 b3 b4 h st tk => ⟨fun z => absurd z n01, fun _ => ?_⟩) h)
        refine s_takesNumber (lo := 0) (hs := 25) (slot := 2) hT b4 rfl rfl rfl (by omega) (by omega) (by omega) (numK_mono b4 (fun a _ hb pl tk v nu => ⟨fun _ => hb _ _ _ _, fun z => absurd rfl z⟩) (fun v2 i2 c1 c2 c3 c4 h st tk => ⟨fun z => absurd z n01, fun _ => ?_⟩) h)
        refine s_takesNumber (lo := 1) (hs := 100) (slot := 3) hT c4 rfl rfl rfl (by omega) (by omega) (by omega) (numK_mono c4 (fun a _ hb pl tk v nu => ⟨fun _ => hb _ _ _ _, fun z => absurd rfl z⟩) (fun v3 i3 d1 d2 d3 d4 h st tk => ⟨fun z => absurd z n01, fun _ => ?_⟩) h)
        refine h _ _ _ _ ⟨?_, fun _ => ⟨?_, ?_⟩, fun _ => ?_⟩
        · rw [pk_un (by omega), pk_un (by omega), pk_un (by omega), pk_us]
        · rw [pk_un (by omega), pk_un (by omega), pk_us]
        · rw [pk_un (by omega), pk_us]
        · rw [pk_us]
    · rw [if_neg w3] at h
      refine ⟨fun z => absurd ((nI_eq (b := 3) (by omega) (by omega)).mp z) w3, fun _ => ?_⟩
      by_cases w4 : w = 4
      · subst w4
        rw [if_pos rfl] at h
        refine ⟨fun _ => ?_, fun z => absurd rfl z⟩
        exact s_takesNumber (lo := 0) (hs := fl) (slot := 0) hT hi rfl rfl rfl (by omega) (by omega) (by omega) (numK_mono hi (fun a _ hb pl tk v nu => ⟨bz0, hb _ _ _ _⟩) (fun v0 i0 a1 a2 a3 a4 h st tk => ⟨bz1, h _ _ _ _ ⟨by rw [pk_us], fun z => absurd z (by omega), fun z => absurd z (by omega)⟩⟩) h)
      · rw [if_neg w4] at h
        refine ⟨fun z => absurd ((nI_eq (b := 4) (by omega) (by omega)).mp z) w4, fun _ => ?_⟩
        by_cases w5 : w = 5
        · subst w5
          rw [if_pos rfl] at h
          refine ⟨fun _ => ?_, fun z => absurd rfl z⟩
          exact s_takesNumber (lo := 1) (hs := 100) (slot := 0) hT hi rfl rfl rfl (by omega) (by omega) (by omega) (numK_mono hi (fun a _ hb pl tk v nu => ⟨bz0, hb _ _ _ _⟩) (fun v0 i0 a1 a2 a3 a4 h st tk => ⟨bz1, h _ _ _ _ ⟨by rw [pk_us], fun z => absurd z (by omega), fun z => absurd z (by omega)⟩⟩) h)
        · rw [if_neg w5] at h
          exact ⟨fun z => absurd ((nI_eq (b := 5) (by omega) (by omega)).mp z) w5, fun _ => h _ _ _ _⟩
/-- what an item does -/
noncomputable def apN (w v0 v1 v2 v3 : Nat) (p : Nat → Nat) : Nat → Nat := if w = 2 then hgN p v0 v1 v2 else if w = 3 then stN p v0 v1 v2 v3 else if w = 4 then updN p 15 (xbN (p 15) v0) else goN v0 p
theorem ap_2 (v0 v1 v2 v3 : Nat) (p : Nat → Nat) : apN 2 v0 v1 v2 v3 p = hgN p v0 v1 v2 := rfl
theorem ap_3 (v0 v1 v2 v3 : Nat) (p : Nat → Nat) : apN 3 v0 v1 v2 v3 p = stN p v0 v1 v2 v3 := rfl
theorem ap_4 (v0 v1 v2 v3 : Nat) (p : Nat → Nat) : apN 4 v0 v1 v2 v3 p = updN p 15 (xbN (p 15) v0) := rfl
theorem ap_5 (v0 v1 v2 v3 : Nat) (p : Nat → Nat) : apN 5 v0 v1 v2 v3 p = goN v0 p := rfl
theorem xb_lt {p : Nat → Nat} (hI : Inv p) {k : Nat} (hk : k < p 17) : xbN (p 15) k < 2 ^ p 17 := by
  have h3 := hI.2.1.1
  have hlt : p 15 < 2 ^ p 17 := by have := hI.2.2.2.1.2.2.2.2.1; rwa [Nat.zero_add] at this
  exact xbN_lt0 (p 17) (by omega) (p 15) hlt k hk
theorem ap_Inv {p : Nat → Nat} {w v0 v1 v2 v3 : Nat} (hI : Inv p) (hB : BdN w (p 17) (p 27) v0 v1 v2 v3) : Inv (apN w v0 v1 v2 v3 p) := by
  rcases hB with ⟨rfl, a1, a2, a3, a4, a5⟩ | ⟨rfl, a1, a2, a3, a4, a5, a6⟩ | ⟨rfl, a1⟩ | ⟨rfl, a1, a2⟩
  · rw [ap_2]; exact hI.hang a1 a2 a3 a4 a5
  · rw [ap_3]; exact hI.settle a1 a2 a3 a4 a5 a6
  · rw [ap_4]; exact hI.upH (xb_lt hI a1)
  · rw [ap_5]; exact hI.go v0
theorem ap_114 {p : Nat → Nat} {w v0 v1 v2 v3 : Nat} (hI : Inv p) (h : p 114 = 0) (hB : BdN w (p 17) (p 27) v0 v1 v2 v3) : apN w v0 v1 v2 v3 p 114 = 0 := by
  rcases hB with ⟨rfl, -⟩ | ⟨rfl, -⟩ | ⟨rfl, -⟩ | ⟨rfl, -⟩
  · rw [ap_2]; unfold hgN; rw [updN_s]
  · rw [ap_3]; unfold stN; rw [updN_s]
  · rw [ap_4, updN_n (by omega)]; exact h
  · rw [ap_5, goN_hi hI v0 (by omega)]; exact h
theorem goN_lo {p : Nat → Nat} (hI : Inv p) (n : Nat) {k : Nat} (h1 : 8 ≤ k) (h2 : k < 16) : goN n p k = p k := by
  have : ∀ m, m ≤ 9999 - p 16 → itN dayN m p k = p k := by
    intro m
    induction m with
    | zero => intro _; rfl
    | succ m ih =>
      intro hm
      show dayN (itN dayN m p) k = _
      rw [dayN_hi _ (itN_Inv hI m (by omega)).1.1 h1 (by omega)]
      exact ih (by omega)
  unfold goN
  rw [this _ (by omega)]
theorem s_carryOut {p : Nat → Nat} {w v0 v1 v2 v3 : Nat} {flC faC hu da : Int32} {faCell faKind faSide faWill flCell flKind flStr : Nat → Int32} {mS : Int32} {mN : Nat → Int32} {nS : Int32} {nN : Nat → Int32} {pS : Int32} {pN : Nat → Int32} {sS : Int32} {sN nu : Nat → Int32} {Q : Int32 → Int32 → Int32 → Int32 → (Nat → Int32) → (Nat → Int32) → (Nat → Int32) → (Nat → Int32) → (Nat → Int32) → (Nat → Int32) → (Nat → Int32) → Int32 → Prop}
    (hPS : PS p flC faC hu da faCell faKind faSide faWill flCell flKind flStr mS mN nS nN pS pN sS sN) (hB : BdN w (p 17) (p 27) v0 v1 v2 v3) (hN : NuOk w nu v0 v1 v2 v3)
    (hQ : ∀ q1 q2 q3 q4 q5 q6 q7 q8 q9 q10 q11 q12, PS (apN w v0 v1 v2 v3 p) q1 q2 q3 q4 q5 q6 q7 q8 q9 q10 q11 mS mN nS nN q12 pN sS sN → Q q1 q2 q3 q4 q5 q6 q7 q8 q9 q10 q11 q12) : wp_Tl_carryOut (nI w) flC faC hu da faCell faKind faSide faWill flCell flKind flStr pS nu Q := by
  obtain ⟨hI, ⟨rfl, rfl, rfl, rfl, a5, a6, a7, a8, a9, a10, a11⟩, hm, hn, hp, hs⟩ := id hPS
  have h7 := hI.1
  have h3 := hI.2.1.1
  obtain ⟨n0, n1, n3⟩ := hN
  have n0' : nu (Int32.toNatClampNeg 0) = nI v0 := n0
  unfold wp_Tl_carryOut
  rw [n0']
  rcases hB with ⟨rfl, c1, c2, c3, c4, c5⟩ | ⟨rfl, c1, c2, c3, c4, c5, c6⟩ | ⟨rfl, c1⟩ | ⟨rfl, c1, c2⟩
  · obtain ⟨m1, m2⟩ := n1 (Or.inl rfl)
    have m1' : nu (Int32.toNatClampNeg 1) = nI v1 := m1
    have m2' : nu (Int32.toNatClampNeg 2) = nI v2 := m2
    rw [m1', m2']
    refine ⟨fun _ => ?_, fun z => absurd rfl z⟩
    refine s_hang hI c1 a9 a10 a11 (fun fc fk fs b1 b2 b3 => ?_)
    exact hQ _ _ _ _ _ _ _ _ _ _ _ _ (hPS.hang c1 c2 c3 c4 c5 b1 b2 b3)
  · obtain ⟨m1, m2⟩ := n1 (Or.inr rfl)
    have m1' : nu (Int32.toNatClampNeg 1) = nI v1 := m1
    have m2' : nu (Int32.toNatClampNeg 2) = nI v2 := m2
    have m3' : nu (Int32.toNatClampNeg 3) = nI v3 := n3 rfl
    rw [m1', m2', m3']
    refine ⟨fun z => absurd z (by decide), fun _ => ⟨fun _ => ?_, fun z => absurd rfl z⟩⟩
    refine s_settle c1 a5 a6 a7 a8 (fun ce kd si wi b1 b2 b3 b4 => ?_)
    exact hQ _ _ _ _ _ _ _ _ _ _ _ _ (hPS.settle c1 c2 c3 c4 c5 c6 b1 b2 b3 b4)
  · refine ⟨fun z => absurd z (by decide), fun _ => ⟨fun z => absurd z (by decide), fun _ => ⟨fun _ => ?_, fun z => absurd rfl z⟩⟩⟩
    unfold wp_Pa_turn
    intro hu' ehu'
    rw [xor_nI0 (p 15) (p15_lt hI) v0 (by omega)] at ehu'
    subst ehu'
    have e15 : updN p 15 (xbN (p 15) v0) 15 = xbN (p 15) v0 := updN_s
    have e16 : updN p 15 (xbN (p 15) v0) 16 = p 16 := updN_n (by omega)
    have hPS' := PS.mk16 (p' := updN p 15 (xbN (p 15) v0)) (faCell' := faCell) (faWill' := faWill) hPS (hI.upH (xb_lt hI c1)) (fun j h1 h2 => updN_n (by omega)) (hp.up (by omega)) (fun j hj => by rw [a5 j hj]; simp only [updN_n (show 8 + j ≠ 15 by omega)]) (fun j hj => by rw [updN_n (by omega)]; exact a8 j hj)
    rw [e15, e16] at hPS'
    exact hQ _ _ _ _ _ _ _ _ _ _ _ _ hPS'
  · refine ⟨fun z => absurd z (by decide), fun _ => ⟨fun z => absurd z (by decide), fun _ => ⟨fun z => absurd z (by decide), fun _ => ?_⟩⟩⟩
    refine s_passDays (by omega) hI rfl rfl rfl rfl a5 a6 a8 a9 a10 a11 (fun wi hwi => ?_)
    have hPS' := PS.mk16 (p' := goN v0 p) (faCell' := faCell) (faWill' := wi) hPS (hI.go v0) (fun j h1 h2 => goN_hi hI v0 h1) (hp.cong (goN_hi hI v0 (by omega)) (fun j hj => goN_hi hI v0 (by omega))) (fun j hj => by rw [a5 j hj]; simp only [goN_lo hI v0 (show 8 ≤ 8 + j by omega) (by omega)]) hwi
    rw [goN_lo hI v0 (show 8 ≤ 15 by omega) (by omega)] at hPS'
    exact hQ _ _ _ _ _ _ _ _ _ _ _ _ hPS'
/-- the reference's row: not touched, or laid as p says -/
def RJ (d : Int32) (row0 : Nat → Int32) (p : Nat → Nat) (row : Nat → Int32) : Prop := (d = 0 ∧ row = row0) ∨ (d = 1 ∧ MR p row 0 ∧ Hi row row0)
theorem upd_same (row : Nat → Int32) (k : Nat) : upd row k (row k ^^^ 0) = row := by
  funext j
  unfold upd
  by_cases e : j = k
  · rw [if_pos e, e]; exact Int32.xor_zero
  · rw [if_neg e]
theorem s_readsItem {n a i w : Nat} {t : Nat → Nat} {p : Nat → Nat} {mt row row0 : Nat → Int32} {d : Int32} {Q : Int32 → Int32 → Int32 → Int32 → Int32 → (Nat → Int32) → Prop} (hT : TX n t mt) (hi : i ≤ n) (hw2 : 2 ≤ w) (hw5 : w < 6) (hI : Inv p) (hR : RJ d row0 p row)
    (h : tnK n t w a i (p 17) (p 27) (fun a => ∀ b, Q 0 (nI a) b (nI (p 17)) (nI (p 27)) row) (fun v0 v1 v2 v3 j => ∀ b row', RJ d row0 (apN w v0 v1 v2 v3 p) row' → Q 1 b (nI j) (nI (apN w v0 v1 v2 v3 p 17)) (nI (apN w v0 v1 v2 v3 p 27)) row')) : wp_Mo_readsItem (nI w - 1) (nI n) (nI a) (nI i) (nI (p 17)) (nI (p 27)) d row mt Q := by
  have h7 := hI.1
  have h3 := hI.2.1.1
  have hd : d = 0 ∨ d = 1 := by rcases hR with ⟨e, -⟩ | ⟨e, -⟩; exact Or.inl e; exact Or.inr e
  have m1 : ∀ v : Nat, v < 1000 → ¬ nI v = -1 := fun v hv => nI_em1 v (by omega)
  unfold wp_Mo_readsItem
  unfold tnK at h
  rcases (show w = 2 ∨ w = 3 ∨ w = 4 ∨ w = 5 by omega) with rfl | rfl | rfl | rfl
  · rw [if_pos rfl] at h
    refine ⟨fun z => absurd z (by decide), fun _ => ⟨fun _ => ?_, fun z => absurd rfl z⟩⟩
    unfold wp_Mo_readsFlitch
    by_cases q : 3 ≤ p 17
    · rw [if_pos q] at h
      have q3 : p 17 = 3 := by omega
      refine ⟨fun z => absurd (by rw [q3]; rfl) z, fun _ => ⟨bz0, h _⟩⟩
    · rw [if_neg q] at h
      refine ⟨fun _ => ?_, fun z => absurd ((nI_eq (b := 3) (by omega) (by omega)).mp z) (by omega)⟩
      simp only [jn3_e]
      refine s_number (lo := 0) (hs := 6) hT hi rfl rfl (by omega) (by omega) (numK_mono hi (fun a' _ hb b => ⟨fun z => by first | exact absurd rfl z | exact absurd trivial z, fun _ => ⟨fun z => by first | exact absurd rfl z | exact absurd trivial z, fun _ => ⟨fun z => by first | exact absurd rfl z | exact absurd trivial z, fun _ => ⟨bz0, hb _⟩⟩⟩⟩) (fun v0 i0 a1 a2 a3 a4 h b => ⟨fun _ => ?_, fun z => absurd z (m1 v0 (by omega))⟩) h)
      refine s_number (lo := 0) (hs := 25) hT a4 rfl rfl (by omega) (by omega) (numK_mono a4 (fun a' _ hb b => ⟨fun z => by first | exact absurd rfl z | exact absurd trivial z, fun _ => ⟨fun z => by first | exact absurd rfl z | exact absurd trivial z, fun _ => ⟨bz0, hb _⟩⟩⟩) (fun v1 i1 b1 b2 b3 b4 h b => ⟨fun _ => ?_, fun z => absurd z (m1 v1 (by omega))⟩) h)
      refine s_number (lo := 1) (hs := 21) hT b4 rfl rfl (by omega) (by omega) (numK_mono b4 (fun a' _ hb b => ⟨fun z => by first | exact absurd rfl z | exact absurd trivial z, fun _ => ⟨bz0, hb _⟩⟩) (fun v2 i2 c1 c2 c3 c4 h b => ⟨fun _ => ?_, fun z => absurd z (m1 v2 (by omega))⟩) h)
      have hB : BdN 2 (p 17) (p 27) v0 v1 v2 0 := Or.inl ⟨rfl, by omega, a2, b2, c1, by omega⟩
      have e17 : apN 2 v0 v1 v2 0 p 17 = p 17 + 1 := by rw [ap_2]; unfold hgN; rw [updN_n (by omega), updN_s]
      have e27 : apN 2 v0 v1 v2 0 p 27 = p 27 := by rw [ap_2]; exact hgN_o p v0 v1 v2 (by omega) (by omega) (by omega) (by omega) (by omega) (by omega)
      simp only [e17, e27] at h
      simp only [fe_e, nI_1]
      rcases hR with ⟨rfl, er⟩ | ⟨rfl, hM, hH⟩
      · exact ⟨fun _ => ⟨bz1, h _ _ (Or.inl ⟨rfl, er⟩)⟩, fun z => absurd rfl z⟩
      · refine ⟨fun z => absurd z n01, fun _ => ?_⟩
        refine s_addFlitch hI hM (by omega) (fun row' hM' hH' => ⟨bz1, h _ _ (Or.inr ⟨rfl, ?_, hH'.tr hH⟩)⟩)
        rw [ap_2]; exact hM'
  · rw [if_neg (by omega), if_pos rfl] at h
    refine ⟨fun z => absurd z (by decide), fun _ => ⟨fun z => absurd z (by decide), fun _ => ⟨fun _ => ?_, fun z => absurd rfl z⟩⟩⟩
    unfold wp_Mo_readsFamily
    by_cases q : 7 ≤ p 27
    · rw [if_pos q] at h
      have q3 : p 27 = 7 := by omega
      refine ⟨fun z => absurd (by rw [q3]; rfl) z, fun _ => ⟨bz0, h _⟩⟩
    · rw [if_neg q] at h
      refine ⟨fun _ => ?_, fun z => absurd ((nI_eq (b := 7) (by omega) (by omega)).mp z) (by omega)⟩
      simp only [jn3_e]
      refine s_number (lo := 0) (hs := 6) hT hi rfl rfl (by omega) (by omega) (numK_mono hi (fun a' _ hb b => ⟨fun z => by first | exact absurd rfl z | exact absurd trivial z, fun _ => ⟨fun z => by first | exact absurd rfl z | exact absurd trivial z, fun _ => ⟨fun z => by first | exact absurd rfl z | exact absurd trivial z, fun _ => ⟨fun z => by first | exact absurd rfl z | exact absurd trivial z, fun _ => ⟨bz0, hb _⟩⟩⟩⟩⟩) (fun v0 i0 a1 a2 a3 a4 h b => ⟨fun _ => ?_, fun z => absurd z (m1 v0 (by omega))⟩) h)
      refine s_number (lo := 0) (hs := 2) hT a4 rfl rfl (by omega) (by omega) (numK_mono a4 (fun a' _ hb b => ⟨fun z => by first | exact absurd rfl z | exact absurd trivial z, fun _ => ⟨fun z => by first | exact absurd rfl z | exact absurd trivial z, fun _ => ⟨fun z => by first | exact absurd rfl z | exact absurd trivial z, fun _ => ⟨bz0, hb _⟩⟩⟩⟩) (fun v1 i1 b1 b2 b3 b4 h b => ⟨fun _ => ?_, fun z => absurd z (m1 v1 (by omega))⟩) h)
      refine s_number (lo := 0) (hs := 25) hT b4 rfl rfl (by omega) (by omega) (numK_mono b4 (fun a' _ hb b => ⟨fun z => by first | exact absurd rfl z | exact absurd trivial z, fun _ => ⟨fun z => by first | exact absurd rfl z | exact absurd trivial z, fun _ => ⟨bz0, hb _⟩⟩⟩) (fun v2 i2 c1 c2 c3 c4 h b => ⟨fun _ => ?_, fun z => absurd z (m1 v2 (by omega))⟩) h)
      refine s_number (lo := 1) (hs := 100) hT c4 rfl rfl (by omega) (by omega) (numK_mono c4 (fun a' _ hb b => ⟨fun z => by first | exact absurd rfl z | exact absurd trivial z, fun _ => ⟨bz0, hb _⟩⟩) (fun v3 i3 d1 d2 d3 d4 h b => ⟨fun _ => ?_, fun z => absurd z (m1 v3 (by omega))⟩) h)
      have e17 : apN 3 v0 v1 v2 v3 p 17 = p 17 := by rw [ap_3]; exact stN_o p v0 v1 v2 v3 (by omega) (by omega) (by omega) (by omega) (by omega) (by omega)
      have e27 : apN 3 v0 v1 v2 v3 p 27 = p 27 + 1 := by rw [ap_3]; exact stN_27 p v0 v1 v2 v3
      simp only [e17, e27] at h
      simp only [fe_e, nI_1]
      rcases hR with ⟨rfl, er⟩ | ⟨rfl, hM, hH⟩
      · exact ⟨fun _ => ⟨bz1, h _ _ (Or.inl ⟨rfl, er⟩)⟩, fun z => absurd rfl z⟩
      · refine ⟨fun z => absurd z n01, fun _ => ?_⟩
        refine s_addFamily hM (by omega) (fun row' hM' hH' => ⟨bz1, h _ _ (Or.inr ⟨rfl, ?_, hH'.tr hH⟩)⟩)
        rw [ap_3]; exact hM'
  · rw [if_neg (by omega), if_neg (by omega), if_pos rfl] at h
    refine ⟨fun z => absurd z (by decide), fun _ => ⟨fun z => absurd z (by decide), fun _ => ⟨fun z => absurd z (by decide), fun _ => ⟨fun _ => ?_, fun z => absurd rfl z⟩⟩⟩⟩
    have es : upd row (Int32.toNatClampNeg 15) (row (Int32.toNatClampNeg 15) ^^^ 0) = row := upd_same row 15
    simp only [jn1_e, jn0_e, fe_e, es]
    refine s_number (lo := 0) (hs := p 17) hT hi rfl rfl (by omega) (by omega) (numK_mono hi (fun a' _ hb b => ?_) (fun v0 i0 a1 a2 a3 a4 h b => ?_) h)
    · exact ⟨fun _ => ⟨fun _ => hb _, fun z => absurd rfl z⟩, fun _ => ⟨fun _ => ⟨fun _ => hb _, fun z => absurd rfl z⟩, fun z => absurd rfl z⟩⟩
    · have e17 : apN 4 v0 0 0 0 p 17 = p 17 := by rw [ap_4]; exact updN_n (by omega)
      have e27 : apN 4 v0 0 0 0 p 27 = p 27 := by rw [ap_4]; exact updN_n (by omega)
      simp only [e17, e27] at h
      rcases hR with ⟨rfl, er⟩ | ⟨rfl, hM, hH⟩
      · exact ⟨fun _ => ⟨fun z => absurd z (m1 v0 (by omega)), fun _ => h _ _ (Or.inl ⟨rfl, er⟩)⟩, fun z => absurd rfl z⟩
      · refine ⟨fun z => absurd z n01, fun _ => ⟨fun z => absurd z (m1 v0 (by omega)), fun _ => ?_⟩⟩
        refine ⟨fun z => absurd z (m1 v0 (by omega)), fun _ => h _ _ (Or.inr ⟨rfl, ?_, ?_⟩)⟩
        · rw [show row (Int32.toNatClampNeg 15) = nI (p 15) from hM.at0 (j := 15) (by omega), xor_nI0 (p 15) (p15_lt hI) v0 (by omega), ap_4]
          exact hM.up 15 _
        · exact (Hi.up (k := 15) (Or.inl (by omega))).tr hH
  · rw [if_neg (by omega), if_neg (by omega), if_neg (by omega), if_pos rfl] at h
    refine ⟨fun z => absurd z (by decide), fun _ => ⟨fun z => absurd z (by decide), fun _ => ⟨fun z => absurd z (by decide), fun _ => ⟨fun z => absurd z (by decide), fun _ => ?_⟩⟩⟩⟩
    simp only [jn1_e]
    refine s_number (lo := 1) (hs := 100) hT hi rfl rfl (by omega) (by omega) (numK_mono hi (fun a' _ hb b => ?_) (fun v0 i0 a1 a2 a3 a4 h b => ?_) h)
    · exact ⟨fun _ => ⟨fun _ => hb _, fun z => absurd rfl z⟩, fun _ => ⟨fun _ => ⟨fun _ => hb _, fun z => absurd rfl z⟩, fun z => absurd rfl z⟩⟩
    · have e17 : apN 5 v0 0 0 0 p 17 = p 17 := by rw [ap_5]; exact goN_hi hI v0 (by omega)
      have e27 : apN 5 v0 0 0 0 p 27 = p 27 := by rw [ap_5]; exact goN_hi hI v0 (by omega)
      simp only [e17, e27] at h
      rcases hR with ⟨rfl, er⟩ | ⟨rfl, hM, hH⟩
      · exact ⟨fun _ => ⟨fun z => absurd z (m1 v0 (by omega)), fun _ => h _ _ (Or.inl ⟨rfl, er⟩)⟩, fun z => absurd rfl z⟩
      · refine ⟨fun z => absurd z n01, fun _ => ⟨fun z => absurd z (m1 v0 (by omega)), fun _ => ?_⟩⟩
        refine s_goBy (by omega) hI hM (fun row' hM' hH' => ?_)
        exact ⟨fun z => absurd z (m1 v0 (by omega)), fun _ => h _ _ (Or.inr ⟨rfl, by rw [ap_5]; exact hM', hH'.tr hH⟩)⟩
