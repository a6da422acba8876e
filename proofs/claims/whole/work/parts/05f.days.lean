/-! days gone by -/
def loP (p : Nat → Nat) (i : Nat) : Nat := loN (p 17) (fun k => p (18 + k)) (fun k => p (21 + k)) (fun k => p (24 + k)) (fun i => p (28 + i)) (fun i => p (8 + i)) (p 15) (p 16) false i
def dayN (p : Nat → Nat) : Nat → Nat := fun j => if j < p 27 then p j - loP p j else if j = 7 then lapN (fun i => p i - loP p i) (p 27) else if j = 16 then p 16 + 1 else p j
def itN {α : Type} (f : α → α) : Nat → α → α
  | 0, x => x
  | k + 1, x => f (itN f k x)
def goN (n : Nat) (p : Nat → Nat) : Nat → Nat := itN dayN (min n (9999 - p 16)) p
theorem dayN_hi (p : Nat → Nat) (h : p 27 ≤ 7) {j : Nat} (h1 : 8 ≤ j) (h2 : j ≠ 16) : dayN p j = p j := by
  unfold dayN
  rw [if_neg (by omega), if_neg (by omega), if_neg h2]
theorem dayN_16 (p : Nat → Nat) (h : p 27 ≤ 7) : dayN p 16 = p 16 + 1 := by
  unfold dayN
  rw [if_neg (by omega), if_neg (by omega), if_pos rfl]
/-- all but the wills, who has lapsed, the day, is as it was -/
theorem Inv.cong16 {p p' : Nat → Nat} (h : Inv p) (e : ∀ j, 17 ≤ j → p' j = p j) (h0 : PtOk p' 0) : Inv p' := by
  obtain ⟨h1, h2, h3, h4, h5, h6, h7, h8, h9⟩ := h
  have e27 : p' 27 = p 27 := e 27 (by omega)
  have e17 : p' 17 = p 17 := e 17 (by omega)
  refine ⟨by rw [e27]; exact h1, ?_, ?_, h0, ?_, ?_, ?_, ?_⟩
  · unfold FlP
    rw [e17]
    refine ⟨h2.1, fun k hk => ?_⟩
    simp only [e (18 + k) (by omega), e (21 + k) (by omega), e (24 + k) (by omega)]
    exact h2.2 k hk
  · intro i hi
    rw [e27] at hi
    rw [e (28 + i) (by omega), e (35 + i) (by omega)]
    exact h3 i hi
  · unfold SnOk
    rw [e 42 (by omega), e27]
    refine ⟨h5.1, fun k hk => ?_⟩
    rw [e (43 + 3 * k) (by omega), e (44 + 3 * k) (by omega), e (45 + 3 * k) (by omega)]
    exact h5.2 k hk
  · unfold NtOk
    rw [e 58 (by omega), e17]
    refine ⟨h6.1, fun k hk => ?_⟩
    rw [e (59 + 5 * k) (by omega), e (60 + 5 * k) (by omega), e (61 + 5 * k) (by omega), e (62 + 5 * k) (by omega), e (63 + 5 * k) (by omega)]
    exact h6.2 k hk
  · unfold MkOk
    rw [e 89 (by omega), e27]
    refine ⟨h7.1, fun k hk => ?_⟩
    rw [e (90 + 4 * k) (by omega), e (91 + 4 * k) (by omega), e (92 + 4 * k) (by omega), e (93 + 4 * k) (by omega)]
    exact h7.2 k hk
  · unfold PaOk
    rw [e 114 (by omega)]
    exact ⟨h8, fun k hk => (h9 k hk).cong e27 e17 h1 (fun j hj => e _ (by omega))⟩
theorem p15_lt {p : Nat → Nat} (h : Inv p) : p 15 < 8 := by
  have h1 := h.2.2.2.1.2.2.2.2.1
  have h2 : (2 : Nat) ^ p 17 ≤ 2 ^ 3 := Nat.pow_le_pow_right (by omega) h.2.1.1
  simp at h1
  omega
theorem loP_le {p : Nat → Nat} (h : Inv p) {i : Nat} (hi : i < p 27) : loP p i ≤ 68 := by
  unfold loP
  have h4 := h.2.2.2.1.2.2.2.1 i hi
  simp at h4
  exact loN_le h.2.1 _ _ _ (h.2.2.1 i hi).1 h4
theorem Inv.day {p : Nat → Nat} (h : Inv p) (h9 : p 16 < 9999) : Inv (dayN p) := by
  have h7 := h.1
  obtain ⟨g1, g2, g3, g4, g5, g6⟩ := h.2.2.2.1
  have e27 : dayN p 27 = p 27 := dayN_hi p h7 (by omega) (by omega)
  refine h.cong16 (fun j hj => dayN_hi p h7 (by omega) (by omega)) ⟨fun i hi => ?_, fun i hi hi7 => ?_, ?_, fun i hi => ?_, ?_, ?_⟩
  · rw [e27] at hi
    rw [Nat.zero_add]
    unfold dayN
    rw [if_pos hi]
    have := g1 i hi
    rw [Nat.zero_add] at this
    omega
  · rw [e27] at hi
    rw [Nat.zero_add]
    unfold dayN
    rw [if_neg (by omega), if_neg (by omega), if_neg (by omega)]
    have := g2 i hi hi7
    rwa [Nat.zero_add] at this
  · rw [e27, Nat.zero_add]
    have e7 : dayN p 7 = lapN (fun i => p i - loP p i) (p 27) := by
      unfold dayN
      rw [if_neg (by omega), if_pos rfl]
    rw [e7]
    apply lapN_cong
    intro i hi
    simp only [Nat.zero_add]
    unfold dayN
    rw [if_pos hi]
  · rw [e27] at hi
    rw [Nat.zero_add, dayN_hi p h7 (by omega) (by omega)]
    have := g4 i hi
    rwa [Nat.zero_add] at this
  · rw [Nat.zero_add, dayN_hi p h7 (by omega) (by omega), dayN_hi p h7 (by omega) (by omega)]
    rwa [Nat.zero_add] at g5
  · rw [Nat.zero_add, dayN_16 p h7]
    omega
theorem MR.SgM {p : Nat → Nat} {row : Nat → Int32} (hI : Inv p) (hM : MR p row 0) : SgM (p 27) row 0 p (fun i => p (8 + i)) (p 15) (p 16) := by
  have h7 := hI.1
  refine ⟨fun i hi => by rw [Nat.zero_add]; exact hM.at0 (by omega), ?_, fun i hi => by rw [Nat.zero_add]; exact hM.at0 (by omega), by rw [Nat.zero_add]; exact hM.at0 (by omega), by rw [Nat.zero_add]; exact hM.at0 (by omega)⟩
  rw [Nat.zero_add, hM.at0 (by omega)]
  have := hI.2.2.2.1.2.2.1
  simp only [Nat.zero_add] at this
  rw [this]
theorem MR.StM {p : Nat → Nat} {row : Nat → Int32} (hI : Inv p) (hM : MR p row 0) : StM (p 17) (p 27) (fun k => p (18 + k)) (fun k => p (21 + k)) (fun k => p (24 + k)) (fun i => p (28 + i)) row := by
  have h7 := hI.1
  have h3 := hI.2.1.1
  exact ⟨hM.at0 (by omega), fun k hk => hM.at0 (by omega), fun k hk => hM.at0 (by omega), fun k hk => hM.at0 (by omega), hM.at0 (by omega), fun k hk => hM.at0 (by omega)⟩
theorem Inv.w99 {p : Nat → Nat} (h : Inv p) : ∀ i, i < p 27 → p i ≤ 99 := fun i hi => by
  have := h.2.2.2.1.1 i hi
  rwa [Nat.zero_add] at this
theorem Inv.c25 {p : Nat → Nat} (h : Inv p) : ∀ i, i < p 27 → p (8 + i) < 25 := fun i hi => by
  have := h.2.2.2.1.2.2.2.1 i hi
  rwa [Nat.zero_add] at this
theorem Inv.d9 {p : Nat → Nat} (h : Inv p) : p 16 ≤ 9999 := by
  have := h.2.2.2.1.2.2.2.2.2
  rwa [Nat.zero_add] at this
theorem s_dayM {p : Nat → Nat} {row : Nat → Int32} (hI : Inv p) (hM : MR p row 0) {Q : (Nat → Int32) → Prop} (hQ : ∀ row', MR (dayN p) row' 0 → Hi row' row → Q row') : wp_Mo_passes 0 0 row Q := by
  have h7 := hI.1
  have hd := hI.d9
  have hp := @s_passes (p 17) (p 27) 0 (p 15) (p 16) (fun k => p (18 + k)) (fun k => p (21 + k)) (fun k => p (24 + k)) (fun i => p (28 + i)) p (fun i => p (8 + i)) row false (Or.inl rfl) hI.2.1 h7 (fun i hi => (hI.2.2.1 i hi).1) hI.c25 hI.w99 (by have := p15_lt hI; omega) (by omega) (hM.StM hI) (hM.SgM hI) Q
  refine hp (fun row' hS hk => hQ row' (fun j hj => ?_) (fun j h1 h2 => hk j (by omega) (by omega) (by omega)))
  rw [Nat.zero_add]
  obtain ⟨s1, s2, s3, s4, s5⟩ := hS
  unfold dayN
  by_cases h1 : j < p 27
  · rw [if_pos h1]
    have := s1 j h1
    rwa [Nat.zero_add] at this
  · rw [if_neg h1]
    by_cases h2 : j = 7
    · subst h2; rw [if_pos rfl]; rwa [Nat.zero_add] at s2
    · rw [if_neg h2]
      by_cases h3 : j = 16
      · subst h3; rw [if_pos rfl]; rwa [Nat.zero_add] at s5
      · rw [if_neg h3, hk j (by omega) (by omega) (by omega)]
        exact hM.at0 hj
theorem itN_Inv {p : Nat → Nat} (h : Inv p) : ∀ k, k ≤ 9999 - p 16 → Inv (itN dayN k p) ∧ itN dayN k p 16 = p 16 + k ∧ (∀ j, 17 ≤ j → itN dayN k p j = p j)
  | 0, _ => ⟨h, rfl, fun _ _ => rfl⟩
  | k + 1, hk => by
    have hd := h.d9
    obtain ⟨i1, i2, i3⟩ := itN_Inv h k (by omega)
    refine ⟨i1.day (by omega), ?_, fun j hj => ?_⟩
    · show dayN (itN dayN k p) 16 = _
      rw [dayN_16 _ i1.1, i2]; omega
    · show dayN (itN dayN k p) j = _
      rw [dayN_hi _ i1.1 (by omega) (by omega)]; exact i3 j hj
theorem Inv.go {p : Nat → Nat} (h : Inv p) (n : Nat) : Inv (goN n p) := (itN_Inv h _ (by omega)).1
theorem goN_hi {p : Nat → Nat} (h : Inv p) (n : Nat) {j : Nat} (hj : 17 ≤ j) : goN n p j = p j := (itN_Inv h _ (by omega)).2.2 j hj
theorem goN_16 {p : Nat → Nat} (h : Inv p) (n : Nat) : goN n p 16 = p 16 + min n (9999 - p 16) := (itN_Inv h _ (by omega)).2.1
theorem s_goBy {n : Nat} {p : Nat → Nat} {row : Nat → Int32} (hn : n < 1000) (hI : Inv p) (hM : MR p row 0) {Q : (Nat → Int32) → Prop} (hQ : ∀ row', MR (goN n p) row' 0 → Hi row' row → Q row') : wp_Mo_goBy (nI n) row Q := by
  unfold wp_Mo_goBy
  have hd := hI.d9
  refine lpw2_rule (fun x r => ∃ j, x = nI j ∧ j ≤ min n (9999 - p 16) ∧ MR (itN dayN j p) r 0 ∧ Hi r row) (fun x _ => n - x.toNatClampNeg) ?_ 0 row ⟨0, rfl, Nat.zero_le _, hM, Hi.rf⟩
  intro B x r hx hB
  obtain ⟨j, rfl, hj, hMj, hHj⟩ := hx
  obtain ⟨i1, i2, i3⟩ := itN_Inv hI j (by omega)
  have e16 : r (Int32.toNatClampNeg 16) = nI (p 16 + j) := by
    have := hMj.at0 (j := 16) (by omega)
    rw [i2] at this
    exact this
  rw [e16]
  refine ⟨fun q => ?_, fun q => ⟨fun q2 => ?_, fun q2 => ?_⟩⟩
  · have q' := (nI_leI (by omega) (by omega)).mp q
    refine hQ r ?_ hHj
    unfold goN
    rw [show min n (9999 - p 16) = j by omega]
    exact hMj
  · have q' := (nI_leI (a := 9999) (by omega) (by omega)).mp q2
    refine hQ r ?_ hHj
    unfold goN
    rw [show min n (9999 - p 16) = j by omega]
    exact hMj
  · have q1 : ¬ n ≤ j := fun z => q ((nI_leI (by omega) (by omega)).mpr z)
    have q3 : ¬ 9999 ≤ p 16 + j := fun z => q2 ((nI_leI (a := 9999) (by omega) (by omega)).mpr z)
    refine s_dayM i1 hMj (fun row' hM' hH' => ?_)
    intro x' ex'
    subst ex'
    rw [nI_1]
    refine hB _ _ ⟨j + 1, rfl, by omega, hM', hH'.tr hHj⟩ ?_
    rw [nI_clamp (by omega), nI_clamp (by omega)]
    omega
/-- the class's days -/
theorem s_dayC {p : Nat → Nat} {flC faC hu da : Int32} {faCell faKind faWill flCell flKind flStr : Nat → Int32} (hI : Inv p) (e1 : flC = nI (p 17)) (e2 : faC = nI (p 27)) (e3 : hu = nI (p 15)) (e4 : da = nI (p 16)) (a1 : Ar (p 27) faCell (fun i => p (8 + i))) (a2 : Ar (p 27) faKind (fun i => p (28 + i))) (a3 : Ar (p 27) faWill p) (a4 : Ar (p 17) flCell (fun k => p (21 + k))) (a5 : Ar (p 17) flKind (fun k => p (18 + k))) (a6 : Ar (p 17) flStr (fun k => p (24 + k))) {Q : (Nat → Int32) → Prop}
    (hQ : ∀ wi, Ar (p 27) wi (dayN p) → Q wi) : wp_Pa_wearDown da 7 7 flC faC hu faKind flCell flKind flStr faCell faWill Q := by
  subst e1; subst e2; subst e3; subst e4
  have h7 := hI.1
  have hd := hI.d9
  refine s_wearDown hI.2.1 a5 a4 a6 h7 h7 h7 (Nat.le_refl _) (Nat.le_refl _) a2 a1 a3 (fun i hi => (hI.2.2.1 i hi).1) hI.c25 hI.w99 (by have := p15_lt hI; omega) (by omega) (fun wi hw => hQ wi (fun i hi => ?_))
  rw [hw i hi]
  unfold dayN
  rw [if_pos hi]
  rfl
theorem s_passDays {n : Nat} {p : Nat → Nat} {flC faC hu da : Int32} {faCell faKind faWill flCell flKind flStr : Nat → Int32} (hn : n < 1000) (hI : Inv p) (e1 : flC = nI (p 17)) (e2 : faC = nI (p 27)) (e3 : hu = nI (p 15)) (e4 : da = nI (p 16)) (a1 : Ar (p 27) faCell (fun i => p (8 + i))) (a2 : Ar (p 27) faKind (fun i => p (28 + i))) (a3 : Ar (p 27) faWill p) (a4 : Ar (p 17) flCell (fun k => p (21 + k))) (a5 : Ar (p 17) flKind (fun k => p (18 + k))) (a6 : Ar (p 17) flStr (fun k => p (24 + k))) {Q : Int32 → (Nat → Int32) → Prop}
    (hQ : ∀ wi, Ar (p 27) wi (goN n p) → Q (nI (goN n p 16)) wi) : wp_Pa_passDays (nI n) flC faC hu da faCell faKind faWill flCell flKind flStr Q := by
  unfold wp_Pa_passDays
  have hd := hI.d9
  have h7 := hI.1
  refine lpw3_rule (fun x dd wi => ∃ j, x = nI j ∧ j ≤ min n (9999 - p 16) ∧ dd = nI (p 16 + j) ∧ Ar (p 27) wi (itN dayN j p)) (fun x _ _ => n - x.toNatClampNeg) ?_ 0 da faWill ⟨0, rfl, Nat.zero_le _, e4, a3⟩
  intro B x dd wi hx hB
  obtain ⟨j, rfl, hj, rfl, hW⟩ := hx
  obtain ⟨i1, i2, i3⟩ := itN_Inv hI j (by omega)
  have fin : min n (9999 - p 16) = j → Q (nI (p 16 + j)) wi := by
    intro e
    have h2 := hQ wi
    rw [goN_16 hI, e] at h2
    refine h2 ?_
    unfold goN
    rw [e]
    exact hW
  refine ⟨fun q => ?_, fun q => ⟨fun q2 => ?_, fun q2 => ?_⟩⟩
  · have q' := (nI_leI (by omega) (by omega)).mp q
    exact fin (by omega)
  · have q' := (nI_leI (a := 9999) (by omega) (by omega)).mp q2
    exact fin (by omega)
  · have q1 : ¬ n ≤ j := fun z => q ((nI_leI (by omega) (by omega)).mpr z)
    have q3 : ¬ 9999 ≤ p 16 + j := fun z => q2 ((nI_leI (a := 9999) (by omega) (by omega)).mpr z)
    have e27 : itN dayN j p 27 = p 27 := i3 27 (by omega)
    have e17 : itN dayN j p 17 = p 17 := i3 17 (by omega)
    have hlo : ∀ k, 8 ≤ k → k < 16 → itN dayN j p k = p k := by
      intro k h1 h2
      have : ∀ m, m ≤ j → itN dayN m p k = p k := by
        intro m
        induction m with
        | zero => intro _; rfl
        | succ m ih =>
          intro hm
          show dayN (itN dayN m p) k = _
          rw [dayN_hi _ (itN_Inv hI m (by omega)).1.1 h1 (by omega)]
          exact ih (by omega)
      exact this j (Nat.le_refl _)
    refine s_dayC i1 (by rw [e17]; exact e1) (by rw [e27]; exact e2) (by rw [hlo 15 (by omega) (by omega)]; exact e3) (by rw [i2]) ?_ ?_ (by rw [e27]; exact hW) ?_ ?_ ?_ (fun wi' hw' => ?_)
    · intro i hi; rw [e27] at hi; rw [a1 i hi]; simp only [hlo (8 + i) (by omega) (by omega)]
    · intro i hi; rw [e27] at hi; rw [a2 i hi]; simp only [i3 (28 + i) (by omega)]
    · intro i hi; rw [e17] at hi; rw [a4 i hi]; simp only [i3 (21 + i) (by omega)]
    · intro i hi; rw [e17] at hi; rw [a5 i hi]; simp only [i3 (18 + i) (by omega)]
    · intro i hi; rw [e17] at hi; rw [a6 i hi]; simp only [i3 (24 + i) (by omega)]
    · intro d' ed' x' ex'
      subst ed'; subst ex'
      rw [nI_1, nI_1]
      rw [e27] at hw'
      refine hB _ _ _ ⟨j + 1, rfl, by omega, rfl, hw'⟩ ?_
      rw [nI_clamp (by omega), nI_clamp (by omega)]
      omega
/-- the class keeps what may be undone -/
theorem w_put (r c v : Int32) (n : Nat) (w : Int32) (nu : Nat → Int32) (Q : (Nat → Int32) → Prop) : wp_Rw_put r c v n w nu Q = (vp_in (r * w + c) n ∧ Q (upd nu (Int32.toNatClampNeg (r * w + c)) v)) := by
  unfold wp_Rw_put
  simp only [fe_e]
theorem s_remember {p : Nat → Nat} {hu da sz : Int32} {faCell faWill nu : Nat → Int32} (hI : Inv p) (e3 : hu = nI (p 15)) (e4 : da = nI (p 16)) (a1 : Ar (p 27) faCell (fun i => p (8 + i))) (a3 : Ar (p 27) faWill p) (hC : CRp p sz nu) {Q : Int32 → (Nat → Int32) → Prop}
    (hQ : ∀ sz' nu', CRp (keepN p) sz' nu' → Q sz' nu') : wp_Pa_remember hu da faCell faWill 16 8 sz nu Q := by
  have h7 := hI.1
  have h8 := hI.2.2.2.2.2.2.2.1
  obtain ⟨c1, c2⟩ := hC
  subst c1; subst e3; subst e4
  have hn : npN p ≤ 7 := by unfold npN; split <;> omega
  -- the second half
  have key : ∀ nu1 : Nat → Int32, (∀ k, k < npN p → nu1 (16 * k) = nI (keepN p (131 + 17 * k)) ∧ nu1 (16 * k + 1) = nI (keepN p (130 + 17 * k)) ∧ ∀ i, i < p 27 → nu1 (16 * k + 2 + i) = nI (keepN p (115 + 17 * k + i)) ∧ nu1 (16 * k + 9 + i) = nI (keepN p (123 + 17 * k + i))) → (wp_Rw_put (nI (npN p)) 0 (nI (p 16)) 128 16 nu1 (fun (s_past_numbers_6 : Nat → Int32) => wp_Rw_put (nI (npN p)) 1 (nI (p 15)) 128 16 s_past_numbers_6 (fun (s_past_numbers_8 : Nat → Int32) => ∃ n : Nat, lpw2 (fun (B53 : Int32 → (Nat → Int32) → Prop) (x2_9 : Int32) (s_past_numbers_10 : Nat → Int32) => ((7 ≤ x2_9 → ∀ s_past_size_13 : Int32, s_past_size_13 = (nI (npN p) + 1) → Q s_past_size_13 s_past_numbers_10) ∧ (¬ 7 ≤ x2_9 → vp_in x2_9 7 ∧ wp_Rw_put (nI (npN p)) (2 + x2_9) (faWill (Int32.toNatClampNeg x2_9)) 128 16 s_past_numbers_10 (fun (s_past_numbers_16 : Nat → Int32) => vp_in x2_9 7 ∧ wp_Rw_put (nI (npN p)) (9 + x2_9) (faCell (Int32.toNatClampNeg x2_9)) 128 16 s_past_numbers_16 (fun (s_past_numbers_19 : Nat → Int32) => ∀ x2_20 : Int32, x2_20 = x2_9 + 1 → B53 x2_20 s_past_numbers_19))))) n 0 s_past_numbers_8))) := by
    intro nu1 h1
    have em : nI (npN p) * 16 = nI (16 * npN p) := by rw [show (16 : Int32) = nI 16 from rfl, pk_mul, Nat.mul_comm]
    simp only [w_put, em]
    have ea : nI (16 * npN p) + 0 = nI (16 * npN p) := nI_add _ 0
    have eb : nI (16 * npN p) + 1 = nI (16 * npN p + 1) := nI_add _ 1
    rw [ea, eb, nI_clamp (by omega), nI_clamp (by omega)]
    refine ⟨vp_in_nI (by omega) (by omega), vp_in_nI (by omega) (by omega), ?_⟩
    obtain ⟨b0, hb0⟩ : ∃ b0, b0 = upd (upd nu1 (16 * npN p) (nI (p 16))) (16 * npN p + 1) (nI (p 15)) := ⟨_, rfl⟩
    rw [← hb0]
    obtain ⟨T, hT⟩ : ∃ T : Nat → Nat → Int32, T = fun j x => if 16 * npN p + 2 ≤ x ∧ x < 16 * npN p + 2 + j then faWill (x - (16 * npN p + 2)) else if 16 * npN p + 9 ≤ x ∧ x < 16 * npN p + 9 + j then faCell (x - (16 * npN p + 9)) else b0 x := ⟨_, rfl⟩
    have hT0 : T 0 = b0 := by rw [hT]; funext x; simp only []; rw [if_neg (by omega), if_neg (by omega)]
    rw [← hT0]
    refine lpw2_run nI T 7 ?_ ?_ 0 (Nat.zero_le _)
    · intro B j hj hB
      have e2 : nI (16 * npN p) + (2 + nI j) = nI (16 * npN p + 2 + j) := by rw [show (2 : Int32) + nI j = nI (2 + j) from nI_add 2 j, nI_add, Nat.add_assoc]
      have e9 : nI (16 * npN p) + (9 + nI j) = nI (16 * npN p + 9 + j) := by rw [show (9 : Int32) + nI j = nI (9 + j) from nI_add 9 j, nI_add, Nat.add_assoc]
      rw [e2, e9, nI_clamp (by omega), nI_clamp (by omega), nI_clamp (by omega)]
      refine ⟨fun q => absurd q (nI_ge (b := 7) hj (by decide)), fun _ => ⟨vp_in_nI (by omega) (by omega), vp_in_nI (by omega) (by omega), vp_in_nI (by omega) (by omega), vp_in_nI (by omega) (by omega), ?_⟩⟩
      intro x' ex'
      subst ex'
      rw [nI_1]
      have e : T (j + 1) = upd (upd (T j) (16 * npN p + 2 + j) (faWill j)) (16 * npN p + 9 + j) (faCell j) := by
        rw [hT]
        funext x
        unfold upd
        by_cases h2 : x = 16 * npN p + 9 + j
        · subst h2
          simp only [if_true]
          rw [if_neg (by omega), if_pos (by omega)]
          congr 1
          omega
        · by_cases h3 : x = 16 * npN p + 2 + j
          · subst h3
            rw [if_neg h2]
            simp only [if_true]
            rw [if_pos (by omega)]
            congr 1
            omega
          · simp only [h2, h3, if_false]
            by_cases h4 : 16 * npN p + 2 ≤ x ∧ x < 16 * npN p + 2 + j
            · rw [if_pos h4, if_pos (by omega)]
            · rw [if_neg h4, if_neg (by omega)]
              by_cases h5 : 16 * npN p + 9 ≤ x ∧ x < 16 * npN p + 9 + j
              · rw [if_pos h5, if_pos (by omega)]
              · rw [if_neg h5, if_neg (by omega)]
      rw [← e]
      exact hB
    · intro B
      refine ⟨fun _ => ?_, fun q => absurd (nI_le (a := 7) (b := 7) (Nat.le_refl _) (by decide)) q⟩
      intro x' ex'
      subst ex'
      rw [nI_1]
      refine hQ _ _ ⟨by rw [keepN_114], fun k hk => ?_⟩
      rw [keepN_114] at hk
      have e27 : keepN p 27 = p 27 := keepN_lo p (by omega)
      rw [e27]
      by_cases e : k = npN p
      · subst e
        refine ⟨?_, ?_, fun i hi => ⟨?_, ?_⟩⟩
        · rw [hT]; simp only []; rw [if_neg (by omega), if_neg (by omega), hb0]; unfold upd; rw [if_neg (by omega), if_pos rfl]
          rw [show 131 + 17 * npN p = 115 + 17 * npN p + 16 by omega, keepN_new p (by omega)]
        · rw [hT]; simp only []; rw [if_neg (by omega), if_neg (by omega), hb0]; unfold upd; rw [if_pos rfl]
          rw [show 130 + 17 * npN p = 115 + 17 * npN p + 15 by omega, keepN_new p (by omega)]
        · rw [hT]; simp only []; rw [if_pos (by omega), keepN_new p (by omega), show 16 * npN p + 2 + i - (16 * npN p + 2) = i by omega]
          exact a3 i hi
        · rw [hT]; simp only []; rw [if_neg (by omega), if_pos (by omega), show 123 + 17 * npN p + i = 115 + 17 * npN p + (8 + i) by omega, keepN_new p (by omega), show 16 * npN p + 9 + i - (16 * npN p + 9) = i by omega]
          exact a1 i hi
      · have hTl : ∀ x, x < 16 * npN p → T 7 x = nu1 x := by
          intro x hx
          rw [hT]; simp only []; rw [if_neg (by omega), if_neg (by omega), hb0]; unfold upd; rw [if_neg (by omega), if_neg (by omega)]
        obtain ⟨g1, g2, g3⟩ := h1 k (by omega)
        refine ⟨by rw [hTl _ (by omega)]; exact g1, by rw [hTl _ (by omega)]; exact g2, fun i hi => ⟨by rw [hTl _ (by omega)]; exact (g3 i hi).1, by rw [hTl _ (by omega)]; exact (g3 i hi).2⟩⟩
  unfold wp_Pa_remember wp_Rw_isFull jn2
  have k27 : ∀ j, j < 114 → keepN p j = p j := fun j hj => keepN_lo p hj
  refine ⟨fun q => ⟨fun _ => ?_, fun z => absurd rfl z⟩, fun q => ⟨fun z => absurd z (by decide), fun _ => ?_⟩⟩
  · have q' := (nI_ltI (b := 8) (by omega) (by omega)).mp q
    have en : npN p = p 114 := by unfold npN; rw [if_neg (by omega)]
    rw [← en]
    refine key nu (fun k hk => ?_)
    obtain ⟨g1, g2, g3⟩ := c2 k (by omega)
    have eo : ∀ j, j < 17 → keepN p (115 + 17 * k + j) = p (115 + 17 * k + j) := by
      intro j hj
      rw [keepN_old p hk hj h8, if_neg (by omega)]
    refine ⟨?_, ?_, fun i hi => ⟨?_, ?_⟩⟩
    · rw [show 131 + 17 * k = 115 + 17 * k + 16 by omega, eo 16 (by omega)]; rw [show 131 + 17 * k = 115 + 17 * k + 16 by omega] at g1; exact g1
    · rw [show 130 + 17 * k = 115 + 17 * k + 15 by omega, eo 15 (by omega)]; rw [show 130 + 17 * k = 115 + 17 * k + 15 by omega] at g2; exact g2
    · rw [eo i (by omega)]; exact (g3 i hi).1
    · rw [show 123 + 17 * k + i = 115 + 17 * k + (8 + i) by omega, eo (8 + i) (by omega)]; have := (g3 i hi).2; rw [show 123 + 17 * k + i = 115 + 17 * k + (8 + i) by omega] at this; exact this
  · have q' : ¬ p 114 < 8 := fun z => q ((nI_ltI (b := 8) (by omega) (by omega)).mpr z)
    have q8 : p 114 = 8 := by omega
    have en : npN p = 7 := by unfold npN; rw [if_pos q8]
    unfold wp_Rw_dropFirst
    refine ⟨by decide, ?_⟩
    intro nu2 en2 sz2 es2
    subst es2
    rw [q8, show (nI 8 - 1 : Int32) = nI (npN p) by rw [en]; rfl]
    refine key nu2 (fun k hk => ?_)
    obtain ⟨g1, g2, g3⟩ := c2 (k + 1) (by omega)
    have eo : ∀ j, j < 17 → keepN p (115 + 17 * k + j) = p (115 + 17 * (k + 1) + j) := by
      intro j hj
      rw [keepN_old p hk hj h8, if_pos q8]
    have e2 : ∀ x, x < 112 → nu2 x = nu (16 + x) := by
      intro x hx
      rw [en2]
      show va_cpy nu nu 16 0 112 x = _
      unfold va_cpy
      rw [if_pos (by omega)]
      congr 1
    refine ⟨?_, ?_, fun i hi => ⟨?_, ?_⟩⟩
    · rw [e2 _ (by omega), show 16 + 16 * k = 16 * (k + 1) by omega, g1, show 131 + 17 * k = 115 + 17 * k + 16 by omega, eo 16 (by omega)]; congr 2; omega
    · rw [e2 _ (by omega), show 16 + (16 * k + 1) = 16 * (k + 1) + 1 by omega, g2, show 130 + 17 * k = 115 + 17 * k + 15 by omega, eo 15 (by omega)]; congr 2; omega
    · rw [e2 _ (by omega), show 16 + (16 * k + 2 + i) = 16 * (k + 1) + 2 + i by omega, (g3 i hi).1, eo i (by omega)]
    · rw [e2 _ (by omega), show 16 + (16 * k + 9 + i) = 16 * (k + 1) + 9 + i by omega, (g3 i hi).2, show 123 + 17 * k + i = 115 + 17 * k + (8 + i) by omega, eo (8 + i) (by omega)]; congr 2; omega
