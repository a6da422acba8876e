/-! the state, in plain numbers: p is laid as the reference's row is (251 places) -/
def MR (p : Nat → Nat) (row : Nat → Int32) (b : Nat) : Prop := ∀ j, j < 251 → row (b + j) = nI (p j)
def Hi (row' row : Nat → Int32) : Prop := ∀ j, 251 ≤ j → j < 753 → row' j = row j
theorem Hi.rf {row : Nat → Int32} : Hi row row := fun _ _ _ => rfl
theorem Hi.tr {a b c : Nat → Int32} (h1 : Hi a b) (h2 : Hi b c) : Hi a c := fun j x y => (h1 j x y).trans (h2 j x y)
theorem Hi.up {row : Nat → Int32} {k : Nat} {v : Int32} (h : k < 251 ∨ 753 ≤ k) : Hi (upd row k v) row := fun j x y => by
  unfold upd
  rw [if_neg (by omega)]
theorem MR.at0 {p : Nat → Nat} {row : Nat → Int32} (h : MR p row 0) {j : Nat} (hj : j < 251) : row j = nI (p j) := by
  have := h j hj
  rwa [Nat.zero_add] at this
theorem MR.up {p : Nat → Nat} {row : Nat → Int32} (h : MR p row 0) (k v : Nat) : MR (updN p k v) (upd row k (nI v)) 0 := by
  intro j hj
  rw [Nat.zero_add]
  unfold upd updN
  by_cases e : j = k
  · simp [e]
  · simp only [e, if_false]; exact h.at0 hj
/-- a part: what can be undone; the place of the state itself is 0 -/
def PtOk (p : Nat → Nat) (q : Nat) : Prop :=
  (∀ i, i < p 27 → p (q + i) ≤ 99) ∧ (∀ i, p 27 ≤ i → i < 7 → p (q + i) = 0) ∧ p (q + 7) = lapN (fun i => p (q + i)) (p 27) ∧ (∀ i, i < p 27 → p (q + 8 + i) < 25) ∧ p (q + 15) < 2 ^ p 17 ∧ p (q + 16) ≤ 9999
theorem PtOk.cong {p p' : Nat → Nat} {q q' : Nat} (h : PtOk p q) (e27 : p' 27 = p 27) (e17 : p' 17 = p 17) (h7 : p 27 ≤ 7) (e : ∀ j, j < 17 → p' (q' + j) = p (q + j)) : PtOk p' q' := by
  obtain ⟨h1, h2, h3, h4, h5, h6⟩ := h
  refine ⟨fun i hi => ?_, fun i hi hi7 => ?_, ?_, fun i hi => ?_, ?_, ?_⟩
  · rw [e i (by omega)]; exact h1 i (by omega)
  · rw [e i (by omega)]; exact h2 i (by omega) hi7
  · rw [e 7 (by omega), h3, e27]; exact lapN_cong (fun i hi => by rw [e i (by omega)])
  · rw [show q' + 8 + i = q' + (8 + i) by omega, e (8 + i) (by omega), show q + (8 + i) = q + 8 + i by omega]; exact h4 i (by omega)
  · rw [e 15 (by omega), e17]; exact h5
  · rw [e 16 (by omega)]; exact h6
def FmOk (p : Nat → Nat) : Prop := ∀ i, i < p 27 → p (28 + i) < 6 ∧ p (35 + i) < 2
def SnOk (p : Nat → Nat) : Prop := p 42 ≤ 5 ∧ ∀ k, k < p 42 → p (43 + 3 * k) < p 27 ∧ p (44 + 3 * k) ≤ 60 ∧ p (45 + 3 * k) < 2
def NtOk (p : Nat → Nat) : Prop := p 58 ≤ 6 ∧ ∀ k, k < p 58 → p (59 + 5 * k) < p 17 ∧ 1 ≤ p (60 + 5 * k) ∧ p (60 + 5 * k) ≤ 20 ∧ p (61 + 5 * k) ≤ 8 ∧ p (62 + 5 * k) ≤ 99 ∧ p (63 + 5 * k) ≤ 60
def MkOk (p : Nat → Nat) : Prop := p 89 ≤ 6 ∧ ∀ k, k < p 89 → p (90 + 4 * k) < p 27 ∧ p (91 + 4 * k) ≤ 60 ∧ p (92 + 4 * k) ≤ 99 ∧ p (93 + 4 * k) ≤ 40
def PaOk (p : Nat → Nat) : Prop := p 114 ≤ 8 ∧ ∀ k, k < p 114 → PtOk p (115 + 17 * k)
def FlP (p : Nat → Nat) : Prop := FlOk (p 17) (fun k => p (18 + k)) (fun k => p (21 + k)) (fun k => p (24 + k))
def Inv (p : Nat → Nat) : Prop := p 27 ≤ 7 ∧ FlP p ∧ FmOk p ∧ PtOk p 0 ∧ SnOk p ∧ NtOk p ∧ MkOk p ∧ PaOk p
/-- the class's parish holds p -/
def CRa (p : Nat → Nat) (flC faC hu da : Int32) (faCell faKind faSide faWill flCell flKind flStr : Nat → Int32) : Prop :=
  flC = nI (p 17) ∧ faC = nI (p 27) ∧ hu = nI (p 15) ∧ da = nI (p 16) ∧ Ar (p 27) faCell (fun i => p (8 + i)) ∧ Ar (p 27) faKind (fun i => p (28 + i)) ∧ Ar (p 27) faSide (fun i => p (35 + i)) ∧ Ar (p 27) faWill p ∧ Ar (p 17) flCell (fun k => p (21 + k)) ∧ Ar (p 17) flKind (fun k => p (18 + k)) ∧ Ar (p 17) flStr (fun k => p (24 + k))
def CRs (p : Nat → Nat) (sz : Int32) (nu : Nat → Int32) : Prop := sz = nI (p 42) ∧ Ar (3 * p 42) nu (fun j => p (43 + j))
def CRn (p : Nat → Nat) (sz : Int32) (nu : Nat → Int32) : Prop := sz = nI (p 58) ∧ Ar (5 * p 58) nu (fun j => p (59 + j))
def CRm (p : Nat → Nat) (sz : Int32) (nu : Nat → Int32) : Prop := sz = nI (p 89) ∧ Ar (4 * p 89) nu (fun j => p (90 + j))
def CRp (p : Nat → Nat) (sz : Int32) (nu : Nat → Int32) : Prop := sz = nI (p 114) ∧ ∀ k, k < p 114 → nu (16 * k) = nI (p (131 + 17 * k)) ∧ nu (16 * k + 1) = nI (p (130 + 17 * k)) ∧ ∀ i, i < p 27 → nu (16 * k + 2 + i) = nI (p (115 + 17 * k + i)) ∧ nu (16 * k + 9 + i) = nI (p (123 + 17 * k + i))
/-- what may be undone grows by the state as it is -/
def npN (p : Nat → Nat) : Nat := if p 114 = 8 then 7 else p 114
def keepN (p : Nat → Nat) : Nat → Nat := fun j => if j = 114 then npN p + 1 else if 115 + 17 * npN p ≤ j ∧ j < 132 + 17 * npN p then p (j - (115 + 17 * npN p)) else if p 114 = 8 ∧ 115 ≤ j ∧ j < 234 then p (j + 17) else p j
theorem keepN_lo (p : Nat → Nat) {j : Nat} (h : j < 114) : keepN p j = p j := by
  unfold keepN
  rw [if_neg (by omega), if_neg (by omega), if_neg (by omega)]
theorem keepN_new (p : Nat → Nat) {j : Nat} (h : j < 17) : keepN p (115 + 17 * npN p + j) = p j := by
  unfold keepN
  rw [if_neg (by omega), if_pos (by omega)]
  congr 1
  omega
theorem keepN_old (p : Nat → Nat) {k j : Nat} (hk : k < npN p) (h : j < 17) (h8 : p 114 ≤ 8) : keepN p (115 + 17 * k + j) = p (115 + 17 * (if p 114 = 8 then k + 1 else k) + j) := by
  have hn : npN p ≤ 8 := by unfold npN; split <;> omega
  unfold keepN
  rw [if_neg (by omega), if_neg (by omega)]
  by_cases e : p 114 = 8
  · have : npN p = 7 := by unfold npN; rw [if_pos e]
    rw [if_pos (by omega), if_pos e]
    congr 1
    omega
  · rw [if_neg (by omega), if_neg e]
theorem keepN_114 (p : Nat → Nat) : keepN p 114 = npN p + 1 := by
  unfold keepN
  rw [if_pos rfl]
theorem Inv.keep {p : Nat → Nat} (h : Inv p) : Inv (keepN p) := by
  obtain ⟨h1, h2, h3, h4, h5, h6, h7, h8, h9⟩ := h
  have e27 : keepN p 27 = p 27 := keepN_lo p (by omega)
  have e17 : keepN p 17 = p 17 := keepN_lo p (by omega)
  have e42 : keepN p 42 = p 42 := keepN_lo p (by omega)
  have e58 : keepN p 58 = p 58 := keepN_lo p (by omega)
  have e89 : keepN p 89 = p 89 := keepN_lo p (by omega)
  have h3' := h2.1
  have hsn := h5.1
  have hnt := h6.1
  have hmk := h7.1
  have hn : npN p ≤ 7 := by unfold npN; split <;> omega
  refine ⟨by rw [e27]; exact h1, ?_, ?_, h4.cong e27 e17 h1 (fun j hj => by rw [Nat.zero_add]; exact keepN_lo p (by omega)), ?_, ?_, ?_, ?_⟩
  · unfold FlP
    rw [e17]
    refine ⟨h2.1, fun k hk => ?_⟩
    simp only [keepN_lo p (show 18 + k < 114 by omega), keepN_lo p (show 21 + k < 114 by omega), keepN_lo p (show 24 + k < 114 by omega)]
    exact h2.2 k hk
  · intro i hi
    rw [e27] at hi
    rw [keepN_lo p (show 28 + i < 114 by omega), keepN_lo p (show 35 + i < 114 by omega)]
    exact h3 i hi
  · unfold SnOk
    rw [e42, e27]
    refine ⟨h5.1, fun k hk => ?_⟩
    rw [keepN_lo p (show 43 + 3 * k < 114 by omega), keepN_lo p (show 44 + 3 * k < 114 by omega), keepN_lo p (show 45 + 3 * k < 114 by omega)]
    exact h5.2 k hk
  · unfold NtOk
    rw [e58, e17]
    refine ⟨h6.1, fun k hk => ?_⟩
    rw [keepN_lo p (show 59 + 5 * k < 114 by omega), keepN_lo p (show 60 + 5 * k < 114 by omega), keepN_lo p (show 61 + 5 * k < 114 by omega), keepN_lo p (show 62 + 5 * k < 114 by omega), keepN_lo p (show 63 + 5 * k < 114 by omega)]
    exact h6.2 k hk
  · unfold MkOk
    rw [e89, e27]
    refine ⟨h7.1, fun k hk => ?_⟩
    rw [keepN_lo p (show 90 + 4 * k < 114 by omega), keepN_lo p (show 91 + 4 * k < 114 by omega), keepN_lo p (show 92 + 4 * k < 114 by omega), keepN_lo p (show 93 + 4 * k < 114 by omega)]
    exact h7.2 k hk
  · unfold PaOk
    rw [keepN_114]
    refine ⟨by omega, fun k hk => ?_⟩
    by_cases e : k = npN p
    · subst e
      exact h4.cong e27 e17 h1 (fun j hj => by rw [keepN_new p hj, Nat.zero_add])
    · have hk' : k < npN p := by omega
      have hb : (if p 114 = 8 then k + 1 else k) < p 114 := by
        unfold npN at hk'
        split at hk' <;> rename_i q
        · rw [if_pos q]; omega
        · rw [if_neg q]; omega
      exact (h9 _ hb).cong e27 e17 h1 (fun j hj => keepN_old p hk' hj h8)
theorem s_keepPast {p : Nat → Nat} {row : Nat → Int32} (hI : Inv p) (hM : MR p row 0) {Q : (Nat → Int32) → Prop} (hQ : ∀ row', MR (keepN p) row' 0 → Hi row' row → Q row') : wp_Mo_keepPast row Q := by
  have h8 := hI.2.2.2.2.2.2.2.1
  have e114 : row (Int32.toNatClampNeg 114) = nI (p 114) := hM.at0 (j := 114) (by omega)
  -- the second half
  have key : ∀ row1 : Nat → Int32, (∀ j, j < 251 → row1 j = nI (if j = 114 then npN p else if p 114 = 8 ∧ 115 ≤ j ∧ j < 234 then p (j + 17) else p j)) → Hi row1 row → ∃ n : Nat, lpw2 (fun (B58 : Int32 → (Nat → Int32) → Prop) (x1_3 : Int32) (s_row_4 : Nat → Int32) => ((17 ≤ x1_3 → ∀ s_row_7 : Nat → Int32, s_row_7 = upd s_row_4 (Int32.toNatClampNeg 114) ((s_row_4 (Int32.toNatClampNeg 114)) + 1) → Q s_row_7) ∧ (¬ 17 ≤ x1_3 → vp_in x1_3 770 ∧ vp_in ((115 + (17 * (s_row_4 (Int32.toNatClampNeg 114)))) + x1_3) 770 ∧ ∀ s_row_10 : Nat → Int32, s_row_10 = upd s_row_4 (Int32.toNatClampNeg ((115 + (17 * (s_row_4 (Int32.toNatClampNeg 114)))) + x1_3)) (s_row_4 (Int32.toNatClampNeg x1_3)) → ∀ x1_11 : Int32, x1_11 = x1_3 + 1 → B58 x1_11 s_row_10))) n 0 row1 := by
    intro row1 h1 hH1
    have hn : npN p ≤ 7 := by unfold npN; split <;> omega
    obtain ⟨T, hT⟩ : ∃ T : Nat → Nat → Int32, T = fun j x => if 115 + 17 * npN p ≤ x ∧ x < 115 + 17 * npN p + j then row1 (x - (115 + 17 * npN p)) else row1 x := ⟨_, rfl⟩
    have hT0 : T 0 = row1 := by rw [hT]; funext x; simp only []; rw [if_neg (by omega)]
    have hT114 : ∀ j, T j (Int32.toNatClampNeg 114) = nI (npN p) := by
      intro j
      show T j 114 = _
      rw [hT]; simp only []; rw [if_neg (by omega), h1 114 (by omega), if_pos rfl]
    rw [← hT0]
    refine lpw2_run nI T 17 ?_ ?_ 0 (Nat.zero_le _)
    · intro B j hj hB
      rw [hT114 j]
      have ea : (115 : Int32) + 17 * nI (npN p) + nI j = nI (115 + 17 * npN p + j) := by
        rw [show (17 : Int32) * nI (npN p) = nI (17 * npN p) from pk_mul 17 _, show (115 : Int32) + nI (17 * npN p) = nI (115 + 17 * npN p) from nI_add 115 _, nI_add]
      rw [ea]
      refine ⟨fun q => absurd q (nI_ge (b := 17) hj (by decide)), fun _ => ⟨vp_in_nI (by omega) (by omega), vp_in_nI (by omega) (by omega), ?_⟩⟩
      simp only [fe_e, nI_1, nI_clamp (show 115 + 17 * npN p + j < 2 ^ 31 by omega), nI_clamp (show j < 2 ^ 31 by omega)]
      have e : T (j + 1) = upd (T j) (115 + 17 * npN p + j) (T j j) := by
        rw [hT]
        funext x
        unfold upd
        by_cases hx : x = 115 + 17 * npN p + j
        · subst hx
          simp only [if_true]
          rw [if_pos (by omega), if_neg (show ¬ (115 + 17 * npN p ≤ j ∧ j < 115 + 17 * npN p + j) by omega)]
          congr 1
          omega
        · simp only [hx, if_false]
          by_cases h2 : 115 + 17 * npN p ≤ x ∧ x < 115 + 17 * npN p + j
          · rw [if_pos h2, if_pos (by omega)]
          · rw [if_neg h2, if_neg (by omega)]
      rw [← e]
      exact hB
    · intro B
      rw [hT114 17]
      refine ⟨fun _ => ?_, fun q => absurd (nI_le (a := 17) (b := 17) (Nat.le_refl _) (by decide)) q⟩
      simp only [fe_e, nI_1]
      refine hQ _ (fun j hj => ?_) (fun j h2 h3 => ?_)
      · rw [Nat.zero_add]
        show upd (T 17) 114 _ j = _
        unfold upd keepN
        by_cases e : j = 114
        · simp only [e, if_true]
        · simp only [e, if_false]
          rw [hT]
          simp only []
          by_cases h2 : 115 + 17 * npN p ≤ j ∧ j < 132 + 17 * npN p
          · rw [if_pos (by omega), if_pos h2, h1 _ (by omega), if_neg (by omega), if_neg (by omega)]
          · rw [if_neg (by omega), if_neg h2, h1 _ (by omega), if_neg e]
      · show upd (T 17) 114 _ j = _
        unfold upd
        rw [if_neg (by omega), hT]
        simp only []
        rw [if_neg (by omega)]
        exact hH1 j h2 h3
  unfold wp_Mo_keepPast
  simp only [jn1]
  rw [e114]
  refine ⟨fun q => ?_, fun q => ?_⟩
  · have q' : p 114 ≠ 8 := fun z => q (by rw [z]; rfl)
    refine key row (fun j hj => ?_) Hi.rf
    rw [hM.at0 hj, if_neg (show ¬ (p 114 = 8 ∧ 115 ≤ j ∧ j < 234) by omega)]
    by_cases e : j = 114
    · subst e; rw [if_pos rfl]; unfold npN; rw [if_neg q']
    · rw [if_neg e]
  · have q' : p 114 = 8 := by
      have := (nI_eq (a := p 114) (b := 8) (by omega) (by omega)).mp q
      exact this
    have hn7 : npN p = 7 := by unfold npN; rw [if_pos q']
    obtain ⟨T, hT⟩ : ∃ T : Nat → Nat → Int32, T = fun j x => if 115 ≤ x ∧ x < 115 + j then row (x + 17) else row x := ⟨_, rfl⟩
    have hT0 : T 0 = row := by rw [hT]; funext x; simp only []; rw [if_neg (by omega)]
    rw [← hT0]
    refine lpw2_run nI T 119 ?_ ?_ 0 (Nat.zero_le _)
    · intro B j hj hB
      have ea : (132 : Int32) + nI j = nI (132 + j) := nI_add 132 j
      have eb : (115 : Int32) + nI j = nI (115 + j) := nI_add 115 j
      rw [ea, eb]
      refine ⟨fun q => absurd q (nI_ge (b := 119) hj (by decide)), fun _ => ⟨vp_in_nI (by omega) (by omega), vp_in_nI (by omega) (by omega), ?_⟩⟩
      simp only [fe_e, nI_1, nI_clamp (show 132 + j < 2 ^ 31 by omega), nI_clamp (show 115 + j < 2 ^ 31 by omega)]
      have e : T (j + 1) = upd (T j) (115 + j) (T j (132 + j)) := by
        rw [hT]
        funext x
        unfold upd
        by_cases hx : x = 115 + j
        · subst hx
          simp only [if_true]
          rw [if_pos (by omega), if_neg (show ¬ (115 ≤ 132 + j ∧ 132 + j < 115 + j) by omega)]
          congr 1
          omega
        · simp only [hx, if_false]
          by_cases h2 : 115 ≤ x ∧ x < 115 + j
          · rw [if_pos h2, if_pos (by omega)]
          · rw [if_neg h2, if_neg (by omega)]
      rw [← e]
      exact hB
    · intro B
      refine ⟨fun _ => ?_, fun q => absurd (nI_le (a := 119) (b := 119) (Nat.le_refl _) (by decide)) q⟩
      intro r9 e9
      subst e9
      have e1 : T 119 (Int32.toNatClampNeg 114) = nI 8 := by
        show T 119 114 = _
        rw [hT]; simp only []; rw [if_neg (by omega), hM.at0 (by omega), q']
      rw [e1, show (nI 8 - 1 : Int32) = nI 7 from rfl]
      refine key _ (fun j hj => ?_) (fun j h2 h3 => ?_)
      · show upd (T 119) 114 _ j = _
        unfold upd
        by_cases e : j = 114
        · simp only [e, if_true, hn7]
        · simp only [e, if_false]
          rw [hT]
          simp only []
          by_cases h2 : 115 ≤ j ∧ j < 234
          · rw [if_pos (by omega), if_pos ⟨q', h2⟩, hM.at0 (by omega)]
          · rw [if_neg (by omega), if_neg (by omega), hM.at0 (by omega)]
      · show upd (T 119) 114 _ j = _
        unfold upd
        rw [if_neg (by omega), hT]
        simp only []
        rw [if_neg (by omega)]
