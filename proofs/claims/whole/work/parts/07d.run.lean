/-! PURE: a text read, both sides -/
theorem jn4_e {A B C D : Type} {F : (A → B → C → D → Prop) → Prop} {K : A → B → C → D → Prop} : jn4 F K = F K := rfl
noncomputable def itK {α : Type} (n : Nat) (t : Nat → Nat) (i : Nat) (p : Nat → Nat) (bad : Nat → α) (ok : (Nat → Nat) → Nat → α) : α := tnK n t (wdN n t i) (tsN n t i) (teN n t i) (p 17) (p 27) bad (fun v0 v1 v2 v3 j => semK n t j bad (fun j' => ok (apN (wdN n t i) v0 v1 v2 v3 p) j'))
noncomputable def ruN (n : Nat) (t : Nat → Nat) : Nat → Nat → Nat → (Nat → Nat) → Nat ⊕ (Nat × (Nat → Nat))
  | 0, k, _, p => .inr (k, p)
  | f + 1, k, i, p => if tkN n t i = 0 then .inr (k, p) else itK n t i p .inl (fun p' i' => ruN n t f (k + 1) i' p')
noncomputable def reN (n : Nat) (t : Nat → Nat) : Nat ⊕ (Nat × (Nat → Nat)) := if wdN n t 0 = 1 then semK n t (teN n t 0) .inl (fun i => ruN n t (n + 1) 1 i (fun _ => 0)) else .inl (tsN n t 0)
theorem ru_step (P : Nat ⊕ (Nat × (Nat → Nat)) → Prop) (n : Nat) (t : Nat → Nat) (f k i : Nat) (p : Nat → Nat) : P (ruN n t (f + 1) k i p) = if tkN n t i = 0 then P (.inr (k, p)) else itK n t i p (fun a => P (.inl a)) (fun p' i' => P (ruN n t f (k + 1) i' p')) := by
  rw [ruN]
  by_cases h : tkN n t i = 0
  · rw [if_pos h, if_pos h]
  · rw [if_neg h, if_neg h]
    unfold itK
    rw [tnK_map P]
    simp only [semK_map P]
theorem tnK_lo {n : Nat} {t : Nat → Nat} {w a i fl fa : Nat} {bad : Nat → Prop} {ok : Nat → Nat → Nat → Nat → Nat → Prop} (hw : w < 2) (h : tnK n t w a i fl fa bad ok) : bad a := by
  unfold tnK at h
  rw [if_neg (by omega), if_neg (by omega), if_neg (by omega), if_neg (by omega)] at h
  exact h
theorem tk_1 {n : Nat} {t : Nat → Nat} {i : Nat} : tkN n t i = 1 ↔ (tsN n t i < n ∧ t (tsN n t i) = 59) := by
  unfold tkN tkA
  refine ⟨fun h => ?_, fun h => ?_⟩
  · split at h
    · omega
    · split at h
      · omega
      · split at h
        · split at h <;> omega
        · split at h
          · rename_i q _ _ q2; exact ⟨by omega, q2⟩
          · omega
  · have g1 : ¬ ltP (t (tsN n t i)) = true := fun z => by
      have : 97 ≤ t (tsN n t i) ∧ t (tsN n t i) ≤ 122 := of_decide_eq_true z
      omega
    have g2 : ¬ fgP (t (tsN n t i)) = true := fun z => by
      have : 48 ≤ t (tsN n t i) ∧ t (tsN n t i) ≤ 57 := of_decide_eq_true z
      omega
    rw [if_neg (by omega), if_neg g1, if_neg g2, if_pos h.2]
theorem s_endsItem {n i : Nat} {t : Nat → Nat} {xt : Nat → Int32} {st tk v : Int32} {Q : Int32 → Int32 → Int32 → Int32 → Int32 → Prop} (hT : TX n t xt) (hi : i ≤ n) (h : semK n t i (fun a => ∀ pl tk v, Q 0 pl (nI a) tk v) (fun j => ∀ st tk v, Q 1 (nI j) st tk v)) : wp_Tl_endsItem (nI n) (nI i) st tk v xt Q := by
  have hk := tk_lt n t i
  unfold wp_Tl_endsItem
  refine s_advance hT hi ?_
  unfold semK at h
  by_cases q : tkN n t i = 1
  · rw [if_pos q] at h
    exact ⟨fun z => absurd (by rw [q]; rfl) z, fun _ => h _ _ _⟩
  · rw [if_neg q] at h
    exact ⟨fun _ => h _ _ _, fun z => absurd ((nI_eq (b := 1) (by omega) (by omega)).mp z) q⟩
theorem s_semi {n j : Nat} {t : Nat → Nat} {mt : Nat → Int32} {at0 x : Int32} {Qb : Int32 → Int32 → Prop} {K : Int32 → Int32 → Int32 → Prop} (hT : TX n t mt) (hj : j ≤ n) (h : semK n t j (fun a => ∀ b, Qb (nI a) b) (fun j' => K (x + 1) (nI (tsN n t j')) (nI (teN n t j')))) : wp_Mo_next (nI n) at0 (nI j) mt (fun a b => ((a = nI n → Qb a b) ∧ (¬ a = nI n → vp_in a 150 ∧ ((mt (Int32.toNatClampNeg a) = 59 → ∀ y : Int32, y = x + 1 → wp_Mo_next (nI n) a b mt (fun a' b' => K y a' b')) ∧ (¬ mt (Int32.toNatClampNeg a) = 59 → Qb a b))))) := by
  have h150 := hT.1
  obtain ⟨s1, s2⟩ := ts_spec t hj
  obtain ⟨e1, e2, -⟩ := te_spec t hj
  refine s_next hT hj ?_
  unfold semK at h
  by_cases q : tkN n t j = 1
  · rw [if_pos q] at h
    obtain ⟨q1, q2⟩ := tk_1.mp q
    refine ⟨fun z => absurd ((nI_eq (by omega) (by omega)).mp z) (by omega), fun _ => ⟨hT.vp q1, ?_⟩⟩
    rw [hT.at q1, q2]
    refine ⟨fun _ y hy => ?_, fun z => absurd rfl z⟩
    subst hy
    exact s_next hT e2 h
  · rw [if_neg q] at h
    refine ⟨fun _ => h _, fun z => ?_⟩
    have q1 : tsN n t j < n := by
      by_cases y : tsN n t j < n
      · exact y
      · exact absurd (by rw [show tsN n t j = n by omega]) z
    have q2 : ¬ t (tsN n t j) = 59 := fun y => q (tk_1.mpr ⟨q1, y⟩)
    have c := (hT.2 _ q1).1
    refine ⟨hT.vp q1, ?_⟩
    rw [hT.at q1]
    exact ⟨fun y => absurd ((nI_eq (b := 59) (by omega) (by omega)).mp y) q2, fun _ => h _⟩
set_option maxHeartbeats 4000000 in
theorem s_tell {n : Nat} {t : Nat → Nat} {xt : Nat → Int32} {len pl st tk v flC faC hu da : Int32} {faCell faKind faSide faWill flCell flKind flStr : Nat → Int32} {mS nS pS sS : Int32} {mN nN pN sN nums : Nat → Int32} {P : Nat ⊕ (Nat × (Nat → Nat)) → Prop} {Q : Int32 → Int32 → Int32 → Int32 → Int32 → Int32 → Int32 → Int32 → Int32 → Int32 → (Nat → Int32) → (Nat → Int32) → (Nat → Int32) → (Nat → Int32) → (Nat → Int32) → (Nat → Int32) → (Nat → Int32) → Int32 → Int32 → Int32 → Int32 → (Nat → Int32) → Prop} (hT : TX n t xt)
    (hbad : ∀ a, a ≤ n → P (.inl a) → ∀ b1 b2 b3 b4 b5 q1 q2 q3 q4 q5 q6 q7 q8 q9 q10 q11 b6 b7 b8 b9 b10, Q (-10 - nI a) b1 b2 b3 b4 b5 q1 q2 q3 q4 q5 q6 q7 q8 q9 q10 q11 b6 b7 b8 b9 b10)
    (hok : ∀ k p, P (.inr (k, p)) → k < 1000 → ∀ b1 b2 b3 b4 b5 q1 q2 q3 q4 q5 q6 q7 q8 q9 q10 q11 b6 b7 b8 b9 b10, PS p q1 q2 q3 q4 q5 q6 q7 q8 q9 q10 q11 b6 mN b7 nN b8 pN b9 sN → Q (nI k) b1 b2 b3 b4 b5 q1 q2 q3 q4 q5 q6 q7 q8 q9 q10 q11 b6 b7 b8 b9 b10)
    (h : P (reN n t)) : wp_Tl_tell (nI n) len pl st tk v xt flC faC hu da faCell faKind faSide faWill flCell flKind flStr mS nS pS sS nums Q := by
  have h150 := hT.1
  unfold wp_Tl_tell wp_Pa_empty
  simp only [jn4_e]
  intro len' hlen'
  have el : imin (nI n) 150 = nI n := by
    show (if (150 : Int32) < nI n then 150 else nI n) = _
    exact if_neg (nI_nlt (a := 150) h150 (by omega))
  rw [el] at hlen'
  subst hlen'
  obtain ⟨s1, s2⟩ := ts_spec t (Nat.zero_le n)
  obtain ⟨e1, e2, -⟩ := te_spec t (Nat.zero_le n)
  refine s_advance (i := 0) hT (Nat.zero_le _) ?_
  refine s_wordHereC hT (Nat.zero_le _) ?_
  have hw6 := wd_lt n t 0
  unfold reN at h
  by_cases hw : wdN n t 0 = 1
  · rw [if_pos hw, semK_map P] at h
    refine ⟨fun z => absurd (by rw [hw]; rfl) z, fun _ => ?_⟩
    refine s_endsItem hT e2 (semK_mono e2 (fun a ha hb pl tk v => ⟨fun z => absurd rfl z, fun _ => hbad a ha hb _ _ _ _ _ _ _ _ _ _ _ _ _ _ _ _ _ _ _ _ _⟩) (fun j l1 l2 hru st tk v => ⟨fun _ => ?_, fun z => absurd z n01⟩) h)
    refine lpw19_rule (fun x2 x3 pl st tk v flC faC hu da c1 c2 c3 c4 c5 c6 c7 pS nu => ∃ f k r i p, x2 = nI k ∧ x3 = nI r ∧ pl = nI i ∧ k = r + 1 ∧ r ≤ i ∧ i ≤ n ∧ n - i < f ∧ PS p flC faC hu da c1 c2 c3 c4 c5 c6 c7 0 mN 0 nN pS pN 0 sN ∧ P (ruN n t f k i p)) (fun x2 x3 pl st tk v flC faC hu da c1 c2 c3 c4 c5 c6 c7 pS nu => n - pl.toNatClampNeg) ?_ _ _ _ _ _ _ _ _ _ _ _ _ _ _ _ _ _ _ _ ⟨n + 1, 1, 0, j, fun _ => 0, rfl, rfl, rfl, rfl, Nat.zero_le _, l2, by omega, PS.zero _ _ _ _ _ _ _ _ _ _ _, hru⟩
    intro B x2 x3 pl st tk v flC faC hu da c1 c2 c3 c4 c5 c6 c7 pS nu hIv hB
    obtain ⟨f, k, r, i, p, rfl, rfl, rfl, hk, hr, hi, hf, hPS, hP⟩ := hIv
    obtain ⟨f', rfl⟩ : ∃ f', f = f' + 1 := ⟨f - 1, by omega⟩
    obtain ⟨hI, ⟨rfl, rfl, rfl, rfl, -⟩, -⟩ := id hPS
    have h7 := hI.1
    have h3 := hI.2.1.1
    obtain ⟨g1, g2⟩ := ts_spec t hi
    obtain ⟨g3, g4, g5⟩ := te_spec t hi
    rw [ru_step P] at hP
    refine ⟨fun z => ?_, fun _ => ?_⟩
    · have z' := (nI_leI (a := 150) (by omega) (by omega)).mp z
      rw [if_pos (show tkN n t i = 0 from tk_0.mpr (show n ≤ tsN n t i by omega))] at hP
      exact hok _ _ hP (by omega) _ _ _ _ _ _ _ _ _ _ _ _ _ _ _ _ _ _ _ _ _ hPS
    · refine s_advance hT hi ?_
      have hk5 := tk_lt n t i
      refine ⟨fun q => ?_, fun q => ?_⟩
      · have q' : tkN n t i ≠ 0 := fun y => q (by rw [y]; rfl)
        rw [if_neg q'] at hP
        refine s_wordHereC hT hi ?_
        refine s_takesNumbers hT g4 (wd_lt n t i) h3 h7 (tnK_mono g4 g2 (fun a ha hb pl tk v nu => ⟨fun _ => hbad a ha hb _ _ _ _ _ _ _ _ _ _ _ _ _ _ _ _ _ _ _ _ _, fun z => absurd rfl z⟩) (fun v0 v1 v2 v3 j' hBd k1 k2 hsem st tk vv nu' hnu => ⟨fun z => absurd z n01, fun _ => ?_⟩) hP)
        refine s_endsItem hT k2 (semK_mono k2 (fun a ha hb pl tk v => ⟨fun z => absurd rfl z, fun _ => hbad a ha hb _ _ _ _ _ _ _ _ _ _ _ _ _ _ _ _ _ _ _ _ _⟩) (fun j'' m1 m2 hru' st tk v => ⟨fun _ => ?_, fun z => absurd z n01⟩) hsem)
        refine s_carryOut hPS hBd hnu (fun q1 q2 q3 q4 q5 q6 q7 q8 q9 q10 q11 q12 hPS' => ?_)
        intro y2 ey2 y3 ey3
        rw [nI_1] at ey2 ey3
        subst ey2; subst ey3
        refine hB _ _ _ _ _ _ _ _ _ _ _ _ _ _ _ _ _ _ _ ⟨f', k + 1, r + 1, j'', _, rfl, rfl, rfl, by omega, by omega, m2, by omega, hPS', hru'⟩ ?_
        rw [nI_clamp (by omega), nI_clamp (by omega)]
        have := g5 q'
        omega
      · have q' : tkN n t i = 0 := (nI_eq (b := 0) (by omega) (by omega)).mp q
        rw [if_pos q'] at hP
        exact hok _ _ hP (by omega) _ _ _ _ _ _ _ _ _ _ _ _ _ _ _ _ _ _ _ _ _ hPS
  · rw [if_neg hw] at h
    exact ⟨fun _ => hbad _ s2 h _ _ _ _ _ _ _ _ _ _ _ _ _ _ _ _ _ _ _ _ _, fun z => absurd ((nI_eq (b := 1) (by omega) (by omega)).mp z) hw⟩
set_option maxHeartbeats 4000000 in
theorem s_readItems {n : Nat} {t : Nat → Nat} {mt row0 : Nat → Int32} {d at0 be0 fl0 fa0 do0 : Int32} {P : Nat ⊕ (Nat × (Nat → Nat)) → Prop} {Q : Int32 → Int32 → Int32 → Int32 → Int32 → Int32 → (Nat → Int32) → Prop} (hT : TX n t mt) (hd : d = 0 ∨ d = 1)
    (hbad : ∀ a, P (.inl a) → ∀ b fl fa row, (d = 0 → row = row0) → Q (-1) (nI a) b fl fa d row)
    (hok : ∀ k p, P (.inr (k, p)) → k < 1000 → Inv p → p 114 = 0 → ∀ a b fl fa row, RJ d row0 p row → Q (nI k) a b fl fa d row)
    (h : P (reN n t)) : wp_Mo_readItems d (nI n) at0 be0 fl0 fa0 do0 row0 mt wordsF30 Q := by
  have h150 := hT.1
  have rj0 : ∀ {p : Nat → Nat} {row : Nat → Int32}, RJ d row0 p row → (d = 0 → row = row0) := by
    intro p row hR z
    rcases hR with ⟨-, e⟩ | ⟨e, -⟩
    · exact e
    · rw [z] at e; exact absurd e (by decide)
  unfold wp_Mo_readItems
  refine ⟨hd, ?_⟩
  obtain ⟨s1, s2⟩ := ts_spec t (Nat.zero_le n)
  obtain ⟨e1, e2, -⟩ := te_spec t (Nat.zero_le n)
  refine s_next (i := 0) hT (Nat.zero_le _) ?_
  simp only [jn0_e, jn1_e]
  refine lpw6_rule (fun x2 a be fl fa row => (x2 = 0 ∧ a = nI (tsN n t 0) ∧ be = nI (teN n t 0) ∧ fl = 0 ∧ fa = 0 ∧ row = row0) ∨ (∃ f k i p, x2 = nI k ∧ 1 ≤ k ∧ k ≤ i + 1 ∧ a = nI (tsN n t i) ∧ be = nI (teN n t i) ∧ i ≤ n ∧ n - i < f ∧ fl = nI (p 17) ∧ fa = nI (p 27) ∧ Inv p ∧ p 114 = 0 ∧ RJ d row0 p row ∧ P (ruN n t f k i p))) (fun x2 a be fl fa row => if x2 = 0 then 1000 else 500 - be.toNatClampNeg) ?_ _ _ _ _ _ _ (Or.inl ⟨rfl, rfl, rfl, rfl, rfl, rfl⟩)
  intro B x2 a be fl fa row hIv hB
  rcases hIv with ⟨rfl, rfl, rfl, rfl, rfl, rfl⟩ | ⟨f, k, i, p, rfl, hk1, hk2, rfl, rfl, hi, hf, rfl, rfl, hI, h114, hR, hP⟩
  · refine ⟨fun _ => ?_, fun z => by first | exact absurd rfl z | exact absurd trivial z⟩
    refine s_wordHereM hT (Nat.zero_le _) ?_
    unfold reN at h
    have hw6 := wd_lt n t 0
    by_cases hw : wdN n t 0 = 1
    · rw [if_pos hw, semK_map P] at h
      rw [hw, show (nI 1 - 1 : Int32) = 0 from rfl]
      refine ⟨fun z => absurd z (by decide), fun _ => ⟨fun z => by first | exact absurd rfl z | exact absurd trivial z, fun _ => ⟨fun z => by first | exact absurd rfl z | exact absurd trivial z, fun _ => ⟨fun z => by first | exact absurd rfl z | exact absurd trivial z, fun _ => ?_⟩⟩⟩⟩
      unfold wp_Mo_readsItem
      have key : ∀ row1 : Nat → Int32, RJ d row (fun _ => 0) row1 → wp_Mo_next (nI n) (nI (tsN n t 0)) (nI (teN n t 0)) mt (fun a b => ((a = nI n → Q (-1) a b 0 0 d row1) ∧ (¬ a = nI n → vp_in a 150 ∧ ((mt (Int32.toNatClampNeg a) = 59 → ∀ y : Int32, y = 0 + 1 → wp_Mo_next (nI n) a b mt (fun a' b' => B y a' b' 0 0 row1)) ∧ (¬ mt (Int32.toNatClampNeg a) = 59 → Q (-1) a b 0 0 d row1))))) := by
        intro row1 hR1
        refine s_semi (x := 0) (Qb := fun a b => Q (-1) a b 0 0 d row1) (K := fun y a' b' => B y a' b' 0 0 row1) hT e2 (semK_mono e2 (fun a _ hb b => hbad a hb _ _ _ _ (rj0 hR1)) (fun j l1 l2 hru => ?_) h)
        obtain ⟨g1, g2⟩ := ts_spec t l2
        obtain ⟨g3, g4, g5⟩ := te_spec t l2
        refine hB _ _ _ _ _ _ (Or.inr ⟨n + 1, 1, j, fun _ => 0, rfl, Nat.le_refl _, by omega, rfl, rfl, l2, by omega, rfl, rfl, Inv.zero, rfl, hR1, hru⟩) ?_
        rw [if_pos rfl, if_neg (by decide)]
        omega
      refine ⟨fun _ => ?_, fun z => by first | exact absurd rfl z | exact absurd trivial z⟩
      rcases hd with rfl | rfl
      · exact ⟨fun _ => ⟨fun _ => key row (Or.inl ⟨rfl, rfl⟩), fun z => absurd z n01⟩, fun z => by first | exact absurd rfl z | exact absurd trivial z⟩
      · refine ⟨fun z => absurd z n01, fun _ => ?_⟩
        refine s_layParish (fun row' hz hH => ⟨fun _ => key row' (Or.inr ⟨rfl, fun j hj => by rw [Nat.zero_add]; exact hz j hj, hH⟩), fun z => absurd z n01⟩)
    · rw [if_neg hw] at h
      have hq : ∀ b, Q (-1) (nI (tsN n t 0)) b 0 0 d row := fun b => hbad _ h _ _ _ _ (fun _ => rfl)
      rcases (show wdN n t 0 = 0 ∨ wdN n t 0 = 2 ∨ wdN n t 0 = 3 ∨ wdN n t 0 = 4 ∨ wdN n t 0 = 5 by omega) with e | e | e | e | e
      · rw [e]; exact ⟨fun _ => hq _, fun z => by first | exact absurd rfl z | exact absurd trivial z⟩
      all_goals
        rw [e]
        exact ⟨fun _ => hq _, fun _ => ⟨fun _ => ⟨fun z => by first | exact absurd rfl z | exact absurd trivial z, fun _ => ⟨fun _ => hq _, fun z => absurd z (by decide)⟩⟩, fun z => absurd z (by decide)⟩⟩
  · obtain ⟨f', rfl⟩ : ∃ f', f = f' + 1 := ⟨f - 1, by omega⟩
    have h7 := hI.1
    have h3 := hI.2.1.1
    obtain ⟨g1, g2⟩ := ts_spec t hi
    obtain ⟨g3, g4, g5⟩ := te_spec t hi
    have hk0 : ¬ nI k = 0 := nI_ne (b := 0) (by omega) (by omega) (by omega)
    rw [ru_step P] at hP
    refine ⟨fun z => absurd z hk0, fun _ => ?_⟩
    by_cases q : tkN n t i = 0
    · rw [if_pos q] at hP
      have q' : n ≤ tsN n t i := tk_0.mp q
      exact ⟨fun _ => hok _ _ hP (by omega) hI h114 _ _ _ _ _ hR, fun z => absurd (nI_le q' (by omega)) z⟩
    · rw [if_neg q] at hP
      have q' : tsN n t i < n := by
        by_cases y : tsN n t i < n
        · exact y
        · exact absurd (tk_0.mpr (show n ≤ tsN n t i by omega)) q
      refine ⟨fun z => absurd z (nI_ge q' (by omega)), fun _ => ?_⟩
      refine s_wordHereM hT hi ?_
      have hw6 := wd_lt n t i
      by_cases hw2 : wdN n t i < 2
      · have hb := tnK_lo hw2 hP
        have hq : ∀ b, Q (-1) (nI (tsN n t i)) b (nI (p 17)) (nI (p 27)) d row := fun b => hbad _ hb _ _ _ _ (rj0 hR)
        rcases (show wdN n t i = 0 ∨ wdN n t i = 1 by omega) with e | e
        · rw [e]; exact ⟨fun _ => hq _, fun z => by first | exact absurd rfl z | exact absurd trivial z⟩
        · rw [e]
          exact ⟨fun z => absurd z (by decide), fun _ => ⟨fun z => by first | exact absurd rfl z | exact absurd trivial z, fun _ => ⟨fun _ => ⟨fun _ => hq _, fun z => absurd z (by decide)⟩, fun z => absurd z hk0⟩⟩⟩
      · have m1 : ¬ nI (wdN n t i) - 1 = -1 := by
          rcases (show wdN n t i = 2 ∨ wdN n t i = 3 ∨ wdN n t i = 4 ∨ wdN n t i = 5 by omega) with e | e | e | e <;> rw [e] <;> decide
        have m0 : ¬ nI (wdN n t i) - 1 = 0 := by
          rcases (show wdN n t i = 2 ∨ wdN n t i = 3 ∨ wdN n t i = 4 ∨ wdN n t i = 5 by omega) with e | e | e | e <;> rw [e] <;> decide
        refine ⟨fun z => absurd z m1, fun _ => ⟨fun _ => ⟨fun _ => ⟨fun z => by first | exact absurd rfl z | exact absurd trivial z, fun _ => ?_⟩, fun z => absurd z hk0⟩, fun z => absurd z m0⟩⟩
        refine s_readsItem hT g4 (by omega) hw6 hI hR (tnK_mono g4 g2 (fun a' _ hb b => ⟨fun z => by first | exact absurd rfl z | exact absurd trivial z, fun _ => hbad _ hb _ _ _ _ (rj0 hR)⟩) (fun v0 v1 v2 v3 j hBd k1 k2 hsem b row' hR' => ⟨fun _ => ?_, fun z => absurd z n01⟩) hP)
        refine s_semi (x := nI k) (Qb := fun a b => Q (-1) a b (nI (apN (wdN n t i) v0 v1 v2 v3 p 17)) (nI (apN (wdN n t i) v0 v1 v2 v3 p 27)) d row') (K := fun y a' b' => B y a' b' (nI (apN (wdN n t i) v0 v1 v2 v3 p 17)) (nI (apN (wdN n t i) v0 v1 v2 v3 p 27)) row') hT k2 (semK_mono k2 (fun a _ hb b => hbad a hb _ _ _ _ (rj0 hR')) (fun j' l1 l2 hru => ?_) hsem)
        obtain ⟨x1, x2⟩ := ts_spec t l2
        obtain ⟨y1, y2, y3⟩ := te_spec t l2
        refine hB _ _ _ _ _ _ (Or.inr ⟨f', k + 1, j', _, nI_1 k, by omega, by omega, rfl, rfl, l2, by omega, rfl, rfl, ap_Inv hI hBd, ap_114 hI h114 hBd, hR', hru⟩) ?_
        have hk1' : ¬ nI (k + 1) = 0 := nI_ne (b := 0) (by omega) (by omega) (by omega)
        rw [nI_1, if_neg hk1', if_neg hk0, nI_clamp (by omega), nI_clamp (by omega)]
        omega
theorem MR.z114 {p : Nat → Nat} {row : Nat → Int32} (h : MR p row 0) (h0 : p 114 = 0) : MR p (upd row 114 0) 0 := by
  intro j hj
  rw [Nat.zero_add]
  by_cases e : j = 114
  · rw [e, pk_us, h0]; rfl
  · rw [pk_un e]; exact h.at0 hj
theorem m10_lt {a : Nat} (h : a ≤ 150) : (-10 : Int32) - nI a < 0 := by
  have : ∀ a, a < 151 → (-10 : Int32) - nI a < 0 := by decide +kernel
  exact this a (by omega)
