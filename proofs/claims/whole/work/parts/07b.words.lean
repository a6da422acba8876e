/-! PURE: numbers and words of a text, both sides -/
theorem inB_sb {v lo hs : Nat} (hv : v < 2 ^ 30) (hl : lo < 2 ^ 30) (hh : hs < 2 ^ 30) : inB (nI v) (nI lo) (nI hs - 1) = bI (decide (lo ≤ v ∧ v < hs)) := by
  have e : (nI hs - 1).toInt = (hs : Int) - 1 := pk_sub_toInt (b := 1) hh (by omega)
  have ev : (nI v).toInt = (v : Int) := nI_toInt (by omega)
  unfold inB
  by_cases h1 : lo ≤ v
  · rw [if_neg (nI_nlt h1 (by omega))]
    by_cases h2 : v < hs
    · rw [if_neg (fun q => by rw [Int32.lt_iff_toInt_lt, e, ev] at q; omega), decide_eq_true ⟨h1, h2⟩]; rfl
    · rw [if_pos (by rw [Int32.lt_iff_toInt_lt, e, ev]; omega), decide_eq_false (fun z => h2 z.2)]; rfl
  · rw [if_pos (nI_lt (by omega) (by omega)), decide_eq_false (fun z => h1 z.1)]; rfl
def numK {α : Type} (n : Nat) (t : Nat → Nat) (i lo hs : Nat) (bad : Nat → α) (ok : Nat → Nat → α) : α := if tkN n t i = 2 ∧ lo ≤ tvN n t i ∧ tvN n t i < hs then ok (tvN n t i) (teN n t i) else bad (tsN n t i)
def semK {α : Type} (n : Nat) (t : Nat → Nat) (i : Nat) (bad : Nat → α) (ok : Nat → α) : α := if tkN n t i = 1 then ok (teN n t i) else bad (tsN n t i)
theorem numK_map {α β : Type} (g : α → β) (n : Nat) (t : Nat → Nat) (i lo hs : Nat) (bad : Nat → α) (ok : Nat → Nat → α) : g (numK n t i lo hs bad ok) = numK n t i lo hs (fun a => g (bad a)) (fun v j => g (ok v j)) := by
  unfold numK
  split <;> rfl
theorem semK_map {α β : Type} (g : α → β) (n : Nat) (t : Nat → Nat) (i : Nat) (bad : Nat → α) (ok : Nat → α) : g (semK n t i bad ok) = semK n t i (fun a => g (bad a)) (fun j => g (ok j)) := by
  unfold semK
  split <;> rfl
theorem numK_mono {n : Nat} {t : Nat → Nat} {i lo hs : Nat} {bad bad' : Nat → Prop} {ok ok' : Nat → Nat → Prop} (hi : i ≤ n) (hb : ∀ a, a ≤ n → bad a → bad' a) (ho : ∀ v j, lo ≤ v → v < hs → i < j → j ≤ n → ok v j → ok' v j) (h : numK n t i lo hs bad ok) : numK n t i lo hs bad' ok' := by
  unfold numK at h ⊢
  obtain ⟨h1, h2, h3⟩ := te_spec t hi
  by_cases q : tkN n t i = 2 ∧ lo ≤ tvN n t i ∧ tvN n t i < hs
  · rw [if_pos q] at h ⊢
    exact ho _ _ q.2.1 q.2.2 (h3 (by omega)) h2 h
  · rw [if_neg q] at h ⊢
    exact hb _ (ts_spec t hi).2 h
theorem semK_mono {n : Nat} {t : Nat → Nat} {i : Nat} {bad bad' : Nat → Prop} {ok ok' : Nat → Prop} (hi : i ≤ n) (hb : ∀ a, a ≤ n → bad a → bad' a) (ho : ∀ j, i < j → j ≤ n → ok j → ok' j) (h : semK n t i bad ok) : semK n t i bad' ok' := by
  unfold semK at h ⊢
  obtain ⟨h1, h2, h3⟩ := te_spec t hi
  by_cases q : tkN n t i = 1
  · rw [if_pos q] at h ⊢
    exact ho _ (h3 (by omega)) h2 h
  · rw [if_neg q] at h ⊢
    exact hb _ (ts_spec t hi).2 h
theorem s_takesNumber {n i lo hs slot : Nat} {t : Nat → Nat} {xt nums : Nat → Int32} {x1 x2 x3 st tk v : Int32} {Q : Int32 → Int32 → Int32 → Int32 → Int32 → (Nat → Int32) → Prop} (hT : TX n t xt) (hi : i ≤ n) (e1 : x1 = nI slot) (e2 : x2 = nI lo) (e3 : x3 = nI hs - 1) (hsl : slot < 4) (hlo : lo < 1000) (hhs : hs < 1000)
    (h : numK n t i lo hs (fun a => ∀ pl tk v nu, Q 0 pl (nI a) tk v nu) (fun v j => ∀ st tk, Q 1 (nI j) st tk (nI v) (upd nums slot (nI v)))) : wp_Tl_takesNumber x1 x2 x3 (nI n) (nI i) st tk v xt nums Q := by
  subst e1; subst e2; subst e3
  unfold wp_Tl_takesNumber
  refine s_advance hT hi ?_
  have hv := tvA_lt n t (tsN n t i)
  change tvN n t i < 1000 at hv
  refine ⟨vp_in_nI hsl (by omega), ?_⟩
  simp only [fe_e, nI_clamp (show slot < 2 ^ 31 by omega), w_within, inB_sb (show tvN n t i < 2 ^ 30 by omega) (show lo < 2 ^ 30 by omega) (show hs < 2 ^ 30 by omega)]
  have hk : tkN n t i < 5 := by
    unfold tkN tkA
    split
    · omega
    · split
      · omega
      · split
        · split <;> omega
        · split <;> omega
  unfold numK at h
  by_cases q : tkN n t i = 2
  · refine ⟨fun z => absurd (by rw [q]; rfl) z, fun _ => ?_⟩
    apply bI_br
    by_cases q2 : lo ≤ tvN n t i ∧ tvN n t i < hs
    · rw [if_pos ⟨q, q2⟩] at h
      rw [decide_eq_true q2, if_pos rfl]
      exact h _ _
    · rw [if_neg (fun z => q2 z.2)] at h
      rw [decide_eq_false q2, if_neg (by decide)]
      exact h _ _ _ _
  · rw [if_neg (fun z => q z.1)] at h
    exact ⟨fun _ => h _ _ _ _, fun z => absurd ((nI_eq (b := 2) (by omega) (by omega)).mp z) q⟩
theorem fv_1 {t : Nat → Nat} {a : Nat} (h : fgP (t a) = true) : fvN t a 1 = t a - 48 := by
  have : 48 ≤ t a ∧ t a ≤ 57 := of_decide_eq_true h
  show (10 * 0 + t (a + 0) - 48) % 1000 = _
  rw [Nat.add_zero]
  omega
theorem fv_2 {t : Nat → Nat} {a : Nat} (h : fgP (t a) = true) (h2 : fgP (t (a + 1)) = true) : fvN t a 2 = 10 * (t a - 48) + t (a + 1) - 48 := by
  have : 48 ≤ t a ∧ t a ≤ 57 := of_decide_eq_true h
  have : 48 ≤ t (a + 1) ∧ t (a + 1) ≤ 57 := of_decide_eq_true h2
  show (10 * fvN t a 1 + t (a + 1) - 48) % 1000 = _
  rw [fv_1 h]
  omega
theorem s_number {n i lo hs : Nat} {t : Nat → Nat} {mt : Nat → Int32} {x1 x2 at0 : Int32} {Q : Int32 → Int32 → Int32 → Prop} (hT : TX n t mt) (hi : i ≤ n) (e2 : x1 = nI lo) (e3 : x2 = nI hs - 1) (hlo : lo < 1000) (hhs : hs < 1000)
    (h : numK n t i lo hs (fun a => ∀ b, Q (-1) (nI a) b) (fun v j => ∀ a, Q (nI v) a (nI j))) : wp_Mo_number x1 x2 (nI n) at0 (nI i) mt Q := by
  subst e2; subst e3
  have h150 := hT.1
  have hts := (ts_spec t hi).2
  unfold wp_Mo_number
  refine s_next hT hi ?_
  rw [w_moFig hT (show tsN n t i < 1000 by omega)]
  apply bI_br
  unfold numK tkN tvN teN at h
  unfold teN
  obtain ⟨a, ha⟩ : ∃ a, a = tsN n t i := ⟨_, rfl⟩
  rw [← ha] at h hts ⊢
  by_cases hn : a < n
  · have hn' : ¬ n ≤ a := by omega
    by_cases g1 : ltP (t a) = true
    · have hf : fgP (t a) = false := by
        have q1 : 97 ≤ t a ∧ t a ≤ 122 := of_decide_eq_true g1
        exact decide_eq_false (by omega)
      rw [show tkA n t a = 3 by unfold tkA; rw [if_neg hn', if_pos g1], if_neg (fun z => absurd z.1 (by omega))] at h
      rw [hf, Bool.and_false, if_neg (by decide)]
      exact h _
    · by_cases g2 : fgP (t a) = true
      · rw [decide_eq_true hn, g2, Bool.true_and, if_pos rfl]
        have ek : tkA n t a = (if enN fgP n t a - a ≤ 2 then 2 else 4) := by unfold tkA; rw [if_neg hn', if_neg g1, if_pos g2]
        have ee : teA n t a = enN fgP n t a := by unfold teA; rw [if_neg hn', if_neg g1, if_pos g2]
        have ev : tvA n t a = fvN t a (enN fgP n t a - a) := by unfold tvA; rw [if_neg hn', if_neg g1, if_pos g2]
        rw [ek, ee, ev] at h
        rw [ee]
        have hst := enN_step hn g2
        obtain ⟨k1, k2, k3, k4⟩ := enN_spec fgP t (show a + 1 ≤ n by omega)
        rw [← hst] at k1 k2 k3 k4
        obtain ⟨b, hb⟩ : ∃ b, b = enN fgP n t a := ⟨_, rfl⟩
        rw [← hb] at h k1 k2 k3 k4 ⊢
        have es : nI b - nI a = nI (b - a) := pk_sub (by omega)
        have c0 : 48 ≤ t a ∧ t a ≤ 57 := of_decide_eq_true g2
        rw [es]
        by_cases hb2 : b - a ≤ 2
        · refine ⟨fun _ => ⟨hT.vp hn, ?_⟩, fun z => absurd (nI_le (b := 2) hb2 (by omega)) z⟩
          rw [if_pos hb2] at h
          have hfv := fvN_lt t a (b - a)
          rw [hT.at hn]
          have fin : wp_Mo_in (nI (fvN t a (b - a))) (nI lo) (nI hs - 1) (fun r => ((r = 0 → Q (-1) (nI a) (nI b)) ∧ (¬ r = 0 → Q (nI (fvN t a (b - a))) (nI a) (nI b)))) := by
            rw [w_in, inB_sb (by omega) (by omega) (by omega)]
            apply bI_br
            by_cases q2 : lo ≤ fvN t a (b - a) ∧ fvN t a (b - a) < hs
            · rw [if_pos ⟨rfl, q2⟩] at h
              rw [decide_eq_true q2, if_pos rfl]
              exact h _
            · rw [if_neg (fun z => q2 z.2)] at h
              rw [decide_eq_false q2, if_neg (by decide)]
              exact h _
          have e48 : nI (t a) - 48 = nI (t a - 48) := pk_sub (b := 48) (by omega)
          simp only [fe_e, jn1_e, e48]
          by_cases hb1 : b - a = 2
          · have c1 := k3 (a + 1) (by omega) (by omega)
            have c2 : 48 ≤ t (a + 1) ∧ t (a + 1) ≤ 57 := of_decide_eq_true c1
            refine ⟨fun z => absurd (by rw [hb1]; rfl) z, fun _ => ?_⟩
            rw [nI_1, hT.at (show a + 1 < n by omega)]
            refine ⟨hT.vp (by omega), ?_⟩
            have e9 : 10 * nI (t a - 48) + nI (t (a + 1)) - 48 = nI (fvN t a (b - a)) := by
              rw [show (10 : Int32) * nI (t a - 48) = nI (10 * (t a - 48)) from pk_mul 10 _, nI_add, show nI (10 * (t a - 48) + t (a + 1)) - 48 = nI (10 * (t a - 48) + t (a + 1) - 48) from pk_sub (b := 48) (by omega), hb1, fv_2 g2 c1]
            rw [e9]
            exact fin
          · have hb1' : b - a = 1 := by omega
            refine ⟨fun _ => ?_, fun z => absurd ((nI_eq (b := 2) (by omega) (by omega)).mp z) hb1⟩
            have e9 : nI (t a - 48) = nI (fvN t a (b - a)) := by rw [hb1', fv_1 g2]
            rw [e9]
            exact fin
        · refine ⟨fun z => absurd ((nI_leI (b := 2) (by omega) (by omega)).mp z) hb2, fun _ => ?_⟩
          rw [if_neg hb2, if_neg (fun z => absurd z.1 (by omega))] at h
          exact h _
      · have hf : fgP (t a) = false := by
          cases hq : fgP (t a)
          · rfl
          · exact absurd hq g2
        rw [if_neg (fun z => by
          have z1 := z.1
          unfold tkA at z1
          rw [if_neg hn', if_neg g1, if_neg g2] at z1
          split at z1 <;> omega)] at h
        rw [hf, Bool.and_false, if_neg (by decide)]
        exact h _
  · rw [show tkA n t a = 0 from if_pos (by omega), if_neg (fun z => absurd z.1 (by omega))] at h
    rw [decide_eq_false hn, Bool.false_and, if_neg (by decide)]
    exact h _
/-! words -/
def wlN : List (List Nat) := [[112, 97, 114, 105, 115, 104], [102, 108, 105, 116, 99, 104], [102, 97, 109, 105, 108, 121], [111, 117, 116], [100, 97, 121, 115]]
def wLe (k : Nat) : Nat := lenJ.getD k 0
def wCh (k j : Nat) : Nat := (wlN.getD k []).getD j 0
set_option maxRecDepth 100000 in
theorem wL0 : ∀ k, k < 5 → ishr (strL k) 0 = nI (wLe k) ∧ 1 ≤ wLe k ∧ wLe k ≤ 6 ∧ lenJ.getD k 0 = wLe k := by decide +kernel
set_option maxRecDepth 100000 in
theorem wC0 : ∀ k, k < 5 → ∀ j, j < 6 → (j < wLe k → strC k (nI j) = nI (wCh k j) ∧ 97 ≤ wCh k j) ∧ (wLe k ≤ j → wCh k j = 0) ∧ wCh k j < 128 := by decide +kernel
set_option maxRecDepth 100000 in
theorem wF0 : ∀ k, k < 5 → ∀ j, j < 6 → wordsF30 (6 * k + j) = nI (wCh k j) := by decide +kernel
def wmP (t : Nat → Nat) (a b k : Nat) : Prop := b - a = wLe k ∧ ∀ j, j < wLe k → t (a + j) = wCh k j
theorem s_wordIs {n a b k : Nat} {t : Nat → Nat} {xt : Nat → Int32} {Q : Int32 → Prop} (hT : TX n t xt) (hk : k < 5) (hab : a ≤ b) (hb : b ≤ n) (h1 : wmP t a b k → Q 1) (h0 : ¬ wmP t a b k → Q 0) : wp_Tl_wordIs k (nI b) (nI a) xt Q := by
  have h150 := hT.1
  obtain ⟨l1, l2, l3, l4⟩ := wL0 k hk
  unfold wp_Tl_wordIs
  rw [l1, l4, show nI b - nI a = nI (b - a) from pk_sub hab]
  refine ⟨hk, ?_, ?_⟩
  · intro e
    have e' := (nI_eq (by omega) (by omega)).mp e
    obtain ⟨N, hN, hlt⟩ := pk_least (fun j => j = wLe k ∨ ¬ t (a + j) = wCh k j) ⟨wLe k, Or.inl rfl⟩
    have hle : N ≤ wLe k := by
      by_cases z : N ≤ wLe k
      · exact z
      · exact absurd (Or.inl rfl) (hlt (wLe k) (by omega))
    have ok : ∀ j, j < N → t (a + j) = wCh k j := fun j hj => Classical.not_not.mp (fun z => hlt j hj (Or.inr z))
    refine lpw1_run nI N ?_ ?_ 0 (Nat.zero_le _)
    · intro B j hj hB
      have c := (wC0 k hk j (by omega)).1 (by omega)
      simp only [nI_add, hT.at (show a + j < n by omega), c.1, ok j hj, fe_e, nI_1]
      exact ⟨fun q => absurd q (nI_ge (by omega) (by omega)), fun _ => ⟨hT.vp (by omega), vp_in_nI (by omega) (by omega), fun _ => hB, fun q => absurd trivial q⟩⟩
    · intro B
      by_cases z : N = wLe k
      · refine ⟨fun _ => h1 ⟨e', fun j hj => ok j (by omega)⟩, fun q => absurd (nI_le (by omega) (by omega)) q⟩
      · have hne : ¬ t (a + N) = wCh k N := by
          rcases hN with q | q
          · exact absurd q z
          · exact q
        have c := (wC0 k hk N (by omega)).1 (by omega)
        have c3 := (wC0 k hk N (by omega)).2.2
        have c4 := (hT.2 (a + N) (by omega)).1
        simp only [nI_add, hT.at (show a + N < n by omega), c.1]
        exact ⟨fun q => absurd q (nI_ge (by omega) (by omega)), fun _ => ⟨hT.vp (by omega), vp_in_nI (by omega) (by omega), fun q => absurd ((nI_eq (by omega) (by omega)).mp q) hne, fun _ => h0 (fun w => hne (w.2 N (by omega)))⟩⟩
  · intro e
    exact h0 (fun w => e (by rw [w.1]))
theorem s_isWord {n a b k : Nat} {t : Nat → Nat} {mt : Nat → Int32} {Q : Int32 → Prop} (hT : TX n t mt) (hk : k < 5) (hab : a ≤ b) (hb : b ≤ n) (hl : ∀ j, a ≤ j → j < b → ltP (t j) = true) (h1 : wmP t a b k → Q 1) (h0 : ¬ wmP t a b k → Q 0) : wp_Mo_isWord (nI k) (nI a) (nI b) mt wordsF30 Q := by
  have h150 := hT.1
  obtain ⟨-, l2, l3, -⟩ := wL0 k hk
  have hl' : ∀ j, a + j < b → 97 ≤ t (a + j) ∧ t (a + j) ≤ 122 := fun j hj => of_decide_eq_true (hl (a + j) (by omega) hj)
  unfold wp_Mo_isWord
  simp only [jn1_e]
  rw [show nI b - nI a = nI (b - a) from pk_sub hab]
  refine ⟨fun q => ?_, fun q => ?_⟩
  · have q' := (nI_ltI (a := 6) (by omega) (by omega)).mp q
    have hQ := h0 (fun w => by have := w.1; omega)
    refine lpw2_run (fun _ => 0) (fun _ => 0) 0 (fun B j hj => absurd hj (by omega)) ?_ 0 (Nat.zero_le _)
    intro B
    exact ⟨fun z => absurd z (by decide), fun _ => ⟨fun _ => ⟨bz0, hQ⟩, fun z => absurd rfl z⟩⟩
  · have q' : b - a ≤ 6 := by
      by_cases z : b - a ≤ 6
      · exact z
      · exact absurd (nI_lt (a := 6) (by omega) (by omega)) q
    obtain ⟨c, hc⟩ : ∃ c : Nat → Nat, c = fun j => if a + j < b then t (a + j) else 0 := ⟨_, rfl⟩
    have c128 : ∀ j, c j < 128 := fun j => by
      rw [hc]
      show (if a + j < b then t (a + j) else 0) < 128
      split
      · exact (hT.2 _ (by omega)).1
      · omega
    obtain ⟨N, hN, hlt⟩ := pk_least (fun j => j = 6 ∨ ¬ c j = wCh k j) ⟨6, Or.inl rfl⟩
    have hle : N ≤ 6 := by
      by_cases z : N ≤ 6
      · exact z
      · exact absurd (Or.inl rfl) (hlt 6 (by omega))
    have ok : ∀ j, j < N → c j = wCh k j := fun j hj => Classical.not_not.mp (fun z => hlt j hj (Or.inr z))
    have bd : ∀ j, j < 6 → (nI b ≤ nI a + nI j → nI (c j) = 0) ∧ (¬ nI b ≤ nI a + nI j → vp_in (nI a + nI j) 150 ∧ mt (Int32.toNatClampNeg (nI a + nI j)) = nI (c j)) := by
      intro j hj
      rw [nI_add, hc]
      refine ⟨fun z => ?_, fun z => ?_⟩
      · have z' := (nI_leI (by omega) (by omega)).mp z
        show nI (if a + j < b then t (a + j) else 0) = 0
        rw [if_neg (by omega)]; rfl
      · have z' : a + j < b := by
          by_cases y : a + j < b
          · exact y
          · exact absurd (nI_le (by omega) (by omega)) z
        refine ⟨hT.vp (by omega), ?_⟩
        rw [hT.at (by omega)]
        show _ = nI (if a + j < b then t (a + j) else 0)
        rw [if_pos z']
    have ix : ∀ j, j < 6 → vp_in (6 * nI k + nI j) 30 ∧ wordsF30 (Int32.toNatClampNeg (6 * nI k + nI j)) = nI (wCh k j) := by
      intro j hj
      rw [show (6 : Int32) * nI k = nI (6 * k) from pk_mul 6 _, nI_add, nI_clamp (by omega)]
      exact ⟨vp_in_nI (by omega) (by omega), wF0 k hk j hj⟩
    have stp : ∀ (B : Int32 → Int32 → Prop) (j : Nat), j < 6 → (c j = wCh k j → B 1 (nI (j + 1))) → (¬ c j = wCh k j → B 0 (nI (j + 1))) → ((nI b ≤ nI a + nI j → vp_in (6 * nI k + nI j) 30 ∧ ((¬ 0 = wordsF30 (Int32.toNatClampNeg (6 * nI k + nI j)) → ∀ y : Int32, y = nI j + 1 → B 0 y) ∧ (0 = wordsF30 (Int32.toNatClampNeg (6 * nI k + nI j)) → ∀ y : Int32, y = nI j + 1 → B 1 y))) ∧ (¬ nI b ≤ nI a + nI j → vp_in (nI a + nI j) 150 ∧ vp_in (6 * nI k + nI j) 30 ∧ ((¬ mt (Int32.toNatClampNeg (nI a + nI j)) = wordsF30 (Int32.toNatClampNeg (6 * nI k + nI j)) → ∀ y : Int32, y = nI j + 1 → B 0 y) ∧ (mt (Int32.toNatClampNeg (nI a + nI j)) = wordsF30 (Int32.toNatClampNeg (6 * nI k + nI j)) → ∀ y : Int32, y = nI j + 1 → B 1 y)))) := by
      intro B j hj b1 b0
      have w128 := (wC0 k hk j hj).2.2
      have cj := c128 j
      obtain ⟨x1, x2⟩ := ix j hj
      obtain ⟨y1, y2⟩ := bd j hj
      rw [x2]
      refine ⟨fun z => ⟨x1, fun w y hy => ?_, fun w y hy => ?_⟩, fun z => ⟨(y2 z).1, x1, fun w y hy => ?_, fun w y hy => ?_⟩⟩
      · rw [hy, nI_1]; exact b0 (fun e => w (by rw [← y1 z, e]))
      · rw [hy, nI_1]; exact b1 ((nI_eq (by omega) (by omega)).mp (by rw [y1 z, w]))
      · rw [hy, nI_1]; exact b0 (fun e => w (by rw [(y2 z).2, e]))
      · rw [hy, nI_1]; exact b1 ((nI_eq (by omega) (by omega)).mp (by rw [← (y2 z).2, w]))
    by_cases hN6 : N = 6
    · have hw : wmP t a b k := by
        have hlen : b - a = wLe k := by
          by_cases z1 : b - a < wLe k
          · have e1 := ok (b - a) (by omega)
            have e2 := ((wC0 k hk (b - a) (by omega)).1 z1).2
            rw [← e1, hc] at e2
            have e3 : 97 ≤ (if a + (b - a) < b then t (a + (b - a)) else 0) := e2
            rw [if_neg (by omega)] at e3
            omega
          · by_cases z2 : wLe k < b - a
            · have e1 := ok (wLe k) (by omega)
              have e2 := (wC0 k hk (wLe k) (by omega)).2.1 (Nat.le_refl _)
              rw [e2, hc] at e1
              have e3 : (if a + wLe k < b then t (a + wLe k) else 0) = 0 := e1
              rw [if_pos (by omega)] at e3
              have := hl' (wLe k) (by omega)
              omega
            · omega
        refine ⟨hlen, fun j hj => ?_⟩
        have e1 := ok j (by omega)
        rw [hc] at e1
        have e3 : (if a + j < b then t (a + j) else 0) = wCh k j := e1
        rw [if_pos (by omega)] at e3
        exact e3
      have hQ := h1 hw
      refine lpw2_run (fun _ => 1) nI 6 ?_ ?_ 0 (Nat.zero_le _)
      · intro B j hj hB
        exact ⟨fun z => absurd z (nI_ge (b := 6) hj (by decide)), fun _ => ⟨fun z => absurd z (by decide), fun _ => stp B j hj (fun _ => hB) (fun z => absurd (ok j (by omega)) z)⟩⟩
      · intro B
        exact ⟨fun _ => ⟨bz1, hQ⟩, fun z => absurd (nI_le (a := 6) (b := 6) (Nat.le_refl _) (by decide)) z⟩
    · have hne : ¬ c N = wCh k N := by
        rcases hN with z | z
        · exact absurd z hN6
        · exact z
      have hQ := h0 (fun w => by
        apply hne
        rw [hc]
        show (if a + N < b then t (a + N) else 0) = _
        have w1 := w.1
        by_cases z : a + N < b
        · rw [if_pos z]; exact w.2 N (by omega)
        · rw [if_neg z]; exact ((wC0 k hk N (by omega)).2.1 (by omega)).symm)
      refine lpw2_run (fun j => if j ≤ N then 1 else 0) nI (N + 1) ?_ ?_ 0 (Nat.zero_le _)
      · intro B j hj hB
        have e1 : (if j ≤ N then (1 : Int32) else 0) = 1 := if_pos (by omega)
        rw [e1]
        refine ⟨fun z => absurd z (nI_ge (b := 6) (by omega) (by decide)), fun _ => ⟨fun z => absurd z (by decide), fun _ => stp B j (by omega) (fun z => ?_) (fun z => ?_)⟩⟩
        · have : j ≠ N := fun e => hne (by rw [← e]; exact z)
          have e2 : (if j + 1 ≤ N then (1 : Int32) else 0) = 1 := if_pos (by omega)
          rw [e2] at hB
          exact hB
        · have : j = N := by
            by_cases y : j = N
            · exact y
            · exact absurd (ok j (by omega)) z
          have e2 : (if j + 1 ≤ N then (1 : Int32) else 0) = 0 := if_neg (by omega)
          rw [e2] at hB
          exact hB
      · intro B
        have e1 : (if N + 1 ≤ N then (1 : Int32) else 0) = 0 := if_neg (by omega)
        rw [e1]
        exact ⟨fun _ => ⟨bz0, hQ⟩, fun _ => ⟨fun _ => ⟨bz0, hQ⟩, fun z => absurd rfl z⟩⟩
/-- which word stands here: 0 none, 1 to 5 -/
def wdK (w : Nat) (n : Nat) (t : Nat → Nat) (i : Nat) : Prop := (tkN n t i = 3 ∧ ∃ k, k < 5 ∧ w = k + 1 ∧ wmP t (tsN n t i) (teN n t i) k ∧ ∀ j, j < k → ¬ wmP t (tsN n t i) (teN n t i) j) ∨ (w = 0 ∧ (tkN n t i = 3 → ∀ j, j < 5 → ¬ wmP t (tsN n t i) (teN n t i) j))
theorem wd_ex (n : Nat) (t : Nat → Nat) (i : Nat) : ∃ w, w < 6 ∧ wdK w n t i := by
  by_cases h : tkN n t i = 3
  · obtain ⟨N, hN, hlt⟩ := pk_least (fun j => j = 5 ∨ wmP t (tsN n t i) (teN n t i) j) ⟨5, Or.inl rfl⟩
    have hle : N ≤ 5 := by
      by_cases z : N ≤ 5
      · exact z
      · exact absurd (Or.inl rfl) (hlt 5 (by omega))
    by_cases z : N = 5
    · exact ⟨0, by omega, Or.inr ⟨rfl, fun _ j hj w => hlt j (by omega) (Or.inr w)⟩⟩
    · refine ⟨N + 1, by omega, Or.inl ⟨h, N, by omega, rfl, ?_, fun j hj w => hlt j hj (Or.inr w)⟩⟩
      rcases hN with q | q
      · exact absurd q z
      · exact q
  · exact ⟨0, by omega, Or.inr ⟨rfl, fun q => absurd q h⟩⟩
noncomputable def wdN (n : Nat) (t : Nat → Nat) (i : Nat) : Nat := Classical.choose (wd_ex n t i)
theorem wd_lt (n : Nat) (t : Nat → Nat) (i : Nat) : wdN n t i < 6 := (Classical.choose_spec (wd_ex n t i)).1
theorem wd_is (n : Nat) (t : Nat → Nat) (i : Nat) : wdK (wdN n t i) n t i := (Classical.choose_spec (wd_ex n t i)).2
theorem tk_lt (n : Nat) (t : Nat → Nat) (i : Nat) : tkN n t i < 5 := by
  unfold tkN tkA
  split
  · omega
  · split
    · omega
    · split
      · split <;> omega
      · split <;> omega
theorem tk_3 {n : Nat} {t : Nat → Nat} {i : Nat} (hi : i ≤ n) : tkN n t i = 3 ↔ (tsN n t i < n ∧ ltP (t (tsN n t i)) = true) := by
  unfold tkN tkA
  refine ⟨fun h => ?_, fun h => by rw [if_neg (by omega), if_pos h.2]⟩
  split at h
  · omega
  · rename_i q
    split at h
    · rename_i q2; exact ⟨by omega, q2⟩
    · split at h
      · split at h <;> omega
      · split at h <;> omega
theorem s_wordHereC {n i : Nat} {t : Nat → Nat} {xt : Nat → Int32} {Q : Int32 → Prop} (hT : TX n t xt) (hi : i ≤ n) (hQ : Q (nI (wdN n t i))) : wp_Tl_wordHere (nI (teN n t i)) (nI (tsN n t i)) (nI (tkN n t i)) xt Q := by
  have h150 := hT.1
  obtain ⟨s1, s2⟩ := ts_spec t hi
  obtain ⟨e1, e2, -⟩ := te_spec t hi
  have e3 : tsN n t i ≤ teN n t i := (teA_spec t s2).1
  have hk := tk_lt n t i
  have H := wd_is n t i
  unfold wp_Tl_wordHere
  by_cases h3 : tkN n t i = 3
  · refine ⟨fun _ => ?_, fun z => absurd (by rw [h3]; rfl) z⟩
    have get : ∀ k, k < 5 → wmP t (tsN n t i) (teN n t i) k → (∀ j, j < k → ¬ wmP t (tsN n t i) (teN n t i) j) → Q (nI (k + 1)) := by
      intro k hk5 hw hno
      rcases H with ⟨-, k', hk', ew, hw', hno'⟩ | ⟨-, hz⟩
      · have : k' = k := by
          by_cases y : k' < k
          · exact absurd hw' (hno k' y)
          · by_cases y2 : k < k'
            · exact absurd hw (hno' k y2)
            · omega
        rw [ew, this] at hQ
        exact hQ
      · exact absurd hw (hz h3 k hk5)
    refine s_wordIs hT (k := 0) (by omega) e3 e2 (fun w => ⟨fun z => absurd z (by decide), fun _ => get 0 (by omega) w (fun j hj => absurd hj (by omega))⟩) (fun n0 => ⟨fun _ => ?_, fun z => absurd rfl z⟩)
    refine s_wordIs hT (k := 1) (by omega) e3 e2 (fun w => ⟨fun z => absurd z (by decide), fun _ => get 1 (by omega) w (fun j hj => by rw [show j = 0 by omega]; exact n0)⟩) (fun n1 => ⟨fun _ => ?_, fun z => absurd rfl z⟩)
    refine s_wordIs hT (k := 2) (by omega) e3 e2 (fun w => ⟨fun z => absurd z (by decide), fun _ => get 2 (by omega) w (fun j hj => by rcases (show j = 0 ∨ j = 1 by omega) with rfl | rfl; exact n0; exact n1)⟩) (fun n2 => ⟨fun _ => ?_, fun z => absurd rfl z⟩)
    refine s_wordIs hT (k := 3) (by omega) e3 e2 (fun w => ⟨fun z => absurd z (by decide), fun _ => get 3 (by omega) w (fun j hj => by rcases (show j = 0 ∨ j = 1 ∨ j = 2 by omega) with rfl | rfl | rfl; exact n0; exact n1; exact n2)⟩) (fun n3 => ⟨fun _ => ?_, fun z => absurd rfl z⟩)
    refine s_wordIs hT (k := 4) (by omega) e3 e2 (fun w => ⟨fun z => absurd z (by decide), fun _ => get 4 (by omega) w (fun j hj => by rcases (show j = 0 ∨ j = 1 ∨ j = 2 ∨ j = 3 by omega) with rfl | rfl | rfl | rfl; exact n0; exact n1; exact n2; exact n3)⟩) (fun n4 => ⟨fun _ => ?_, fun z => absurd rfl z⟩)
    rcases H with ⟨-, k', hk', ew, hw', hno'⟩ | ⟨ew, -⟩
    · rcases (show k' = 0 ∨ k' = 1 ∨ k' = 2 ∨ k' = 3 ∨ k' = 4 by omega) with rfl | rfl | rfl | rfl | rfl
      · exact absurd hw' n0
      · exact absurd hw' n1
      · exact absurd hw' n2
      · exact absurd hw' n3
      · exact absurd hw' n4
    · rw [ew] at hQ; exact hQ
  · refine ⟨fun z => absurd ((nI_eq (b := 3) (by omega) (by omega)).mp z) h3, fun _ => ?_⟩
    rcases H with ⟨q, -⟩ | ⟨ew, -⟩
    · exact absurd q h3
    · rw [ew] at hQ; exact hQ
theorem s_wordHereM {n i : Nat} {t : Nat → Nat} {mt : Nat → Int32} {Q : Int32 → Prop} (hT : TX n t mt) (hi : i ≤ n) (hQ : Q (nI (wdN n t i) - 1)) : wp_Mo_wordHere (nI n) (nI (tsN n t i)) (nI (teN n t i)) mt wordsF30 Q := by
  have h150 := hT.1
  obtain ⟨s1, s2⟩ := ts_spec t hi
  obtain ⟨e1, e2, -⟩ := te_spec t hi
  have e3 : tsN n t i ≤ teN n t i := (teA_spec t s2).1
  have H := wd_is n t i
  unfold wp_Mo_wordHere
  simp only [w_moLet hT (show tsN n t i < 1000 by omega), jn0_e]
  by_cases h3 : tkN n t i = 3
  · have h3' := (tk_3 hi).mp h3
    have el : bI (decide (tsN n t i < n) && ltP (t (tsN n t i))) = 1 := by rw [decide_eq_true h3'.1, h3'.2]; rfl
    have hlet : ∀ j, tsN n t i ≤ j → j < teN n t i → ltP (t j) = true := by
      have ee : teN n t i = enN ltP n t (tsN n t i) := by unfold teN teA; rw [if_neg (by omega), if_pos h3'.2]
      rw [ee]
      exact (enN_spec ltP t s2).2.2.1
    simp only [el]
    obtain ⟨N, hN5, hno, hend⟩ : ∃ N, N ≤ 5 ∧ (∀ j, j < N → ¬ wmP t (tsN n t i) (teN n t i) j) ∧ ((N = 5 ∧ Q (-1)) ∨ (N < 5 ∧ wmP t (tsN n t i) (teN n t i) N ∧ Q (nI N))) := by
      rcases H with ⟨-, k', hk', ew, hw', hno'⟩ | ⟨ew, hz⟩
      · refine ⟨k', by omega, hno', Or.inr ⟨hk', hw', ?_⟩⟩
        rw [ew, nI_pred] at hQ
        exact hQ
      · refine ⟨5, Nat.le_refl _, fun j hj => hz h3 j hj, Or.inl ⟨rfl, ?_⟩⟩
        rw [ew] at hQ
        exact hQ
    refine lpw1_run nI N ?_ ?_ 0 (Nat.zero_le _)
    · intro B j hj hB
      refine ⟨fun z => absurd z (nI_ge (b := 5) (by omega) (by decide)), fun _ => ⟨fun z => absurd z (by decide), fun _ => ?_⟩⟩
      refine s_isWord hT (by omega) e3 e2 hlet (fun w => absurd w (hno j hj)) (fun _ => ⟨fun _ => ?_, fun z => absurd rfl z⟩)
      simp only [fe_e, nI_1]
      exact hB
    · intro B
      rcases hend with ⟨z, hq⟩ | ⟨z, hw, hq⟩
      · rw [z]
        exact ⟨fun _ => hq, fun y => absurd (nI_le (a := 5) (b := 5) (Nat.le_refl _) (by decide)) y⟩
      · refine ⟨fun y => absurd y (nI_ge (b := 5) z (by decide)), fun _ => ⟨fun y => absurd y (by decide), fun _ => ?_⟩⟩
        exact s_isWord hT z e3 e2 hlet (fun _ => ⟨fun y => absurd y (by decide), fun _ => hq⟩) (fun w => absurd hw w)
  · have el : bI (decide (tsN n t i < n) && ltP (t (tsN n t i))) = 0 := by
      by_cases z : tsN n t i < n
      · rw [decide_eq_true z]
        cases hf : ltP (t (tsN n t i))
        · rfl
        · exact absurd ((tk_3 hi).mpr ⟨z, hf⟩) h3
      · rw [decide_eq_false z]; rfl
    simp only [el]
    have hq : Q (-1) := by
      rcases H with ⟨q, -⟩ | ⟨ew, -⟩
      · exact absurd q h3
      · rw [ew] at hQ; exact hQ
    refine lpw1_run nI 5 ?_ ?_ 0 (Nat.zero_le _)
    · intro B j hj hB
      refine ⟨fun z => absurd z (nI_ge (b := 5) hj (by decide)), fun _ => ⟨fun _ => ?_, fun z => absurd trivial z⟩⟩
      simp only [fe_e, nI_1]
      exact hB
    · intro B
      exact ⟨fun _ => hq, fun y => absurd (nI_le (a := 5) (b := 5) (Nat.le_refl _) (by decide)) y⟩
