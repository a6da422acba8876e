/-! couples: m i is whom i takes among those behind, 99 nobody -/
def mmB (p : Nat → Nat) (i j : Nat) : Bool := decide (p (35 + i) ≠ p (35 + j) ∧ p i ≤ p j + 5 ∧ p j ≤ p i + 5)
def tkB (m : Nat → Nat) (x i : Nat) : Bool := anyN (fun k => decide (m k = x)) i
def okB (p m : Nat → Nat) (i j : Nat) : Bool := mmB p i j && (!(tkB m j i) && !(tkB m i i))
theorem tkB_t {m : Nat → Nat} {x k : Nat} (h : m k = x) : ∀ i, k < i → tkB m x i = true
  | 0, hk => absurd hk (by omega)
  | i + 1, hk => by
    show (tkB m x i || decide (m i = x)) = true
    by_cases e : k = i
    · subst e; simp [h]
    · rw [tkB_t h i (by omega)]; rfl
theorem tkB_f {m : Nat → Nat} {x : Nat} : ∀ i, (∀ k, k < i → m k ≠ x) → tkB m x i = false
  | 0, _ => rfl
  | i + 1, h => by
    show (tkB m x i || decide (m i = x)) = false
    rw [tkB_f i (fun k hk => h k (by omega))]
    simp [h i (by omega)]
theorem tkB_i {m : Nat → Nat} {x i : Nat} (h : tkB m x i = false) {k : Nat} (hk : k < i) : m k ≠ x := fun e => by
  rw [tkB_t e i hk] at h
  exact absurd h (by decide)
theorem tkB_cong {m v : Nat → Nat} {x : Nat} (i : Nat) (h : ∀ k, k < i → m k = v k) : tkB m x i = tkB v x i := anyN_cong i (fun k hk => by rw [h k hk])
theorem okB_cong {p m v : Nat → Nat} {i : Nat} (h : ∀ k, k < i → m k = v k) (j : Nat) : okB p m i j = okB p v i j := by
  unfold okB
  rw [tkB_cong i h, tkB_cong i h]
/-- who has taken x: the last -/
def wkN (m : Nat → Nat) (x : Nat) : Nat → Nat
  | 0 => 99
  | k + 1 => if m k = x then k else wkN m x k
def mtN (m : Nat → Nat) (x : Nat) : Nat := if m x = 99 then wkN m x 7 else m x
def mI (v : Nat) : Int32 := if v = 99 then -1 else nI v
theorem wkN_f {m : Nat → Nat} {x : Nat} : ∀ i, (∀ k, k < i → m k ≠ x) → wkN m x i = 99
  | 0, _ => rfl
  | i + 1, h => by
    show (if m i = x then i else wkN m x i) = 99
    rw [if_neg (h i (by omega))]
    exact wkN_f i (fun k hk => h k (by omega))
theorem wkN_t {m : Nat → Nat} {x k : Nat} (h : m k = x) (hu : ∀ k', k < k' → m k' ≠ x) : ∀ i, k < i → wkN m x i = k
  | 0, hk => absurd hk (by omega)
  | i + 1, hk => by
    show (if m i = x then i else wkN m x i) = k
    by_cases e : k = i
    · subst e; rw [if_pos h]
    · rw [if_neg (hu i (by omega))]; exact wkN_t h hu i (by omega)
theorem wkN_cong {m v : Nat → Nat} {x : Nat} : ∀ i, (∀ k, k < i → (m k = x ↔ v k = x)) → wkN m x i = wkN v x i
  | 0, _ => rfl
  | i + 1, h => by
    show (if m i = x then i else wkN m x i) = (if v i = x then i else wkN v x i)
    rw [wkN_cong i (fun k hk => h k (by omega))]
    have := h i (by omega)
    by_cases a : m i = x
    · rw [if_pos a, if_pos (this.mp a)]
    · rw [if_neg a, if_neg (fun q => a (this.mpr q))]
theorem wkN_n {m : Nat → Nat} {x : Nat} (h : ¬ wkN m x 7 = 99) : ∃ k, k < 7 ∧ m k = x := by
  apply Classical.byContradiction
  intro q
  exact h (wkN_f 7 (fun k hk e => q ⟨k, hk, e⟩))
theorem mI_m1 {v : Nat} (h : v = 99 ∨ v < 50) : mI v = -1 ↔ v = 99 := by
  unfold mI
  by_cases e : v = 99
  · simp [e]
  · rw [if_neg e]
    exact ⟨fun q => absurd q (nI_em1 v (by omega)), fun q => absurd q e⟩
theorem mI_eq {v x : Nat} (h : v = 99 ∨ v < 50) (hx : x < 50) : mI v = nI x ↔ v = x := by
  unfold mI
  by_cases e : v = 99
  · rw [if_pos e]
    exact ⟨fun q => absurd q.symm (nI_em1 x (by omega)), fun q => by omega⟩
  · rw [if_neg e]
    exact nI_eq (by omega) (by omega)
/-- a choice for the first i, nobody behind -/
def V2 (n i : Nat) (m : Nat → Nat) : Prop := (∀ y, i ≤ y → m y = 99) ∧ (∀ x, x < i → m x = 99 ∨ (x < m x ∧ m x < n))
theorem V2.s {n i : Nat} {m : Nat → Nat} (h : V2 n i m) : V2 n (i + 1) m := ⟨fun y hy => h.1 y (by omega), fun x hx => by
  by_cases e : x = i
  · exact Or.inl (h.1 x (by omega))
  · exact h.2 x (by omega)⟩
theorem V2.up {n i j : Nat} {m : Nat → Nat} (h : V2 n i m) (h1 : i < j) (h2 : j < n) : V2 n (i + 1) (updN m i j) := ⟨fun y hy => by rw [updN_n (by omega)]; exact h.1 y (by omega), fun x hx => by
  by_cases e : x = i
  · subst e; rw [updN_s]; exact Or.inr ⟨h1, h2⟩
  · rw [updN_n e]; exact h.2 x (by omega)⟩
theorem V2.v {n i : Nat} {m : Nat → Nat} (h : V2 n i m) (hn : n ≤ 7) (x : Nat) : m x = 99 ∨ m x < 7 := by
  by_cases e : x < i
  · rcases h.2 x e with q | q <;> omega
  · exact Or.inl (h.1 x (by omega))
theorem mt_v {n i : Nat} {m : Nat → Nat} (h : V2 n i m) (hn : n ≤ 7) (x : Nat) : mtN m x = 99 ∨ mtN m x < 7 := by
  unfold mtN
  split
  · have : ∀ k, wkN m x k = 99 ∨ wkN m x k < k := by
      intro k
      induction k with
      | zero => exact Or.inl rfl
      | succ k ih =>
        show (if m k = x then k else wkN m x k) = 99 ∨ (if m k = x then k else wkN m x k) < k + 1
        split <;> omega
    exact this 7
  · exact h.v hn x
def pcN (m : Nat → Nat) : Nat → Nat
  | 0 => 0
  | k + 1 => pcN m k + (if m k = 99 then 0 else 1)
theorem pcN_le (m : Nat → Nat) : ∀ k, pcN m k ≤ k
  | 0 => Nat.le_refl _
  | k + 1 => by
    have := pcN_le m k
    simp only [pcN]
    split <;> omega
theorem pcN_cong {m v : Nat → Nat} : ∀ k, (∀ y, y < k → m y = v y) → pcN m k = pcN v k
  | 0, _ => rfl
  | k + 1, h => by simp only [pcN]; rw [pcN_cong k (fun y hy => h y (by omega)), h k (by omega)]
theorem pcN_up {m : Nat → Nat} {i j : Nat} (hi : m i = 99) (hj : j ≠ 99) : ∀ k, i < k → pcN (updN m i j) k = pcN m k + 1
  | 0, h => absurd h (by omega)
  | k + 1, h => by
    simp only [pcN]
    by_cases e : i = k
    · subst e; rw [pcN_cong i (fun y hy => updN_n (by omega)), updN_s, if_neg hj, if_pos hi]
    · rw [pcN_up hi hj k (by omega), updN_n (fun q => e q.symm)]
      omega
/-- the best so far: how many and one, and which; 0: none yet -/
def kpS (s : Nat × (Nat → Nat)) (m : Nat → Nat) : Nat × (Nat → Nat) := if pcN m 7 + 1 ≤ s.1 then s else (pcN m 7 + 1, m)
def oI (k : Nat) : Int32 := if k = 0 then -1 else nI (k - 1)
def flp {S : Type} (f : Nat → S → S) : Nat → Nat → S → S
  | _, 0, s => s
  | j, c + 1, s => flp f (j + 1) c (f j s)
def fbS (p : Nat → Nat) : Nat → Nat → (Nat → Nat) → (Nat × (Nat → Nat)) → (Nat × (Nat → Nat))
  | 0, _, m, s => kpS s m
  | r + 1, i, m, s => flp (fun j s => if okB p m i j = true then fbS p r (i + 1) (updN m i j) s else s) (i + 1) r (fbS p r (i + 1) m s)
theorem flp_id {S : Type} {f : Nat → S → S} (h : ∀ j s, f j s = s) : ∀ c j s, flp f j c s = s
  | 0, _, _ => rfl
  | c + 1, j, s => by show flp f (j + 1) c (f j s) = s; rw [h]; exact flp_id h c (j + 1) s
def PT (m : Nat → Nat) (A : Nat → Int32) : Prop := ∀ x, x < 7 → A x = mI (mtN m x)
def SR (s : Nat × (Nat → Nat)) (mo : Int32) (ch : Nat → Int32) : Prop := s.1 ≤ 8 ∧ mo = oI s.1 ∧ (s.1 = 0 ∨ PT s.2 ch)
theorem oI_le {k s : Nat} (hk : k ≤ 7) (hs : s ≤ 8) : nI k ≤ oI s ↔ k + 1 ≤ s := by
  unfold oI
  by_cases e : s = 0
  · rw [if_pos e]
    exact ⟨fun q => absurd q (nI_nm1 k (by omega)), fun q => by omega⟩
  · rw [if_neg e, nI_leI (by omega) (by omega)]
    omega
theorem oI_s (k : Nat) : nI k = oI (k + 1) := by
  unfold oI
  rw [if_neg (by omega)]
  rfl
theorem s_keepIfMore {m : Nat → Nat} {s : Nat × (Nat → Nat)} {mo : Int32} {ch pa : Nat → Int32} (hS : SR s mo ch) (hP : PT m pa) {Q : Int32 → (Nat → Int32) → Prop} (hQ : ∀ mo' ch', SR (kpS s m) mo' ch' → Q mo' ch') : wp_Cp_keepIfMore (nI (pcN m 7)) mo ch pa Q := by
  obtain ⟨h8, rfl, hc⟩ := hS
  have hp := pcN_le m 7
  unfold wp_Cp_keepIfMore
  rw [oI_le hp h8]
  unfold kpS at hQ
  refine ⟨fun q => ?_, fun q => ?_⟩
  · rw [if_pos q] at hQ
    exact hQ _ _ ⟨h8, rfl, hc⟩
  · rw [if_neg q] at hQ
    intro ch1 e1
    refine hQ _ _ ⟨by show pcN m 7 + 1 ≤ 8; omega, oI_s _, Or.inr (fun x hx => ?_)⟩
    rw [e1]
    show va_cpy pa ch 0 0 7 x = _
    rw [pk_cpy_in (by omega) (by omega), show 0 + (x - 0) = x by omega]
    exact hP x hx
theorem s_mayMarryC {p : Nat → Nat} {faSide faWill : Nat → Int32} (hI : Inv p) (a7 : Ar (p 27) faSide (fun i => p (35 + i))) (a8 : Ar (p 27) faWill p) {i j : Nat} (hi : i < p 27) (hj : j < p 27) {Q : Int32 → Prop} (hQ : Q (if mmB p i j = true then 1 else 0)) : wp_Cp_mayMarry (nI i) (nI j) faSide faWill Q := by
  have h7 := hI.1
  have w1 := hI.w99 i hi
  have w2 := hI.w99 j hj
  have s1 := (hI.2.2.1 i hi).2
  have s2 := (hI.2.2.1 j hj).2
  have v1 : vp_in (nI i) 7 := vp_in_nI (by omega) (by omega)
  have v2 : vp_in (nI j) 7 := vp_in_nI (by omega) (by omega)
  unfold wp_Cp_mayMarry
  simp only [v1, v2, true_and, nI_clamp (show i < 2 ^ 31 by omega), nI_clamp (show j < 2 ^ 31 by omega), a7 i hi, a7 j hj, a8 i hi, a8 j hj]
  have ha : (5 < iabs (nI (p i) - nI (p j))) = (¬ (p i ≤ p j + 5 ∧ p j ≤ p i + 5)) := by
    have e : (nI (p i) - nI (p j)).toInt = (p i : Int) - p j := pk_sub_toInt (by omega) (by omega)
    apply propext
    show 5 < (if 0 ≤ nI (p i) - nI (p j) then nI (p i) - nI (p j) else 0 - (nI (p i) - nI (p j))) ↔ _
    have t0 : (0 : Int32).toInt = 0 := rfl
    by_cases q : 0 ≤ nI (p i) - nI (p j)
    · rw [if_pos q]
      rw [Int32.le_iff_toInt_le, e, t0] at q
      rw [pk_sub (by omega), show (5 : Int32) = nI 5 from rfl, nI_ltI (by omega) (by omega)]
      omega
    · rw [if_neg q]
      rw [Int32.le_iff_toInt_le, e, t0] at q
      rw [Int32.zero_sub, Int32.neg_sub, pk_sub (by omega), show (5 : Int32) = nI 5 from rfl, nI_ltI (by omega) (by omega)]
      omega
  rw [ha]
  have hs : (nI (p (35 + i)) = nI (p (35 + j))) = (p (35 + i) = p (35 + j)) := propext (nI_eq (by omega) (by omega))
  rw [hs]
  refine ⟨fun q => ?_, fun q => ⟨fun q2 => ?_, fun q2 => ?_⟩⟩
  · have : mmB p i j = false := decide_eq_false (fun z => z.1 q)
    rw [this] at hQ; exact hQ
  · have : mmB p i j = false := decide_eq_false (fun z => q2 z.2)
    rw [this] at hQ; exact hQ
  · have : mmB p i j = true := decide_eq_true ⟨q, Classical.not_not.mp q2⟩
    rw [this] at hQ; exact hQ
theorem mt_free {n i x : Nat} {m : Nat → Nat} (h : V2 n i m) (hn : n ≤ 7) (hi : i ≤ 7) (hx : i ≤ x) (hx7 : x < 7) : (mtN m x = 99) ↔ tkB m x i = false := by
  unfold mtN
  rw [if_pos (h.1 x hx)]
  constructor
  · intro q
    refine tkB_f i (fun k hk e => ?_)
    have : ∀ c, k < c → c ≤ 7 → wkN m x c ≠ 99 := by
      intro c
      induction c with
      | zero => intro hc _; omega
      | succ c ih =>
        intro hc h7
        show (if m c = x then c else wkN m x c) ≠ 99
        by_cases ec : m c = x
        · rw [if_pos ec]; omega
        · rw [if_neg ec]
          by_cases ek : k = c
          · rw [ek] at e; exact absurd e ec
          · exact ih (by omega) (by omega)
    exact this 7 (by omega) (Nat.le_refl _) q
  · intro q
    refine wkN_f 7 (fun k hk e => ?_)
    by_cases ek : k < i
    · exact tkB_i q ek e
    · rw [h.1 k (by omega)] at e; omega
theorem PT.put {n i j : Nat} {m : Nat → Nat} {A : Nat → Int32} (h : V2 n i m) (hn : n ≤ 7) (h1 : i < j) (h2 : j < n) (hf : tkB m j i = false) (hP : PT m A) : PT (updN m i j) (upd (upd A i (nI j)) j (nI i)) := fun x hx => by
  have mi := h.1 i (Nat.le_refl _)
  by_cases ej : x = j
  · subst ej
    rw [pk_us]
    have : mtN (updN m i x) x = i := by
      unfold mtN
      rw [updN_n (by omega), if_pos (h.1 x (by omega))]
      exact wkN_t updN_s (fun k' hk' => by rw [updN_n (by omega), h.1 k' (by omega)]; omega) 7 (by omega)
    rw [this]
    unfold mI
    rw [if_neg (by omega)]
  · rw [pk_un ej]
    by_cases ei : x = i
    · subst ei
      rw [pk_us]
      have : mtN (updN m x j) x = j := by unfold mtN; rw [updN_s, if_neg (by omega)]
      rw [this]
      unfold mI
      rw [if_neg (by omega)]
    · rw [pk_un ei, hP x hx]
      unfold mtN
      rw [updN_n ei]
      have : wkN m x 7 = wkN (updN m i j) x 7 := wkN_cong 7 (fun k hk => by
        by_cases ek : k = i
        · rw [ek, updN_s, mi]; constructor <;> intro z <;> omega
        · rw [updN_n ek])
      rw [this]
theorem PT.back {n i j : Nat} {m : Nat → Nat} {A : Nat → Int32} (h : V2 n i m) (hn : n ≤ 7) (h1 : i < j) (h2 : j < n) (hf : tkB m j i = false) (hg : tkB m i i = false) (hP : PT (updN m i j) A) : PT m (upd (upd A i (-1)) j (-1)) := fun x hx => by
  have mi := h.1 i (Nat.le_refl _)
  by_cases ej : x = j
  · subst ej
    rw [pk_us, (mt_free h hn (by omega) (by omega) hx).mpr hf]
    rfl
  · rw [pk_un ej]
    by_cases ei : x = i
    · subst ei
      rw [pk_us, (mt_free h hn (by omega) (Nat.le_refl _) hx).mpr hg]
      rfl
    · rw [pk_un ei, hP x hx]
      unfold mtN
      rw [updN_n ei]
      have : wkN m x 7 = wkN (updN m i j) x 7 := wkN_cong 7 (fun k hk => by
        by_cases ek : k = i
        · rw [ek, updN_s, mi]; constructor <;> intro z <;> omega
        · rw [updN_n ek])
      rw [this]
theorem s_pairFrom {p : Nat → Nat} {faSide faWill : Nat → Int32} (hI : Inv p) (a7 : Ar (p 27) faSide (fun i => p (35 + i))) (a8 : Ar (p 27) faWill p) : ∀ (r d i : Nat) (m : Nat → Nat) (s : Nat × (Nat → Nat)) (mo : Int32) (ch pa : Nat → Int32) (Q : Int32 → (Nat → Int32) → (Nat → Int32) → Prop), i + r = p 27 → r < d → V2 (p 27) i m → PT m pa → SR s mo ch → (∀ mo' ch' pa', SR (fbS p r i m s) mo' ch' → PT m pa' → Q mo' ch' pa') → wp_Cp_pairFrom d (nI i) (nI (pcN m 7)) mo ch (nI (p 27)) faSide faWill pa Q
  | 0, 0, i, m, s, mo, ch, pa, Q => fun _ h => absurd h (by omega)
  | r + 1, 0, i, m, s, mo, ch, pa, Q => fun _ h => absurd h (by omega)
  | 0, d + 1, i, m, s, mo, ch, pa, Q => by
    intro hir hd hV hP hS hQ
    have h7 := hI.1
    show jn0 _ _
    rw [jn0_e]
    have hk : wp_Cp_keepIfMore (nI (pcN m 7)) mo ch pa (fun mo' ch' => Q mo' ch' pa) := s_keepIfMore hS hP (fun mo' ch' h' => hQ mo' ch' pa h' hP)
    exact ⟨fun _ => hk, fun z => absurd (nI_le (by omega) (by omega)) z⟩
  | r + 1, d + 1, i, m, s, mo, ch, pa, Q => by
    intro hir hd hV hP hS hQ
    have h7 := hI.1
    show jn0 _ _
    rw [jn0_e]
    refine ⟨fun z => absurd z (nI_ge (by omega) (by omega)), fun _ => ⟨fun _ => ?_, fun z => absurd (nI_lt (b := 7) (by omega) (by omega)) z⟩⟩
    rw [nI_1]
    refine s_pairFrom hI a7 a8 r d (i + 1) m s mo ch pa _ (by omega) (by omega) hV.s hP hS (fun mo1 ch1 pa1 hS1 hP1 => ⟨vp_in_nI (by omega) (by omega), ?_⟩)
    rw [nI_clamp (by omega), hP1 i (by omega), mI_m1 (by have := mt_v hV h7 i; omega), mt_free hV h7 (by omega) (Nat.le_refl _) (by omega)]
    refine ⟨fun hfree => ?_, fun htaken => ?_⟩
    · intro x3 ex3
      subst ex3
      obtain ⟨F, hF⟩ : ∃ F : Nat → (Nat × (Nat → Nat)) → (Nat × (Nat → Nat)), F = fun j s => if okB p m i j = true then fbS p r (i + 1) (updN m i j) s else s := ⟨_, rfl⟩
      refine lpw4_rule (fun x3 mo' ch' pa' => ∃ j s', x3 = nI j ∧ i < j ∧ j ≤ p 27 ∧ SR s' mo' ch' ∧ PT m pa' ∧ flp F j (p 27 - j) s' = fbS p (r + 1) i m s) (fun x3 _ _ _ => 8 - x3.toNatClampNeg) ?_ (nI (i + 1)) mo1 ch1 pa1 ⟨i + 1, fbS p r (i + 1) m s, rfl, by omega, by omega, hS1, hP1, by rw [hF, show p 27 - (i + 1) = r by omega]; rfl⟩
      intro B x3 mo2 ch2 pa2 hx hB
      obtain ⟨j, s2, rfl, hij, hjn, hS2, hP2, hfl⟩ := hx
      by_cases e : j = p 27
      · subst e
        rw [Nat.sub_self] at hfl
        have hfl' : s2 = fbS p (r + 1) i m s := hfl
        rw [← hfl'] at hQ
        exact ⟨fun _ => hQ _ _ _ hS2 hP2, fun z => absurd (nI_le (Nat.le_refl _) (by omega)) z⟩
      have hjn : j < p 27 := by omega
      have hfl' : flp F (j + 1) (p 27 - (j + 1)) (F j s2) = fbS p (r + 1) i m s := by
        rw [← hfl, show p 27 - j = p 27 - (j + 1) + 1 by omega]; rfl
      have next : ∀ mo' ch' pa', SR (F j s2) mo' ch' → PT m pa' → B (nI (j + 1)) mo' ch' pa' := fun mo' ch' pa' hS' hP' => hB _ _ _ _ ⟨j + 1, F j s2, rfl, by omega, by omega, hS', hP', hfl'⟩ (by rw [nI_clamp (by omega), nI_clamp (by omega)]; omega)
      refine ⟨fun z => absurd z (nI_ge hjn (by omega)), fun _ => ⟨fun z => absurd z (nI_ge (b := 7) (by omega) (by decide)), fun _ => ⟨vp_in_nI (by omega) (by omega), ?_⟩⟩⟩
      have skip : okB p m i j = false → B (nI (j + 1)) mo2 ch2 pa2 := fun hk => next _ _ _ (by rw [hF]; simp only [hk]; exact hS2) hP2
      rw [jn3_e, nI_clamp (show j < 2 ^ 31 by omega), hP2 j (by omega), mI_m1 (by have := mt_v hV h7 j; omega), mt_free hV h7 (by omega) (by omega) (by omega)]
      simp only [fe_e, nI_1]
      refine ⟨fun z => skip ?_, fun z => ?_⟩
      · have z' : tkB m j i = true := by simpa using z
        unfold okB; rw [z']; simp
      · refine s_mayMarryC hI a7 a8 (by omega) hjn ?_
        by_cases hm : mmB p i j = true
        · rw [if_pos hm]
          refine ⟨fun q => absurd q (by decide), fun _ => ⟨vp_in_nI (by omega) (by omega), vp_in_nI (by omega) (by omega), ?_⟩⟩
          have hok : okB p m i j = true := by unfold okB; rw [hm, z, hfree]; rfl
          rw [show nI (pcN m 7 + 1) = nI (pcN (updN m i j) 7) by rw [pcN_up (hV.1 i (Nat.le_refl _)) (by omega) 7 (by omega)]]
          refine s_pairFrom hI a7 a8 r d (i + 1) (updN m i j) s2 mo2 ch2 _ _ (by omega) (by omega) (hV.up hij hjn) (hP2.put hV h7 hij hjn z) hS2 (fun mo3 ch3 pa3 hS3 hP3 => ⟨vp_in_nI (by omega) (by omega), vp_in_nI (by omega) (by omega), ?_⟩)
          exact next _ _ _ (by rw [hF]; simp only [hok, if_true]; exact hS3) (hP3.back hV h7 hij hjn z hfree)
        · rw [if_neg hm]
          refine ⟨fun _ => skip ?_, fun q => absurd rfl q⟩
          have : mmB p i j = false := by simpa using hm
          unfold okB; rw [this]; rfl
    · have ht : tkB m i i = true := by simpa using htaken
      have hid : fbS p (r + 1) i m s = fbS p r (i + 1) m s := flp_id (fun j s => by
        have : okB p m i j = false := by unfold okB; rw [ht]; simp
        rw [this]; rfl) r (i + 1) _
      rw [hid] at hQ
      exact hQ _ _ _ hS1 hP1
theorem s_pairAll {p : Nat → Nat} {faSide faWill ch pa : Nat → Int32} {mo : Int32} (hI : Inv p) (a7 : Ar (p 27) faSide (fun i => p (35 + i))) (a8 : Ar (p 27) faWill p) {Q : Int32 → (Nat → Int32) → (Nat → Int32) → Prop} (hQ : ∀ mo' ch' pa', SR (fbS p (p 27) 0 (fun _ => 99) (0, fun _ => 99)) mo' ch' → Q mo' ch' pa') : wp_Cp_pairAll mo ch (nI (p 27)) faSide faWill pa Q := by
  have h7 := hI.1
  unfold wp_Cp_pairAll
  refine lpw2_rule (fun x A => ∃ j, j ≤ 7 ∧ x = nI j ∧ ∀ y, y < j → A y = -1) (fun x _ => 8 - x.toNatClampNeg) ?_ 0 pa ⟨0, by omega, rfl, fun y hy => absurd hy (by omega)⟩
  intro B x A hx hB
  obtain ⟨j, hj, rfl, hA⟩ := hx
  by_cases e : j = 7
  · subst e
    refine ⟨fun _ => ?_, fun z => absurd (nI_le (a := 7) (b := 7) (Nat.le_refl _) (by decide)) z⟩
    refine s_pairFrom hI a7 a8 (p 27) 9 0 (fun _ => 99) (0, fun _ => 99) (-1) ch A _ (by omega) (by omega) ⟨fun _ _ => rfl, fun x hx => absurd hx (by omega)⟩ (fun x hx => ?_) ⟨by decide, rfl, Or.inl rfl⟩ (fun mo' ch' pa' hS _ => hQ _ _ _ hS)
    rw [hA x hx]
    have : mtN (fun _ => 99) x = 99 := by
      unfold mtN
      rw [if_pos rfl]
      exact wkN_f 7 (fun k hk e => by omega)
    rw [this]; rfl
  · refine ⟨fun z => absurd z (nI_ge (b := 7) (by omega) (by decide)), fun _ => ⟨vp_in_nI (by omega) (by omega), ?_⟩⟩
    intro A1 e1 x1 ex1
    subst ex1
    rw [nI_clamp (by omega)] at e1
    rw [nI_1]
    refine hB _ _ ⟨j + 1, by omega, rfl, fun y hy => ?_⟩ (by rw [nI_clamp (by omega), nI_clamp (by omega)]; omega)
    rw [e1]
    by_cases q : y = j
    · rw [q, pk_us]
    · rw [pk_un q]; exact hA y (by omega)
/-! the reference: one choice after another -/
def MtR (n : Nat) (m : Nat → Nat) (A : Nat → Int32) : Prop := ∀ x, x < n → A x = mI (m x)
def frN (P : Nat → Bool) : Nat → Nat → Nat
  | _, 0 => 99
  | j, c + 1 => if P j = true then j else frN P (j + 1) c
theorem frN_v (P : Nat → Bool) : ∀ c j, frN P j c = 99 ∨ (j ≤ frN P j c ∧ frN P j c < j + c ∧ P (frN P j c) = true)
  | 0, _ => Or.inl rfl
  | c + 1, j => by
    by_cases e : P j = true
    · rw [show frN P j (c + 1) = j from if_pos e]; exact Or.inr ⟨Nat.le_refl _, by omega, e⟩
    · rw [show frN P j (c + 1) = frN P (j + 1) c from if_neg e]
      rcases frN_v P c (j + 1) with h | ⟨h1, h2, h3⟩
      · exact Or.inl h
      · exact Or.inr ⟨by omega, by omega, h3⟩
theorem frN_cong {P R : Nat → Bool} (h : ∀ j, P j = R j) : ∀ c j, frN P j c = frN R j c
  | 0, _ => rfl
  | c + 1, j => by
    show (if P j = true then j else frN P (j + 1) c) = (if R j = true then j else frN R (j + 1) c)
    rw [h j, frN_cong h c (j + 1)]
def stN2 (a : Nat → Nat) (i : Nat) : Nat := (if a i = 99 then i else a i) + 1
def nxN (p a : Nat → Nat) (i : Nat) : Nat := frN (okB p a i) (stN2 a i) (p 27 - stN2 a i)
def btN2 (p : Nat → Nat) : Nat → (Nat → Nat) → Option (Nat → Nat)
  | 0, _ => none
  | i + 1, a => if nxN p a i = 99 then btN2 p i (updN a i 99) else some (updN a i (nxN p a i))
theorem st_ok {n i : Nat} {a : Nat → Nat} (h : V2 n n a) (hi : i < n) : i < stN2 a i ∧ stN2 a i ≤ n := by
  unfold stN2
  rcases h.2 i hi with e | e
  · rw [if_pos e]; omega
  · split <;> omega
theorem nx_ok {p a : Nat → Nat} {i : Nat} (h : V2 (p 27) (p 27) a) (hi : i < p 27) : nxN p a i = 99 ∨ (i < nxN p a i ∧ nxN p a i < p 27) := by
  obtain ⟨h1, h2⟩ := st_ok h hi
  rcases frN_v (okB p a i) (p 27 - stN2 a i) (stN2 a i) with e | ⟨e1, e2, -⟩
  · exact Or.inl e
  · exact Or.inr ⟨by unfold nxN; omega, by unfold nxN; omega⟩
theorem V2.upA {n i v : Nat} {a : Nat → Nat} (h : V2 n n a) (hi : i < n) (hv : v = 99 ∨ (i < v ∧ v < n)) : V2 n n (updN a i v) := ⟨fun y hy => by rw [updN_n (by omega)]; exact h.1 y hy, fun x hx => by
  by_cases e : x = i
  · subst e; rw [updN_s]; exact hv
  · rw [updN_n e]; exact h.2 x hx⟩
theorem MtR.up {n i v : Nat} {a : Nat → Nat} {A : Nat → Int32} (h : MtR n a A) : MtR n (updN a i v) (upd A i (mI v)) := fun x hx => by
  by_cases e : x = i
  · rw [e, pk_us, updN_s]
  · rw [pk_un e, updN_n e]; exact h x hx
theorem s_isTaken {n i : Nat} {a : Nat → Nat} {A : Nat → Int32} (hn : n ≤ 7) (hV : V2 n n a) (hA : MtR n a A) (hi : i < n) {Q : Int32 → Prop} (hQ : Q (if tkB a i i = true then 1 else 0)) : wp_Mo_isTaken (nI i) A Q := by
  unfold wp_Mo_isTaken
  refine lpw2_run (fun k => if tkB a i k = true then 1 else 0) nI i ?_ ?_ 0 (Nat.zero_le _)
  · intro B k hk hB
    refine ⟨fun z => absurd z (nI_ge hk (by omega)), fun _ => ?_⟩
    have v : vp_in (nI k) 7 := vp_in_nI (by omega) (by omega)
    have he : (A k = nI i) = (a k = i) := propext (by rw [hA k (by omega)]; exact mI_eq (by have := hV.v hn k; omega) (by omega))
    simp only [jn1_e, jn0_e, v, true_and, nI_clamp (show k < 2 ^ 31 by omega), he, fe_e, nI_1]
    have eB : tkB a i (k + 1) = (tkB a i k || decide (a k = i)) := rfl
    simp only [eB] at hB
    by_cases b : tkB a i k = true
    · simp [b] at hB ⊢; exact hB
    · have b' : tkB a i k = false := by simpa using b
      by_cases c : a k = i
      · simp [b', c] at hB ⊢; exact hB
      · simp [b', c] at hB ⊢; exact hB
  · intro B
    refine ⟨fun _ => ⟨?_, hQ⟩, fun z => absurd (nI_le (Nat.le_refl _) (by omega)) z⟩
    by_cases q : tkB a i i = true
    · rw [if_pos q]; exact bz1
    · rw [if_neg q]; exact bz0
theorem s_mayMarryM {p : Nat → Nat} {row A : Nat → Int32} {a : Nat → Nat} (hI : Inv p) (hM : MR p row 0) (hV : V2 (p 27) (p 27) a) (hA : MtR (p 27) a A) {i j : Nat} (hi : i < p 27) (hj : j < p 27) {Q : Int32 → Prop} (hQ : Q (if okB p a i j = true then 1 else 0)) : wp_Mo_mayMarry (nI i) (nI j) A row Q := by
  have h7 := hI.1
  have w1 := hI.w99 i hi
  have w2 := hI.w99 j hj
  have s1 := (hI.2.2.1 i hi).2
  have s2 := (hI.2.2.1 j hj).2
  have f1 : (35 : Int32) + nI i = nI (35 + i) := nI_add 35 i
  have f2 : (35 : Int32) + nI j = nI (35 + j) := nI_add 35 j
  have z1 : (0 : Int32) + nI i = nI i := by rw [show (0 : Int32) = nI 0 from rfl, nI_add, Nat.zero_add]
  have z2 : (0 : Int32) + nI j = nI j := by rw [show (0 : Int32) = nI 0 from rfl, nI_add, Nat.zero_add]
  have v1 : vp_in (nI (35 + i)) 770 := vp_in_nI (by omega) (by omega)
  have v2 : vp_in (nI (35 + j)) 770 := vp_in_nI (by omega) (by omega)
  have v3 : vp_in (nI i) 770 := vp_in_nI (by omega) (by omega)
  have v4 : vp_in (nI j) 770 := vp_in_nI (by omega) (by omega)
  have r1 : row (35 + i) = nI (p (35 + i)) := hM.at0 (by omega)
  have r2 : row (35 + j) = nI (p (35 + j)) := hM.at0 (by omega)
  have r3 : row i = nI (p i) := hM.at0 (by omega)
  have r4 : row j = nI (p j) := hM.at0 (by omega)
  have hs : (nI (p (35 + i)) = nI (p (35 + j))) = (p (35 + i) = p (35 + j)) := propext (nI_eq (by omega) (by omega))
  have ha : (5 < apI (nI (p i)) (nI (p j))) = (¬ (p i ≤ p j + 5 ∧ p j ≤ p i + 5)) := by
    apply propext
    unfold apI
    by_cases q : p i ≤ p j
    · rw [if_pos (nI_le q (by omega)), pk_sub q, show (5 : Int32) = nI 5 from rfl, nI_ltI (by omega) (by omega)]
      omega
    · rw [if_neg (nI_ge (by omega) (by omega)), pk_sub (by omega), show (5 : Int32) = nI 5 from rfl, nI_ltI (by omega) (by omega)]
      omega
  unfold wp_Mo_mayMarry
  simp only [f1, f2, z1, z2, v1, v2, v3, v4, true_and, nI_clamp (show 35 + i < 2 ^ 31 by omega), nI_clamp (show 35 + j < 2 ^ 31 by omega), nI_clamp (show i < 2 ^ 31 by omega), nI_clamp (show j < 2 ^ 31 by omega), r1, r2, r3, r4, w_apart, ha, hs, jn1_e, jn0_e]
  have main : ∀ b : Int32, b = (if mmB p i j = true then 1 else 0) → ∃ n : Nat, lpw2 (fun (B53 : Int32 → Int32 → Prop) (x3_5 : Int32) (x4_6 : Int32) => ((nI i ≤ x4_6 → bz x3_5 ∧ Q x3_5) ∧ (¬ nI i ≤ x4_6 → ((x3_5 = 0 → bz x3_5 ∧ Q x3_5) ∧ (¬ x3_5 = 0 → vp_in x4_6 7 ∧ (((A (Int32.toNatClampNeg x4_6)) = nI j → ∀ x4_15 : Int32, x4_15 = x4_6 + 1 → B53 0 x4_15) ∧ (¬ (A (Int32.toNatClampNeg x4_6)) = nI j → vp_in x4_6 7 ∧ (((A (Int32.toNatClampNeg x4_6)) = nI i → ∀ x4_15 : Int32, x4_15 = x4_6 + 1 → B53 0 x4_15) ∧ (¬ (A (Int32.toNatClampNeg x4_6)) = nI i → ∀ x4_15 : Int32, x4_15 = x4_6 + 1 → B53 1 x4_15))))))))) n b 0 := by
    intro b hb
    refine lpw2_rule (fun x3 x4 => ∃ k, k ≤ i ∧ x4 = nI k ∧ ((x3 = 1 ∧ mmB p i j = true ∧ tkB a j k = false ∧ tkB a i k = false) ∨ (x3 = 0 ∧ okB p a i j = false))) (fun _ x4 => 8 - x4.toNatClampNeg) ?_ b 0 ⟨0, Nat.zero_le _, rfl, ?_⟩
    · intro B x3 x4 hx hB
      obtain ⟨k, hk, rfl, hx⟩ := hx
      rcases hx with ⟨rfl, hm, t1, t2⟩ | ⟨rfl, hno⟩
      · by_cases e : k = i
        · subst e
          have hok : okB p a k j = true := by unfold okB; rw [hm, t1, t2]; rfl
          rw [if_pos hok] at hQ
          exact ⟨fun _ => ⟨bz1, hQ⟩, fun z => absurd (nI_le (Nat.le_refl _) (by omega)) z⟩
        have hk : k < i := by omega
        have v : vp_in (nI k) 7 := vp_in_nI (by omega) (by omega)
        have he : ∀ x, x < 7 → ((A k = nI x) = (a k = x)) := fun x hx => propext (by rw [hA k (by omega)]; exact mI_eq (by have := hV.v h7 k; omega) (by omega))
        refine ⟨fun z => absurd z (nI_ge hk (by omega)), fun _ => ⟨fun z => absurd z (by decide), fun _ => ⟨v, ?_⟩⟩⟩
        rw [nI_clamp (by omega), he j (by omega), he i (by omega)]
        have mea : ∀ y, (8 - (nI (k + 1)).toNatClampNeg : Nat) < 8 - (nI k).toNatClampNeg ∨ y := fun y => Or.inl (by rw [nI_clamp (by omega), nI_clamp (by omega)]; omega)
        have dec : (8 - (nI (k + 1)).toNatClampNeg : Nat) < 8 - (nI k).toNatClampNeg := by rw [nI_clamp (by omega), nI_clamp (by omega)]; omega
        simp only [fe_e, nI_1]
        refine ⟨fun z => hB _ _ ⟨k + 1, by omega, rfl, Or.inr ⟨rfl, ?_⟩⟩ dec, fun z => ⟨v, fun z2 => hB _ _ ⟨k + 1, by omega, rfl, Or.inr ⟨rfl, ?_⟩⟩ dec, fun z2 => hB _ _ ⟨k + 1, by omega, rfl, Or.inl ⟨rfl, hm, ?_, ?_⟩⟩ dec⟩⟩
        · unfold okB; rw [tkB_t z i hk]; simp
        · unfold okB; rw [tkB_t z2 i hk]; simp
        · show (tkB a j k || decide (a k = j)) = false
          rw [t1]; simp [z]
        · show (tkB a i k || decide (a k = i)) = false
          rw [t2]; simp [z2]
      · rw [hno] at hQ
        exact ⟨fun _ => ⟨bz0, hQ⟩, fun _ => ⟨fun _ => ⟨bz0, hQ⟩, fun z => absurd rfl z⟩⟩
    · by_cases hm : mmB p i j = true
      · rw [if_pos hm] at hb
        exact Or.inl ⟨hb, hm, rfl, rfl⟩
      · rw [if_neg hm] at hb
        refine Or.inr ⟨hb, ?_⟩
        have : mmB p i j = false := by simpa using hm
        unfold okB; rw [this]; rfl
  refine ⟨fun q => main 0 ?_, fun q => ⟨fun q2 => main 0 ?_, fun q2 => main 1 ?_⟩⟩
  · have : mmB p i j = false := decide_eq_false (fun z => z.1 q)
    rw [this]; rfl
  · have : mmB p i j = false := decide_eq_false (fun z => q2 z.2)
    rw [this]; rfl
  · have : mmB p i j = true := decide_eq_true ⟨q, Classical.not_not.mp q2⟩
    rw [this]; rfl
theorem s_nextMate {p : Nat → Nat} {row A : Nat → Int32} {a : Nat → Nat} (hI : Inv p) (hM : MR p row 0) (hV : V2 (p 27) (p 27) a) (hA : MtR (p 27) a A) {i : Nat} (hi : i < p 27) {Q : Int32 → Prop} (hQ : Q (nI (if nxN p a i = 99 then i else nxN p a i))) : wp_Mo_nextMate (nI i) A row Q := by
  have h7 := hI.1
  have e27 : row (Int32.toNatClampNeg 27) = nI (p 27) := hM.at0 (j := 27) (by omega)
  obtain ⟨g1, g2⟩ := st_ok hV hi
  unfold wp_Mo_nextMate
  refine s_isTaken h7 hV hA hi ?_
  have v : vp_in (nI i) 7 := vp_in_nI (by omega) (by omega)
  by_cases ht : tkB a i i = true
  · rw [if_pos ht]
    have hn : nxN p a i = 99 := by
      rcases frN_v (okB p a i) (p 27 - stN2 a i) (stN2 a i) with e | ⟨-, -, e3⟩
      · exact e
      · have : ∀ j, okB p a i j = false := fun j => by unfold okB; rw [ht]; simp
        rw [this] at e3; exact absurd e3 (by decide)
    rw [hn, if_pos rfl] at hQ
    exact ⟨fun z => absurd z (by decide), fun _ => hQ⟩
  · rw [if_neg ht]
    refine ⟨fun _ => ⟨v, ?_⟩, fun z => absurd rfl z⟩
    have loop : ∃ n : Nat, lpw1 (fun (B35 : Int32 → Prop) (x2_6 : Int32) => (((row (Int32.toNatClampNeg 27)) ≤ x2_6 → Q (nI i)) ∧ (¬ (row (Int32.toNatClampNeg 27)) ≤ x2_6 → wp_Mo_mayMarry (nI i) x2_6 A row (fun (r_9 : Int32) => ((r_9 = 0 → ∀ x2_11 : Int32, x2_11 = x2_6 + 1 → B35 x2_11) ∧ (¬ r_9 = 0 → Q x2_6)))))) n (nI (stN2 a i)) := by
      rw [e27]
      refine lpw1_rule (fun x => ∃ j, x = nI j ∧ stN2 a i ≤ j ∧ j ≤ p 27 ∧ frN (okB p a i) j (p 27 - j) = nxN p a i) (fun x => 8 - x.toNatClampNeg) ?_ (nI (stN2 a i)) ⟨stN2 a i, rfl, Nat.le_refl _, g2, rfl⟩
      intro B x hx hB
      obtain ⟨j, rfl, hj1, hj2, hfr⟩ := hx
      by_cases e : j = p 27
      · subst e
        rw [Nat.sub_self] at hfr
        have hfr' : nxN p a i = 99 := hfr.symm
        rw [hfr', if_pos rfl] at hQ
        exact ⟨fun _ => hQ, fun z => absurd (nI_le (Nat.le_refl _) (by omega)) z⟩
      have hj2 : j < p 27 := by omega
      refine ⟨fun z => absurd z (nI_ge hj2 (by omega)), fun _ => ?_⟩
      refine s_mayMarryM hI hM hV hA hi hj2 ?_
      rw [show p 27 - j = p 27 - (j + 1) + 1 by omega] at hfr
      by_cases hok : okB p a i j = true
      · rw [show frN (okB p a i) j (p 27 - (j + 1) + 1) = j from if_pos hok] at hfr
        rw [if_pos hok]
        rw [← hfr, if_neg (by omega)] at hQ
        exact ⟨fun z => absurd z (by decide), fun _ => hQ⟩
      · rw [show frN (okB p a i) j (p 27 - (j + 1) + 1) = frN (okB p a i) (j + 1) (p 27 - (j + 1)) from if_neg hok] at hfr
        rw [if_neg hok]
        simp only [fe_e, nI_1]
        exact ⟨fun _ => hB _ ⟨j + 1, rfl, by omega, by omega, hfr⟩ (by rw [nI_clamp (by omega), nI_clamp (by omega)]; omega), fun z => absurd trivial z⟩
    rw [jn1_e, nI_clamp (by omega), hA i hi, mI_m1 (by have := hV.v h7 i; omega)]
    refine ⟨fun z => ⟨v, ?_⟩, fun z => ?_⟩
    · have : mI (a i) + 1 = nI (stN2 a i) := by unfold mI stN2; rw [if_neg z, if_neg z, nI_1]
      rw [this]; exact loop
    · have : nI i + 1 = nI (stN2 a i) := by unfold stN2; rw [if_pos z, nI_1]
      rw [this]; exact loop
theorem pcN_tail {n : Nat} {a : Nat → Nat} (h : ∀ y, n ≤ y → a y = 99) : ∀ k, n ≤ k → pcN a k = pcN a n
  | 0, hk => by rw [show n = 0 by omega]
  | k + 1, hk => by
    by_cases e : n = k + 1
    · rw [e]
    · simp only [pcN]
      rw [if_pos (h k (by omega)), Nat.add_zero]
      exact pcN_tail h k (by omega)
theorem mI_le {n k : Nat} {a : Nat → Nat} (h : V2 n n a) (hn : n ≤ 7) (hk : k < n) : (mI (a k) ≤ nI k) = (a k = 99) := by
  apply propext
  unfold mI
  rcases h.2 k hk with e | ⟨e1, e2⟩
  · rw [if_pos e]
    refine ⟨fun _ => e, fun _ => ?_⟩
    rw [Int32.le_iff_toInt_le, nI_toInt (by omega)]
    have : (-1 : Int32).toInt = -1 := rfl
    omega
  · rw [if_neg (by omega), nI_leI (by omega) (by omega)]
    omega
theorem s_pairs {p : Nat → Nat} {row A : Nat → Int32} {a : Nat → Nat} (hI : Inv p) (hM : MR p row 0) (hV : V2 (p 27) (p 27) a) (hA : MtR (p 27) a A) {Q : Int32 → Prop} (hQ : Q (nI (pcN a 7))) : wp_Mo_pairs A row Q := by
  have h7 := hI.1
  have e27 : row (Int32.toNatClampNeg 27) = nI (p 27) := hM.at0 (j := 27) (by omega)
  rw [pcN_tail hV.1 7 h7] at hQ
  unfold wp_Mo_pairs
  rw [e27]
  refine lpw2_run (fun k => nI (pcN a k)) nI (p 27) ?_ ?_ 0 (Nat.zero_le _)
  · intro B k hk hB
    refine ⟨fun z => absurd z (nI_ge hk (by omega)), fun _ => ⟨vp_in_nI (by omega) (by omega), ?_⟩⟩
    rw [jn1_e, nI_clamp (by omega), hA k hk, mI_le hV h7 hk]
    simp only [fe_e, nI_1]
    simp only [pcN] at hB
    refine ⟨fun z => ?_, fun z => ?_⟩
    · rw [if_pos z] at hB
      rw [show nI (pcN a k) + 0 = nI (pcN a k + 0) from nI_add _ 0]
      exact hB
    · rw [if_neg z] at hB
      exact hB
  · intro B
    exact ⟨fun _ => hQ, fun z => absurd (nI_le (Nat.le_refl _) (by omega)) z⟩
def bmN (m : Nat → Nat) (t y : Nat) : Nat := if y < t ∧ m y ≠ 99 then m y else wkN m y t
theorem s_keepMates {p : Nat → Nat} {row A bm0 : Nat → Int32} {a : Nat → Nat} (hI : Inv p) (hM : MR p row 0) (hV : V2 (p 27) (p 27) a) (hA : MtR (p 27) a A) {Q : (Nat → Int32) → Prop} (hQ : ∀ bm, (∀ x, x < p 27 → bm x = mI (mtN a x)) → Q bm) : wp_Mo_keepMates bm0 A row Q := by
  have h7 := hI.1
  have e27 : row (Int32.toNatClampNeg 27) = nI (p 27) := hM.at0 (j := 27) (by omega)
  unfold wp_Mo_keepMates
  simp only [e27]
  refine lpw2_rule (fun x bm => ∃ j, j ≤ p 27 ∧ x = nI j ∧ ∀ y, y < j → bm y = -1) (fun x _ => 8 - x.toNatClampNeg) ?_ 0 bm0 ⟨0, Nat.zero_le _, rfl, fun y hy => absurd hy (by omega)⟩
  intro B x bm hx hB
  obtain ⟨j, hj, rfl, hbm⟩ := hx
  by_cases e : j = p 27
  · subst e
    refine ⟨fun _ => ?_, fun z => absurd (nI_le (Nat.le_refl _) (by omega)) z⟩
    refine lpw2_rule (fun x bm => ∃ t, t ≤ p 27 ∧ x = nI t ∧ ∀ y, y < p 27 → bm y = mI (bmN a t y)) (fun x _ => 8 - x.toNatClampNeg) ?_ 0 bm ⟨0, Nat.zero_le _, rfl, fun y hy => by rw [hbm y hy]; unfold bmN; rw [if_neg (by omega)]; rfl⟩
    intro B2 x2 bm2 hx2 hB2
    obtain ⟨t, ht, rfl, hb⟩ := hx2
    by_cases et : t = p 27
    · subst et
      refine ⟨fun _ => hQ bm2 (fun y hy => ?_), fun z => absurd (nI_le (Nat.le_refl _) (by omega)) z⟩
      rw [hb y hy]
      unfold bmN mtN
      have hw : wkN a y (p 27) = wkN a y 7 := by
        have : ∀ k, p 27 ≤ k → wkN a y k = wkN a y (p 27) := by
          intro k
          induction k with
          | zero => intro hk; rw [show p 27 = 0 by omega]
          | succ k ih =>
            intro hk
            by_cases ek : p 27 = k + 1
            · rw [ek]
            · show (if a k = y then k else wkN a y k) = _
              rw [if_neg (by rw [hV.1 k (by omega)]; omega)]
              exact ih (by omega)
        exact (this 7 h7).symm
      by_cases q : a y = 99
      · rw [if_neg (fun z => z.2 q), if_pos q, hw]
      · rw [if_pos ⟨hy, q⟩, if_neg q]
    have ht : t < p 27 := by omega
    have v : vp_in (nI t) 7 := vp_in_nI (by omega) (by omega)
    refine ⟨fun z => absurd z (nI_ge ht (by omega)), fun _ => ⟨v, ?_⟩⟩
    have dec : (8 - (nI (t + 1)).toNatClampNeg : Nat) < 8 - (nI t).toNatClampNeg := by rw [nI_clamp (by omega), nI_clamp (by omega)]; omega
    rw [jn1_e, nI_clamp (by omega), hA t ht, mI_le hV h7 ht]
    simp only [fe_e, nI_1, v, true_and]
    refine ⟨fun z => ?_, fun z => ?_⟩
    · refine hB2 _ _ ⟨t + 1, by omega, rfl, fun y hy => ?_⟩ dec
      rw [hb y hy]
      unfold bmN
      have hw : wkN a y (t + 1) = wkN a y t := if_neg (by rw [z]; omega)
      rw [hw]
      by_cases ey : y = t
      · subst ey; rw [if_neg (by omega), if_neg (fun q => q.2 z)]
      · by_cases ylt : y < t
        · by_cases q : a y = 99
          · rw [if_neg (fun w => w.2 q), if_neg (fun w => w.2 q)]
          · rw [if_pos ⟨ylt, q⟩, if_pos ⟨by omega, q⟩]
        · rw [if_neg (fun w => ylt w.1), if_neg (fun w => absurd w.1 (by omega))]
    · obtain ⟨l1, l2⟩ : t < a t ∧ a t < p 27 := by rcases hV.2 t ht with q | q; exact absurd q z; exact q
      have em : mI (a t) = nI (a t) := by unfold mI; rw [if_neg z]
      rw [em, nI_clamp (show a t < 2 ^ 31 by omega)]
      refine ⟨vp_in_nI (by omega) (by omega), hB2 _ _ ⟨t + 1, by omega, rfl, fun y hy => ?_⟩ dec⟩
      by_cases ea : y = a t
      · rw [ea, pk_us]
        have : bmN a (t + 1) (a t) = t := by
          unfold bmN
          rw [if_neg (fun w => absurd w.1 (by omega))]
          exact if_pos rfl
        rw [this]; unfold mI; rw [if_neg (by omega)]
      · rw [pk_un ea]
        have hw : wkN a y (t + 1) = wkN a y t := if_neg (fun w => ea w.symm)
        by_cases ey : y = t
        · rw [ey, pk_us]
          unfold bmN
          rw [if_pos ⟨by omega, z⟩, em]
        · rw [pk_un ey, hb y hy]
          unfold bmN
          rw [hw]
          by_cases ylt : y < t
          · by_cases q : a y = 99
            · rw [if_neg (fun w => w.2 q), if_neg (fun w => w.2 q)]
            · rw [if_pos ⟨ylt, q⟩, if_pos ⟨by omega, q⟩]
          · rw [if_neg (fun w => ylt w.1), if_neg (fun w => absurd w.1 (by omega))]
  refine ⟨fun z => absurd z (nI_ge (by omega) (by omega)), fun _ => ⟨vp_in_nI (by omega) (by omega), ?_⟩⟩
  intro bm1 e1 x1 ex1
  subst ex1
  rw [nI_clamp (by omega)] at e1
  rw [nI_1]
  refine hB _ _ ⟨j + 1, by omega, rfl, fun y hy => ?_⟩ (by rw [nI_clamp (by omega), nI_clamp (by omega)]; omega)
  rw [e1]
  by_cases q : y = j
  · rw [q, pk_us]
  · rw [pk_un q]; exact hbm y (by omega)
def xI (t : Nat) : Int32 := if t = 0 then -1 else nI (t - 1)
theorem s_backtrack {p : Nat → Nat} {row : Nat → Int32} (hI : Inv p) (hM : MR p row 0) {K : Int32 → (Nat → Int32) → Prop} : ∀ (t : Nat) (a : Nat → Nat) (A : Nat → Int32), t ≤ p 27 → V2 (p 27) (p 27) a → MtR (p 27) a A → (btN2 p t a = none → ∀ A', K 0 A') → (∀ b A', btN2 p t a = some b → V2 (p 27) (p 27) b → MtR (p 27) b A' → K 1 A') → ∃ n : Nat, lpw2 (fun (B58 : Int32 → (Nat → Int32) → Prop) (x4_17 : Int32) (s_mates_18 : Nat → Int32) => jn0 (fun (J88 : Prop) => ((x4_17 < 0 → J88) ∧ (¬ x4_17 < 0 → wp_Mo_nextMate x4_17 s_mates_18 row (fun (r_31 : Int32) => ((¬ r_31 = x4_17 → J88) ∧ (r_31 = x4_17 → vp_in x4_17 7 ∧ B58 (x4_17 + (-1)) (upd s_mates_18 (Int32.toNatClampNeg x4_17) (-1)))))))) (jn1 (fun (J98 : Int32 → Prop) => ((x4_17 < 0 → J98 0) ∧ (¬ x4_17 < 0 → J98 1))) (fun (v_21 : Int32) => jn1 (fun (J116 : (Nat → Int32) → Prop) => ((v_21 = 0 → J116 s_mates_18) ∧ (¬ v_21 = 0 → wp_Mo_nextMate x4_17 s_mates_18 row (fun (r_26 : Int32) => vp_in x4_17 7 ∧ J116 (upd s_mates_18 (Int32.toNatClampNeg x4_17) r_26))))) (fun (s_mates_23 : Nat → Int32) => K v_21 s_mates_23)))) n (xI t) A
  | 0, a, A => by
    intro _ hV hA h0 h1
    refine ⟨1, ?_⟩
    have hneg : (xI 0 : Int32) < 0 := by decide
    show jn0 _ _
    rw [jn0_e, jn1_e]
    refine ⟨fun _ => ⟨fun _ => ?_, fun z => absurd hneg z⟩, fun z => absurd hneg z⟩
    show jn1 _ _
    rw [jn1_e]
    exact ⟨fun _ => h0 rfl A, fun z => absurd rfl z⟩
  | i + 1, a, A => by
    intro ht hV hA h0 h1
    have h7 := hI.1
    have hi : i < p 27 := by omega
    have ex : xI (i + 1) = nI i := by unfold xI; rw [if_neg (by omega)]; rfl
    have hpos : ¬ (nI i : Int32) < 0 := nI_pos (by omega)
    have v : vp_in (nI i) 7 := vp_in_nI (by omega) (by omega)
    by_cases hn : nxN p a i = 99
    · have hb : btN2 p (i + 1) a = btN2 p i (updN a i 99) := if_pos hn
      rw [hb] at h0 h1
      obtain ⟨f, hf⟩ := s_backtrack hI hM (K := K) i (updN a i 99) (upd A i (-1)) (by omega) (hV.upA hi (Or.inl rfl)) (hA.up (v := 99)) h0 h1
      refine ⟨f + 1, ?_⟩
      rw [ex]
      show jn0 _ _
      rw [jn0_e]
      refine ⟨fun z => absurd z hpos, fun _ => ?_⟩
      refine s_nextMate hI hM hV hA hi ?_
      rw [if_pos hn]
      refine ⟨fun z => absurd rfl z, fun _ => ⟨v, ?_⟩⟩
      have exi : nI i + (-1) = xI i := by
        unfold xI
        by_cases e : i = 0
        · subst e; rfl
        · rw [if_neg e]
          have := pk_m1 (i - 1)
          rwa [show i - 1 + 1 = i by omega] at this
      rw [exi, nI_clamp (by omega)]
      exact hf
    · have hb : btN2 p (i + 1) a = some (updN a i (nxN p a i)) := if_neg hn
      have hv := nx_ok hV hi
      have hne : ¬ nI (nxN p a i) = nI i := nI_ne (by omega) (by omega) (by omega)
      refine ⟨1, ?_⟩
      rw [ex]
      show jn0 _ _
      rw [jn0_e, jn1_e]
      have fin : wp_Mo_nextMate (nI i) A row (fun r_26 => vp_in (nI i) 7 ∧ K 1 (upd A (Int32.toNatClampNeg (nI i)) r_26)) := by
        refine s_nextMate hI hM hV hA hi ?_
        rw [if_neg hn]
        refine ⟨v, ?_⟩
        rw [nI_clamp (by omega)]
        refine h1 _ _ hb (hV.upA hi hv) ?_
        have : nI (nxN p a i) = mI (nxN p a i) := by unfold mI; rw [if_neg hn]
        rw [this]
        exact hA.up
      refine ⟨fun z => absurd z hpos, fun _ => ?_⟩
      refine s_nextMate hI hM hV hA hi ?_
      rw [if_neg hn]
      refine ⟨fun _ => ⟨fun z => absurd z hpos, fun _ => ?_⟩, fun z => absurd z hne⟩
      show jn1 _ _
      rw [jn1_e]
      exact ⟨fun z => absurd z (by decide), fun _ => fin⟩
def stp (p : Nat → Nat) (z : Option (Nat → Nat) × (Nat × (Nat → Nat))) : Option (Nat → Nat) × (Nat × (Nat → Nat)) := match z.1 with
  | none => z
  | some a => (btN2 p (p 27) a, kpS z.2 a)
def Rch (p : Nat → Nat) (x z : Option (Nat → Nat) × (Nat × (Nat → Nat))) : Prop := ∃ k, itN (stp p) k x = z
theorem itN_add {α : Type} (f : α → α) (x : α) (j : Nat) : ∀ k, itN f (j + k) x = itN f k (itN f j x)
  | 0 => rfl
  | k + 1 => by show f (itN f (j + k) x) = f (itN f k (itN f j x)); rw [itN_add f x j k]
theorem Rch.tr {p : Nat → Nat} {x y z : Option (Nat → Nat) × (Nat × (Nat → Nat))} (h1 : Rch p x y) (h2 : Rch p y z) : Rch p x z := by
  obtain ⟨j, rfl⟩ := h1
  obtain ⟨k, rfl⟩ := h2
  exact ⟨j + k, itN_add _ _ _ _⟩
theorem V2.mono {n i : Nat} {m : Nat → Nat} (h : V2 n i m) (hi : i ≤ n) : V2 n n m := ⟨fun y hy => h.1 y (by omega), fun x hx => by
  by_cases e : x < i
  · exact h.2 x e
  · exact Or.inl (h.1 x (by omega))⟩
theorem updN_id {m : Nat → Nat} {i v : Nat} (h : m i = v) : updN m i v = m := by
  funext y
  by_cases e : y = i
  · rw [e, updN_s, h]
  · rw [updN_n e]
theorem updN_2 (m : Nat → Nat) (i v w : Nat) : updN (updN m i v) i w = updN m i w := by
  funext y
  by_cases e : y = i
  · rw [e, updN_s, updN_s]
  · rw [updN_n e, updN_n e, updN_n e]
theorem block {p : Nat → Nat} (hn : p 27 ≤ 7) : ∀ (r i : Nat) (m : Nat → Nat) (s : Nat × (Nat → Nat)), i + r = p 27 → V2 (p 27) i m → Rch p (some m, s) (btN2 p i m, fbS p r i m s)
  | 0, i, m, s => by
    intro hir hV
    have e : i = p 27 := by omega
    subst e
    exact ⟨1, rfl⟩
  | r + 1, i, m, s => by
    intro hir hV
    have hmi := hV.1 i (Nat.le_refl _)
    have h1 := block hn r (i + 1) m s (by omega) hV.s
    obtain ⟨F, hF⟩ : ∃ F : Nat → (Nat × (Nat → Nat)) → (Nat × (Nat → Nat)), F = fun j s => if okB p m i j = true then fbS p r (i + 1) (updN m i j) s else s := ⟨_, rfl⟩
    obtain ⟨X, hX⟩ : ∃ X : Nat → Option (Nat → Nat), X = fun j0 => if frN (okB p m i) j0 (p 27 - j0) = 99 then btN2 p i m else some (updN m i (frN (okB p m i) j0 (p 27 - j0))) := ⟨_, rfl⟩
    have hbt : ∀ v, (v = 99 ∨ (i < v ∧ v < p 27)) → btN2 p (i + 1) (updN m i v) = X ((if v = 99 then i else v) + 1) := by
      intro v hv
      have hnx : nxN p (updN m i v) i = frN (okB p m i) ((if v = 99 then i else v) + 1) (p 27 - ((if v = 99 then i else v) + 1)) := by
        unfold nxN stN2
        rw [updN_s]
        exact frN_cong (fun j => okB_cong (fun k hk => updN_n (by omega)) j) _ _
      show (if nxN p (updN m i v) i = 99 then btN2 p i (updN (updN m i v) i 99) else some (updN (updN m i v) i (nxN p (updN m i v) i))) = _
      rw [hnx, updN_2, updN_2, updN_id hmi, hX]
    have h2 : ∀ c j0 s', j0 + c = p 27 → i < j0 → Rch p (X j0, s') (btN2 p i m, flp F j0 c s') := by
      intro c
      induction c with
      | zero =>
        intro j0 s' hj0 _
        refine ⟨0, ?_⟩
        rw [hX]
        show ((if frN (okB p m i) j0 (p 27 - j0) = 99 then btN2 p i m else _), s') = _
        rw [show p 27 - j0 = 0 by omega]
        rfl
      | succ c ih =>
        intro j0 s' hj0 hij
        have hc : p 27 - j0 = c + 1 := by omega
        have hc' : p 27 - (j0 + 1) = c := by omega
        have hfl : flp F j0 (c + 1) s' = flp F (j0 + 1) c (F j0 s') := rfl
        rw [hfl]
        by_cases hok : okB p m i j0 = true
        · have hf : frN (okB p m i) j0 (c + 1) = j0 := if_pos hok
          have eX : X j0 = some (updN m i j0) := by rw [hX]; simp only [hc, hf]; rw [if_neg (by omega)]
          have eF : F j0 s' = fbS p r (i + 1) (updN m i j0) s' := by rw [hF]; simp only [hok, if_true]
          rw [eX, eF]
          have hb := block hn r (i + 1) (updN m i j0) s' (by omega) (hV.up hij (by omega))
          rw [hbt j0 (Or.inr ⟨hij, by omega⟩), if_neg (by omega)] at hb
          exact hb.tr (ih (j0 + 1) _ (by omega) (by omega))
        · have hf : frN (okB p m i) j0 (c + 1) = frN (okB p m i) (j0 + 1) c := if_neg hok
          have eX : X j0 = X (j0 + 1) := by rw [hX]; simp only [hc, hc', hf]
          have eF : F j0 s' = s' := by rw [hF]; simp only [hok]; rfl
          rw [eX, eF]
          exact ih (j0 + 1) s' (by omega) (by omega)
    have h3 := hbt 99 (Or.inl rfl)
    rw [updN_id hmi, if_pos rfl] at h3
    rw [h3] at h1
    have e : fbS p (r + 1) i m s = flp F (i + 1) r (fbS p r (i + 1) m s) := by rw [hF]; rfl
    rw [e]
    exact h1.tr (h2 r (i + 1) _ (by omega) (by omega))
theorem lpw4_ix {A1 A2 A3 A4 : Type} {body : (A1 → A2 → A3 → A4 → Prop) → A1 → A2 → A3 → A4 → Prop} (I : Nat → A1 → A2 → A3 → A4 → Prop) (hs : ∀ (B : A1 → A2 → A3 → A4 → Prop) r a b c d, I (r + 1) a b c d → (∀ a' b' c' d', I r a' b' c' d' → B a' b' c' d') → body B a b c d) (h0 : ∀ (B : A1 → A2 → A3 → A4 → Prop) a b c d, I 0 a b c d → body B a b c d) (r : Nat) (a : A1) (b : A2) (c : A3) (d : A4) (h : I r a b c d) : ∃ n, lpw4 body n a b c d := by
  have key : ∀ r a b c d, I r a b c d → lpw4 body (r + 1) a b c d := by
    intro r
    induction r with
    | zero => intro a b c d h; exact h0 _ a b c d h
    | succ r ih => intro a b c d h; exact hs _ r a b c d h ih
  exact ⟨r + 1, key r a b c d h⟩
theorem itN_none {p : Nat → Nat} (s : Nat × (Nat → Nat)) : ∀ k, itN (stp p) k (none, s) = (none, s)
  | 0 => rfl
  | k + 1 => by show stp p (itN (stp p) k (none, s)) = _; rw [itN_none s k]; rfl
theorem s_mostPairs {p : Nat → Nat} {row bm0 A0 : Nat → Int32} (hI : Inv p) (hM : MR p row 0) {Q : Int32 → (Nat → Int32) → (Nat → Int32) → Prop}
    (hQ : ∀ bm A, ((fbS p (p 27) 0 (fun _ => 99) (0, fun _ => 99)).1 = 0 ∨ ∀ x, x < p 27 → bm x = mI (mtN (fbS p (p 27) 0 (fun _ => 99) (0, fun _ => 99)).2 x)) → Q (oI (fbS p (p 27) 0 (fun _ => 99) (0, fun _ => 99)).1) bm A) : wp_Mo_mostPairs bm0 A0 row Q := by
  have h7 := hI.1
  have e27 : row (Int32.toNatClampNeg 27) = nI (p 27) := hM.at0 (j := 27) (by omega)
  obtain ⟨sF, hsF⟩ : ∃ sF, sF = fbS p (p 27) 0 (fun _ => 99) (0, fun _ => 99) := ⟨_, rfl⟩
  rw [← hsF] at hQ
  unfold wp_Mo_mostPairs
  simp only [e27, fe_e]
  refine lpw2_rule (fun x A => ∃ j, j ≤ p 27 ∧ x = nI j ∧ ∀ y, y < j → A y = -1) (fun x _ => 8 - x.toNatClampNeg) ?_ 0 A0 ⟨0, Nat.zero_le _, rfl, fun y hy => absurd hy (by omega)⟩
  intro B x A hx hB
  obtain ⟨j, hj, rfl, hA⟩ := hx
  by_cases e : j = p 27
  · subst e
    refine ⟨fun _ => ?_, fun z => absurd (nI_le (Nat.le_refl _) (by omega)) z⟩
    have hV0 : V2 (p 27) 0 (fun _ => 99) := ⟨fun _ _ => rfl, fun x hx => absurd hx (by omega)⟩
    obtain ⟨k0, hk0⟩ := block h7 (p 27) 0 (fun _ => 99) (0, fun _ => 99) (by omega) hV0
    rw [← hsF] at hk0
    refine lpw4_ix (fun r x2 x3 bm A => (∃ a s, x3 = 1 ∧ V2 (p 27) (p 27) a ∧ MtR (p 27) a A ∧ s.1 ≤ 8 ∧ x2 = oI s.1 ∧ (s.1 = 0 ∨ ∀ x, x < p 27 → bm x = mI (mtN s.2 x)) ∧ itN (stp p) r (some a, s) = (none, sF)) ∨ (x3 = 0 ∧ x2 = oI sF.1 ∧ (sF.1 = 0 ∨ ∀ x, x < p 27 → bm x = mI (mtN sF.2 x)))) ?_ ?_ k0 (-1) 1 bm0 A (Or.inl ⟨fun _ => 99, (0, fun _ => 99), rfl, hV0.mono (by omega), fun x hx => by rw [hA x hx]; rfl, by decide, rfl, Or.inl rfl, hk0⟩)
    · intro B2 r x2 x3 bm A2 hx2 hB2
      rcases hx2 with ⟨a, s, rfl, hV, hM2, h8, rfl, hbm, hit⟩ | ⟨rfl, rfl, hbm⟩
      · refine ⟨fun z => absurd z (by decide), fun _ => ?_⟩
        refine s_pairs hI hM hV hM2 ?_
        have hp := pcN_le a 7
        rw [Nat.add_comm r 1, itN_add (stp p) (some a, s) 1 r] at hit
        have hst : itN (stp p) 1 (some a, s) = (btN2 p (p 27) a, kpS s a) := rfl
        rw [hst] at hit
        have go : ∀ mo bm', mo = oI (kpS s a).1 → ((kpS s a).1 = 0 ∨ ∀ x, x < p 27 → bm' x = mI (mtN (kpS s a).2 x)) → ∃ n : Nat, lpw2 (fun (B58 : Int32 → (Nat → Int32) → Prop) (x4_17 : Int32) (s_mates_18 : Nat → Int32) => jn0 (fun (J88 : Prop) => ((x4_17 < 0 → J88) ∧ (¬ x4_17 < 0 → wp_Mo_nextMate x4_17 s_mates_18 row (fun (r_31 : Int32) => ((¬ r_31 = x4_17 → J88) ∧ (r_31 = x4_17 → vp_in x4_17 7 ∧ B58 (x4_17 + (-1)) (upd s_mates_18 (Int32.toNatClampNeg x4_17) (-1)))))))) (jn1 (fun (J98 : Int32 → Prop) => ((x4_17 < 0 → J98 0) ∧ (¬ x4_17 < 0 → J98 1))) (fun (v_21 : Int32) => jn1 (fun (J116 : (Nat → Int32) → Prop) => ((v_21 = 0 → J116 s_mates_18) ∧ (¬ v_21 = 0 → wp_Mo_nextMate x4_17 s_mates_18 row (fun (r_26 : Int32) => vp_in x4_17 7 ∧ J116 (upd s_mates_18 (Int32.toNatClampNeg x4_17) r_26))))) (fun (s_mates_23 : Nat → Int32) => B2 mo v_21 bm' s_mates_23)))) n (xI (p 27)) A2 := by
          intro mo bm' hmo hbm'
          have hk8 : (kpS s a).1 ≤ 8 := by
            unfold kpS
            split
            · exact h8
            · show pcN a 7 + 1 ≤ 8; omega
          refine s_backtrack hI hM (K := fun v A' => B2 mo v bm' A') (p 27) a A2 (Nat.le_refl _) hV hM2 (fun hno A' => ?_) (fun b A' hb hVb hMb => ?_)
          · rw [hno, itN_none] at hit
            have hs : kpS s a = sF := (Prod.mk.inj hit).2
            rw [hs] at hmo hbm'
            exact hB2 _ _ _ _ (Or.inr ⟨rfl, hmo, hbm'⟩)
          · rw [hb] at hit
            exact hB2 _ _ _ _ (Or.inl ⟨b, kpS s a, rfl, hVb, hMb, hk8, hmo, hbm', hit⟩)
        have ex : nI (p 27) - 1 = xI (p 27) := by
          unfold xI
          by_cases e0 : p 27 = 0
          · rw [if_pos e0, e0]; rfl
          · rw [if_neg e0]; exact pk_sub (b := 1) (by omega)
        simp only [ex]
        rw [jn2_e, oI_le hp h8]
        refine ⟨fun z => ?_, fun z => ?_⟩
        · have hk : kpS s a = s := if_pos z
          exact go _ _ (by rw [hk]) (by rw [hk]; exact hbm)
        · have hk : kpS s a = (pcN a 7 + 1, a) := if_neg z
          refine s_pairs hI hM hV hM2 (s_keepMates hI hM hV hM2 (fun bm' hbm' => ?_))
          exact go (nI (pcN a 7)) bm' (by rw [hk]; exact oI_s _) (by rw [hk]; exact Or.inr hbm')
      · exact ⟨fun _ => hQ _ _ hbm, fun z => absurd rfl z⟩
    · intro B2 x2 x3 bm A2 hx2
      rcases hx2 with ⟨a, s, rfl, -, -, -, -, -, hit⟩ | ⟨rfl, rfl, hbm⟩
      · exact absurd (Prod.mk.inj hit).1 (by simp)
      · exact ⟨fun _ => hQ _ _ hbm, fun z => absurd rfl z⟩
  · refine ⟨fun z => absurd z (nI_ge (by omega) (by omega)), fun _ => ⟨vp_in_nI (by omega) (by omega), ?_⟩⟩
    rw [nI_clamp (by omega), nI_1]
    refine hB _ _ ⟨j + 1, by omega, rfl, fun y hy => ?_⟩ (by rw [nI_clamp (by omega), nI_clamp (by omega)]; omega)
    by_cases q : y = j
    · rw [q, pk_us]
    · rw [pk_un q]; exact hA y (by omega)
theorem kp_pos (s : Nat × (Nat → Nat)) (m : Nat → Nat) : (kpS s m).1 ≠ 0 := by
  unfold kpS
  split
  · omega
  · show pcN m 7 + 1 ≠ 0; omega
theorem fb_pos {p : Nat → Nat} : ∀ r i m s, (fbS p r i m s).1 ≠ 0
  | 0, _, m, s => kp_pos s m
  | r + 1, i, m, s => by
    have h0 := fb_pos (p := p) r (i + 1) m s
    have : ∀ c j s', s'.1 ≠ 0 → (flp (fun j s => if okB p m i j = true then fbS p r (i + 1) (updN m i j) s else s) j c s').1 ≠ 0 := by
      intro c
      induction c with
      | zero => intro j s' h; exact h
      | succ c ih =>
        intro j s' h
        refine ih (j + 1) _ ?_
        show (if okB p m i j = true then fbS p r (i + 1) (updN m i j) s' else s').1 ≠ 0
        split
        · exact fb_pos r (i + 1) _ s'
        · exact h
    exact this r (i + 1) _ h0
set_option maxHeartbeats 4000000 in
set_option maxRecDepth 100000 in
theorem po_marry {x_textLength : Int32} {x_above : Int64} {x_below : Int64} {x_timesBad : Int32} {x_timesNo : Int32} {x_timesFull : Int32} {x_couples_mostPairs : Int32} {x_couples_chosen : Nat → Int32} {x_couples_partner : Nat → Int32} {x_images_0_flitchCount : Int32} {x_images_0_familyCount : Int32} {x_images_0_hung : Int32} {x_images_0_day : Int32} {x_images_0_familyCell : Nat → Int32} {x_images_0_familyKind : Nat → Int32} {x_images_0_familySide : Nat → Int32} {x_images_0_familyWill : Nat → Int32} {x_images_0_flitchCell : Nat → Int32} {x_images_0_flitchKind : Nat → Int32} {x_images_0_flitchStrength : Nat → Int32} {x_images_0_marks_size : Int32} {x_images_0_marks_numbers : Nat → Int32} {x_images_0_notes_size : Int32} {x_images_0_notes_numbers : Nat → Int32} {x_images_0_past_size : Int32} {x_images_0_past_numbers : Nat → Int32} {x_images_0_sightings_size : Int32} {x_images_0_sightings_numbers : Nat → Int32} {x_images_1_flitchCount : Int32} {x_images_1_familyCount : Int32} {x_images_1_hung : Int32} {x_images_1_day : Int32} {x_images_1_familyCell : Nat → Int32} {x_images_1_familyKind : Nat → Int32} {x_images_1_familySide : Nat → Int32} {x_images_1_familyWill : Nat → Int32} {x_images_1_flitchCell : Nat → Int32} {x_images_1_flitchKind : Nat → Int32} {x_images_1_flitchStrength : Nat → Int32} {x_images_1_marks_size : Int32} {x_images_1_marks_numbers : Nat → Int32} {x_images_1_notes_size : Int32} {x_images_1_notes_numbers : Nat → Int32} {x_images_1_past_size : Int32} {x_images_1_past_numbers : Nat → Int32} {x_images_1_sightings_size : Int32} {x_images_1_sightings_numbers : Nat → Int32} {x_kept : Nat → Int32} {x_now_flitchCount : Int32} {x_now_familyCount : Int32} {x_now_hung : Int32} {x_now_day : Int32} {x_now_familyCell : Nat → Int32} {x_now_familyKind : Nat → Int32} {x_now_familySide : Nat → Int32} {x_now_familyWill : Nat → Int32} {x_now_flitchCell : Nat → Int32} {x_now_flitchKind : Nat → Int32} {x_now_flitchStrength : Nat → Int32} {x_now_marks_width : Int32} {x_now_marks_limit : Int32} {x_now_marks_size : Int32} {x_now_marks_numbers : Nat → Int32} {x_now_notes_width : Int32} {x_now_notes_limit : Int32} {x_now_notes_size : Int32} {x_now_notes_numbers : Nat → Int32} {x_now_past_width : Int32} {x_now_past_limit : Int32} {x_now_past_size : Int32} {x_now_past_numbers : Nat → Int32} {x_now_sightings_width : Int32} {x_now_sightings_limit : Int32} {x_now_sightings_size : Int32} {x_now_sightings_numbers : Nat → Int32} {x_text : Nat → Int32} {m_above : Int64} {m_below : Int64} {m_length : Int32} {m_bestMates : Nat → Int32} {m_isKept : Nat → Int32} {m_mates : Nat → Int32} {m_refused : Nat → Int32} {m_row : Nat → Int32} {m_text : Nat → Int32} {m_words : Nat → Int32} (h : Rel x_textLength x_above x_below x_timesBad x_timesNo x_timesFull x_images_0_flitchCount x_images_0_familyCount x_images_0_hung x_images_0_day x_images_0_familyCell x_images_0_familyKind x_images_0_familySide x_images_0_familyWill x_images_0_flitchCell x_images_0_flitchKind x_images_0_flitchStrength x_images_0_marks_size x_images_0_marks_numbers x_images_0_notes_size x_images_0_notes_numbers x_images_0_past_size x_images_0_past_numbers x_images_0_sightings_size x_images_0_sightings_numbers x_images_1_flitchCount x_images_1_familyCount x_images_1_hung x_images_1_day x_images_1_familyCell x_images_1_familyKind x_images_1_familySide x_images_1_familyWill x_images_1_flitchCell x_images_1_flitchKind x_images_1_flitchStrength x_images_1_marks_size x_images_1_marks_numbers x_images_1_notes_size x_images_1_notes_numbers x_images_1_past_size x_images_1_past_numbers x_images_1_sightings_size x_images_1_sightings_numbers x_kept x_now_flitchCount x_now_familyCount x_now_hung x_now_day x_now_familyCell x_now_familyKind x_now_familySide x_now_familyWill x_now_flitchCell x_now_flitchKind x_now_flitchStrength x_now_marks_width x_now_marks_limit x_now_marks_size x_now_marks_numbers x_now_notes_width x_now_notes_limit x_now_notes_size x_now_notes_numbers x_now_past_width x_now_past_limit x_now_past_size x_now_past_numbers x_now_sightings_width x_now_sightings_limit x_now_sightings_size x_now_sightings_numbers x_text m_above m_below m_length m_isKept m_refused m_row m_text m_words) (x1 : Int32) : wp_Rc_marry x1 x_timesBad x_couples_mostPairs x_couples_chosen x_couples_partner x_now_familyCount x_now_familySide x_now_familyWill (fun (r : Int32) (x_timesBad' : Int32) (x_couples_mostPairs' : Int32) (x_couples_chosen' : Nat → Int32) (x_couples_partner' : Nat → Int32) => wp_Mo_marry x1 m_bestMates m_mates m_refused m_row (fun (r' : Int32) (m_bestMates' : Nat → Int32) (m_mates' : Nat → Int32) (m_refused' : Nat → Int32) => r = r' ∧ Rel x_textLength x_above x_below x_timesBad' x_timesNo x_timesFull x_images_0_flitchCount x_images_0_familyCount x_images_0_hung x_images_0_day x_images_0_familyCell x_images_0_familyKind x_images_0_familySide x_images_0_familyWill x_images_0_flitchCell x_images_0_flitchKind x_images_0_flitchStrength x_images_0_marks_size x_images_0_marks_numbers x_images_0_notes_size x_images_0_notes_numbers x_images_0_past_size x_images_0_past_numbers x_images_0_sightings_size x_images_0_sightings_numbers x_images_1_flitchCount x_images_1_familyCount x_images_1_hung x_images_1_day x_images_1_familyCell x_images_1_familyKind x_images_1_familySide x_images_1_familyWill x_images_1_flitchCell x_images_1_flitchKind x_images_1_flitchStrength x_images_1_marks_size x_images_1_marks_numbers x_images_1_notes_size x_images_1_notes_numbers x_images_1_past_size x_images_1_past_numbers x_images_1_sightings_size x_images_1_sightings_numbers x_kept x_now_flitchCount x_now_familyCount x_now_hung x_now_day x_now_familyCell x_now_familyKind x_now_familySide x_now_familyWill x_now_flitchCell x_now_flitchKind x_now_flitchStrength x_now_marks_width x_now_marks_limit x_now_marks_size x_now_marks_numbers x_now_notes_width x_now_notes_limit x_now_notes_size x_now_notes_numbers x_now_past_width x_now_past_limit x_now_past_size x_now_past_numbers x_now_sightings_width x_now_sightings_limit x_now_sightings_size x_now_sightings_numbers x_text m_above m_below m_length m_isKept m_refused' m_row m_text m_words)) := by
  obtain ⟨⟨p, hPS, hM⟩, ⟨rfl, rfl, rfl, rfl, rfl, rfl, rfl, rfl⟩, hk0, hk1, hTx, hFr, hRf, hWo⟩ := id h
  obtain ⟨hI, ⟨rfl, rfl, rfl, rfl, a5, a6, a7, a8, a9, a10, a11⟩, hm, hn, hp, hs⟩ := id hPS
  have h7 := hI.1
  have h3 := hI.2.1.1
  have e27 : m_row 27 = nI (p 27) := hM.at0 (by omega)
  have e17 : m_row 17 = nI (p 17) := hM.at0 (by omega)
  have hfp := fb_pos (p := p) (p 27) 0 (fun _ => 99) (0, fun _ => 99)
  by_cases q1 : x1 = (-1)
  · simp only [wp_Rc_marry, wp_Mo_marry, true_implies, false_implies, not_true_eq_false, not_false_eq_true, and_true, true_and, jn0_e, w_bad, w_no, w_full, w_badApart, w_refB, w_refN, w_refF, w_badAs, w_within, w_in, w_isCell, w_isFamC, w_isFliC, w_isFamM, w_isFliM, q1]
    refine s_pairAll hI a7 a8 (fun mo ch pa hS => ?_)
    refine s_mostPairs hI hM (fun bm A hb => ⟨hS.2.1, h⟩)
  by_cases q2 : inB x1 0 (nI (p 27) - 1) = 0
  · simp only [wp_Rc_marry, wp_Mo_marry, true_implies, false_implies, not_true_eq_false, not_false_eq_true, and_true, true_and, jn0_e, w_bad, w_no, w_full, w_badApart, w_refB, w_refN, w_refF, w_badAs, w_within, w_in, w_isCell, w_isFamC, w_isFliC, w_isFamM, w_isFliM, e27, q1, q2]; first | exact rel_bad h | exact ⟨rfl, rel_bad h⟩
  obtain ⟨i, hi, rfl⟩ := inB_pl (by omega) q2
  have v7 : vp_in (nI i) 7 := vp_in_nI (by omega) (by omega)
  simp only [wp_Rc_marry, wp_Mo_marry, true_implies, false_implies, not_true_eq_false, not_false_eq_true, and_true, true_and, jn0_e, w_bad, w_no, w_full, w_badApart, w_refB, w_refN, w_refF, w_badAs, w_within, w_in, w_isCell, w_isFamC, w_isFliC, w_isFamM, w_isFliM, e27, q1, q2, v7, nI_clamp (show i < 2 ^ 31 by omega)]
  refine s_pairAll hI a7 a8 (fun mo ch pa hS => ?_)
  refine s_mostPairs hI hM (fun bm A hb => ⟨?_, h⟩)
  rcases hb with e | hb
  · exact absurd e hfp
  rcases hS.2.2 with e | hc
  · exact absurd e hfp
  rw [hb i hi, hc i (by omega)]

