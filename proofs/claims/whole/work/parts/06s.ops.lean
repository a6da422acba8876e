/-! the way, in plain numbers: a cell's label is 64 * what one smells + the steps -/
def nbN (x d : Nat) : Nat := if d = 0 then (if x < 5 then 99 else x - 5) else if d = 1 then (if x % 5 = 0 then 99 else x - 1) else if d = 2 then (if 4 ≤ x % 5 then 99 else x + 1) else (if 20 ≤ x then 99 else x + 5)
def nbI (x d : Nat) : Int32 := if nbN x d = 99 then -1 else nI (nbN x d)
def bfC (x0 x1 : Int32) : Int32 := if x1 = 0 then (if x0 < 5 then -1 else x0 - 5) else if x1 = 1 then (if irem x0 5 ≤ 0 then -1 else x0 - 1) else if x1 = 2 then (if 4 ≤ irem x0 5 then -1 else x0 + 1) else (if 25 ≤ x0 + 5 then -1 else x0 + 5)
def bfM (x0 x1 : Int32) : Int32 := if x1 = 0 then (if x0 ≤ 4 then -1 else x0 - 5) else if x1 = 1 then (if irem x0 5 ≤ 0 then -1 else x0 - 1) else if x1 = 2 then (if 4 ≤ irem x0 5 then -1 else x0 + 1) else (if 20 ≤ x0 then -1 else x0 + 5)
set_option maxRecDepth 100000 in
theorem nb_all : ∀ x, x < 25 → ∀ d, d < 4 → (bfC (nI x) (nI d) = nbI x d ∧ bfM (nI x) (nI d) = nbI x d ∧ (nbN x d = 99 ∨ nbN x d < 25)) := by decide +kernel
theorem w_besC {x d : Nat} (hx : x < 25) (hd : d < 4) (Q : Int32 → Prop) : wp_Ph_beside (nI x) (nI d) Q = Q (nbI x d) := by
  rw [← (nb_all x hx d hd).1]
  unfold wp_Ph_beside bfC
  simp only [br_ite, apply_ite Q]
theorem w_besM {x d : Nat} (hx : x < 25) (hd : d < 4) (Q : Int32 → Prop) : wp_Mo_beside (nI x) (nI d) Q = Q (nbI x d) := by
  rw [← (nb_all x hx d hd).2.1]
  unfold wp_Mo_beside bfM
  simp only [br_ite, apply_ite Q]
def ctN (P : Nat → Bool) : Nat → Nat
  | 0 => 0
  | n + 1 => ctN P n + (if P n = true then 1 else 0)
theorem ctN_le {P R : Nat → Bool} : ∀ n, (∀ i, i < n → P i = true → R i = true) → ctN P n ≤ ctN R n
  | 0, _ => Nat.le_refl _
  | n + 1, h => by
    have ih := ctN_le n (fun i hi => h i (by omega))
    have h1 := h n (by omega)
    simp only [ctN]
    by_cases a : P n = true
    · rw [if_pos a, if_pos (h1 a)]; omega
    · rw [if_neg a]; split <;> omega
theorem ctN_lt {P R : Nat → Bool} {k : Nat} : ∀ n, k < n → (∀ i, i < n → P i = true → R i = true) → P k = false → R k = true → ctN P n + 1 ≤ ctN R n
  | 0, hk, _, _, _ => absurd hk (by omega)
  | n + 1, hk, h, hp, hr => by
    have h1 := h n (by omega)
    simp only [ctN]
    by_cases e : k = n
    · subst e
      have ih := ctN_le k (fun i hi => h i (by omega))
      rw [hp, if_neg (by decide), if_pos hr]; omega
    · have ih := ctN_lt n (by omega) (fun i hi => h i (by omega)) hp hr
      by_cases a : P n = true
      · rw [if_pos a, if_pos (h1 a)]; omega
      · rw [if_neg a]; split <;> omega
theorem ctN_24 {P : Nat → Bool} {k n : Nat} (hk : k < n) (hp : P k = false) : ctN P n + 1 ≤ n := by
  have h1 := ctN_lt (R := fun _ => true) n hk (fun _ _ _ => rfl) hp rfl
  have h2 : ∀ m, ctN (fun _ => true) m = m := by
    intro m
    induction m with
    | zero => rfl
    | succ m ih => simp only [ctN, ih, if_true]
  rw [h2] at h1
  exact h1
def rkN (C : Nat → Nat) (x : Nat) : Nat := ctN (fun y => decide (C y < C x)) 25
theorem rkN_24 (C : Nat → Nat) {x : Nat} (hx : x < 25) : rkN C x ≤ 24 := by
  have := ctN_24 (P := fun y => decide (C y < C x)) hx (decide_eq_false (by omega))
  unfold rkN
  omega
def mnD (E f : Nat → Nat) (x : Nat) : Nat → Nat
  | 0 => f x
  | d + 1 => min (mnD E f x d) (if nbN x d < 25 then f (nbN x d) + E (nbN x d) else f x)
def wDN (E : Nat → Nat) (g : Nat) : Nat → Nat → Nat
  | 0 => fun x => if x = g then 0 else 1000000000
  | k + 1 => fun x => mnD E (wDN E g k) x 4
theorem mnD_le (E f : Nat → Nat) (x : Nat) : ∀ d, mnD E f x d ≤ f x
  | 0 => Nat.le_refl _
  | d + 1 => Nat.le_trans (Nat.min_le_left _ _) (mnD_le E f x d)
theorem mnD_n (E f : Nat → Nat) (x : Nat) {d : Nat} : ∀ m, d < m → nbN x d < 25 → mnD E f x m ≤ f (nbN x d) + E (nbN x d)
  | 0, hd, _ => absurd hd (by omega)
  | m + 1, hd, hn => by
    simp only [mnD]
    by_cases e : d = m
    · subst e; rw [if_pos hn]; exact Nat.min_le_right _ _
    · exact Nat.le_trans (Nat.min_le_left _ _) (mnD_n E f x m (by omega) hn)
theorem mnD_ge {E f : Nat → Nat} {x v : Nat} (h0 : v ≤ f x) : ∀ m, (∀ d, d < m → nbN x d < 25 → v ≤ f (nbN x d) + E (nbN x d)) → v ≤ mnD E f x m
  | 0, _ => h0
  | m + 1, h => by
    simp only [mnD]
    apply Nat.le_min.mpr
    refine ⟨mnD_ge h0 m (fun d hd => h d (by omega)), ?_⟩
    split
    · rename_i q; exact h m (by omega) q
    · exact h0
theorem wDN_anti (E : Nat → Nat) (g x : Nat) {j : Nat} : ∀ k, j ≤ k → wDN E g k x ≤ wDN E g j x
  | 0, h => by rw [show j = 0 by omega]; exact Nat.le_refl _
  | k + 1, h => by
    by_cases e : j = k + 1
    · rw [e]; exact Nat.le_refl _
    · exact Nat.le_trans (mnD_le E (wDN E g k) x 4) (wDN_anti E g x k (by omega))
/-- what always holds of the labels -/
def LI (E : Nat → Nat) (g : Nat) (C : Nat → Nat) : Prop :=
  C g = 0 ∧ (∀ x, x < 25 → C x = 1000000000 ∨ (C x % 64 ≤ rkN C x ∧ C x / 64 ≤ 132 * (C x % 64) ∧ wDN E g (C x % 64) x ≤ C x)) ∧ (∀ x, x < 25 → x ≠ g → C x ≠ 1000000000 → ∃ d, d < 4 ∧ nbN x d < 25 ∧ C (nbN x d) + E (nbN x d) ≤ C x)
def EOk (E : Nat → Nat) (sm : Nat → Nat) : Prop := ∀ c, c < 25 → E c = sm c * 64 + 1 ∧ sm c ≤ 132
theorem LI.le {E : Nat → Nat} {g : Nat} {C : Nat → Nat} (h : LI E g C) {x : Nat} (hx : x < 25) : C x ≤ 1000000000 ∧ (C x = 1000000000 ∨ (C x % 64 ≤ 24 ∧ C x / 64 ≤ 3168)) := by
  have h2 := rkN_24 C hx
  rcases h.2.1 x hx with e | ⟨h3, h4, h5⟩ <;> omega
theorem rk_up {C : Nat → Nat} {x n v : Nat} (hx : x < 25) (hn : n < 25) (h1 : C n < v) (h2 : v < C x) : rkN C n + 1 ≤ rkN (updN C x v) x := by
  have hne : n ≠ x := fun e => by rw [e] at h1; omega
  refine ctN_lt 25 hn (fun i _ q => ?_) (decide_eq_false (by omega)) (decide_eq_true ?_)
  · have q' := of_decide_eq_true q
    have hix : i ≠ x := fun e => by rw [e] at q'; omega
    exact decide_eq_true (by rw [updN_n hix, updN_s]; omega)
  · rw [updN_n hne, updN_s]; exact h1
theorem rk_mo {C : Nat → Nat} {x z v : Nat} (hz : z ≠ x) (h2 : v ≤ C x) : rkN C z ≤ rkN (updN C x v) z := by
  refine ctN_le 25 (fun i _ q => ?_)
  have q' := of_decide_eq_true q
  refine decide_eq_true ?_
  rw [updN_n hz]
  by_cases e : i = x
  · rw [e, updN_s]; rw [e] at q'; omega
  · rw [updN_n e]; exact q'
theorem LI.relax {E sm : Nat → Nat} {g : Nat} {C : Nat → Nat} (hE : EOk E sm) (hg : g < 25) (h : LI E g C) {x d : Nat} (hx : x < 25) (hd : d < 4) (hn : nbN x d < 25) (hlt : C (nbN x d) + E (nbN x d) < C x) : LI E g (updN C x (C (nbN x d) + E (nbN x d))) := by
  obtain ⟨n, en⟩ : ∃ n, n = nbN x d := ⟨_, rfl⟩
  rw [← en] at hn hlt ⊢
  have hxl := (h.le hx).1
  obtain ⟨eE, hsm⟩ := hE n hn
  have hnx : n ≠ x := fun e => by rw [e] at hlt; omega
  have hxg : x ≠ g := fun e => by rw [e, h.1] at hlt; omega
  have h24 := rkN_24 C hn
  rcases h.2.1 n hn with e | ⟨a1, a2, a3⟩
  · omega
  refine ⟨by rw [updN_n (fun e => hxg e.symm)]; exact h.1, fun z hz => ?_, fun z hz hzg hzI => ?_⟩
  · by_cases e : z = x
    · subst e
      refine Or.inr ?_
      have hr := rk_up (C := C) (x := z) (n := n) (v := C n + E n) hx hn (by omega) hlt
      rw [updN_s]
      have m1 : (C n + E n) % 64 = C n % 64 + 1 := by omega
      have m2 : (C n + E n) / 64 = C n / 64 + sm n := by omega
      rw [m1, m2]
      refine ⟨by omega, by omega, ?_⟩
      have := mnD_n E (wDN E g (C n % 64)) z (d := d) 4 hd (by rw [← en]; exact hn)
      rw [← en] at this
      show mnD E (wDN E g (C n % 64)) z 4 ≤ _
      omega
    · have hr := rk_mo (C := C) (x := x) (z := z) (v := C n + E n) e (by omega)
      rw [updN_n e]
      rcases h.2.1 z hz with q | ⟨q1, q2, q3⟩
      · exact Or.inl q
      · exact Or.inr ⟨by omega, q2, q3⟩
  · by_cases e : z = x
    · subst e
      refine ⟨d, hd, by rw [← en]; exact hn, ?_⟩
      rw [← en, updN_n hnx, updN_s]
      omega
    · rw [updN_n e] at hzI ⊢
      obtain ⟨d', h1, h2, h3⟩ := h.2.2 z hz hzg hzI
      refine ⟨d', h1, h2, ?_⟩
      by_cases e2 : nbN z d' = x
      · rw [e2, updN_s]; rw [e2] at h3; omega
      · rw [updN_n e2]; exact h3
/-- one try, one cell, one round -/
abbrev rcP (E C : Nat → Nat) (x n : Nat) : Prop := n < 25 ∧ C n + E n < C x
def rxN (E C : Nat → Nat) (x n : Nat) : Nat → Nat := if rcP E C x n then updN C x (C n + E n) else C
def rlD (E C : Nat → Nat) (x : Nat) : Nat → Nat → Nat
  | 0 => C
  | d + 1 => rxN E (rlD E C x d) x (nbN x d)
def rdB (E C : Nat → Nat) (x : Nat) : Nat → Bool
  | 0 => false
  | d + 1 => rdB E C x d || decide (rcP E (rlD E C x d) x (nbN x d))
def rlR (E C : Nat → Nat) : Nat → Nat → Nat
  | 0 => C
  | x + 1 => rlD E (rlR E C x) x 4
def rrB (E C : Nat → Nat) : Nat → Bool
  | 0 => false
  | x + 1 => rdB E (rlR E C x) x 4 || rrB E C x
def roN (E C : Nat → Nat) : Nat → Nat → Nat
  | 0 => C
  | k + 1 => rlR E (roN E C k) 25
theorem rxN_le (E C : Nat → Nat) (x n y : Nat) : rxN E C x n y ≤ C y := by
  unfold rxN rcP
  split
  · rename_i q
    by_cases e : y = x
    · rw [e, updN_s]; omega
    · rw [updN_n e]; exact Nat.le_refl _
  · exact Nat.le_refl _
theorem rlD_le (E C : Nat → Nat) (x y : Nat) : ∀ d, rlD E C x d y ≤ C y
  | 0 => Nat.le_refl _
  | d + 1 => Nat.le_trans (rxN_le E _ x _ y) (rlD_le E C x y d)
theorem rlD_n {E C : Nat → Nat} {x d : Nat} (hn : nbN x d < 25) : ∀ m, d < m → rlD E C x m x ≤ C (nbN x d) + E (nbN x d)
  | 0, h => absurd h (by omega)
  | m + 1, h => by
    by_cases e : d = m
    · subst e
      have h1 := rlD_le E C x (nbN x d) d
      show rxN E (rlD E C x d) x (nbN x d) x ≤ _
      unfold rxN rcP
      split
      · rw [updN_s]; omega
      · rename_i q; omega
    · exact Nat.le_trans (rxN_le E _ x _ x) (rlD_n hn m (by omega))
theorem rlR_le (E C : Nat → Nat) (y : Nat) : ∀ x, rlR E C x y ≤ C y
  | 0 => Nat.le_refl _
  | x + 1 => Nat.le_trans (rlD_le E _ x y 4) (rlR_le E C y x)
theorem rlR_n {E C : Nat → Nat} {x d : Nat} (hd : d < 4) (hn : nbN x d < 25) : ∀ m, x < m → rlR E C m x ≤ C (nbN x d) + E (nbN x d)
  | 0, h => absurd h (by omega)
  | m + 1, h => by
    by_cases e : x = m
    · subst e
      have h1 := rlR_le E C (nbN x d) x
      have h2 := rlD_n (E := E) (C := rlR E C x) hn 4 hd
      show rlD E (rlR E C x) x 4 x ≤ _
      omega
    · exact Nat.le_trans (rlD_le E _ m x 4) (rlR_n hd hn m (by omega))
theorem LI.rx {E sm : Nat → Nat} {g : Nat} {C : Nat → Nat} (hE : EOk E sm) (hg : g < 25) (h : LI E g C) {x d : Nat} (hx : x < 25) (hd : d < 4) : LI E g (rxN E C x (nbN x d)) := by
  unfold rxN rcP
  split
  · rename_i q; exact h.relax hE hg hx hd q.1 q.2
  · exact h
theorem LI.rD {E sm : Nat → Nat} {g : Nat} {C : Nat → Nat} (hE : EOk E sm) (hg : g < 25) (h : LI E g C) {x : Nat} (hx : x < 25) : ∀ d, d ≤ 4 → LI E g (rlD E C x d)
  | 0, _ => h
  | d + 1, hd => (LI.rD hE hg h hx d (by omega)).rx hE hg hx (by omega)
theorem LI.rR {E sm : Nat → Nat} {g : Nat} {C : Nat → Nat} (hE : EOk E sm) (hg : g < 25) (h : LI E g C) : ∀ x, x ≤ 25 → LI E g (rlR E C x)
  | 0, _ => h
  | x + 1, hx => (LI.rR hE hg h x (by omega)).rD hE hg (by omega) 4 (Nat.le_refl _)
theorem LI.ro {E sm : Nat → Nat} {g : Nat} {C : Nat → Nat} (hE : EOk E sm) (hg : g < 25) (h : LI E g C) : ∀ k, LI E g (roN E C k)
  | 0 => h
  | k + 1 => (LI.ro hE hg h k).rR hE hg 25 (Nat.le_refl _)
def C0 (g : Nat) : Nat → Nat := fun x => if x = g then 0 else 1000000000
theorem LI.init (E : Nat → Nat) (g : Nat) : LI E g (C0 g) := by
  refine ⟨by simp [C0], fun x _ => ?_, fun x _ hg hI => absurd (by simp [C0, hg]) hI⟩
  by_cases e : x = g
  · refine Or.inr ?_
    rw [show C0 g x = 0 by simp [C0, e]]
    refine ⟨Nat.zero_le _, Nat.zero_le _, ?_⟩
    show (if x = g then 0 else 1000000000) ≤ 0
    rw [if_pos e]; exact Nat.le_refl _
  · exact Or.inl (by simp [C0, e])
theorem ro_D (E : Nat → Nat) (g : Nat) : ∀ k x, x < 25 → roN E (C0 g) k x ≤ wDN E g k x
  | 0, x, _ => Nat.le_refl _
  | k + 1, x, hx => by
    show rlR E (roN E (C0 g) k) 25 x ≤ mnD E (wDN E g k) x 4
    refine mnD_ge (Nat.le_trans (rlR_le E _ x 25) (ro_D E g k x hx)) 4 (fun d hd hn => ?_)
    have h1 := rlR_n (E := E) (C := roN E (C0 g) k) hd hn 25 hx
    have h2 := ro_D E g k (nbN x d) hn
    omega
theorem no_rc {E sm : Nat → Nat} {g : Nat} {S : Nat → Nat} (hE : EOk E sm) (hg : g < 25) (h : LI E g S) (hD : ∀ x, x < 25 → S x ≤ wDN E g 24 x) {x d : Nat} (hx : x < 25) (hd : d < 4) : ¬ rcP E S x (nbN x d) := by
  rintro ⟨hn, hlt⟩
  have hS := h.relax hE hg hx hd hn hlt
  have h1 := (h.le hx).1
  have h24 := rkN_24 (updN S x (S (nbN x d) + E (nbN x d))) hx
  have hDx := hD x hx
  rcases hS.2.1 x hx with e | ⟨a1, a2, a3⟩
  · rw [updN_s] at e; omega
  · rw [updN_s] at a1 a2 a3
    have := wDN_anti E g x (j := (S (nbN x d) + E (nbN x d)) % 64) 24 (by omega)
    omega
theorem rdB_f {E C : Nat → Nat} {x : Nat} : ∀ m, rdB E C x m = false → rlD E C x m = C ∧ ∀ d, d < m → ¬ rcP E C x (nbN x d)
  | 0, _ => ⟨rfl, fun d hd => absurd hd (by omega)⟩
  | m + 1, h => by
    simp only [rdB, Bool.or_eq_false_iff] at h
    obtain ⟨h1, h2⟩ := rdB_f m h.1
    have h3 := of_decide_eq_false h.2
    rw [h1] at h3
    refine ⟨?_, fun d hd => ?_⟩
    · show rxN E (rlD E C x m) x (nbN x m) = C
      rw [h1]; unfold rxN; rw [if_neg h3]
    · by_cases e : d = m
      · rw [e]; exact h3
      · exact h2 d (by omega)
theorem rrB_f {E C : Nat → Nat} : ∀ m, rrB E C m = false → rlR E C m = C ∧ ∀ x, x < m → ∀ d, d < 4 → ¬ rcP E C x (nbN x d)
  | 0, _ => ⟨rfl, fun x hx => absurd hx (by omega)⟩
  | m + 1, h => by
    simp only [rrB, Bool.or_eq_false_iff] at h
    obtain ⟨h1, h2⟩ := rrB_f m h.2
    have h3 := h.1
    rw [h1] at h3
    obtain ⟨h4, h5⟩ := rdB_f 4 h3
    refine ⟨?_, fun x hx => ?_⟩
    · show rlD E (rlR E C m) m 4 = C
      rw [h1]; exact h4
    · by_cases e : x = m
      · rw [e]; exact h5
      · exact h2 x (by omega)
theorem rd_none {E C : Nat → Nat} {x : Nat} (h : ∀ d, d < 4 → ¬ rcP E C x (nbN x d)) : ∀ m, m ≤ 4 → rdB E C x m = false ∧ rlD E C x m = C
  | 0, _ => ⟨rfl, rfl⟩
  | m + 1, hm => by
    obtain ⟨h1, h2⟩ := rd_none h m (by omega)
    have h3 := h m (by omega)
    constructor
    · simp only [rdB, h1, h2]; simp [h3]
    · show rxN E (rlD E C x m) x (nbN x m) = C
      rw [h2]; unfold rxN; rw [if_neg h3]
theorem rr_none {E C : Nat → Nat} (h : ∀ x, x < 25 → ∀ d, d < 4 → ¬ rcP E C x (nbN x d)) : ∀ m, m ≤ 25 → rrB E C m = false ∧ rlR E C m = C
  | 0, _ => ⟨rfl, rfl⟩
  | m + 1, hm => by
    obtain ⟨h1, h2⟩ := rr_none h m (by omega)
    obtain ⟨h3, h4⟩ := rd_none (h m (by omega)) 4 (Nat.le_refl _)
    constructor
    · simp only [rrB, h1, h2, h3]; rfl
    · show rlD E (rlR E C m) m 4 = C
      rw [h2]; exact h4
/-- the last round -/
def kfN (E : Nat → Nat) (g : Nat) : Nat := fsN (fun k => !(rrB E (roN E (C0 g) k) 25)) 25
def fiC (E : Nat → Nat) (g : Nat) : Nat → Nat := roN E (C0 g) (kfN E g + 1)
theorem kf_lt {E sm : Nat → Nat} {g : Nat} (hE : EOk E sm) (hg : g < 25) : kfN E g < 25 := by
  have h24 : rrB E (roN E (C0 g) 24) 25 = false := (rr_none (fun x hx d hd => no_rc hE hg (LI.ro hE hg (LI.init E g) 24) (fun y hy => ro_D E g 24 y hy) hx hd) 25 (Nat.le_refl _)).1
  apply Classical.byContradiction
  intro q
  have h1 := (fsN_spec (fun k => !(rrB E (roN E (C0 g) k) 25)) 25).1 24 (by unfold kfN at q; omega)
  simp only [h24] at h1
  exact absurd h1 (by decide)
theorem kf_no {E sm : Nat → Nat} {g : Nat} (hE : EOk E sm) (hg : g < 25) : rrB E (roN E (C0 g) (kfN E g)) 25 = false := by
  have h1 := (fsN_spec (fun k => !(rrB E (roN E (C0 g) k) 25)) 25).2 (kf_lt hE hg)
  unfold kfN
  simpa using h1
theorem fi_all {E sm : Nat → Nat} {g : Nat} (hE : EOk E sm) (hg : g < 25) : LI E g (fiC E g) ∧ ∀ x, x < 25 → ∀ d, d < 4 → nbN x d < 25 → fiC E g x ≤ fiC E g (nbN x d) + E (nbN x d) := by
  obtain ⟨h1, h2⟩ := rrB_f 25 (kf_no hE hg)
  have e : fiC E g = roN E (C0 g) (kfN E g) := h1
  rw [e]
  refine ⟨LI.ro hE hg (LI.init E g) _, fun x hx d hd hn => ?_⟩
  have := h2 x hx d hd
  unfold rcP at this
  omega
theorem nb_up : ∀ x, x < 20 → nbN x 3 = x + 5 ∧ nbN (x + 5) 0 = x := by decide
theorem nb_lr : ∀ x, x < 25 → x % 5 < 4 → nbN x 2 = x + 1 ∧ nbN (x + 1) 1 = x := by decide
theorem fi_reach {E sm : Nat → Nat} {g : Nat} (hE : EOk E sm) (hg : g < 25) : ∀ x, x < 25 → fiC E g x ≠ 1000000000 := by
  obtain ⟨hL, hst⟩ := fi_all hE hg
  have step : ∀ x d, x < 25 → d < 4 → nbN x d < 25 → fiC E g (nbN x d) ≠ 1000000000 → fiC E g x ≠ 1000000000 := by
    intro x d hx hd hn hr
    have h1 := hst x hx d hd hn
    obtain ⟨e1, e2⟩ := hE _ hn
    have := (hL.le hn).2
    omega
  have up : ∀ x, x < 20 → fiC E g (x + 5) ≠ 1000000000 → fiC E g x ≠ 1000000000 := fun x hx h => step x 3 (by omega) (by omega) (by rw [(nb_up x hx).1]; omega) (by rw [(nb_up x hx).1]; exact h)
  have dn : ∀ x, x < 20 → fiC E g x ≠ 1000000000 → fiC E g (x + 5) ≠ 1000000000 := fun x hx h => step (x + 5) 0 (by omega) (by omega) (by rw [(nb_up x hx).2]; omega) (by rw [(nb_up x hx).2]; exact h)
  have lf : ∀ x, x < 25 → x % 5 < 4 → fiC E g (x + 1) ≠ 1000000000 → fiC E g x ≠ 1000000000 := fun x hx hm h => step x 2 hx (by omega) (by rw [(nb_lr x hx hm).1]; omega) (by rw [(nb_lr x hx hm).1]; exact h)
  have rt : ∀ x, x < 25 → x % 5 < 4 → fiC E g x ≠ 1000000000 → fiC E g (x + 1) ≠ 1000000000 := fun x hx hm h => step (x + 1) 1 (by omega) (by omega) (by rw [(nb_lr x hx hm).2]; omega) (by rw [(nb_lr x hx hm).2]; exact h)
  have h0 : fiC E g g ≠ 1000000000 := by rw [hL.1]; decide
  have a1 : ∀ k x, x < 25 → x / 5 = k → fiC E g x ≠ 1000000000 → fiC E g (x % 5) ≠ 1000000000 := by
    intro k
    induction k with
    | zero => intro x hx e h; rw [show x % 5 = x by omega]; exact h
    | succ k ih =>
      intro x hx e h
      have h2 := ih (x - 5) (by omega) (by omega) (up (x - 5) (by omega) (by rw [show x - 5 + 5 = x by omega]; exact h))
      rw [show (x - 5) % 5 = x % 5 by omega] at h2
      exact h2
  have a2 : ∀ k, k < 5 → fiC E g k ≠ 1000000000 → fiC E g 0 ≠ 1000000000 := by
    intro k
    induction k with
    | zero => intro _ h; exact h
    | succ k ih => intro hk h; exact ih (by omega) (lf k (by omega) (by omega) h)
  have a3 := a2 (g % 5) (by omega) (a1 (g / 5) g hg rfl h0)
  have a4 : ∀ k, k < 5 → fiC E g k ≠ 1000000000 := by
    intro k
    induction k with
    | zero => intro _; exact a3
    | succ k ih => intro hk; exact rt k (by omega) (by omega) (ih (by omega))
  have a5 : ∀ k c, c < 5 → k < 5 → fiC E g (c + 5 * k) ≠ 1000000000 := by
    intro k
    induction k with
    | zero => intro c hc _; exact a4 c hc
    | succ k ih => intro c hc hk; exact dn (c + 5 * k) (by omega) (ih c hc (by omega))
  intro x hx
  have := a5 (x / 5) (x % 5) (by omega) (by omega)
  rwa [show x % 5 + 5 * (x / 5) = x by omega] at this
/-- the class's labels -/
theorem s_improve {E sm : Nat → Nat} {g : Nat} {C : Nat → Nat} {cost ent : Nat → Int32} (hE : EOk E sm) (hg : g < 25) (h : LI E g C) (hc : Ar 25 cost C) (he : Ar 25 ent E) {x : Nat} (hx : x < 25) {Q : Int32 → (Nat → Int32) → Prop}
    (hQ : ∀ cost', Ar 25 cost' (rlD E C x 4) → Q (if rdB E C x 4 = true then 1 else 0) cost') : wp_Ph_improve (nI x) cost ent Q := by
  unfold wp_Ph_improve
  refine lpw3_rule (fun x2 x3 cs => ∃ d, d ≤ 4 ∧ x2 = (if rdB E C x d = true then 1 else 0) ∧ x3 = nI d ∧ Ar 25 cs (rlD E C x d)) (fun _ x3 _ => 5 - x3.toNatClampNeg) ?_ 0 0 cost ⟨0, by omega, rfl, rfl, hc⟩
  intro B x2 x3 cs hx' hB
  obtain ⟨d, hd, rfl, rfl, hcs⟩ := hx'
  by_cases e : d = 4
  · subst e
    refine ⟨fun _ => ⟨?_, hQ cs hcs⟩, fun z => absurd (nI_le (a := 4) (b := 4) (Nat.le_refl _) (by decide)) z⟩
    by_cases q : rdB E C x 4 = true
    · rw [if_pos q]; exact bz1
    · rw [if_neg q]; exact bz0
  have hd : d < 4 := by omega
  refine ⟨fun z => absurd z (nI_ge (b := 4) hd (by decide)), fun _ => ?_⟩
  rw [w_besC hx hd]
  have hLd := h.rD hE hg hx d (by omega)
  have next : ∀ b cs', b = rdB E C x (d + 1) → Ar 25 cs' (rlD E C x (d + 1)) → B (if b = true then 1 else 0) (nI (d + 1)) cs' := fun b cs' hb hcs' => hB _ _ _ ⟨d + 1, by omega, by rw [hb], rfl, hcs'⟩ (by rw [nI_clamp (by omega), nI_clamp (by omega)]; omega)
  have eD : rlD E C x (d + 1) = rxN E (rlD E C x d) x (nbN x d) := rfl
  have eB : rdB E C x (d + 1) = (rdB E C x d || decide (rcP E (rlD E C x d) x (nbN x d))) := rfl
  simp only [jn2_e, fe_e, nI_1]
  unfold nbI
  rcases (nb_all x hx d hd).2.2 with hn | hn
  · have hr : ¬ rcP E (rlD E C x d) x (nbN x d) := fun z => by have := z.1; omega
    rw [if_pos hn]
    refine ⟨fun _ => next _ cs (by rw [eB]; simp [hr]) (by rw [eD]; unfold rxN; rw [if_neg hr]; exact hcs), fun z => absurd rfl z⟩
  · rw [if_neg (by omega)]
    obtain ⟨n, en⟩ : ∃ n, n = nbN x d := ⟨_, rfl⟩
    rw [← en] at hn eD eB ⊢
    have hv : vp_in (nI n) 25 := vp_in_nI hn (by omega)
    have hv2 : vp_in (nI x) 25 := vp_in_nI hx (by omega)
    have l1 := hLd.le hx
    have l2 := hLd.le hn
    obtain ⟨e1, e2⟩ := hE n hn
    simp only [hv, hv2, true_and, nI_clamp (show n < 2 ^ 31 by omega), nI_clamp (show x < 2 ^ 31 by omega), hcs x hx, hcs n hn, he n hn, nI_add]
    refine ⟨fun z => absurd z (nI_em1 n (by omega)), fun _ => ⟨fun z => ?_, fun z => ?_⟩⟩
    · have z' := (nI_leI (by omega) (by omega)).mp z
      have hr : ¬ rcP E (rlD E C x d) x n := fun y => by have := y.2; omega
      exact next _ cs (by rw [eB]; simp [hr]) (by rw [eD]; unfold rxN; rw [if_neg hr]; exact hcs)
    · have z' : ¬ rlD E C x d x ≤ rlD E C x d n + E n := fun y => z ((nI_leI (by omega) (by omega)).mpr y)
      have hr : rcP E (rlD E C x d) x n := ⟨hn, by omega⟩
      have := next true (upd cs x (nI (rlD E C x d n + E n))) (by rw [eB]; simp [hr]) (by rw [eD]; unfold rxN; rw [if_pos hr]; exact Ar.up hcs x _)
      simpa using this
theorem or_flag {b c : Bool} {K : Int32 → Prop} (hK : K (if (b || c) = true then 1 else 0)) : ((¬ (if b = true then (1 : Int32) else 0) = 0 → K 1) ∧ ((if b = true then (1 : Int32) else 0) = 0 → (((if c = true then (1 : Int32) else 0) = 0 → K 0) ∧ (¬ (if c = true then (1 : Int32) else 0) = 0 → K 1)))) := by
  cases b <;> cases c <;> simp at hK ⊢ <;> exact hK
theorem s_leadTo {p : Nat → Nat} {flCell flKind flStr cost ent : Nat → Int32} {goal : Int32} (hI : Inv p) (a9 : Ar (p 17) flCell (fun k => p (21 + k))) (a10 : Ar (p 17) flKind (fun k => p (18 + k))) (a11 : Ar (p 17) flStr (fun k => p (24 + k))) {E sm : Nat → Nat} (hsm : sm = fun c => smN (fun k => p (18 + k)) (fun k => p (21 + k)) (fun k => p (24 + k)) (p 15) c (p 16) (p 17)) (hEe : E = fun c => sm c * 64 + 1) {g : Nat} (hg : g < 25) {Q : Int32 → (Nat → Int32) → (Nat → Int32) → Prop}
    (hQ : ∀ cs en, Ar 25 cs (fiC E g) → Ar 25 en E → Q (nI g) cs en) : wp_Ph_leadTo (nI g) goal cost ent (nI (p 17)) (nI (p 15)) (nI (p 16)) flCell flKind flStr Q := by
  have hd9 := hI.d9
  have h15 := p15_lt hI
  have hE : EOk E sm := fun c hc => ⟨by rw [hEe], by rw [hsm]; exact Nat.le_of_lt_succ (smN_133 hI.2.1 (p 15) c (p 16) hc)⟩
  unfold wp_Ph_leadTo
  refine lpw3_rule (fun x cs en => ∃ c, c ≤ 25 ∧ x = nI c ∧ (∀ y, y < c → cs y = nI 1000000000) ∧ (∀ y, y < c → en y = nI (E y))) (fun x _ _ => 26 - x.toNatClampNeg) ?_ 0 cost ent ⟨0, by omega, rfl, fun y hy => absurd hy (by omega), fun y hy => absurd hy (by omega)⟩
  intro B x cs en hx hB
  obtain ⟨c, hc, rfl, hcs, hen⟩ := hx
  by_cases e : c = 25
  · subst e
    refine ⟨fun _ => ⟨vp_in_nI hg (by omega), ?_⟩, fun z => absurd (nI_le (a := 25) (b := 25) (Nat.le_refl _) (by decide)) z⟩
    intro cs1 ecs1
    rw [nI_clamp (by omega)] at ecs1
    have hA0 : Ar 25 cs1 (C0 g) := fun y hy => by
      rw [ecs1]
      unfold C0
      by_cases q : y = g
      · rw [q, pk_us, if_pos rfl]; rfl
      · rw [pk_un q, if_neg q]; exact hcs y hy
    have hkf := kf_lt hE hg
    refine lpw3_rule (fun x2 x3 cs' => ∃ k, k ≤ kfN E g + 1 ∧ x3 = nI k ∧ Ar 25 cs' (roN E (C0 g) k) ∧ ((k ≤ kfN E g ∧ x2 = 1) ∨ (k = kfN E g + 1 ∧ x2 = 0))) (fun _ x3 _ => 27 - x3.toNatClampNeg) ?_ 1 0 cs1 ⟨0, by omega, rfl, hA0, Or.inl ⟨by omega, rfl⟩⟩
    intro B2 x2 x3 cs2 hx2 hB2
    obtain ⟨k, hk, rfl, hcs2, hx2⟩ := hx2
    rcases hx2 with ⟨hk2, rfl⟩ | ⟨hk2, rfl⟩
    · refine ⟨fun z => ?_, fun _ => ⟨fun z => absurd z (by decide), fun _ => ?_⟩⟩
      · have := (nI_leI (a := 25) (by omega) (by omega)).mp z
        omega
      · have hLk := LI.ro hE hg (LI.init E g) k
        refine lpw3_rule (fun x2 x4 cs' => ∃ x, x ≤ 25 ∧ x4 = nI x ∧ x2 = (if rrB E (roN E (C0 g) k) x = true then 1 else 0) ∧ Ar 25 cs' (rlR E (roN E (C0 g) k) x)) (fun _ x4 _ => 26 - x4.toNatClampNeg) ?_ 0 0 cs2 ⟨0, by omega, rfl, rfl, hcs2⟩
        intro B3 x2 x4 cs3 hx3 hB3
        obtain ⟨x, hx, rfl, rfl, hcs3⟩ := hx3
        by_cases ex : x = 25
        · subst ex
          refine ⟨fun _ => ?_, fun z => absurd (nI_le (a := 25) (b := 25) (Nat.le_refl _) (by decide)) z⟩
          intro x3' ex3'
          subst ex3'
          rw [nI_1]
          have hsp := fsN_spec (fun k => !(rrB E (roN E (C0 g) k) 25)) 25
          refine hB2 _ _ _ ⟨k + 1, by omega, rfl, hcs3, ?_⟩ (by rw [nI_clamp (by omega), nI_clamp (by omega)]; omega)
          by_cases ek : k = kfN E g
          · refine Or.inr ⟨by omega, ?_⟩
            rw [ek, kf_no hE hg]; rfl
          · refine Or.inl ⟨by omega, ?_⟩
            have h1 := hsp.1 k (by unfold kfN at hk2 ek; omega)
            have h2 : rrB E (roN E (C0 g) k) 25 = true := by simpa using h1
            rw [if_pos h2]
        have hx : x < 25 := by omega
        refine ⟨fun z => absurd z (nI_ge (b := 25) hx (by decide)), fun _ => ?_⟩
        refine s_improve hE hg (hLk.rR hE hg x (by omega)) hcs3 hen hx (fun cs4 hcs4 => ?_)
        simp only [jn1_e, jn0_e, fe_e, nI_1]
        refine or_flag (b := rdB E (rlR E (roN E (C0 g) k) x) x 4) (c := rrB E (roN E (C0 g) k) x) (K := fun v => B3 v (nI (x + 1)) cs4) ?_
        exact hB3 _ _ _ ⟨x + 1, by omega, rfl, rfl, hcs4⟩ (by rw [nI_clamp (by omega), nI_clamp (by omega)]; omega)
    · rw [hk2] at hcs2 ⊢
      have hq := hQ cs2 en hcs2 hen
      exact ⟨fun _ => hq, fun _ => ⟨fun _ => hq, fun z => absurd rfl z⟩⟩
  have hc : c < 25 := by omega
  refine ⟨fun z => absurd z (nI_ge (b := 25) hc (by decide)), fun _ => ?_⟩
  refine s_scentAt hI.2.1 a10 a9 a11 (by omega) hc (by omega) ⟨vp_in_nI hc (by omega), ?_⟩
  intro en1 een1
  refine ⟨vp_in_nI hc (by omega), ?_⟩
  intro cs1 ecs1 x1 ex1
  subst ex1
  rw [nI_clamp (by omega)] at een1 ecs1
  rw [nI_1]
  refine hB _ _ _ ⟨c + 1, by omega, rfl, fun y hy => ?_, fun y hy => ?_⟩ (by rw [nI_clamp (by omega), nI_clamp (by omega)]; omega)
  · rw [ecs1]
    by_cases q : y = c
    · rw [q, pk_us]; rfl
    · rw [pk_un q]; exact hcs y (by omega)
  · rw [een1]
    by_cases q : y = c
    · rw [q, pk_us, hEe, hsm]
      rw [show (64 : Int32) = nI 64 from rfl, pk_mul, nI_1]
    · rw [pk_un q]; exact hen y (by omega)
/-- the reference's labels -/
def cLN (c : Nat) : Nat := if c = 1000000000 then 99999 else c / 64
def sLN (c : Nat) : Nat := if c = 1000000000 then 0 else c % 64
theorem Ar.upf {n : Nat} {A : Nat → Int32} {f D : Nat → Nat} (h : Ar n A (fun y => f (D y))) (x w v : Nat) (hv : f w = v) : Ar n (upd A x (nI v)) (fun y => f (updN D x w y)) := fun j hj => by
  by_cases e : j = x
  · rw [e, pk_us]; show _ = nI (f (updN D x w x)); rw [updN_s, hv]
  · rw [pk_un e]; show _ = nI (f (updN D x w j)); rw [updN_n e]; exact h j hj
theorem s_comesCheaper {p : Nat → Nat} {row : Nat → Int32} (hI : Inv p) (hM : MR p row 0) {E sm : Nat → Nat} (hsm : sm = fun c => smN (fun k => p (18 + k)) (fun k => p (21 + k)) (fun k => p (24 + k)) (p 15) c (p 16) (p 17)) (hE : EOk E sm) {g : Nat} {C : Nat → Nat} {cost st : Nat → Int32} (hg : g < 25) (h : LI E g C) (hc : Ar 25 cost (fun y => cLN (C y))) (hs : Ar 25 st (fun y => sLN (C y))) {x : Nat} (hx : x < 25) {Q : Int32 → (Nat → Int32) → (Nat → Int32) → Prop}
    (hQ : ∀ c' s', Ar 25 c' (fun y => cLN (rlD E C x 4 y)) → Ar 25 s' (fun y => sLN (rlD E C x 4 y)) → Q (if rdB E C x 4 = true then 1 else 0) c' s') : wp_Mo_comesCheaper (nI x) cost row st Q := by
  have hd9 := hI.d9
  have h15 := p15_lt hI
  have hSt := hM.StM hI
  have e15 : row (Int32.toNatClampNeg 15) = nI (p 15) := hM.at0 (j := 15) (by omega)
  have e16 : row (Int32.toNatClampNeg 16) = nI (p 16) := hM.at0 (j := 16) (by omega)
  unfold wp_Mo_comesCheaper
  refine lpw4_rule (fun x2 x3 cs ss => ∃ d, d ≤ 4 ∧ x2 = (if rdB E C x d = true then 1 else 0) ∧ x3 = nI d ∧ Ar 25 cs (fun y => cLN (rlD E C x d y)) ∧ Ar 25 ss (fun y => sLN (rlD E C x d y))) (fun _ x3 _ _ => 5 - x3.toNatClampNeg) ?_ 0 0 cost st ⟨0, by omega, rfl, rfl, hc, hs⟩
  intro B x2 x3 cs ss hx' hB
  obtain ⟨d, hd, rfl, rfl, hcs, hss⟩ := hx'
  by_cases e : d = 4
  · subst e
    refine ⟨fun _ => ⟨?_, hQ cs ss hcs hss⟩, fun z => absurd (nI_le (a := 4) (b := 4) (Nat.le_refl _) (by decide)) z⟩
    by_cases q : rdB E C x 4 = true
    · rw [if_pos q]; exact bz1
    · rw [if_neg q]; exact bz0
  have hd : d < 4 := by omega
  refine ⟨fun z => absurd z (nI_ge (b := 4) hd (by decide)), fun _ => ?_⟩
  rw [w_besM hx hd]
  have hLd := h.rD hE hg hx d (by omega)
  have next : ∀ b cs' ss', b = rdB E C x (d + 1) → Ar 25 cs' (fun y => cLN (rlD E C x (d + 1) y)) → Ar 25 ss' (fun y => sLN (rlD E C x (d + 1) y)) → B (if b = true then 1 else 0) (nI (d + 1)) cs' ss' := fun b cs' ss' hb hcs' hss' => hB _ _ _ _ ⟨d + 1, by omega, by rw [hb], rfl, hcs', hss'⟩ (by rw [nI_clamp (by omega), nI_clamp (by omega)]; omega)
  have eD : rlD E C x (d + 1) = rxN E (rlD E C x d) x (nbN x d) := rfl
  have eB : rdB E C x (d + 1) = (rdB E C x d || decide (rcP E (rlD E C x d) x (nbN x d))) := rfl
  have same : ¬ rcP E (rlD E C x d) x (nbN x d) → B (if rdB E C x d = true then 1 else 0) (nI (d + 1)) cs ss := fun hr => next _ cs ss (by rw [eB]; simp [hr]) (by rw [eD]; unfold rxN; rw [if_neg hr]; exact hcs) (by rw [eD]; unfold rxN; rw [if_neg hr]; exact hss)
  simp only [jn3_e, jn0_e, fe_e, nI_1]
  unfold nbI
  rcases (nb_all x hx d hd).2.2 with hn | hn
  · have hr : ¬ rcP E (rlD E C x d) x (nbN x d) := fun z => by have := z.1; omega
    rw [if_pos hn]
    exact ⟨fun _ => same hr, fun z => absurd rfl z⟩
  · rw [if_neg (by omega)]
    obtain ⟨n, en⟩ : ∃ n, n = nbN x d := ⟨_, rfl⟩
    rw [← en] at hn eD eB same ⊢
    have hv : vp_in (nI n) 25 := vp_in_nI hn (by omega)
    have hv2 : vp_in (nI x) 25 := vp_in_nI hx (by omega)
    obtain ⟨D, hD⟩ : ∃ D, D = rlD E C x d := ⟨_, rfl⟩
    rw [← hD] at hLd eD eB same hcs hss
    have l1 := hLd.le hx
    have l2 := hLd.le hn
    obtain ⟨e1, e2⟩ := hE n hn
    have c1 : cs x = nI (cLN (D x)) := hcs x hx
    have c2 : cs n = nI (cLN (D n)) := hcs n hn
    have s1 : ss x = nI (sLN (D x)) := hss x hx
    have s2 : ss n = nI (sLN (D n)) := hss n hn
    have b1 : cLN (D x) ≤ 99999 := by unfold cLN; split <;> omega
    have b2 : cLN (D n) ≤ 99999 := by unfold cLN; split <;> omega
    have b3 : sLN (D x) ≤ 24 := by unfold sLN; split <;> omega
    have b4 : sLN (D n) ≤ 24 := by unfold sLN; split <;> omega
    simp only [hv, hv2, true_and, nI_clamp (show n < 2 ^ 31 by omega), nI_clamp (show x < 2 ^ 31 by omega), c1, c2, s1, s2, e15, e16]
    refine ⟨fun z => absurd z (nI_em1 n (by omega)), fun _ => ⟨fun z => ?_, fun z => ?_⟩⟩
    · have z' := (nI_leI (a := 99999) (by omega) (by omega)).mp z
      refine same (fun y => ?_)
      unfold cLN at z'
      have := y.2
      split at z' <;> omega
    · have z' : ¬ 99999 ≤ cLN (D n) := fun y => z ((nI_leI (a := 99999) (by omega) (by omega)).mpr y)
      have hDn : D n ≠ 1000000000 := fun y => z' (by unfold cLN; rw [if_pos y]; omega)
      have ec : cLN (D n) = D n / 64 := by unfold cLN; rw [if_neg hDn]
      have es : sLN (D n) = D n % 64 := by unfold sLN; rw [if_neg hDn]
      refine s_smellOf hI.2.1 hSt.1 hSt.2.1 hSt.2.2.1 hSt.2.2.2.1 (by omega) hn (by omega) ?_
      have er : smN (fun k => p (18 + k)) (fun k => p (21 + k)) (fun k => p (24 + k)) (p 15) n (p 16) (p 17) = sm n := by rw [hsm]
      rw [er]
      simp only [nI_add, nI_1]
      have m1 : (D n + E n) % 64 = D n % 64 + 1 := by omega
      have m2 : (D n + E n) / 64 = D n / 64 + sm n := by omega
      have hlt : D n + E n < 1000000000 := by omega
      have upd1 : rcP E D x n → B 1 (nI (d + 1)) (upd cs x (nI (cLN (D n) + sm n))) (upd ss x (nI (sLN (D n) + 1))) := by
        intro hr
        have f1 : cLN (D n + E n) = cLN (D n) + sm n := by rw [ec]; unfold cLN; rw [if_neg (by omega)]; exact m2
        have f2 : sLN (D n + E n) = sLN (D n) + 1 := by rw [es]; unfold sLN; rw [if_neg (by omega)]; exact m1
        have := next true _ _ (by rw [eB]; simp [hr]) (by rw [eD]; unfold rxN; rw [if_pos hr]; exact Ar.upf hcs x (D n + E n) _ f1) (by rw [eD]; unfold rxN; rw [if_pos hr]; exact Ar.upf hss x (D n + E n) _ f2)
        simpa using this
      refine ⟨fun q => upd1 ⟨hn, ?_⟩, fun q => ⟨fun q2 => same (fun y => ?_), fun q2 => ⟨fun q3 => same (fun y => ?_), fun q3 => upd1 ⟨hn, ?_⟩⟩⟩⟩
      · have q' := (nI_ltI (by omega) (by omega)).mp q
        unfold cLN at q'
        rw [if_neg hDn] at q'
        split at q' <;> omega
      · have q' : ¬ cLN (D n) + sm n < cLN (D x) := fun y => q ((nI_ltI (by omega) (by omega)).mpr y)
        have q2' : ¬ cLN (D n) + sm n = cLN (D x) := fun y => q2 (by rw [y])
        have := y.2
        unfold cLN at q' q2'
        rw [if_neg hDn] at q' q2'
        split at q' <;> split at q2' <;> omega
      · have q2' := (nI_eq (by omega) (by omega)).mp q2
        have q3' := (nI_leI (by omega) (by omega)).mp q3
        have := y.2
        unfold cLN at q2'
        unfold sLN at q3'
        rw [if_neg hDn] at q2' q3'
        by_cases ex : D x = 1000000000
        · rw [if_pos ex] at q2'; omega
        · rw [if_neg ex] at q2' q3'; omega
      · have q2' := (nI_eq (by omega) (by omega)).mp q2
        have q3' : ¬ sLN (D x) ≤ sLN (D n) + 1 := fun y => q3 ((nI_leI (by omega) (by omega)).mpr y)
        unfold cLN at q2'
        unfold sLN at q3'
        rw [if_neg hDn] at q2' q3'
        by_cases ex : D x = 1000000000
        · rw [if_pos ex] at q2'; omega
        · rw [if_neg ex] at q2' q3'; omega
theorem lpw3_ix {A1 A2 A3 : Type} {body : (A1 → A2 → A3 → Prop) → A1 → A2 → A3 → Prop} (I : Nat → A1 → A2 → A3 → Prop) (hs : ∀ (B : A1 → A2 → A3 → Prop) r a b c, I (r + 1) a b c → (∀ a' b' c', I r a' b' c' → B a' b' c') → body B a b c) (h0 : ∀ (B : A1 → A2 → A3 → Prop) a b c, I 0 a b c → body B a b c) (r : Nat) (a : A1) (b : A2) (c : A3) (h : I r a b c) : ∃ n, lpw3 body n a b c := by
  have key : ∀ r a b c, I r a b c → lpw3 body (r + 1) a b c := by
    intro r
    induction r with
    | zero => intro a b c h; exact h0 _ a b c h
    | succ r ih => intro a b c h; exact hs _ r a b c h ih
  exact ⟨r + 1, key r a b c h⟩
theorem s_layCosts {p : Nat → Nat} {row cost st : Nat → Int32} (hI : Inv p) (hM : MR p row 0) {E sm : Nat → Nat} (hsm : sm = fun c => smN (fun k => p (18 + k)) (fun k => p (21 + k)) (fun k => p (24 + k)) (p 15) c (p 16) (p 17)) (hE : EOk E sm) {g : Nat} (hg : g < 25) {Q : (Nat → Int32) → (Nat → Int32) → Prop}
    (hQ : ∀ cs ss, Ar 25 cs (fun y => cLN (fiC E g y)) → Ar 25 ss (fun y => sLN (fiC E g y)) → Q cs ss) : wp_Mo_layCosts (nI g) cost row st Q := by
  unfold wp_Mo_layCosts
  refine lpw3_rule (fun x cs ss => ∃ c, c ≤ 25 ∧ x = nI c ∧ (∀ y, y < c → cs y = nI (cLN (C0 g y))) ∧ (∀ y, y < c → ss y = nI (sLN (C0 g y)))) (fun x _ _ => 26 - x.toNatClampNeg) ?_ 0 cost st ⟨0, by omega, rfl, fun y hy => absurd hy (by omega), fun y hy => absurd hy (by omega)⟩
  intro B x cs ss hx hB
  obtain ⟨c, hc, rfl, hcs, hss⟩ := hx
  by_cases e : c = 25
  · subst e
    refine ⟨fun _ => ?_, fun z => absurd (nI_le (a := 25) (b := 25) (Nat.le_refl _) (by decide)) z⟩
    have hkf := kf_lt hE hg
    refine lpw3_ix (fun r x2 cs' ss' => (r = 0 ∧ x2 = 0 ∧ Ar 25 cs' (fun y => cLN (fiC E g y)) ∧ Ar 25 ss' (fun y => sLN (fiC E g y))) ∨ (∃ k, k + r = kfN E g + 1 ∧ k ≤ kfN E g ∧ x2 = 1 ∧ Ar 25 cs' (fun y => cLN (roN E (C0 g) k y)) ∧ Ar 25 ss' (fun y => sLN (roN E (C0 g) k y)))) ?_ ?_ (kfN E g + 1) 1 cs ss (Or.inr ⟨0, by omega, by omega, rfl, hcs, hss⟩)
    · intro B2 r x2 cs2 ss2 hx2 hB2
      rcases hx2 with ⟨hr, -⟩ | ⟨k, hk, hk2, rfl, hcs2, hss2⟩
      · exact absurd hr (by omega)
      refine ⟨fun z => absurd z (by decide), fun _ => ?_⟩
      have hLk := LI.ro hE hg (LI.init E g) k
      refine lpw4_rule (fun x2 x3 cs' ss' => ∃ x, x ≤ 25 ∧ x3 = nI x ∧ x2 = (if rrB E (roN E (C0 g) k) x = true then 1 else 0) ∧ Ar 25 cs' (fun y => cLN (rlR E (roN E (C0 g) k) x y)) ∧ Ar 25 ss' (fun y => sLN (rlR E (roN E (C0 g) k) x y))) (fun _ x3 _ _ => 26 - x3.toNatClampNeg) ?_ 0 0 cs2 ss2 ⟨0, by omega, rfl, rfl, hcs2, hss2⟩
      intro B3 x2 x3 cs3 ss3 hx3 hB3
      obtain ⟨x, hx, rfl, rfl, hcs3, hss3⟩ := hx3
      by_cases ex : x = 25
      · subst ex
        refine ⟨fun _ => ?_, fun z => absurd (nI_le (a := 25) (b := 25) (Nat.le_refl _) (by decide)) z⟩
        refine hB2 _ _ _ ?_
        by_cases ek : k = kfN E g
        · refine Or.inl ⟨by omega, ?_, ?_, ?_⟩
          · rw [ek, kf_no hE hg]; rfl
          · rw [ek] at hcs3; exact hcs3
          · rw [ek] at hss3; exact hss3
        · refine Or.inr ⟨k + 1, by omega, by omega, ?_, hcs3, hss3⟩
          have hsp := fsN_spec (fun k => !(rrB E (roN E (C0 g) k) 25)) 25
          have h1 := hsp.1 k (by unfold kfN at hk2 ek; omega)
          have h2 : rrB E (roN E (C0 g) k) 25 = true := by simpa using h1
          rw [if_pos h2]
      have hx : x < 25 := by omega
      refine ⟨fun z => absurd z (nI_ge (b := 25) hx (by decide)), fun _ => ?_⟩
      refine s_comesCheaper hI hM hsm hE hg (hLk.rR hE hg x (by omega)) hcs3 hss3 hx (fun cs4 ss4 hcs4 hss4 => ?_)
      simp only [jn1_e, jn0_e, fe_e, nI_1]
      refine or_flag (b := rdB E (rlR E (roN E (C0 g) k) x) x 4) (c := rrB E (roN E (C0 g) k) x) (K := fun v => B3 v (nI (x + 1)) cs4 ss4) ?_
      exact hB3 _ _ _ _ ⟨x + 1, by omega, rfl, rfl, hcs4, hss4⟩ (by rw [nI_clamp (by omega), nI_clamp (by omega)]; omega)
    · intro B2 x2 cs2 ss2 hx2
      rcases hx2 with ⟨-, rfl, hcs2, hss2⟩ | ⟨k, hk, hk2, -⟩
      · exact ⟨fun _ => hQ cs2 ss2 hcs2 hss2, fun z => absurd rfl z⟩
      · omega
  have hc : c < 25 := by omega
  refine ⟨fun z => absurd z (nI_ge (b := 25) hc (by decide)), fun _ => ?_⟩
  have v : vp_in (nI c) 25 := vp_in_nI hc (by omega)
  simp only [jn1_e, fe_e, v, true_and, nI_1, nI_clamp (show c < 2 ^ 31 by omega)]
  have fin : ∀ w : Int32, w = nI (cLN (C0 g c)) → B (nI (c + 1)) (upd cs c w) (upd ss c 0) := by
    intro w hw
    refine hB _ _ _ ⟨c + 1, by omega, rfl, fun y hy => ?_, fun y hy => ?_⟩ (by rw [nI_clamp (by omega), nI_clamp (by omega)]; omega)
    · by_cases q : y = c
      · rw [q, pk_us]; exact hw
      · rw [pk_un q]; exact hcs y (by omega)
    · by_cases q : y = c
      · rw [q, pk_us]
        have : sLN (C0 g c) = 0 := by
          unfold sLN C0
          by_cases q2 : c = g <;> simp [q2]
        rw [this]; rfl
      · rw [pk_un q]; exact hss y (by omega)
  refine ⟨fun z => fin _ ?_, fun z => fin _ ?_⟩
  · have z' : c ≠ g := fun y => z (by rw [y])
    unfold cLN C0; rw [if_neg z', if_pos rfl]; rfl
  · have z' : c = g := (nI_eq (by omega) (by omega)).mp z
    unfold cLN C0; rw [if_pos z', if_neg (by omega)]; rfl
/-- the next cell -/
def ndN (E C : Nat → Nat) (x : Nat) : Nat := fsN (fun d => decide (nbN x d < 25 ∧ C (nbN x d) + E (nbN x d) = C x)) 4
theorem nd_ok {E sm : Nat → Nat} {g : Nat} (hE : EOk E sm) (hg : g < 25) {x : Nat} (hx : x < 25) (hxg : x ≠ g) : ndN E (fiC E g) x < 4 ∧ nbN x (ndN E (fiC E g) x) < 25 ∧ fiC E g (nbN x (ndN E (fiC E g) x)) + E (nbN x (ndN E (fiC E g) x)) = fiC E g x := by
  obtain ⟨hL, hst⟩ := fi_all hE hg
  obtain ⟨d, h1, h2, h3⟩ := hL.2.2 x hx hxg (fi_reach hE hg x hx)
  have h4 := hst x hx d h1 h2
  have hlt : ndN E (fiC E g) x < 4 := by
    apply Classical.byContradiction
    intro q
    have := (fsN_spec (fun d => decide (nbN x d < 25 ∧ fiC E g (nbN x d) + E (nbN x d) = fiC E g x)) 4).1 d (by unfold ndN at q; omega)
    exact of_decide_eq_false this ⟨h2, by omega⟩
  have := (fsN_spec (fun d => decide (nbN x d < 25 ∧ fiC E g (nbN x d) + E (nbN x d) = fiC E g x)) 4).2 hlt
  obtain ⟨h5, h6⟩ := of_decide_eq_true this
  exact ⟨hlt, h5, h6⟩
theorem s_stepFrom {E sm : Nat → Nat} {g : Nat} (hE : EOk E sm) (hg : g < 25) {cs en : Nat → Int32} (hc : Ar 25 cs (fiC E g)) (he : Ar 25 en E) {x : Nat} (hx : x < 25) (hxg : x ≠ g) {Q : Int32 → Prop} (hQ : Q (nI (nbN x (ndN E (fiC E g) x)))) : wp_Ph_stepFrom (nI x) cs en Q := by
  obtain ⟨k1, k2, k3⟩ := nd_ok hE hg hx hxg
  obtain ⟨hL, -⟩ := fi_all hE hg
  unfold wp_Ph_stepFrom
  refine lpw1_rule (fun y => ∃ d, d ≤ ndN E (fiC E g) x ∧ y = nI d) (fun y => 5 - y.toNatClampNeg) ?_ 0 ⟨0, Nat.zero_le _, rfl⟩
  intro B y hy hB
  obtain ⟨d, hd, rfl⟩ := hy
  refine ⟨fun z => absurd z (nI_ge (b := 4) (by omega) (by decide)), fun _ => ?_⟩
  rw [w_besC hx (by omega)]
  have next : d ≠ ndN E (fiC E g) x → B (nI (d + 1)) := fun q => hB _ ⟨d + 1, by omega, rfl⟩ (by rw [nI_clamp (by omega), nI_clamp (by omega)]; omega)
  have hlow : d ≠ ndN E (fiC E g) x → ¬ (nbN x d < 25 ∧ fiC E g (nbN x d) + E (nbN x d) = fiC E g x) := fun q => of_decide_eq_false ((fsN_spec (fun d => decide (nbN x d < 25 ∧ fiC E g (nbN x d) + E (nbN x d) = fiC E g x)) 4).1 d (by unfold ndN at hd q; omega))
  simp only [jn0_e, fe_e, nI_1]
  unfold nbI
  rcases (nb_all x hx d (by omega)).2.2 with hn | hn
  · rw [if_pos hn]
    exact ⟨fun _ => next (fun q => by rw [q] at hn; omega), fun z => absurd rfl z⟩
  · rw [if_neg (by omega)]
    obtain ⟨e1, e2⟩ := hE _ hn
    have l1 := (hL.le hx).1
    have l2 := (hL.le hn).1
    have hv : vp_in (nI (nbN x d)) 25 := vp_in_nI hn (by omega)
    have hv2 : vp_in (nI x) 25 := vp_in_nI hx (by omega)
    simp only [hv, hv2, true_and, nI_clamp (show nbN x d < 2 ^ 31 by omega), nI_clamp (show x < 2 ^ 31 by omega), hc x hx, hc _ hn, he _ hn, nI_add]
    refine ⟨fun z => absurd z (nI_em1 _ (by omega)), fun _ => ⟨fun z => next (fun q => z ?_), fun z => ?_⟩⟩
    · rw [q, k3]
    · have z' := (nI_eq (by omega) (by omega)).mp z
      have q : d = ndN E (fiC E g) x := Classical.byContradiction (fun q => hlow q ⟨hn, z'⟩)
      rw [q]
      exact hQ
theorem s_nextOnWay {p : Nat → Nat} {row : Nat → Int32} (hI : Inv p) (hM : MR p row 0) {E sm : Nat → Nat} (hsm : sm = fun c => smN (fun k => p (18 + k)) (fun k => p (21 + k)) (fun k => p (24 + k)) (p 15) c (p 16) (p 17)) (hE : EOk E sm) {g : Nat} (hg : g < 25) {cs ss : Nat → Int32} (hc : Ar 25 cs (fun y => cLN (fiC E g y))) (hs : Ar 25 ss (fun y => sLN (fiC E g y))) {x : Nat} (hx : x < 25) (hxg : x ≠ g) {Q : Int32 → Prop} (hQ : Q (nI (nbN x (ndN E (fiC E g) x)))) : wp_Mo_nextOnWay (nI x) cs row ss Q := by
  obtain ⟨k1, k2, k3⟩ := nd_ok hE hg hx hxg
  obtain ⟨hL, -⟩ := fi_all hE hg
  have hR := fi_reach hE hg
  have hd9 := hI.d9
  have h15 := p15_lt hI
  have hSt := hM.StM hI
  have e15 : row (Int32.toNatClampNeg 15) = nI (p 15) := hM.at0 (j := 15) (by omega)
  have e16 : row (Int32.toNatClampNeg 16) = nI (p 16) := hM.at0 (j := 16) (by omega)
  unfold wp_Mo_nextOnWay
  refine lpw1_rule (fun y => ∃ d, d ≤ ndN E (fiC E g) x ∧ y = nI d) (fun y => 5 - y.toNatClampNeg) ?_ 0 ⟨0, Nat.zero_le _, rfl⟩
  intro B y hy hB
  obtain ⟨d, hd, rfl⟩ := hy
  refine ⟨fun z => absurd z (nI_ge (b := 4) (by omega) (by decide)), fun _ => ?_⟩
  rw [w_besM hx (by omega)]
  have next : d ≠ ndN E (fiC E g) x → B (nI (d + 1)) := fun q => hB _ ⟨d + 1, by omega, rfl⟩ (by rw [nI_clamp (by omega), nI_clamp (by omega)]; omega)
  have hlow : d ≠ ndN E (fiC E g) x → ¬ (nbN x d < 25 ∧ fiC E g (nbN x d) + E (nbN x d) = fiC E g x) := fun q => of_decide_eq_false ((fsN_spec (fun d => decide (nbN x d < 25 ∧ fiC E g (nbN x d) + E (nbN x d) = fiC E g x)) 4).1 d (by unfold ndN at hd q; omega))
  simp only [jn0_e, fe_e, nI_1]
  unfold nbI
  rcases (nb_all x hx d (by omega)).2.2 with hn | hn
  · rw [if_pos hn]
    exact ⟨fun _ => next (fun q => by rw [q] at hn; omega), fun z => absurd rfl z⟩
  · rw [if_neg (by omega)]
    obtain ⟨e1, e2⟩ := hE _ hn
    have l1 := hL.le hx
    have l2 := hL.le hn
    have r1 := hR x hx
    have r2 := hR _ hn
    have hv : vp_in (nI (nbN x d)) 25 := vp_in_nI hn (by omega)
    have hv2 : vp_in (nI x) 25 := vp_in_nI hx (by omega)
    have f1 : cs x = nI (fiC E g x / 64) := by rw [hc x hx]; show nI (cLN (fiC E g x)) = _; unfold cLN; rw [if_neg r1]
    have f2 : cs (nbN x d) = nI (fiC E g (nbN x d) / 64) := by rw [hc _ hn]; show nI (cLN (fiC E g (nbN x d))) = _; unfold cLN; rw [if_neg r2]
    have f3 : ss x = nI (fiC E g x % 64) := by rw [hs x hx]; show nI (sLN (fiC E g x)) = _; unfold sLN; rw [if_neg r1]
    have f4 : ss (nbN x d) = nI (fiC E g (nbN x d) % 64) := by rw [hs _ hn]; show nI (sLN (fiC E g (nbN x d))) = _; unfold sLN; rw [if_neg r2]
    simp only [hv, hv2, true_and, nI_clamp (show nbN x d < 2 ^ 31 by omega), nI_clamp (show x < 2 ^ 31 by omega), f1, f2, f3, f4, e15, e16]
    refine ⟨fun z => absurd z (nI_em1 _ (by omega)), fun _ => ?_⟩
    refine s_smellOf hI.2.1 hSt.1 hSt.2.1 hSt.2.2.1 hSt.2.2.2.1 (by omega) hn (by omega) ?_
    have er : smN (fun k => p (18 + k)) (fun k => p (21 + k)) (fun k => p (24 + k)) (p 15) (nbN x d) (p 16) (p 17) = sm (nbN x d) := by rw [hsm]
    rw [er, nI_add, nI_1]
    refine ⟨fun z => next (fun q => z ?_), fun z => ⟨fun z2 => next (fun q => z2 ?_), fun z2 => ?_⟩⟩
    · have k3' := k3
      rw [← q] at k3'
      exact congrArg nI (by omega)
    · have k3' := k3
      rw [← q] at k3'
      exact congrArg nI (by omega)
    · have z' := (nI_eq (by omega) (by omega)).mp z
      have z2' := (nI_eq (by omega) (by omega)).mp z2
      have q : d = ndN E (fiC E g) x := Classical.byContradiction (fun q => hlow q ⟨hn, by omega⟩)
      rw [← q] at hQ
      exact hQ
def ptN (E : Nat → Nat) (g x : Nat) : Nat → Nat
  | 0 => x
  | j + 1 => nbN (ptN E g x j) (ndN E (fiC E g) (ptN E g x j))
theorem pt_ok {E sm : Nat → Nat} {g : Nat} (hE : EOk E sm) (hg : g < 25) {x : Nat} (hx : x < 25) : ∀ j, j ≤ fiC E g x % 64 → ptN E g x j < 25 ∧ fiC E g (ptN E g x j) % 64 + j = fiC E g x % 64
  | 0, _ => ⟨hx, by show fiC E g x % 64 + 0 = _; rw [Nat.add_zero]⟩
  | j + 1, hj => by
    obtain ⟨h1, h2⟩ := pt_ok hE hg hx j (by omega)
    obtain ⟨hL, -⟩ := fi_all hE hg
    have hne : ptN E g x j ≠ g := fun e => by rw [e, hL.1] at h2; omega
    obtain ⟨k1, k2, k3⟩ := nd_ok hE hg h1 hne
    have hr := fi_reach hE hg _ k2
    have hl := (hL.le k2).2
    obtain ⟨e1, e2⟩ := hE _ k2
    refine ⟨k2, ?_⟩
    show fiC E g (nbN (ptN E g x j) (ndN E (fiC E g) (ptN E g x j))) % 64 + (j + 1) = _
    omega
theorem pt_ne {E sm : Nat → Nat} {g : Nat} (hE : EOk E sm) (hg : g < 25) {x j : Nat} (hx : x < 25) (hj : j < fiC E g x % 64) : ptN E g x j ≠ g := fun e => by
  obtain ⟨h1, h2⟩ := pt_ok hE hg hx j (by omega)
  obtain ⟨hL, -⟩ := fi_all hE hg
  rw [e, hL.1] at h2
  omega
set_option maxHeartbeats 4000000 in
set_option maxRecDepth 100000 in
theorem po_way {x_textLength : Int32} {x_above : Int64} {x_below : Int64} {x_timesBad : Int32} {x_timesNo : Int32} {x_timesFull : Int32} {x_images_0_flitchCount : Int32} {x_images_0_familyCount : Int32} {x_images_0_hung : Int32} {x_images_0_day : Int32} {x_images_0_familyCell : Nat → Int32} {x_images_0_familyKind : Nat → Int32} {x_images_0_familySide : Nat → Int32} {x_images_0_familyWill : Nat → Int32} {x_images_0_flitchCell : Nat → Int32} {x_images_0_flitchKind : Nat → Int32} {x_images_0_flitchStrength : Nat → Int32} {x_images_0_marks_size : Int32} {x_images_0_marks_numbers : Nat → Int32} {x_images_0_notes_size : Int32} {x_images_0_notes_numbers : Nat → Int32} {x_images_0_past_size : Int32} {x_images_0_past_numbers : Nat → Int32} {x_images_0_sightings_size : Int32} {x_images_0_sightings_numbers : Nat → Int32} {x_images_1_flitchCount : Int32} {x_images_1_familyCount : Int32} {x_images_1_hung : Int32} {x_images_1_day : Int32} {x_images_1_familyCell : Nat → Int32} {x_images_1_familyKind : Nat → Int32} {x_images_1_familySide : Nat → Int32} {x_images_1_familyWill : Nat → Int32} {x_images_1_flitchCell : Nat → Int32} {x_images_1_flitchKind : Nat → Int32} {x_images_1_flitchStrength : Nat → Int32} {x_images_1_marks_size : Int32} {x_images_1_marks_numbers : Nat → Int32} {x_images_1_notes_size : Int32} {x_images_1_notes_numbers : Nat → Int32} {x_images_1_past_size : Int32} {x_images_1_past_numbers : Nat → Int32} {x_images_1_sightings_size : Int32} {x_images_1_sightings_numbers : Nat → Int32} {x_kept : Nat → Int32} {x_now_flitchCount : Int32} {x_now_familyCount : Int32} {x_now_hung : Int32} {x_now_day : Int32} {x_now_familyCell : Nat → Int32} {x_now_familyKind : Nat → Int32} {x_now_familySide : Nat → Int32} {x_now_familyWill : Nat → Int32} {x_now_flitchCell : Nat → Int32} {x_now_flitchKind : Nat → Int32} {x_now_flitchStrength : Nat → Int32} {x_now_marks_width : Int32} {x_now_marks_limit : Int32} {x_now_marks_size : Int32} {x_now_marks_numbers : Nat → Int32} {x_now_notes_width : Int32} {x_now_notes_limit : Int32} {x_now_notes_size : Int32} {x_now_notes_numbers : Nat → Int32} {x_now_past_width : Int32} {x_now_past_limit : Int32} {x_now_past_size : Int32} {x_now_past_numbers : Nat → Int32} {x_now_sightings_width : Int32} {x_now_sightings_limit : Int32} {x_now_sightings_size : Int32} {x_now_sightings_numbers : Nat → Int32} {x_paths_goal : Int32} {x_paths_cost : Nat → Int32} {x_paths_entering : Nat → Int32} {x_text : Nat → Int32} {m_above : Int64} {m_below : Int64} {m_length : Int32} {m_cost : Nat → Int32} {m_isKept : Nat → Int32} {m_refused : Nat → Int32} {m_row : Nat → Int32} {m_steps : Nat → Int32} {m_text : Nat → Int32} {m_words : Nat → Int32} (h : Rel x_textLength x_above x_below x_timesBad x_timesNo x_timesFull x_images_0_flitchCount x_images_0_familyCount x_images_0_hung x_images_0_day x_images_0_familyCell x_images_0_familyKind x_images_0_familySide x_images_0_familyWill x_images_0_flitchCell x_images_0_flitchKind x_images_0_flitchStrength x_images_0_marks_size x_images_0_marks_numbers x_images_0_notes_size x_images_0_notes_numbers x_images_0_past_size x_images_0_past_numbers x_images_0_sightings_size x_images_0_sightings_numbers x_images_1_flitchCount x_images_1_familyCount x_images_1_hung x_images_1_day x_images_1_familyCell x_images_1_familyKind x_images_1_familySide x_images_1_familyWill x_images_1_flitchCell x_images_1_flitchKind x_images_1_flitchStrength x_images_1_marks_size x_images_1_marks_numbers x_images_1_notes_size x_images_1_notes_numbers x_images_1_past_size x_images_1_past_numbers x_images_1_sightings_size x_images_1_sightings_numbers x_kept x_now_flitchCount x_now_familyCount x_now_hung x_now_day x_now_familyCell x_now_familyKind x_now_familySide x_now_familyWill x_now_flitchCell x_now_flitchKind x_now_flitchStrength x_now_marks_width x_now_marks_limit x_now_marks_size x_now_marks_numbers x_now_notes_width x_now_notes_limit x_now_notes_size x_now_notes_numbers x_now_past_width x_now_past_limit x_now_past_size x_now_past_numbers x_now_sightings_width x_now_sightings_limit x_now_sightings_size x_now_sightings_numbers x_text m_above m_below m_length m_isKept m_refused m_row m_text m_words) (x1 : Int32) (x2 : Int32) (x3 : Int32) : wp_Rc_way x1 x2 x3 x_timesBad x_now_flitchCount x_now_hung x_now_day x_now_flitchCell x_now_flitchKind x_now_flitchStrength x_paths_goal x_paths_cost x_paths_entering (fun (r : Int32) (x_timesBad' : Int32) (x_paths_goal' : Int32) (x_paths_cost' : Nat → Int32) (x_paths_entering' : Nat → Int32) => wp_Mo_way x1 x2 x3 m_cost m_refused m_row m_steps (fun (r' : Int32) (m_cost' : Nat → Int32) (m_refused' : Nat → Int32) (m_steps' : Nat → Int32) => r = r' ∧ Rel x_textLength x_above x_below x_timesBad' x_timesNo x_timesFull x_images_0_flitchCount x_images_0_familyCount x_images_0_hung x_images_0_day x_images_0_familyCell x_images_0_familyKind x_images_0_familySide x_images_0_familyWill x_images_0_flitchCell x_images_0_flitchKind x_images_0_flitchStrength x_images_0_marks_size x_images_0_marks_numbers x_images_0_notes_size x_images_0_notes_numbers x_images_0_past_size x_images_0_past_numbers x_images_0_sightings_size x_images_0_sightings_numbers x_images_1_flitchCount x_images_1_familyCount x_images_1_hung x_images_1_day x_images_1_familyCell x_images_1_familyKind x_images_1_familySide x_images_1_familyWill x_images_1_flitchCell x_images_1_flitchKind x_images_1_flitchStrength x_images_1_marks_size x_images_1_marks_numbers x_images_1_notes_size x_images_1_notes_numbers x_images_1_past_size x_images_1_past_numbers x_images_1_sightings_size x_images_1_sightings_numbers x_kept x_now_flitchCount x_now_familyCount x_now_hung x_now_day x_now_familyCell x_now_familyKind x_now_familySide x_now_familyWill x_now_flitchCell x_now_flitchKind x_now_flitchStrength x_now_marks_width x_now_marks_limit x_now_marks_size x_now_marks_numbers x_now_notes_width x_now_notes_limit x_now_notes_size x_now_notes_numbers x_now_past_width x_now_past_limit x_now_past_size x_now_past_numbers x_now_sightings_width x_now_sightings_limit x_now_sightings_size x_now_sightings_numbers x_text m_above m_below m_length m_isKept m_refused' m_row m_text m_words)) := by
  obtain ⟨⟨p, hPS, hM⟩, ⟨rfl, rfl, rfl, rfl, rfl, rfl, rfl, rfl⟩, hk0, hk1, hTx, hFr, hRf, hWo⟩ := id h
  obtain ⟨hI, ⟨rfl, rfl, rfl, rfl, a5, a6, a7, a8, a9, a10, a11⟩, hm, hn, hp, hs⟩ := id hPS
  have h7 := hI.1
  have h3 := hI.2.1.1
  have e27 : m_row 27 = nI (p 27) := hM.at0 (by omega)
  have e17 : m_row 17 = nI (p 17) := hM.at0 (by omega)
  have hd := hI.d9
  have h15 := p15_lt hI
  by_cases q1 : inB x1 0 24 = 0
  · simp only [wp_Rc_way, wp_Mo_way, true_implies, false_implies, not_true_eq_false, not_false_eq_true, and_true, true_and, jn0_e, w_bad, w_no, w_full, w_badApart, w_refB, w_refN, w_refF, w_badAs, w_within, w_in, w_isCell, w_isFamC, w_isFliC, w_isFamM, w_isFliM, q1]; first | exact rel_bad h | exact ⟨rfl, rel_bad h⟩
  by_cases q2 : inB x2 0 24 = 0
  · simp only [wp_Rc_way, wp_Mo_way, true_implies, false_implies, not_true_eq_false, not_false_eq_true, and_true, true_and, jn0_e, w_bad, w_no, w_full, w_badApart, w_refB, w_refN, w_refF, w_badAs, w_within, w_in, w_isCell, w_isFamC, w_isFliC, w_isFamM, w_isFliM, q1, q2]; first | exact rel_bad h | exact ⟨rfl, rel_bad h⟩
  by_cases q3 : x3 < (-3)
  · simp only [wp_Rc_way, wp_Mo_way, true_implies, false_implies, not_true_eq_false, not_false_eq_true, and_true, true_and, jn0_e, w_bad, w_no, w_full, w_badApart, w_refB, w_refN, w_refF, w_badAs, w_within, w_in, w_isCell, w_isFamC, w_isFliC, w_isFamM, w_isFliM, q1, q2, q3]; first | exact rel_bad h | exact ⟨rfl, rel_bad h⟩
  by_cases q4 : x3 = (-1)
  · simp only [wp_Rc_way, wp_Mo_way, true_implies, false_implies, not_true_eq_false, not_false_eq_true, and_true, true_and, jn0_e, w_bad, w_no, w_full, w_badApart, w_refB, w_refN, w_refF, w_badAs, w_within, w_in, w_isCell, w_isFamC, w_isFliC, w_isFamM, w_isFliM, q1, q2, q4, show ¬ ((-1 : Int32) < -3) from by decide]; first | exact rel_bad h | exact ⟨rfl, rel_bad h⟩
  obtain ⟨x, -, hx, rfl⟩ := inB_nI (lo := 0) (hi := 24) (by omega) (by omega) q1
  obtain ⟨g, -, hg, rfl⟩ := inB_nI (lo := 0) (hi := 24) (by omega) (by omega) q2
  have hx : x < 25 := by omega
  have hg : g < 25 := by omega
  obtain ⟨sm, hsm⟩ : ∃ sm : Nat → Nat, sm = fun c => smN (fun k => p (18 + k)) (fun k => p (21 + k)) (fun k => p (24 + k)) (p 15) c (p 16) (p 17) := ⟨_, rfl⟩
  obtain ⟨E, hEe⟩ : ∃ E : Nat → Nat, E = fun c => sm c * 64 + 1 := ⟨_, rfl⟩
  have hE : EOk E sm := fun c hc => ⟨by rw [hEe], by rw [hsm]; exact Nat.le_of_lt_succ (smN_133 hI.2.1 (p 15) c (p 16) hc)⟩
  obtain ⟨hL, -⟩ := fi_all hE hg
  have hR := fi_reach hE hg x hx
  have hle := (hL.le hx)
  have v : vp_in (nI x) 25 := vp_in_nI hx (by omega)
  have cl := nI_clamp (show x < 2 ^ 31 by omega)
  simp only [wp_Rc_way, wp_Mo_way, wp_Ph_smellFrom, wp_Ph_stepsFrom, true_implies, false_implies, not_true_eq_false, not_false_eq_true, and_true, true_and, jn0_e, w_bad, w_no, w_full, w_badApart, w_refB, w_refN, w_refF, w_badAs, w_within, w_in, w_isCell, w_isFamC, w_isFliC, w_isFamM, w_isFliM, q1, q2, q3, q4, v, cl]
  refine s_leadTo hI a9 a10 a11 hsm hEe hg (fun cs en hcs hen => ?_)
  have e1 : cs x = nI (fiC E g x) := hcs x hx
  have e2 : nI (fiC E g x) / 64 = nI (fiC E g x / 64) := pk_div (d := 64) (by omega) (by omega) (by omega)
  have e3 : irem (nI (fiC E g x)) 64 = nI (fiC E g x % 64) := irem_nI (m := 64) (by omega) (by omega) (by omega)
  rw [e1, e2, e3]
  have mo : ∀ K : Int32 → (Nat → Int32) → (Nat → Int32) → Prop, (∀ c2 s2, Ar 25 c2 (fun y => cLN (fiC E g y)) → Ar 25 s2 (fun y => sLN (fiC E g y)) → ((0 ≤ x3 → ((x3 < s2 x → ∃ n : Nat, lpw2 (fun (B88 : Int32 → Int32 → Prop) (x4_16 : Int32) (x5_17 : Int32) => ((x3 < x5_17 → K x4_16 c2 s2) ∧ (¬ x3 < x5_17 → wp_Mo_nextOnWay x4_16 c2 m_row s2 (fun (r_20 : Int32) => ∀ x5_21 : Int32, x5_21 = x5_17 + 1 → B88 r_20 x5_21)))) n (nI x) 0) ∧ (¬ x3 < s2 x → K (-5) c2 s2))) ∧ (¬ 0 ≤ x3 → ((¬ x3 = (-2) → K (s2 x) c2 s2) ∧ (x3 = (-2) → K (c2 x) c2 s2))))) → wp_Mo_layCosts (nI g) m_cost m_row m_steps (fun s_cost_11 s_steps_12 => ((0 ≤ x3 → ((x3 < s_steps_12 x → ∃ n : Nat, lpw2 (fun (B88 : Int32 → Int32 → Prop) (x4_16 : Int32) (x5_17 : Int32) => ((x3 < x5_17 → K x4_16 s_cost_11 s_steps_12) ∧ (¬ x3 < x5_17 → wp_Mo_nextOnWay x4_16 s_cost_11 m_row s_steps_12 (fun (r_20 : Int32) => ∀ x5_21 : Int32, x5_21 = x5_17 + 1 → B88 r_20 x5_21)))) n (nI x) 0) ∧ (¬ x3 < s_steps_12 x → K (-5) s_cost_11 s_steps_12))) ∧ (¬ 0 ≤ x3 → ((¬ x3 = (-2) → K (s_steps_12 x) s_cost_11 s_steps_12) ∧ (x3 = (-2) → K (s_cost_11 x) s_cost_11 s_steps_12))))) := fun K hK => s_layCosts hI hM hsm hE hg hK
  have sx : ∀ s2 : Nat → Int32, Ar 25 s2 (fun y => sLN (fiC E g y)) → s2 x = nI (fiC E g x % 64) := fun s2 hs2 => by rw [hs2 x hx]; show nI (sLN (fiC E g x)) = _; unfold sLN; rw [if_neg hR]
  have cx : ∀ c2 : Nat → Int32, Ar 25 c2 (fun y => cLN (fiC E g y)) → c2 x = nI (fiC E g x / 64) := fun c2 hc2 => by rw [hc2 x hx]; show nI (cLN (fiC E g x)) = _; unfold cLN; rw [if_neg hR]
  by_cases q5 : x3 = (-2)
  · refine ⟨fun z => absurd q5 z, fun _ => mo _ (fun c2 s2 hc2 hs2 => ⟨fun z => absurd z (by rw [q5]; decide), fun _ => ⟨fun z => absurd q5 z, fun _ => ⟨(cx c2 hc2).symm, h⟩⟩⟩)⟩
  refine ⟨fun _ => ?_, fun z => absurd z q5⟩
  by_cases q6 : x3 = (-3)
  · refine ⟨fun z => absurd q6 z, fun _ => mo _ (fun c2 s2 hc2 hs2 => ⟨fun z => absurd z (by rw [q6]; decide), fun _ => ⟨fun _ => ⟨(sx s2 hs2).symm, h⟩, fun z => absurd z q5⟩⟩)⟩
  refine ⟨fun _ => ?_, fun z => absurd z q6⟩
  have h0 : ¬ x3 < 0 := fun z => by
    have z1 := Int32.lt_iff_toInt_lt.mp z
    have z2 : ¬ x3.toInt < (-3 : Int32).toInt := fun y => q3 (Int32.lt_iff_toInt_lt.mpr y)
    have t3 : (-3 : Int32).toInt = -3 := rfl
    have t0 : (0 : Int32).toInt = 0 := rfl
    have n1 : x3.toInt ≠ -1 := fun y => q4 (Int32.toInt_inj.mp y)
    have n2 : x3.toInt ≠ -2 := fun y => q5 (Int32.toInt_inj.mp y)
    have n3 : x3.toInt ≠ -3 := fun y => q6 (Int32.toInt_inj.mp y)
    omega
  obtain ⟨k, hk, rfl⟩ := nI_of h0
  have h0' : (0 : Int32) ≤ nI k := Int32.not_lt.mp h0
  refine ⟨fun z => ?_, fun z => ?_⟩
  · have z' := (nI_leI (by omega) (by omega)).mp z
    refine s_layCosts hI hM hsm hE hg (fun c2 s2 hc2 hs2 => ⟨fun _ => ⟨fun y => ?_, fun _ => h⟩, fun y => absurd h0' y⟩)
    rw [sx s2 hs2] at y
    have y' := (nI_ltI (by omega) (by omega)).mp y
    omega
  · have z' : ¬ fiC E g x % 64 ≤ k := fun y => z ((nI_leI (by omega) (by omega)).mpr y)
    have hk24 : k < fiC E g x % 64 := by omega
    have h24 : fiC E g x % 64 ≤ 24 := by omega
    unfold wp_Ph_cellOfStep
    refine lpw2_run (fun j => nI (ptN E g x j)) nI (k + 1) ?_ ?_ 0 (Nat.zero_le _)
    · intro B j hj hB
      obtain ⟨p1, p2⟩ := pt_ok hE hg hx j (by omega)
      have p3 := pt_ne hE hg hx (j := j) (by omega)
      refine ⟨fun y => absurd y (nI_nlt (by omega) (by omega)), fun _ => ⟨fun y => absurd y (nI_ge (b := 25) (by omega) (by decide)), fun _ => ⟨fun y => absurd y (nI_ne (by omega) (by omega) p3), fun _ => ?_⟩⟩⟩
      refine s_stepFrom hE hg hcs hen p1 p3 ?_
      simp only [fe_e, nI_1]
      exact hB
    · intro B
      refine ⟨fun _ => ?_, fun y => absurd (nI_lt (by omega) (by omega)) y⟩
      refine mo _ (fun c2 s2 hc2 hs2 => ⟨fun _ => ⟨fun _ => ?_, fun y => ?_⟩, fun y => absurd h0' y⟩)
      · refine lpw2_run (fun j => nI (ptN E g x j)) nI (k + 1) ?_ ?_ 0 (Nat.zero_le _)
        · intro B j hj hB
          obtain ⟨p1, p2⟩ := pt_ok hE hg hx j (by omega)
          have p3 := pt_ne hE hg hx (j := j) (by omega)
          refine ⟨fun y => absurd y (nI_nlt (by omega) (by omega)), fun _ => ?_⟩
          refine s_nextOnWay hI hM hsm hE hg hc2 hs2 p1 p3 ?_
          simp only [fe_e, nI_1]
          exact hB
        · intro B
          exact ⟨fun _ => ⟨rfl, h⟩, fun y => absurd (nI_lt (by omega) (by omega)) y⟩
      · rw [sx s2 hs2] at y
        exact absurd (nI_lt hk24 (by omega)) y

