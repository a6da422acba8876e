/-! the connectives of the walks: a join, a loop, by how many values they carry -/
def jn0 (F : Prop → Prop) (K : Prop) : Prop := F K
theorem jn0_ex {K : Prop} {F : Prop → Prop} (h : jn0 F K) : ∃ J : Prop, (J → K) ∧ F J := ⟨K, fun h => h, h⟩
def jn1 {A1 : Type} (F : (A1 → Prop) → Prop) (K : A1 → Prop) : Prop := F K
theorem jn1_ex {A1 : Type} {K : A1 → Prop} {F : (A1 → Prop) → Prop} (h : jn1 F K) : ∃ J : A1 → Prop, (∀ (q1 : A1), J q1 → K q1) ∧ F J := ⟨K, fun q1 h => h, h⟩
def lpw1 {A1 : Type} (body : (A1 → Prop) → A1 → Prop) : Nat → A1 → Prop
  | 0 => fun _ => False
  | n + 1 => fun q1 => body (lpw1 body n) q1
theorem lpw1_use {A1 : Type} {body : (A1 → Prop) → A1 → Prop} {q1 : A1} (h : ∃ n, lpw1 body n q1) : ∃ T : Nat → A1 → Prop, (∀ (q1 : A1), ¬ T 0 q1) ∧ (∀ n (q1 : A1), T (n + 1) q1 → body (T n) q1) ∧ ∃ n, T n q1 := ⟨lpw1 body, fun _ h => h, fun _ _ h => h, h⟩
theorem lpw1_rule {A1 : Type} {body : (A1 → Prop) → A1 → Prop} (I : A1 → Prop) (μ : A1 → Nat) (hs : ∀ (B : A1 → Prop) (q1 : A1), I q1 → (∀ (q1' : A1), I q1' → μ q1' < μ q1 → B q1') → body B q1) (q1 : A1) (h : I q1) : ∃ n, lpw1 body n q1 := by
  have key : ∀ n (q1 : A1), I q1 → μ q1 < n → lpw1 body n q1 := by
    intro n
    induction n with
    | zero => intro q1 _ h; exact absurd h (Nat.not_lt_zero _)
    | succ n ih => intro q1 hI hm; exact hs _ q1 hI (fun q1' hI' hm' => ih q1' hI' (by omega))
  exact ⟨_, key _ q1 h (Nat.lt_succ_self _)⟩
def jn2 {A1 A2 : Type} (F : (A1 → A2 → Prop) → Prop) (K : A1 → A2 → Prop) : Prop := F K
theorem jn2_ex {A1 A2 : Type} {K : A1 → A2 → Prop} {F : (A1 → A2 → Prop) → Prop} (h : jn2 F K) : ∃ J : A1 → A2 → Prop, (∀ (q1 : A1) (q2 : A2), J q1 q2 → K q1 q2) ∧ F J := ⟨K, fun q1 q2 h => h, h⟩
def lpw2 {A1 A2 : Type} (body : (A1 → A2 → Prop) → A1 → A2 → Prop) : Nat → A1 → A2 → Prop
  | 0 => fun _ _ => False
  | n + 1 => fun q1 q2 => body (lpw2 body n) q1 q2
theorem lpw2_use {A1 A2 : Type} {body : (A1 → A2 → Prop) → A1 → A2 → Prop} {q1 : A1} {q2 : A2} (h : ∃ n, lpw2 body n q1 q2) : ∃ T : Nat → A1 → A2 → Prop, (∀ (q1 : A1) (q2 : A2), ¬ T 0 q1 q2) ∧ (∀ n (q1 : A1) (q2 : A2), T (n + 1) q1 q2 → body (T n) q1 q2) ∧ ∃ n, T n q1 q2 := ⟨lpw2 body, fun _ _ h => h, fun _ _ _ h => h, h⟩
theorem lpw2_rule {A1 A2 : Type} {body : (A1 → A2 → Prop) → A1 → A2 → Prop} (I : A1 → A2 → Prop) (μ : A1 → A2 → Nat) (hs : ∀ (B : A1 → A2 → Prop) (q1 : A1) (q2 : A2), I q1 q2 → (∀ (q1' : A1) (q2' : A2), I q1' q2' → μ q1' q2' < μ q1 q2 → B q1' q2') → body B q1 q2) (q1 : A1) (q2 : A2) (h : I q1 q2) : ∃ n, lpw2 body n q1 q2 := by
  have key : ∀ n (q1 : A1) (q2 : A2), I q1 q2 → μ q1 q2 < n → lpw2 body n q1 q2 := by
    intro n
    induction n with
    | zero => intro q1 q2 _ h; exact absurd h (Nat.not_lt_zero _)
    | succ n ih => intro q1 q2 hI hm; exact hs _ q1 q2 hI (fun q1' q2' hI' hm' => ih q1' q2' hI' (by omega))
  exact ⟨_, key _ q1 q2 h (Nat.lt_succ_self _)⟩
def jn3 {A1 A2 A3 : Type} (F : (A1 → A2 → A3 → Prop) → Prop) (K : A1 → A2 → A3 → Prop) : Prop := F K
theorem jn3_ex {A1 A2 A3 : Type} {K : A1 → A2 → A3 → Prop} {F : (A1 → A2 → A3 → Prop) → Prop} (h : jn3 F K) : ∃ J : A1 → A2 → A3 → Prop, (∀ (q1 : A1) (q2 : A2) (q3 : A3), J q1 q2 q3 → K q1 q2 q3) ∧ F J := ⟨K, fun q1 q2 q3 h => h, h⟩
def lpw3 {A1 A2 A3 : Type} (body : (A1 → A2 → A3 → Prop) → A1 → A2 → A3 → Prop) : Nat → A1 → A2 → A3 → Prop
  | 0 => fun _ _ _ => False
  | n + 1 => fun q1 q2 q3 => body (lpw3 body n) q1 q2 q3
theorem lpw3_use {A1 A2 A3 : Type} {body : (A1 → A2 → A3 → Prop) → A1 → A2 → A3 → Prop} {q1 : A1} {q2 : A2} {q3 : A3} (h : ∃ n, lpw3 body n q1 q2 q3) : ∃ T : Nat → A1 → A2 → A3 → Prop, (∀ (q1 : A1) (q2 : A2) (q3 : A3), ¬ T 0 q1 q2 q3) ∧ (∀ n (q1 : A1) (q2 : A2) (q3 : A3), T (n + 1) q1 q2 q3 → body (T n) q1 q2 q3) ∧ ∃ n, T n q1 q2 q3 := ⟨lpw3 body, fun _ _ _ h => h, fun _ _ _ _ h => h, h⟩
theorem lpw3_rule {A1 A2 A3 : Type} {body : (A1 → A2 → A3 → Prop) → A1 → A2 → A3 → Prop} (I : A1 → A2 → A3 → Prop) (μ : A1 → A2 → A3 → Nat) (hs : ∀ (B : A1 → A2 → A3 → Prop) (q1 : A1) (q2 : A2) (q3 : A3), I q1 q2 q3 → (∀ (q1' : A1) (q2' : A2) (q3' : A3), I q1' q2' q3' → μ q1' q2' q3' < μ q1 q2 q3 → B q1' q2' q3') → body B q1 q2 q3) (q1 : A1) (q2 : A2) (q3 : A3) (h : I q1 q2 q3) : ∃ n, lpw3 body n q1 q2 q3 := by
  have key : ∀ n (q1 : A1) (q2 : A2) (q3 : A3), I q1 q2 q3 → μ q1 q2 q3 < n → lpw3 body n q1 q2 q3 := by
    intro n
    induction n with
    | zero => intro q1 q2 q3 _ h; exact absurd h (Nat.not_lt_zero _)
    | succ n ih => intro q1 q2 q3 hI hm; exact hs _ q1 q2 q3 hI (fun q1' q2' q3' hI' hm' => ih q1' q2' q3' hI' (by omega))
  exact ⟨_, key _ q1 q2 q3 h (Nat.lt_succ_self _)⟩
def jn4 {A1 A2 A3 A4 : Type} (F : (A1 → A2 → A3 → A4 → Prop) → Prop) (K : A1 → A2 → A3 → A4 → Prop) : Prop := F K
theorem jn4_ex {A1 A2 A3 A4 : Type} {K : A1 → A2 → A3 → A4 → Prop} {F : (A1 → A2 → A3 → A4 → Prop) → Prop} (h : jn4 F K) : ∃ J : A1 → A2 → A3 → A4 → Prop, (∀ (q1 : A1) (q2 : A2) (q3 : A3) (q4 : A4), J q1 q2 q3 q4 → K q1 q2 q3 q4) ∧ F J := ⟨K, fun q1 q2 q3 q4 h => h, h⟩
def lpw4 {A1 A2 A3 A4 : Type} (body : (A1 → A2 → A3 → A4 → Prop) → A1 → A2 → A3 → A4 → Prop) : Nat → A1 → A2 → A3 → A4 → Prop
  | 0 => fun _ _ _ _ => False
  | n + 1 => fun q1 q2 q3 q4 => body (lpw4 body n) q1 q2 q3 q4
theorem lpw4_use {A1 A2 A3 A4 : Type} {body : (A1 → A2 → A3 → A4 → Prop) → A1 → A2 → A3 → A4 → Prop} {q1 : A1} {q2 : A2} {q3 : A3} {q4 : A4} (h : ∃ n, lpw4 body n q1 q2 q3 q4) : ∃ T : Nat → A1 → A2 → A3 → A4 → Prop, (∀ (q1 : A1) (q2 : A2) (q3 : A3) (q4 : A4), ¬ T 0 q1 q2 q3 q4) ∧ (∀ n (q1 : A1) (q2 : A2) (q3 : A3) (q4 : A4), T (n + 1) q1 q2 q3 q4 → body (T n) q1 q2 q3 q4) ∧ ∃ n, T n q1 q2 q3 q4 := ⟨lpw4 body, fun _ _ _ _ h => h, fun _ _ _ _ _ h => h, h⟩
theorem lpw4_rule {A1 A2 A3 A4 : Type} {body : (A1 → A2 → A3 → A4 → Prop) → A1 → A2 → A3 → A4 → Prop} (I : A1 → A2 → A3 → A4 → Prop) (μ : A1 → A2 → A3 → A4 → Nat) (hs : ∀ (B : A1 → A2 → A3 → A4 → Prop) (q1 : A1) (q2 : A2) (q3 : A3) (q4 : A4), I q1 q2 q3 q4 → (∀ (q1' : A1) (q2' : A2) (q3' : A3) (q4' : A4), I q1' q2' q3' q4' → μ q1' q2' q3' q4' < μ q1 q2 q3 q4 → B q1' q2' q3' q4') → body B q1 q2 q3 q4) (q1 : A1) (q2 : A2) (q3 : A3) (q4 : A4) (h : I q1 q2 q3 q4) : ∃ n, lpw4 body n q1 q2 q3 q4 := by
  have key : ∀ n (q1 : A1) (q2 : A2) (q3 : A3) (q4 : A4), I q1 q2 q3 q4 → μ q1 q2 q3 q4 < n → lpw4 body n q1 q2 q3 q4 := by
    intro n
    induction n with
    | zero => intro q1 q2 q3 q4 _ h; exact absurd h (Nat.not_lt_zero _)
    | succ n ih => intro q1 q2 q3 q4 hI hm; exact hs _ q1 q2 q3 q4 hI (fun q1' q2' q3' q4' hI' hm' => ih q1' q2' q3' q4' hI' (by omega))
  exact ⟨_, key _ q1 q2 q3 q4 h (Nat.lt_succ_self _)⟩
def jn5 {A1 A2 A3 A4 A5 : Type} (F : (A1 → A2 → A3 → A4 → A5 → Prop) → Prop) (K : A1 → A2 → A3 → A4 → A5 → Prop) : Prop := F K
theorem jn5_ex {A1 A2 A3 A4 A5 : Type} {K : A1 → A2 → A3 → A4 → A5 → Prop} {F : (A1 → A2 → A3 → A4 → A5 → Prop) → Prop} (h : jn5 F K) : ∃ J : A1 → A2 → A3 → A4 → A5 → Prop, (∀ (q1 : A1) (q2 : A2) (q3 : A3) (q4 : A4) (q5 : A5), J q1 q2 q3 q4 q5 → K q1 q2 q3 q4 q5) ∧ F J := ⟨K, fun q1 q2 q3 q4 q5 h => h, h⟩
def lpw5 {A1 A2 A3 A4 A5 : Type} (body : (A1 → A2 → A3 → A4 → A5 → Prop) → A1 → A2 → A3 → A4 → A5 → Prop) : Nat → A1 → A2 → A3 → A4 → A5 → Prop
  | 0 => fun _ _ _ _ _ => False
  | n + 1 => fun q1 q2 q3 q4 q5 => body (lpw5 body n) q1 q2 q3 q4 q5
theorem lpw5_use {A1 A2 A3 A4 A5 : Type} {body : (A1 → A2 → A3 → A4 → A5 → Prop) → A1 → A2 → A3 → A4 → A5 → Prop} {q1 : A1} {q2 : A2} {q3 : A3} {q4 : A4} {q5 : A5} (h : ∃ n, lpw5 body n q1 q2 q3 q4 q5) : ∃ T : Nat → A1 → A2 → A3 → A4 → A5 → Prop, (∀ (q1 : A1) (q2 : A2) (q3 : A3) (q4 : A4) (q5 : A5), ¬ T 0 q1 q2 q3 q4 q5) ∧ (∀ n (q1 : A1) (q2 : A2) (q3 : A3) (q4 : A4) (q5 : A5), T (n + 1) q1 q2 q3 q4 q5 → body (T n) q1 q2 q3 q4 q5) ∧ ∃ n, T n q1 q2 q3 q4 q5 := ⟨lpw5 body, fun _ _ _ _ _ h => h, fun _ _ _ _ _ _ h => h, h⟩
theorem lpw5_rule {A1 A2 A3 A4 A5 : Type} {body : (A1 → A2 → A3 → A4 → A5 → Prop) → A1 → A2 → A3 → A4 → A5 → Prop} (I : A1 → A2 → A3 → A4 → A5 → Prop) (μ : A1 → A2 → A3 → A4 → A5 → Nat) (hs : ∀ (B : A1 → A2 → A3 → A4 → A5 → Prop) (q1 : A1) (q2 : A2) (q3 : A3) (q4 : A4) (q5 : A5), I q1 q2 q3 q4 q5 → (∀ (q1' : A1) (q2' : A2) (q3' : A3) (q4' : A4) (q5' : A5), I q1' q2' q3' q4' q5' → μ q1' q2' q3' q4' q5' < μ q1 q2 q3 q4 q5 → B q1' q2' q3' q4' q5') → body B q1 q2 q3 q4 q5) (q1 : A1) (q2 : A2) (q3 : A3) (q4 : A4) (q5 : A5) (h : I q1 q2 q3 q4 q5) : ∃ n, lpw5 body n q1 q2 q3 q4 q5 := by
  have key : ∀ n (q1 : A1) (q2 : A2) (q3 : A3) (q4 : A4) (q5 : A5), I q1 q2 q3 q4 q5 → μ q1 q2 q3 q4 q5 < n → lpw5 body n q1 q2 q3 q4 q5 := by
    intro n
    induction n with
    | zero => intro q1 q2 q3 q4 q5 _ h; exact absurd h (Nat.not_lt_zero _)
    | succ n ih => intro q1 q2 q3 q4 q5 hI hm; exact hs _ q1 q2 q3 q4 q5 hI (fun q1' q2' q3' q4' q5' hI' hm' => ih q1' q2' q3' q4' q5' hI' (by omega))
  exact ⟨_, key _ q1 q2 q3 q4 q5 h (Nat.lt_succ_self _)⟩
def jn6 {A1 A2 A3 A4 A5 A6 : Type} (F : (A1 → A2 → A3 → A4 → A5 → A6 → Prop) → Prop) (K : A1 → A2 → A3 → A4 → A5 → A6 → Prop) : Prop := F K
theorem jn6_ex {A1 A2 A3 A4 A5 A6 : Type} {K : A1 → A2 → A3 → A4 → A5 → A6 → Prop} {F : (A1 → A2 → A3 → A4 → A5 → A6 → Prop) → Prop} (h : jn6 F K) : ∃ J : A1 → A2 → A3 → A4 → A5 → A6 → Prop, (∀ (q1 : A1) (q2 : A2) (q3 : A3) (q4 : A4) (q5 : A5) (q6 : A6), J q1 q2 q3 q4 q5 q6 → K q1 q2 q3 q4 q5 q6) ∧ F J := ⟨K, fun q1 q2 q3 q4 q5 q6 h => h, h⟩
def lpw6 {A1 A2 A3 A4 A5 A6 : Type} (body : (A1 → A2 → A3 → A4 → A5 → A6 → Prop) → A1 → A2 → A3 → A4 → A5 → A6 → Prop) : Nat → A1 → A2 → A3 → A4 → A5 → A6 → Prop
  | 0 => fun _ _ _ _ _ _ => False
  | n + 1 => fun q1 q2 q3 q4 q5 q6 => body (lpw6 body n) q1 q2 q3 q4 q5 q6
theorem lpw6_use {A1 A2 A3 A4 A5 A6 : Type} {body : (A1 → A2 → A3 → A4 → A5 → A6 → Prop) → A1 → A2 → A3 → A4 → A5 → A6 → Prop} {q1 : A1} {q2 : A2} {q3 : A3} {q4 : A4} {q5 : A5} {q6 : A6} (h : ∃ n, lpw6 body n q1 q2 q3 q4 q5 q6) : ∃ T : Nat → A1 → A2 → A3 → A4 → A5 → A6 → Prop, (∀ (q1 : A1) (q2 : A2) (q3 : A3) (q4 : A4) (q5 : A5) (q6 : A6), ¬ T 0 q1 q2 q3 q4 q5 q6) ∧ (∀ n (q1 : A1) (q2 : A2) (q3 : A3) (q4 : A4) (q5 : A5) (q6 : A6), T (n + 1) q1 q2 q3 q4 q5 q6 → body (T n) q1 q2 q3 q4 q5 q6) ∧ ∃ n, T n q1 q2 q3 q4 q5 q6 := ⟨lpw6 body, fun _ _ _ _ _ _ h => h, fun _ _ _ _ _ _ _ h => h, h⟩
theorem lpw6_rule {A1 A2 A3 A4 A5 A6 : Type} {body : (A1 → A2 → A3 → A4 → A5 → A6 → Prop) → A1 → A2 → A3 → A4 → A5 → A6 → Prop} (I : A1 → A2 → A3 → A4 → A5 → A6 → Prop) (μ : A1 → A2 → A3 → A4 → A5 → A6 → Nat) (hs : ∀ (B : A1 → A2 → A3 → A4 → A5 → A6 → Prop) (q1 : A1) (q2 : A2) (q3 : A3) (q4 : A4) (q5 : A5) (q6 : A6), I q1 q2 q3 q4 q5 q6 → (∀ (q1' : A1) (q2' : A2) (q3' : A3) (q4' : A4) (q5' : A5) (q6' : A6), I q1' q2' q3' q4' q5' q6' → μ q1' q2' q3' q4' q5' q6' < μ q1 q2 q3 q4 q5 q6 → B q1' q2' q3' q4' q5' q6') → body B q1 q2 q3 q4 q5 q6) (q1 : A1) (q2 : A2) (q3 : A3) (q4 : A4) (q5 : A5) (q6 : A6) (h : I q1 q2 q3 q4 q5 q6) : ∃ n, lpw6 body n q1 q2 q3 q4 q5 q6 := by
  have key : ∀ n (q1 : A1) (q2 : A2) (q3 : A3) (q4 : A4) (q5 : A5) (q6 : A6), I q1 q2 q3 q4 q5 q6 → μ q1 q2 q3 q4 q5 q6 < n → lpw6 body n q1 q2 q3 q4 q5 q6 := by
    intro n
    induction n with
    | zero => intro q1 q2 q3 q4 q5 q6 _ h; exact absurd h (Nat.not_lt_zero _)
    | succ n ih => intro q1 q2 q3 q4 q5 q6 hI hm; exact hs _ q1 q2 q3 q4 q5 q6 hI (fun q1' q2' q3' q4' q5' q6' hI' hm' => ih q1' q2' q3' q4' q5' q6' hI' (by omega))
  exact ⟨_, key _ q1 q2 q3 q4 q5 q6 h (Nat.lt_succ_self _)⟩
def jn7 {A1 A2 A3 A4 A5 A6 A7 : Type} (F : (A1 → A2 → A3 → A4 → A5 → A6 → A7 → Prop) → Prop) (K : A1 → A2 → A3 → A4 → A5 → A6 → A7 → Prop) : Prop := F K
theorem jn7_ex {A1 A2 A3 A4 A5 A6 A7 : Type} {K : A1 → A2 → A3 → A4 → A5 → A6 → A7 → Prop} {F : (A1 → A2 → A3 → A4 → A5 → A6 → A7 → Prop) → Prop} (h : jn7 F K) : ∃ J : A1 → A2 → A3 → A4 → A5 → A6 → A7 → Prop, (∀ (q1 : A1) (q2 : A2) (q3 : A3) (q4 : A4) (q5 : A5) (q6 : A6) (q7 : A7), J q1 q2 q3 q4 q5 q6 q7 → K q1 q2 q3 q4 q5 q6 q7) ∧ F J := ⟨K, fun q1 q2 q3 q4 q5 q6 q7 h => h, h⟩
def lpw7 {A1 A2 A3 A4 A5 A6 A7 : Type} (body : (A1 → A2 → A3 → A4 → A5 → A6 → A7 → Prop) → A1 → A2 → A3 → A4 → A5 → A6 → A7 → Prop) : Nat → A1 → A2 → A3 → A4 → A5 → A6 → A7 → Prop
  | 0 => fun _ _ _ _ _ _ _ => False
  | n + 1 => fun q1 q2 q3 q4 q5 q6 q7 => body (lpw7 body n) q1 q2 q3 q4 q5 q6 q7
theorem lpw7_use {A1 A2 A3 A4 A5 A6 A7 : Type} {body : (A1 → A2 → A3 → A4 → A5 → A6 → A7 → Prop) → A1 → A2 → A3 → A4 → A5 → A6 → A7 → Prop} {q1 : A1} {q2 : A2} {q3 : A3} {q4 : A4} {q5 : A5} {q6 : A6} {q7 : A7} (h : ∃ n, lpw7 body n q1 q2 q3 q4 q5 q6 q7) : ∃ T : Nat → A1 → A2 → A3 → A4 → A5 → A6 → A7 → Prop, (∀ (q1 : A1) (q2 : A2) (q3 : A3) (q4 : A4) (q5 : A5) (q6 : A6) (q7 : A7), ¬ T 0 q1 q2 q3 q4 q5 q6 q7) ∧ (∀ n (q1 : A1) (q2 : A2) (q3 : A3) (q4 : A4) (q5 : A5) (q6 : A6) (q7 : A7), T (n + 1) q1 q2 q3 q4 q5 q6 q7 → body (T n) q1 q2 q3 q4 q5 q6 q7) ∧ ∃ n, T n q1 q2 q3 q4 q5 q6 q7 := ⟨lpw7 body, fun _ _ _ _ _ _ _ h => h, fun _ _ _ _ _ _ _ _ h => h, h⟩
theorem lpw7_rule {A1 A2 A3 A4 A5 A6 A7 : Type} {body : (A1 → A2 → A3 → A4 → A5 → A6 → A7 → Prop) → A1 → A2 → A3 → A4 → A5 → A6 → A7 → Prop} (I : A1 → A2 → A3 → A4 → A5 → A6 → A7 → Prop) (μ : A1 → A2 → A3 → A4 → A5 → A6 → A7 → Nat) (hs : ∀ (B : A1 → A2 → A3 → A4 → A5 → A6 → A7 → Prop) (q1 : A1) (q2 : A2) (q3 : A3) (q4 : A4) (q5 : A5) (q6 : A6) (q7 : A7), I q1 q2 q3 q4 q5 q6 q7 → (∀ (q1' : A1) (q2' : A2) (q3' : A3) (q4' : A4) (q5' : A5) (q6' : A6) (q7' : A7), I q1' q2' q3' q4' q5' q6' q7' → μ q1' q2' q3' q4' q5' q6' q7' < μ q1 q2 q3 q4 q5 q6 q7 → B q1' q2' q3' q4' q5' q6' q7') → body B q1 q2 q3 q4 q5 q6 q7) (q1 : A1) (q2 : A2) (q3 : A3) (q4 : A4) (q5 : A5) (q6 : A6) (q7 : A7) (h : I q1 q2 q3 q4 q5 q6 q7) : ∃ n, lpw7 body n q1 q2 q3 q4 q5 q6 q7 := by
  have key : ∀ n (q1 : A1) (q2 : A2) (q3 : A3) (q4 : A4) (q5 : A5) (q6 : A6) (q7 : A7), I q1 q2 q3 q4 q5 q6 q7 → μ q1 q2 q3 q4 q5 q6 q7 < n → lpw7 body n q1 q2 q3 q4 q5 q6 q7 := by
    intro n
    induction n with
    | zero => intro q1 q2 q3 q4 q5 q6 q7 _ h; exact absurd h (Nat.not_lt_zero _)
    | succ n ih => intro q1 q2 q3 q4 q5 q6 q7 hI hm; exact hs _ q1 q2 q3 q4 q5 q6 q7 hI (fun q1' q2' q3' q4' q5' q6' q7' hI' hm' => ih q1' q2' q3' q4' q5' q6' q7' hI' (by omega))
  exact ⟨_, key _ q1 q2 q3 q4 q5 q6 q7 h (Nat.lt_succ_self _)⟩
def jn8 {A1 A2 A3 A4 A5 A6 A7 A8 : Type} (F : (A1 → A2 → A3 → A4 → A5 → A6 → A7 → A8 → Prop) → Prop) (K : A1 → A2 → A3 → A4 → A5 → A6 → A7 → A8 → Prop) : Prop := F K
theorem jn8_ex {A1 A2 A3 A4 A5 A6 A7 A8 : Type} {K : A1 → A2 → A3 → A4 → A5 → A6 → A7 → A8 → Prop} {F : (A1 → A2 → A3 → A4 → A5 → A6 → A7 → A8 → Prop) → Prop} (h : jn8 F K) : ∃ J : A1 → A2 → A3 → A4 → A5 → A6 → A7 → A8 → Prop, (∀ (q1 : A1) (q2 : A2) (q3 : A3) (q4 : A4) (q5 : A5) (q6 : A6) (q7 : A7) (q8 : A8), J q1 q2 q3 q4 q5 q6 q7 q8 → K q1 q2 q3 q4 q5 q6 q7 q8) ∧ F J := ⟨K, fun q1 q2 q3 q4 q5 q6 q7 q8 h => h, h⟩
def lpw8 {A1 A2 A3 A4 A5 A6 A7 A8 : Type} (body : (A1 → A2 → A3 → A4 → A5 → A6 → A7 → A8 → Prop) → A1 → A2 → A3 → A4 → A5 → A6 → A7 → A8 → Prop) : Nat → A1 → A2 → A3 → A4 → A5 → A6 → A7 → A8 → Prop
  | 0 => fun _ _ _ _ _ _ _ _ => False
  | n + 1 => fun q1 q2 q3 q4 q5 q6 q7 q8 => body (lpw8 body n) q1 q2 q3 q4 q5 q6 q7 q8
theorem lpw8_use {A1 A2 A3 A4 A5 A6 A7 A8 : Type} {body : (A1 → A2 → A3 → A4 → A5 → A6 → A7 → A8 → Prop) → A1 → A2 → A3 → A4 → A5 → A6 → A7 → A8 → Prop} {q1 : A1} {q2 : A2} {q3 : A3} {q4 : A4} {q5 : A5} {q6 : A6} {q7 : A7} {q8 : A8} (h : ∃ n, lpw8 body n q1 q2 q3 q4 q5 q6 q7 q8) : ∃ T : Nat → A1 → A2 → A3 → A4 → A5 → A6 → A7 → A8 → Prop, (∀ (q1 : A1) (q2 : A2) (q3 : A3) (q4 : A4) (q5 : A5) (q6 : A6) (q7 : A7) (q8 : A8), ¬ T 0 q1 q2 q3 q4 q5 q6 q7 q8) ∧ (∀ n (q1 : A1) (q2 : A2) (q3 : A3) (q4 : A4) (q5 : A5) (q6 : A6) (q7 : A7) (q8 : A8), T (n + 1) q1 q2 q3 q4 q5 q6 q7 q8 → body (T n) q1 q2 q3 q4 q5 q6 q7 q8) ∧ ∃ n, T n q1 q2 q3 q4 q5 q6 q7 q8 := ⟨lpw8 body, fun _ _ _ _ _ _ _ _ h => h, fun _ _ _ _ _ _ _ _ _ h => h, h⟩
theorem lpw8_rule {A1 A2 A3 A4 A5 A6 A7 A8 : Type} {body : (A1 → A2 → A3 → A4 → A5 → A6 → A7 → A8 → Prop) → A1 → A2 → A3 → A4 → A5 → A6 → A7 → A8 → Prop} (I : A1 → A2 → A3 → A4 → A5 → A6 → A7 → A8 → Prop) (μ : A1 → A2 → A3 → A4 → A5 → A6 → A7 → A8 → Nat) (hs : ∀ (B : A1 → A2 → A3 → A4 → A5 → A6 → A7 → A8 → Prop) (q1 : A1) (q2 : A2) (q3 : A3) (q4 : A4) (q5 : A5) (q6 : A6) (q7 : A7) (q8 : A8), I q1 q2 q3 q4 q5 q6 q7 q8 → (∀ (q1' : A1) (q2' : A2) (q3' : A3) (q4' : A4) (q5' : A5) (q6' : A6) (q7' : A7) (q8' : A8), I q1' q2' q3' q4' q5' q6' q7' q8' → μ q1' q2' q3' q4' q5' q6' q7' q8' < μ q1 q2 q3 q4 q5 q6 q7 q8 → B q1' q2' q3' q4' q5' q6' q7' q8') → body B q1 q2 q3 q4 q5 q6 q7 q8) (q1 : A1) (q2 : A2) (q3 : A3) (q4 : A4) (q5 : A5) (q6 : A6) (q7 : A7) (q8 : A8) (h : I q1 q2 q3 q4 q5 q6 q7 q8) : ∃ n, lpw8 body n q1 q2 q3 q4 q5 q6 q7 q8 := by
  have key : ∀ n (q1 : A1) (q2 : A2) (q3 : A3) (q4 : A4) (q5 : A5) (q6 : A6) (q7 : A7) (q8 : A8), I q1 q2 q3 q4 q5 q6 q7 q8 → μ q1 q2 q3 q4 q5 q6 q7 q8 < n → lpw8 body n q1 q2 q3 q4 q5 q6 q7 q8 := by
    intro n
    induction n with
    | zero => intro q1 q2 q3 q4 q5 q6 q7 q8 _ h; exact absurd h (Nat.not_lt_zero _)
    | succ n ih => intro q1 q2 q3 q4 q5 q6 q7 q8 hI hm; exact hs _ q1 q2 q3 q4 q5 q6 q7 q8 hI (fun q1' q2' q3' q4' q5' q6' q7' q8' hI' hm' => ih q1' q2' q3' q4' q5' q6' q7' q8' hI' (by omega))
  exact ⟨_, key _ q1 q2 q3 q4 q5 q6 q7 q8 h (Nat.lt_succ_self _)⟩
def jn9 {A1 A2 A3 A4 A5 A6 A7 A8 A9 : Type} (F : (A1 → A2 → A3 → A4 → A5 → A6 → A7 → A8 → A9 → Prop) → Prop) (K : A1 → A2 → A3 → A4 → A5 → A6 → A7 → A8 → A9 → Prop) : Prop := F K
theorem jn9_ex {A1 A2 A3 A4 A5 A6 A7 A8 A9 : Type} {K : A1 → A2 → A3 → A4 → A5 → A6 → A7 → A8 → A9 → Prop} {F : (A1 → A2 → A3 → A4 → A5 → A6 → A7 → A8 → A9 → Prop) → Prop} (h : jn9 F K) : ∃ J : A1 → A2 → A3 → A4 → A5 → A6 → A7 → A8 → A9 → Prop, (∀ (q1 : A1) (q2 : A2) (q3 : A3) (q4 : A4) (q5 : A5) (q6 : A6) (q7 : A7) (q8 : A8) (q9 : A9), J q1 q2 q3 q4 q5 q6 q7 q8 q9 → K q1 q2 q3 q4 q5 q6 q7 q8 q9) ∧ F J := ⟨K, fun q1 q2 q3 q4 q5 q6 q7 q8 q9 h => h, h⟩
def lpw9 {A1 A2 A3 A4 A5 A6 A7 A8 A9 : Type} (body : (A1 → A2 → A3 → A4 → A5 → A6 → A7 → A8 → A9 → Prop) → A1 → A2 → A3 → A4 → A5 → A6 → A7 → A8 → A9 → Prop) : Nat → A1 → A2 → A3 → A4 → A5 → A6 → A7 → A8 → A9 → Prop
  | 0 => fun _ _ _ _ _ _ _ _ _ => False
  | n + 1 => fun q1 q2 q3 q4 q5 q6 q7 q8 q9 => body (lpw9 body n) q1 q2 q3 q4 q5 q6 q7 q8 q9
theorem lpw9_use {A1 A2 A3 A4 A5 A6 A7 A8 A9 : Type} {body : (A1 → A2 → A3 → A4 → A5 → A6 → A7 → A8 → A9 → Prop) → A1 → A2 → A3 → A4 → A5 → A6 → A7 → A8 → A9 → Prop} {q1 : A1} {q2 : A2} {q3 : A3} {q4 : A4} {q5 : A5} {q6 : A6} {q7 : A7} {q8 : A8} {q9 : A9} (h : ∃ n, lpw9 body n q1 q2 q3 q4 q5 q6 q7 q8 q9) : ∃ T : Nat → A1 → A2 → A3 → A4 → A5 → A6 → A7 → A8 → A9 → Prop, (∀ (q1 : A1) (q2 : A2) (q3 : A3) (q4 : A4) (q5 : A5) (q6 : A6) (q7 : A7) (q8 : A8) (q9 : A9), ¬ T 0 q1 q2 q3 q4 q5 q6 q7 q8 q9) ∧ (∀ n (q1 : A1) (q2 : A2) (q3 : A3) (q4 : A4) (q5 : A5) (q6 : A6) (q7 : A7) (q8 : A8) (q9 : A9), T (n + 1) q1 q2 q3 q4 q5 q6 q7 q8 q9 → body (T n) q1 q2 q3 q4 q5 q6 q7 q8 q9) ∧ ∃ n, T n q1 q2 q3 q4 q5 q6 q7 q8 q9 := ⟨lpw9 body, fun _ _ _ _ _ _ _ _ _ h => h, fun _ _ _ _ _ _ _ _ _ _ h => h, h⟩
theorem lpw9_rule {A1 A2 A3 A4 A5 A6 A7 A8 A9 : Type} {body : (A1 → A2 → A3 → A4 → A5 → A6 → A7 → A8 → A9 → Prop) → A1 → A2 → A3 → A4 → A5 → A6 → A7 → A8 → A9 → Prop} (I : A1 → A2 → A3 → A4 → A5 → A6 → A7 → A8 → A9 → Prop) (μ : A1 → A2 → A3 → A4 → A5 → A6 → A7 → A8 → A9 → Nat) (hs : ∀ (B : A1 → A2 → A3 → A4 → A5 → A6 → A7 → A8 → A9 → Prop) (q1 : A1) (q2 : A2) (q3 : A3) (q4 : A4) (q5 : A5) (q6 : A6) (q7 : A7) (q8 : A8) (q9 : A9), I q1 q2 q3 q4 q5 q6 q7 q8 q9 → (∀ (q1' : A1) (q2' : A2) (q3' : A3) (q4' : A4) (q5' : A5) (q6' : A6) (q7' : A7) (q8' : A8) (q9' : A9), I q1' q2' q3' q4' q5' q6' q7' q8' q9' → μ q1' q2' q3' q4' q5' q6' q7' q8' q9' < μ q1 q2 q3 q4 q5 q6 q7 q8 q9 → B q1' q2' q3' q4' q5' q6' q7' q8' q9') → body B q1 q2 q3 q4 q5 q6 q7 q8 q9) (q1 : A1) (q2 : A2) (q3 : A3) (q4 : A4) (q5 : A5) (q6 : A6) (q7 : A7) (q8 : A8) (q9 : A9) (h : I q1 q2 q3 q4 q5 q6 q7 q8 q9) : ∃ n, lpw9 body n q1 q2 q3 q4 q5 q6 q7 q8 q9 := by
  have key : ∀ n (q1 : A1) (q2 : A2) (q3 : A3) (q4 : A4) (q5 : A5) (q6 : A6) (q7 : A7) (q8 : A8) (q9 : A9), I q1 q2 q3 q4 q5 q6 q7 q8 q9 → μ q1 q2 q3 q4 q5 q6 q7 q8 q9 < n → lpw9 body n q1 q2 q3 q4 q5 q6 q7 q8 q9 := by
    intro n
    induction n with
    | zero => intro q1 q2 q3 q4 q5 q6 q7 q8 q9 _ h; exact absurd h (Nat.not_lt_zero _)
    | succ n ih => intro q1 q2 q3 q4 q5 q6 q7 q8 q9 hI hm; exact hs _ q1 q2 q3 q4 q5 q6 q7 q8 q9 hI (fun q1' q2' q3' q4' q5' q6' q7' q8' q9' hI' hm' => ih q1' q2' q3' q4' q5' q6' q7' q8' q9' hI' (by omega))
  exact ⟨_, key _ q1 q2 q3 q4 q5 q6 q7 q8 q9 h (Nat.lt_succ_self _)⟩
def jn10 {A1 A2 A3 A4 A5 A6 A7 A8 A9 A10 : Type} (F : (A1 → A2 → A3 → A4 → A5 → A6 → A7 → A8 → A9 → A10 → Prop) → Prop) (K : A1 → A2 → A3 → A4 → A5 → A6 → A7 → A8 → A9 → A10 → Prop) : Prop := F K
theorem jn10_ex {A1 A2 A3 A4 A5 A6 A7 A8 A9 A10 : Type} {K : A1 → A2 → A3 → A4 → A5 → A6 → A7 → A8 → A9 → A10 → Prop} {F : (A1 → A2 → A3 → A4 → A5 → A6 → A7 → A8 → A9 → A10 → Prop) → Prop} (h : jn10 F K) : ∃ J : A1 → A2 → A3 → A4 → A5 → A6 → A7 → A8 → A9 → A10 → Prop, (∀ (q1 : A1) (q2 : A2) (q3 : A3) (q4 : A4) (q5 : A5) (q6 : A6) (q7 : A7) (q8 : A8) (q9 : A9) (q10 : A10), J q1 q2 q3 q4 q5 q6 q7 q8 q9 q10 → K q1 q2 q3 q4 q5 q6 q7 q8 q9 q10) ∧ F J := ⟨K, fun q1 q2 q3 q4 q5 q6 q7 q8 q9 q10 h => h, h⟩
def lpw10 {A1 A2 A3 A4 A5 A6 A7 A8 A9 A10 : Type} (body : (A1 → A2 → A3 → A4 → A5 → A6 → A7 → A8 → A9 → A10 → Prop) → A1 → A2 → A3 → A4 → A5 → A6 → A7 → A8 → A9 → A10 → Prop) : Nat → A1 → A2 → A3 → A4 → A5 → A6 → A7 → A8 → A9 → A10 → Prop
  | 0 => fun _ _ _ _ _ _ _ _ _ _ => False
  | n + 1 => fun q1 q2 q3 q4 q5 q6 q7 q8 q9 q10 => body (lpw10 body n) q1 q2 q3 q4 q5 q6 q7 q8 q9 q10
theorem lpw10_use {A1 A2 A3 A4 A5 A6 A7 A8 A9 A10 : Type} {body : (A1 → A2 → A3 → A4 → A5 → A6 → A7 → A8 → A9 → A10 → Prop) → A1 → A2 → A3 → A4 → A5 → A6 → A7 → A8 → A9 → A10 → Prop} {q1 : A1} {q2 : A2} {q3 : A3} {q4 : A4} {q5 : A5} {q6 : A6} {q7 : A7} {q8 : A8} {q9 : A9} {q10 : A10} (h : ∃ n, lpw10 body n q1 q2 q3 q4 q5 q6 q7 q8 q9 q10) : ∃ T : Nat → A1 → A2 → A3 → A4 → A5 → A6 → A7 → A8 → A9 → A10 → Prop, (∀ (q1 : A1) (q2 : A2) (q3 : A3) (q4 : A4) (q5 : A5) (q6 : A6) (q7 : A7) (q8 : A8) (q9 : A9) (q10 : A10), ¬ T 0 q1 q2 q3 q4 q5 q6 q7 q8 q9 q10) ∧ (∀ n (q1 : A1) (q2 : A2) (q3 : A3) (q4 : A4) (q5 : A5) (q6 : A6) (q7 : A7) (q8 : A8) (q9 : A9) (q10 : A10), T (n + 1) q1 q2 q3 q4 q5 q6 q7 q8 q9 q10 → body (T n) q1 q2 q3 q4 q5 q6 q7 q8 q9 q10) ∧ ∃ n, T n q1 q2 q3 q4 q5 q6 q7 q8 q9 q10 := ⟨lpw10 body, fun _ _ _ _ _ _ _ _ _ _ h => h, fun _ _ _ _ _ _ _ _ _ _ _ h => h, h⟩
theorem lpw10_rule {A1 A2 A3 A4 A5 A6 A7 A8 A9 A10 : Type} {body : (A1 → A2 → A3 → A4 → A5 → A6 → A7 → A8 → A9 → A10 → Prop) → A1 → A2 → A3 → A4 → A5 → A6 → A7 → A8 → A9 → A10 → Prop} (I : A1 → A2 → A3 → A4 → A5 → A6 → A7 → A8 → A9 → A10 → Prop) (μ : A1 → A2 → A3 → A4 → A5 → A6 → A7 → A8 → A9 → A10 → Nat) (hs : ∀ (B : A1 → A2 → A3 → A4 → A5 → A6 → A7 → A8 → A9 → A10 → Prop) (q1 : A1) (q2 : A2) (q3 : A3) (q4 : A4) (q5 : A5) (q6 : A6) (q7 : A7) (q8 : A8) (q9 : A9) (q10 : A10), I q1 q2 q3 q4 q5 q6 q7 q8 q9 q10 → (∀ (q1' : A1) (q2' : A2) (q3' : A3) (q4' : A4) (q5' : A5) (q6' : A6) (q7' : A7) (q8' : A8) (q9' : A9) (q10' : A10), I q1' q2' q3' q4' q5' q6' q7' q8' q9' q10' → μ q1' q2' q3' q4' q5' q6' q7' q8' q9' q10' < μ q1 q2 q3 q4 q5 q6 q7 q8 q9 q10 → B q1' q2' q3' q4' q5' q6' q7' q8' q9' q10') → body B q1 q2 q3 q4 q5 q6 q7 q8 q9 q10) (q1 : A1) (q2 : A2) (q3 : A3) (q4 : A4) (q5 : A5) (q6 : A6) (q7 : A7) (q8 : A8) (q9 : A9) (q10 : A10) (h : I q1 q2 q3 q4 q5 q6 q7 q8 q9 q10) : ∃ n, lpw10 body n q1 q2 q3 q4 q5 q6 q7 q8 q9 q10 := by
  have key : ∀ n (q1 : A1) (q2 : A2) (q3 : A3) (q4 : A4) (q5 : A5) (q6 : A6) (q7 : A7) (q8 : A8) (q9 : A9) (q10 : A10), I q1 q2 q3 q4 q5 q6 q7 q8 q9 q10 → μ q1 q2 q3 q4 q5 q6 q7 q8 q9 q10 < n → lpw10 body n q1 q2 q3 q4 q5 q6 q7 q8 q9 q10 := by
    intro n
    induction n with
    | zero => intro q1 q2 q3 q4 q5 q6 q7 q8 q9 q10 _ h; exact absurd h (Nat.not_lt_zero _)
    | succ n ih => intro q1 q2 q3 q4 q5 q6 q7 q8 q9 q10 hI hm; exact hs _ q1 q2 q3 q4 q5 q6 q7 q8 q9 q10 hI (fun q1' q2' q3' q4' q5' q6' q7' q8' q9' q10' hI' hm' => ih q1' q2' q3' q4' q5' q6' q7' q8' q9' q10' hI' (by omega))
  exact ⟨_, key _ q1 q2 q3 q4 q5 q6 q7 q8 q9 q10 h (Nat.lt_succ_self _)⟩
def jn11 {A1 A2 A3 A4 A5 A6 A7 A8 A9 A10 A11 : Type} (F : (A1 → A2 → A3 → A4 → A5 → A6 → A7 → A8 → A9 → A10 → A11 → Prop) → Prop) (K : A1 → A2 → A3 → A4 → A5 → A6 → A7 → A8 → A9 → A10 → A11 → Prop) : Prop := F K
theorem jn11_ex {A1 A2 A3 A4 A5 A6 A7 A8 A9 A10 A11 : Type} {K : A1 → A2 → A3 → A4 → A5 → A6 → A7 → A8 → A9 → A10 → A11 → Prop} {F : (A1 → A2 → A3 → A4 → A5 → A6 → A7 → A8 → A9 → A10 → A11 → Prop) → Prop} (h : jn11 F K) : ∃ J : A1 → A2 → A3 → A4 → A5 → A6 → A7 → A8 → A9 → A10 → A11 → Prop, (∀ (q1 : A1) (q2 : A2) (q3 : A3) (q4 : A4) (q5 : A5) (q6 : A6) (q7 : A7) (q8 : A8) (q9 : A9) (q10 : A10) (q11 : A11), J q1 q2 q3 q4 q5 q6 q7 q8 q9 q10 q11 → K q1 q2 q3 q4 q5 q6 q7 q8 q9 q10 q11) ∧ F J := ⟨K, fun q1 q2 q3 q4 q5 q6 q7 q8 q9 q10 q11 h => h, h⟩
def lpw11 {A1 A2 A3 A4 A5 A6 A7 A8 A9 A10 A11 : Type} (body : (A1 → A2 → A3 → A4 → A5 → A6 → A7 → A8 → A9 → A10 → A11 → Prop) → A1 → A2 → A3 → A4 → A5 → A6 → A7 → A8 → A9 → A10 → A11 → Prop) : Nat → A1 → A2 → A3 → A4 → A5 → A6 → A7 → A8 → A9 → A10 → A11 → Prop
  | 0 => fun _ _ _ _ _ _ _ _ _ _ _ => False
  | n + 1 => fun q1 q2 q3 q4 q5 q6 q7 q8 q9 q10 q11 => body (lpw11 body n) q1 q2 q3 q4 q5 q6 q7 q8 q9 q10 q11
theorem lpw11_use {A1 A2 A3 A4 A5 A6 A7 A8 A9 A10 A11 : Type} {body : (A1 → A2 → A3 → A4 → A5 → A6 → A7 → A8 → A9 → A10 → A11 → Prop) → A1 → A2 → A3 → A4 → A5 → A6 → A7 → A8 → A9 → A10 → A11 → Prop} {q1 : A1} {q2 : A2} {q3 : A3} {q4 : A4} {q5 : A5} {q6 : A6} {q7 : A7} {q8 : A8} {q9 : A9} {q10 : A10} {q11 : A11} (h : ∃ n, lpw11 body n q1 q2 q3 q4 q5 q6 q7 q8 q9 q10 q11) : ∃ T : Nat → A1 → A2 → A3 → A4 → A5 → A6 → A7 → A8 → A9 → A10 → A11 → Prop, (∀ (q1 : A1) (q2 : A2) (q3 : A3) (q4 : A4) (q5 : A5) (q6 : A6) (q7 : A7) (q8 : A8) (q9 : A9) (q10 : A10) (q11 : A11), ¬ T 0 q1 q2 q3 q4 q5 q6 q7 q8 q9 q10 q11) ∧ (∀ n (q1 : A1) (q2 : A2) (q3 : A3) (q4 : A4) (q5 : A5) (q6 : A6) (q7 : A7) (q8 : A8) (q9 : A9) (q10 : A10) (q11 : A11), T (n + 1) q1 q2 q3 q4 q5 q6 q7 q8 q9 q10 q11 → body (T n) q1 q2 q3 q4 q5 q6 q7 q8 q9 q10 q11) ∧ ∃ n, T n q1 q2 q3 q4 q5 q6 q7 q8 q9 q10 q11 := ⟨lpw11 body, fun _ _ _ _ _ _ _ _ _ _ _ h => h, fun _ _ _ _ _ _ _ _ _ _ _ _ h => h, h⟩
theorem lpw11_rule {A1 A2 A3 A4 A5 A6 A7 A8 A9 A10 A11 : Type} {body : (A1 → A2 → A3 → A4 → A5 → A6 → A7 → A8 → A9 → A10 → A11 → Prop) → A1 → A2 → A3 → A4 → A5 → A6 → A7 → A8 → A9 → A10 → A11 → Prop} (I : A1 → A2 → A3 → A4 → A5 → A6 → A7 → A8 → A9 → A10 → A11 → Prop) (μ : A1 → A2 → A3 → A4 → A5 → A6 → A7 → A8 → A9 → A10 → A11 → Nat) (hs : ∀ (B : A1 → A2 → A3 → A4 → A5 → A6 → A7 → A8 → A9 → A10 → A11 → Prop) (q1 : A1) (q2 : A2) (q3 : A3) (q4 : A4) (q5 : A5) (q6 : A6) (q7 : A7) (q8 : A8) (q9 : A9) (q10 : A10) (q11 : A11), I q1 q2 q3 q4 q5 q6 q7 q8 q9 q10 q11 → (∀ (q1' : A1) (q2' : A2) (q3' : A3) (q4' : A4) (q5' : A5) (q6' : A6) (q7' : A7) (q8' : A8) (q9' : A9) (q10' : A10) (q11' : A11), I q1' q2' q3' q4' q5' q6' q7' q8' q9' q10' q11' → μ q1' q2' q3' q4' q5' q6' q7' q8' q9' q10' q11' < μ q1 q2 q3 q4 q5 q6 q7 q8 q9 q10 q11 → B q1' q2' q3' q4' q5' q6' q7' q8' q9' q10' q11') → body B q1 q2 q3 q4 q5 q6 q7 q8 q9 q10 q11) (q1 : A1) (q2 : A2) (q3 : A3) (q4 : A4) (q5 : A5) (q6 : A6) (q7 : A7) (q8 : A8) (q9 : A9) (q10 : A10) (q11 : A11) (h : I q1 q2 q3 q4 q5 q6 q7 q8 q9 q10 q11) : ∃ n, lpw11 body n q1 q2 q3 q4 q5 q6 q7 q8 q9 q10 q11 := by
  have key : ∀ n (q1 : A1) (q2 : A2) (q3 : A3) (q4 : A4) (q5 : A5) (q6 : A6) (q7 : A7) (q8 : A8) (q9 : A9) (q10 : A10) (q11 : A11), I q1 q2 q3 q4 q5 q6 q7 q8 q9 q10 q11 → μ q1 q2 q3 q4 q5 q6 q7 q8 q9 q10 q11 < n → lpw11 body n q1 q2 q3 q4 q5 q6 q7 q8 q9 q10 q11 := by
    intro n
    induction n with
    | zero => intro q1 q2 q3 q4 q5 q6 q7 q8 q9 q10 q11 _ h; exact absurd h (Nat.not_lt_zero _)
    | succ n ih => intro q1 q2 q3 q4 q5 q6 q7 q8 q9 q10 q11 hI hm; exact hs _ q1 q2 q3 q4 q5 q6 q7 q8 q9 q10 q11 hI (fun q1' q2' q3' q4' q5' q6' q7' q8' q9' q10' q11' hI' hm' => ih q1' q2' q3' q4' q5' q6' q7' q8' q9' q10' q11' hI' (by omega))
  exact ⟨_, key _ q1 q2 q3 q4 q5 q6 q7 q8 q9 q10 q11 h (Nat.lt_succ_self _)⟩
def jn12 {A1 A2 A3 A4 A5 A6 A7 A8 A9 A10 A11 A12 : Type} (F : (A1 → A2 → A3 → A4 → A5 → A6 → A7 → A8 → A9 → A10 → A11 → A12 → Prop) → Prop) (K : A1 → A2 → A3 → A4 → A5 → A6 → A7 → A8 → A9 → A10 → A11 → A12 → Prop) : Prop := F K
theorem jn12_ex {A1 A2 A3 A4 A5 A6 A7 A8 A9 A10 A11 A12 : Type} {K : A1 → A2 → A3 → A4 → A5 → A6 → A7 → A8 → A9 → A10 → A11 → A12 → Prop} {F : (A1 → A2 → A3 → A4 → A5 → A6 → A7 → A8 → A9 → A10 → A11 → A12 → Prop) → Prop} (h : jn12 F K) : ∃ J : A1 → A2 → A3 → A4 → A5 → A6 → A7 → A8 → A9 → A10 → A11 → A12 → Prop, (∀ (q1 : A1) (q2 : A2) (q3 : A3) (q4 : A4) (q5 : A5) (q6 : A6) (q7 : A7) (q8 : A8) (q9 : A9) (q10 : A10) (q11 : A11) (q12 : A12), J q1 q2 q3 q4 q5 q6 q7 q8 q9 q10 q11 q12 → K q1 q2 q3 q4 q5 q6 q7 q8 q9 q10 q11 q12) ∧ F J := ⟨K, fun q1 q2 q3 q4 q5 q6 q7 q8 q9 q10 q11 q12 h => h, h⟩
def lpw12 {A1 A2 A3 A4 A5 A6 A7 A8 A9 A10 A11 A12 : Type} (body : (A1 → A2 → A3 → A4 → A5 → A6 → A7 → A8 → A9 → A10 → A11 → A12 → Prop) → A1 → A2 → A3 → A4 → A5 → A6 → A7 → A8 → A9 → A10 → A11 → A12 → Prop) : Nat → A1 → A2 → A3 → A4 → A5 → A6 → A7 → A8 → A9 → A10 → A11 → A12 → Prop
  | 0 => fun _ _ _ _ _ _ _ _ _ _ _ _ => False
  | n + 1 => fun q1 q2 q3 q4 q5 q6 q7 q8 q9 q10 q11 q12 => body (lpw12 body n) q1 q2 q3 q4 q5 q6 q7 q8 q9 q10 q11 q12
theorem lpw12_use {A1 A2 A3 A4 A5 A6 A7 A8 A9 A10 A11 A12 : Type} {body : (A1 → A2 → A3 → A4 → A5 → A6 → A7 → A8 → A9 → A10 → A11 → A12 → Prop) → A1 → A2 → A3 → A4 → A5 → A6 → A7 → A8 → A9 → A10 → A11 → A12 → Prop} {q1 : A1} {q2 : A2} {q3 : A3} {q4 : A4} {q5 : A5} {q6 : A6} {q7 : A7} {q8 : A8} {q9 : A9} {q10 : A10} {q11 : A11} {q12 : A12} (h : ∃ n, lpw12 body n q1 q2 q3 q4 q5 q6 q7 q8 q9 q10 q11 q12) : ∃ T : Nat → A1 → A2 → A3 → A4 → A5 → A6 → A7 → A8 → A9 → A10 → A11 → A12 → Prop, (∀ (q1 : A1) (q2 : A2) (q3 : A3) (q4 : A4) (q5 : A5) (q6 : A6) (q7 : A7) (q8 : A8) (q9 : A9) (q10 : A10) (q11 : A11) (q12 : A12), ¬ T 0 q1 q2 q3 q4 q5 q6 q7 q8 q9 q10 q11 q12) ∧ (∀ n (q1 : A1) (q2 : A2) (q3 : A3) (q4 : A4) (q5 : A5) (q6 : A6) (q7 : A7) (q8 : A8) (q9 : A9) (q10 : A10) (q11 : A11) (q12 : A12), T (n + 1) q1 q2 q3 q4 q5 q6 q7 q8 q9 q10 q11 q12 → body (T n) q1 q2 q3 q4 q5 q6 q7 q8 q9 q10 q11 q12) ∧ ∃ n, T n q1 q2 q3 q4 q5 q6 q7 q8 q9 q10 q11 q12 := ⟨lpw12 body, fun _ _ _ _ _ _ _ _ _ _ _ _ h => h, fun _ _ _ _ _ _ _ _ _ _ _ _ _ h => h, h⟩
theorem lpw12_rule {A1 A2 A3 A4 A5 A6 A7 A8 A9 A10 A11 A12 : Type} {body : (A1 → A2 → A3 → A4 → A5 → A6 → A7 → A8 → A9 → A10 → A11 → A12 → Prop) → A1 → A2 → A3 → A4 → A5 → A6 → A7 → A8 → A9 → A10 → A11 → A12 → Prop} (I : A1 → A2 → A3 → A4 → A5 → A6 → A7 → A8 → A9 → A10 → A11 → A12 → Prop) (μ : A1 → A2 → A3 → A4 → A5 → A6 → A7 → A8 → A9 → A10 → A11 → A12 → Nat) (hs : ∀ (B : A1 → A2 → A3 → A4 → A5 → A6 → A7 → A8 → A9 → A10 → A11 → A12 → Prop) (q1 : A1) (q2 : A2) (q3 : A3) (q4 : A4) (q5 : A5) (q6 : A6) (q7 : A7) (q8 : A8) (q9 : A9) (q10 : A10) (q11 : A11) (q12 : A12), I q1 q2 q3 q4 q5 q6 q7 q8 q9 q10 q11 q12 → (∀ (q1' : A1) (q2' : A2) (q3' : A3) (q4' : A4) (q5' : A5) (q6' : A6) (q7' : A7) (q8' : A8) (q9' : A9) (q10' : A10) (q11' : A11) (q12' : A12), I q1' q2' q3' q4' q5' q6' q7' q8' q9' q10' q11' q12' → μ q1' q2' q3' q4' q5' q6' q7' q8' q9' q10' q11' q12' < μ q1 q2 q3 q4 q5 q6 q7 q8 q9 q10 q11 q12 → B q1' q2' q3' q4' q5' q6' q7' q8' q9' q10' q11' q12') → body B q1 q2 q3 q4 q5 q6 q7 q8 q9 q10 q11 q12) (q1 : A1) (q2 : A2) (q3 : A3) (q4 : A4) (q5 : A5) (q6 : A6) (q7 : A7) (q8 : A8) (q9 : A9) (q10 : A10) (q11 : A11) (q12 : A12) (h : I q1 q2 q3 q4 q5 q6 q7 q8 q9 q10 q11 q12) : ∃ n, lpw12 body n q1 q2 q3 q4 q5 q6 q7 q8 q9 q10 q11 q12 := by
  have key : ∀ n (q1 : A1) (q2 : A2) (q3 : A3) (q4 : A4) (q5 : A5) (q6 : A6) (q7 : A7) (q8 : A8) (q9 : A9) (q10 : A10) (q11 : A11) (q12 : A12), I q1 q2 q3 q4 q5 q6 q7 q8 q9 q10 q11 q12 → μ q1 q2 q3 q4 q5 q6 q7 q8 q9 q10 q11 q12 < n → lpw12 body n q1 q2 q3 q4 q5 q6 q7 q8 q9 q10 q11 q12 := by
    intro n
    induction n with
    | zero => intro q1 q2 q3 q4 q5 q6 q7 q8 q9 q10 q11 q12 _ h; exact absurd h (Nat.not_lt_zero _)
    | succ n ih => intro q1 q2 q3 q4 q5 q6 q7 q8 q9 q10 q11 q12 hI hm; exact hs _ q1 q2 q3 q4 q5 q6 q7 q8 q9 q10 q11 q12 hI (fun q1' q2' q3' q4' q5' q6' q7' q8' q9' q10' q11' q12' hI' hm' => ih q1' q2' q3' q4' q5' q6' q7' q8' q9' q10' q11' q12' hI' (by omega))
  exact ⟨_, key _ q1 q2 q3 q4 q5 q6 q7 q8 q9 q10 q11 q12 h (Nat.lt_succ_self _)⟩
def jn13 {A1 A2 A3 A4 A5 A6 A7 A8 A9 A10 A11 A12 A13 : Type} (F : (A1 → A2 → A3 → A4 → A5 → A6 → A7 → A8 → A9 → A10 → A11 → A12 → A13 → Prop) → Prop) (K : A1 → A2 → A3 → A4 → A5 → A6 → A7 → A8 → A9 → A10 → A11 → A12 → A13 → Prop) : Prop := F K
theorem jn13_ex {A1 A2 A3 A4 A5 A6 A7 A8 A9 A10 A11 A12 A13 : Type} {K : A1 → A2 → A3 → A4 → A5 → A6 → A7 → A8 → A9 → A10 → A11 → A12 → A13 → Prop} {F : (A1 → A2 → A3 → A4 → A5 → A6 → A7 → A8 → A9 → A10 → A11 → A12 → A13 → Prop) → Prop} (h : jn13 F K) : ∃ J : A1 → A2 → A3 → A4 → A5 → A6 → A7 → A8 → A9 → A10 → A11 → A12 → A13 → Prop, (∀ (q1 : A1) (q2 : A2) (q3 : A3) (q4 : A4) (q5 : A5) (q6 : A6) (q7 : A7) (q8 : A8) (q9 : A9) (q10 : A10) (q11 : A11) (q12 : A12) (q13 : A13), J q1 q2 q3 q4 q5 q6 q7 q8 q9 q10 q11 q12 q13 → K q1 q2 q3 q4 q5 q6 q7 q8 q9 q10 q11 q12 q13) ∧ F J := ⟨K, fun q1 q2 q3 q4 q5 q6 q7 q8 q9 q10 q11 q12 q13 h => h, h⟩
def lpw13 {A1 A2 A3 A4 A5 A6 A7 A8 A9 A10 A11 A12 A13 : Type} (body : (A1 → A2 → A3 → A4 → A5 → A6 → A7 → A8 → A9 → A10 → A11 → A12 → A13 → Prop) → A1 → A2 → A3 → A4 → A5 → A6 → A7 → A8 → A9 → A10 → A11 → A12 → A13 → Prop) : Nat → A1 → A2 → A3 → A4 → A5 → A6 → A7 → A8 → A9 → A10 → A11 → A12 → A13 → Prop
  | 0 => fun _ _ _ _ _ _ _ _ _ _ _ _ _ => False
  | n + 1 => fun q1 q2 q3 q4 q5 q6 q7 q8 q9 q10 q11 q12 q13 => body (lpw13 body n) q1 q2 q3 q4 q5 q6 q7 q8 q9 q10 q11 q12 q13
theorem lpw13_use {A1 A2 A3 A4 A5 A6 A7 A8 A9 A10 A11 A12 A13 : Type} {body : (A1 → A2 → A3 → A4 → A5 → A6 → A7 → A8 → A9 → A10 → A11 → A12 → A13 → Prop) → A1 → A2 → A3 → A4 → A5 → A6 → A7 → A8 → A9 → A10 → A11 → A12 → A13 → Prop} {q1 : A1} {q2 : A2} {q3 : A3} {q4 : A4} {q5 : A5} {q6 : A6} {q7 : A7} {q8 : A8} {q9 : A9} {q10 : A10} {q11 : A11} {q12 : A12} {q13 : A13} (h : ∃ n, lpw13 body n q1 q2 q3 q4 q5 q6 q7 q8 q9 q10 q11 q12 q13) : ∃ T : Nat → A1 → A2 → A3 → A4 → A5 → A6 → A7 → A8 → A9 → A10 → A11 → A12 → A13 → Prop, (∀ (q1 : A1) (q2 : A2) (q3 : A3) (q4 : A4) (q5 : A5) (q6 : A6) (q7 : A7) (q8 : A8) (q9 : A9) (q10 : A10) (q11 : A11) (q12 : A12) (q13 : A13), ¬ T 0 q1 q2 q3 q4 q5 q6 q7 q8 q9 q10 q11 q12 q13) ∧ (∀ n (q1 : A1) (q2 : A2) (q3 : A3) (q4 : A4) (q5 : A5) (q6 : A6) (q7 : A7) (q8 : A8) (q9 : A9) (q10 : A10) (q11 : A11) (q12 : A12) (q13 : A13), T (n + 1) q1 q2 q3 q4 q5 q6 q7 q8 q9 q10 q11 q12 q13 → body (T n) q1 q2 q3 q4 q5 q6 q7 q8 q9 q10 q11 q12 q13) ∧ ∃ n, T n q1 q2 q3 q4 q5 q6 q7 q8 q9 q10 q11 q12 q13 := ⟨lpw13 body, fun _ _ _ _ _ _ _ _ _ _ _ _ _ h => h, fun _ _ _ _ _ _ _ _ _ _ _ _ _ _ h => h, h⟩
theorem lpw13_rule {A1 A2 A3 A4 A5 A6 A7 A8 A9 A10 A11 A12 A13 : Type} {body : (A1 → A2 → A3 → A4 → A5 → A6 → A7 → A8 → A9 → A10 → A11 → A12 → A13 → Prop) → A1 → A2 → A3 → A4 → A5 → A6 → A7 → A8 → A9 → A10 → A11 → A12 → A13 → Prop} (I : A1 → A2 → A3 → A4 → A5 → A6 → A7 → A8 → A9 → A10 → A11 → A12 → A13 → Prop) (μ : A1 → A2 → A3 → A4 → A5 → A6 → A7 → A8 → A9 → A10 → A11 → A12 → A13 → Nat) (hs : ∀ (B : A1 → A2 → A3 → A4 → A5 → A6 → A7 → A8 → A9 → A10 → A11 → A12 → A13 → Prop) (q1 : A1) (q2 : A2) (q3 : A3) (q4 : A4) (q5 : A5) (q6 : A6) (q7 : A7) (q8 : A8) (q9 : A9) (q10 : A10) (q11 : A11) (q12 : A12) (q13 : A13), I q1 q2 q3 q4 q5 q6 q7 q8 q9 q10 q11 q12 q13 → (∀ (q1' : A1) (q2' : A2) (q3' : A3) (q4' : A4) (q5' : A5) (q6' : A6) (q7' : A7) (q8' : A8) (q9' : A9) (q10' : A10) (q11' : A11) (q12' : A12) (q13' : A13), I q1' q2' q3' q4' q5' q6' q7' q8' q9' q10' q11' q12' q13' → μ q1' q2' q3' q4' q5' q6' q7' q8' q9' q10' q11' q12' q13' < μ q1 q2 q3 q4 q5 q6 q7 q8 q9 q10 q11 q12 q13 → B q1' q2' q3' q4' q5' q6' q7' q8' q9' q10' q11' q12' q13') → body B q1 q2 q3 q4 q5 q6 q7 q8 q9 q10 q11 q12 q13) (q1 : A1) (q2 : A2) (q3 : A3) (q4 : A4) (q5 : A5) (q6 : A6) (q7 : A7) (q8 : A8) (q9 : A9) (q10 : A10) (q11 : A11) (q12 : A12) (q13 : A13) (h : I q1 q2 q3 q4 q5 q6 q7 q8 q9 q10 q11 q12 q13) : ∃ n, lpw13 body n q1 q2 q3 q4 q5 q6 q7 q8 q9 q10 q11 q12 q13 := by
  have key : ∀ n (q1 : A1) (q2 : A2) (q3 : A3) (q4 : A4) (q5 : A5) (q6 : A6) (q7 : A7) (q8 : A8) (q9 : A9) (q10 : A10) (q11 : A11) (q12 : A12) (q13 : A13), I q1 q2 q3 q4 q5 q6 q7 q8 q9 q10 q11 q12 q13 → μ q1 q2 q3 q4 q5 q6 q7 q8 q9 q10 q11 q12 q13 < n → lpw13 body n q1 q2 q3 q4 q5 q6 q7 q8 q9 q10 q11 q12 q13 := by
    intro n
    induction n with
    | zero => intro q1 q2 q3 q4 q5 q6 q7 q8 q9 q10 q11 q12 q13 _ h; exact absurd h (Nat.not_lt_zero _)
    | succ n ih => intro q1 q2 q3 q4 q5 q6 q7 q8 q9 q10 q11 q12 q13 hI hm; exact hs _ q1 q2 q3 q4 q5 q6 q7 q8 q9 q10 q11 q12 q13 hI (fun q1' q2' q3' q4' q5' q6' q7' q8' q9' q10' q11' q12' q13' hI' hm' => ih q1' q2' q3' q4' q5' q6' q7' q8' q9' q10' q11' q12' q13' hI' (by omega))
  exact ⟨_, key _ q1 q2 q3 q4 q5 q6 q7 q8 q9 q10 q11 q12 q13 h (Nat.lt_succ_self _)⟩
def jn14 {A1 A2 A3 A4 A5 A6 A7 A8 A9 A10 A11 A12 A13 A14 : Type} (F : (A1 → A2 → A3 → A4 → A5 → A6 → A7 → A8 → A9 → A10 → A11 → A12 → A13 → A14 → Prop) → Prop) (K : A1 → A2 → A3 → A4 → A5 → A6 → A7 → A8 → A9 → A10 → A11 → A12 → A13 → A14 → Prop) : Prop := F K
theorem jn14_ex {A1 A2 A3 A4 A5 A6 A7 A8 A9 A10 A11 A12 A13 A14 : Type} {K : A1 → A2 → A3 → A4 → A5 → A6 → A7 → A8 → A9 → A10 → A11 → A12 → A13 → A14 → Prop} {F : (A1 → A2 → A3 → A4 → A5 → A6 → A7 → A8 → A9 → A10 → A11 → A12 → A13 → A14 → Prop) → Prop} (h : jn14 F K) : ∃ J : A1 → A2 → A3 → A4 → A5 → A6 → A7 → A8 → A9 → A10 → A11 → A12 → A13 → A14 → Prop, (∀ (q1 : A1) (q2 : A2) (q3 : A3) (q4 : A4) (q5 : A5) (q6 : A6) (q7 : A7) (q8 : A8) (q9 : A9) (q10 : A10) (q11 : A11) (q12 : A12) (q13 : A13) (q14 : A14), J q1 q2 q3 q4 q5 q6 q7 q8 q9 q10 q11 q12 q13 q14 → K q1 q2 q3 q4 q5 q6 q7 q8 q9 q10 q11 q12 q13 q14) ∧ F J := ⟨K, fun q1 q2 q3 q4 q5 q6 q7 q8 q9 q10 q11 q12 q13 q14 h => h, h⟩
def lpw14 {A1 A2 A3 A4 A5 A6 A7 A8 A9 A10 A11 A12 A13 A14 : Type} (body : (A1 → A2 → A3 → A4 → A5 → A6 → A7 → A8 → A9 → A10 → A11 → A12 → A13 → A14 → Prop) → A1 → A2 → A3 → A4 → A5 → A6 → A7 → A8 → A9 → A10 → A11 → A12 → A13 → A14 → Prop) : Nat → A1 → A2 → A3 → A4 → A5 → A6 → A7 → A8 → A9 → A10 → A11 → A12 → A13 → A14 → Prop
  | 0 => fun _ _ _ _ _ _ _ _ _ _ _ _ _ _ => False
  | n + 1 => fun q1 q2 q3 q4 q5 q6 q7 q8 q9 q10 q11 q12 q13 q14 => body (lpw14 body n) q1 q2 q3 q4 q5 q6 q7 q8 q9 q10 q11 q12 q13 q14
theorem lpw14_use {A1 A2 A3 A4 A5 A6 A7 A8 A9 A10 A11 A12 A13 A14 : Type} {body : (A1 → A2 → A3 → A4 → A5 → A6 → A7 → A8 → A9 → A10 → A11 → A12 → A13 → A14 → Prop) → A1 → A2 → A3 → A4 → A5 → A6 → A7 → A8 → A9 → A10 → A11 → A12 → A13 → A14 → Prop} {q1 : A1} {q2 : A2} {q3 : A3} {q4 : A4} {q5 : A5} {q6 : A6} {q7 : A7} {q8 : A8} {q9 : A9} {q10 : A10} {q11 : A11} {q12 : A12} {q13 : A13} {q14 : A14} (h : ∃ n, lpw14 body n q1 q2 q3 q4 q5 q6 q7 q8 q9 q10 q11 q12 q13 q14) : ∃ T : Nat → A1 → A2 → A3 → A4 → A5 → A6 → A7 → A8 → A9 → A10 → A11 → A12 → A13 → A14 → Prop, (∀ (q1 : A1) (q2 : A2) (q3 : A3) (q4 : A4) (q5 : A5) (q6 : A6) (q7 : A7) (q8 : A8) (q9 : A9) (q10 : A10) (q11 : A11) (q12 : A12) (q13 : A13) (q14 : A14), ¬ T 0 q1 q2 q3 q4 q5 q6 q7 q8 q9 q10 q11 q12 q13 q14) ∧ (∀ n (q1 : A1) (q2 : A2) (q3 : A3) (q4 : A4) (q5 : A5) (q6 : A6) (q7 : A7) (q8 : A8) (q9 : A9) (q10 : A10) (q11 : A11) (q12 : A12) (q13 : A13) (q14 : A14), T (n + 1) q1 q2 q3 q4 q5 q6 q7 q8 q9 q10 q11 q12 q13 q14 → body (T n) q1 q2 q3 q4 q5 q6 q7 q8 q9 q10 q11 q12 q13 q14) ∧ ∃ n, T n q1 q2 q3 q4 q5 q6 q7 q8 q9 q10 q11 q12 q13 q14 := ⟨lpw14 body, fun _ _ _ _ _ _ _ _ _ _ _ _ _ _ h => h, fun _ _ _ _ _ _ _ _ _ _ _ _ _ _ _ h => h, h⟩
theorem lpw14_rule {A1 A2 A3 A4 A5 A6 A7 A8 A9 A10 A11 A12 A13 A14 : Type} {body : (A1 → A2 → A3 → A4 → A5 → A6 → A7 → A8 → A9 → A10 → A11 → A12 → A13 → A14 → Prop) → A1 → A2 → A3 → A4 → A5 → A6 → A7 → A8 → A9 → A10 → A11 → A12 → A13 → A14 → Prop} (I : A1 → A2 → A3 → A4 → A5 → A6 → A7 → A8 → A9 → A10 → A11 → A12 → A13 → A14 → Prop) (μ : A1 → A2 → A3 → A4 → A5 → A6 → A7 → A8 → A9 → A10 → A11 → A12 → A13 → A14 → Nat) (hs : ∀ (B : A1 → A2 → A3 → A4 → A5 → A6 → A7 → A8 → A9 → A10 → A11 → A12 → A13 → A14 → Prop) (q1 : A1) (q2 : A2) (q3 : A3) (q4 : A4) (q5 : A5) (q6 : A6) (q7 : A7) (q8 : A8) (q9 : A9) (q10 : A10) (q11 : A11) (q12 : A12) (q13 : A13) (q14 : A14), I q1 q2 q3 q4 q5 q6 q7 q8 q9 q10 q11 q12 q13 q14 → (∀ (q1' : A1) (q2' : A2) (q3' : A3) (q4' : A4) (q5' : A5) (q6' : A6) (q7' : A7) (q8' : A8) (q9' : A9) (q10' : A10) (q11' : A11) (q12' : A12) (q13' : A13) (q14' : A14), I q1' q2' q3' q4' q5' q6' q7' q8' q9' q10' q11' q12' q13' q14' → μ q1' q2' q3' q4' q5' q6' q7' q8' q9' q10' q11' q12' q13' q14' < μ q1 q2 q3 q4 q5 q6 q7 q8 q9 q10 q11 q12 q13 q14 → B q1' q2' q3' q4' q5' q6' q7' q8' q9' q10' q11' q12' q13' q14') → body B q1 q2 q3 q4 q5 q6 q7 q8 q9 q10 q11 q12 q13 q14) (q1 : A1) (q2 : A2) (q3 : A3) (q4 : A4) (q5 : A5) (q6 : A6) (q7 : A7) (q8 : A8) (q9 : A9) (q10 : A10) (q11 : A11) (q12 : A12) (q13 : A13) (q14 : A14) (h : I q1 q2 q3 q4 q5 q6 q7 q8 q9 q10 q11 q12 q13 q14) : ∃ n, lpw14 body n q1 q2 q3 q4 q5 q6 q7 q8 q9 q10 q11 q12 q13 q14 := by
  have key : ∀ n (q1 : A1) (q2 : A2) (q3 : A3) (q4 : A4) (q5 : A5) (q6 : A6) (q7 : A7) (q8 : A8) (q9 : A9) (q10 : A10) (q11 : A11) (q12 : A12) (q13 : A13) (q14 : A14), I q1 q2 q3 q4 q5 q6 q7 q8 q9 q10 q11 q12 q13 q14 → μ q1 q2 q3 q4 q5 q6 q7 q8 q9 q10 q11 q12 q13 q14 < n → lpw14 body n q1 q2 q3 q4 q5 q6 q7 q8 q9 q10 q11 q12 q13 q14 := by
    intro n
    induction n with
    | zero => intro q1 q2 q3 q4 q5 q6 q7 q8 q9 q10 q11 q12 q13 q14 _ h; exact absurd h (Nat.not_lt_zero _)
    | succ n ih => intro q1 q2 q3 q4 q5 q6 q7 q8 q9 q10 q11 q12 q13 q14 hI hm; exact hs _ q1 q2 q3 q4 q5 q6 q7 q8 q9 q10 q11 q12 q13 q14 hI (fun q1' q2' q3' q4' q5' q6' q7' q8' q9' q10' q11' q12' q13' q14' hI' hm' => ih q1' q2' q3' q4' q5' q6' q7' q8' q9' q10' q11' q12' q13' q14' hI' (by omega))
  exact ⟨_, key _ q1 q2 q3 q4 q5 q6 q7 q8 q9 q10 q11 q12 q13 q14 h (Nat.lt_succ_self _)⟩
def jn15 {A1 A2 A3 A4 A5 A6 A7 A8 A9 A10 A11 A12 A13 A14 A15 : Type} (F : (A1 → A2 → A3 → A4 → A5 → A6 → A7 → A8 → A9 → A10 → A11 → A12 → A13 → A14 → A15 → Prop) → Prop) (K : A1 → A2 → A3 → A4 → A5 → A6 → A7 → A8 → A9 → A10 → A11 → A12 → A13 → A14 → A15 → Prop) : Prop := F K
theorem jn15_ex {A1 A2 A3 A4 A5 A6 A7 A8 A9 A10 A11 A12 A13 A14 A15 : Type} {K : A1 → A2 → A3 → A4 → A5 → A6 → A7 → A8 → A9 → A10 → A11 → A12 → A13 → A14 → A15 → Prop} {F : (A1 → A2 → A3 → A4 → A5 → A6 → A7 → A8 → A9 → A10 → A11 → A12 → A13 → A14 → A15 → Prop) → Prop} (h : jn15 F K) : ∃ J : A1 → A2 → A3 → A4 → A5 → A6 → A7 → A8 → A9 → A10 → A11 → A12 → A13 → A14 → A15 → Prop, (∀ (q1 : A1) (q2 : A2) (q3 : A3) (q4 : A4) (q5 : A5) (q6 : A6) (q7 : A7) (q8 : A8) (q9 : A9) (q10 : A10) (q11 : A11) (q12 : A12) (q13 : A13) (q14 : A14) (q15 : A15), J q1 q2 q3 q4 q5 q6 q7 q8 q9 q10 q11 q12 q13 q14 q15 → K q1 q2 q3 q4 q5 q6 q7 q8 q9 q10 q11 q12 q13 q14 q15) ∧ F J := ⟨K, fun q1 q2 q3 q4 q5 q6 q7 q8 q9 q10 q11 q12 q13 q14 q15 h => h, h⟩
def lpw15 {A1 A2 A3 A4 A5 A6 A7 A8 A9 A10 A11 A12 A13 A14 A15 : Type} (body : (A1 → A2 → A3 → A4 → A5 → A6 → A7 → A8 → A9 → A10 → A11 → A12 → A13 → A14 → A15 → Prop) → A1 → A2 → A3 → A4 → A5 → A6 → A7 → A8 → A9 → A10 → A11 → A12 → A13 → A14 → A15 → Prop) : Nat → A1 → A2 → A3 → A4 → A5 → A6 → A7 → A8 → A9 → A10 → A11 → A12 → A13 → A14 → A15 → Prop
  | 0 => fun _ _ _ _ _ _ _ _ _ _ _ _ _ _ _ => False
  | n + 1 => fun q1 q2 q3 q4 q5 q6 q7 q8 q9 q10 q11 q12 q13 q14 q15 => body (lpw15 body n) q1 q2 q3 q4 q5 q6 q7 q8 q9 q10 q11 q12 q13 q14 q15
theorem lpw15_use {A1 A2 A3 A4 A5 A6 A7 A8 A9 A10 A11 A12 A13 A14 A15 : Type} {body : (A1 → A2 → A3 → A4 → A5 → A6 → A7 → A8 → A9 → A10 → A11 → A12 → A13 → A14 → A15 → Prop) → A1 → A2 → A3 → A4 → A5 → A6 → A7 → A8 → A9 → A10 → A11 → A12 → A13 → A14 → A15 → Prop} {q1 : A1} {q2 : A2} {q3 : A3} {q4 : A4} {q5 : A5} {q6 : A6} {q7 : A7} {q8 : A8} {q9 : A9} {q10 : A10} {q11 : A11} {q12 : A12} {q13 : A13} {q14 : A14} {q15 : A15} (h : ∃ n, lpw15 body n q1 q2 q3 q4 q5 q6 q7 q8 q9 q10 q11 q12 q13 q14 q15) : ∃ T : Nat → A1 → A2 → A3 → A4 → A5 → A6 → A7 → A8 → A9 → A10 → A11 → A12 → A13 → A14 → A15 → Prop, (∀ (q1 : A1) (q2 : A2) (q3 : A3) (q4 : A4) (q5 : A5) (q6 : A6) (q7 : A7) (q8 : A8) (q9 : A9) (q10 : A10) (q11 : A11) (q12 : A12) (q13 : A13) (q14 : A14) (q15 : A15), ¬ T 0 q1 q2 q3 q4 q5 q6 q7 q8 q9 q10 q11 q12 q13 q14 q15) ∧ (∀ n (q1 : A1) (q2 : A2) (q3 : A3) (q4 : A4) (q5 : A5) (q6 : A6) (q7 : A7) (q8 : A8) (q9 : A9) (q10 : A10) (q11 : A11) (q12 : A12) (q13 : A13) (q14 : A14) (q15 : A15), T (n + 1) q1 q2 q3 q4 q5 q6 q7 q8 q9 q10 q11 q12 q13 q14 q15 → body (T n) q1 q2 q3 q4 q5 q6 q7 q8 q9 q10 q11 q12 q13 q14 q15) ∧ ∃ n, T n q1 q2 q3 q4 q5 q6 q7 q8 q9 q10 q11 q12 q13 q14 q15 := ⟨lpw15 body, fun _ _ _ _ _ _ _ _ _ _ _ _ _ _ _ h => h, fun _ _ _ _ _ _ _ _ _ _ _ _ _ _ _ _ h => h, h⟩
theorem lpw15_rule {A1 A2 A3 A4 A5 A6 A7 A8 A9 A10 A11 A12 A13 A14 A15 : Type} {body : (A1 → A2 → A3 → A4 → A5 → A6 → A7 → A8 → A9 → A10 → A11 → A12 → A13 → A14 → A15 → Prop) → A1 → A2 → A3 → A4 → A5 → A6 → A7 → A8 → A9 → A10 → A11 → A12 → A13 → A14 → A15 → Prop} (I : A1 → A2 → A3 → A4 → A5 → A6 → A7 → A8 → A9 → A10 → A11 → A12 → A13 → A14 → A15 → Prop) (μ : A1 → A2 → A3 → A4 → A5 → A6 → A7 → A8 → A9 → A10 → A11 → A12 → A13 → A14 → A15 → Nat) (hs : ∀ (B : A1 → A2 → A3 → A4 → A5 → A6 → A7 → A8 → A9 → A10 → A11 → A12 → A13 → A14 → A15 → Prop) (q1 : A1) (q2 : A2) (q3 : A3) (q4 : A4) (q5 : A5) (q6 : A6) (q7 : A7) (q8 : A8) (q9 : A9) (q10 : A10) (q11 : A11) (q12 : A12) (q13 : A13) (q14 : A14) (q15 : A15), I q1 q2 q3 q4 q5 q6 q7 q8 q9 q10 q11 q12 q13 q14 q15 → (∀ (q1' : A1) (q2' : A2) (q3' : A3) (q4' : A4) (q5' : A5) (q6' : A6) (q7' : A7) (q8' : A8) (q9' : A9) (q10' : A10) (q11' : A11) (q12' : A12) (q13' : A13) (q14' : A14) (q15' : A15), I q1' q2' q3' q4' q5' q6' q7' q8' q9' q10' q11' q12' q13' q14' q15' → μ q1' q2' q3' q4' q5' q6' q7' q8' q9' q10' q11' q12' q13' q14' q15' < μ q1 q2 q3 q4 q5 q6 q7 q8 q9 q10 q11 q12 q13 q14 q15 → B q1' q2' q3' q4' q5' q6' q7' q8' q9' q10' q11' q12' q13' q14' q15') → body B q1 q2 q3 q4 q5 q6 q7 q8 q9 q10 q11 q12 q13 q14 q15) (q1 : A1) (q2 : A2) (q3 : A3) (q4 : A4) (q5 : A5) (q6 : A6) (q7 : A7) (q8 : A8) (q9 : A9) (q10 : A10) (q11 : A11) (q12 : A12) (q13 : A13) (q14 : A14) (q15 : A15) (h : I q1 q2 q3 q4 q5 q6 q7 q8 q9 q10 q11 q12 q13 q14 q15) : ∃ n, lpw15 body n q1 q2 q3 q4 q5 q6 q7 q8 q9 q10 q11 q12 q13 q14 q15 := by
  have key : ∀ n (q1 : A1) (q2 : A2) (q3 : A3) (q4 : A4) (q5 : A5) (q6 : A6) (q7 : A7) (q8 : A8) (q9 : A9) (q10 : A10) (q11 : A11) (q12 : A12) (q13 : A13) (q14 : A14) (q15 : A15), I q1 q2 q3 q4 q5 q6 q7 q8 q9 q10 q11 q12 q13 q14 q15 → μ q1 q2 q3 q4 q5 q6 q7 q8 q9 q10 q11 q12 q13 q14 q15 < n → lpw15 body n q1 q2 q3 q4 q5 q6 q7 q8 q9 q10 q11 q12 q13 q14 q15 := by
    intro n
    induction n with
    | zero => intro q1 q2 q3 q4 q5 q6 q7 q8 q9 q10 q11 q12 q13 q14 q15 _ h; exact absurd h (Nat.not_lt_zero _)
    | succ n ih => intro q1 q2 q3 q4 q5 q6 q7 q8 q9 q10 q11 q12 q13 q14 q15 hI hm; exact hs _ q1 q2 q3 q4 q5 q6 q7 q8 q9 q10 q11 q12 q13 q14 q15 hI (fun q1' q2' q3' q4' q5' q6' q7' q8' q9' q10' q11' q12' q13' q14' q15' hI' hm' => ih q1' q2' q3' q4' q5' q6' q7' q8' q9' q10' q11' q12' q13' q14' q15' hI' (by omega))
  exact ⟨_, key _ q1 q2 q3 q4 q5 q6 q7 q8 q9 q10 q11 q12 q13 q14 q15 h (Nat.lt_succ_self _)⟩
def jn16 {A1 A2 A3 A4 A5 A6 A7 A8 A9 A10 A11 A12 A13 A14 A15 A16 : Type} (F : (A1 → A2 → A3 → A4 → A5 → A6 → A7 → A8 → A9 → A10 → A11 → A12 → A13 → A14 → A15 → A16 → Prop) → Prop) (K : A1 → A2 → A3 → A4 → A5 → A6 → A7 → A8 → A9 → A10 → A11 → A12 → A13 → A14 → A15 → A16 → Prop) : Prop := F K
theorem jn16_ex {A1 A2 A3 A4 A5 A6 A7 A8 A9 A10 A11 A12 A13 A14 A15 A16 : Type} {K : A1 → A2 → A3 → A4 → A5 → A6 → A7 → A8 → A9 → A10 → A11 → A12 → A13 → A14 → A15 → A16 → Prop} {F : (A1 → A2 → A3 → A4 → A5 → A6 → A7 → A8 → A9 → A10 → A11 → A12 → A13 → A14 → A15 → A16 → Prop) → Prop} (h : jn16 F K) : ∃ J : A1 → A2 → A3 → A4 → A5 → A6 → A7 → A8 → A9 → A10 → A11 → A12 → A13 → A14 → A15 → A16 → Prop, (∀ (q1 : A1) (q2 : A2) (q3 : A3) (q4 : A4) (q5 : A5) (q6 : A6) (q7 : A7) (q8 : A8) (q9 : A9) (q10 : A10) (q11 : A11) (q12 : A12) (q13 : A13) (q14 : A14) (q15 : A15) (q16 : A16), J q1 q2 q3 q4 q5 q6 q7 q8 q9 q10 q11 q12 q13 q14 q15 q16 → K q1 q2 q3 q4 q5 q6 q7 q8 q9 q10 q11 q12 q13 q14 q15 q16) ∧ F J := ⟨K, fun q1 q2 q3 q4 q5 q6 q7 q8 q9 q10 q11 q12 q13 q14 q15 q16 h => h, h⟩
def lpw16 {A1 A2 A3 A4 A5 A6 A7 A8 A9 A10 A11 A12 A13 A14 A15 A16 : Type} (body : (A1 → A2 → A3 → A4 → A5 → A6 → A7 → A8 → A9 → A10 → A11 → A12 → A13 → A14 → A15 → A16 → Prop) → A1 → A2 → A3 → A4 → A5 → A6 → A7 → A8 → A9 → A10 → A11 → A12 → A13 → A14 → A15 → A16 → Prop) : Nat → A1 → A2 → A3 → A4 → A5 → A6 → A7 → A8 → A9 → A10 → A11 → A12 → A13 → A14 → A15 → A16 → Prop
  | 0 => fun _ _ _ _ _ _ _ _ _ _ _ _ _ _ _ _ => False
  | n + 1 => fun q1 q2 q3 q4 q5 q6 q7 q8 q9 q10 q11 q12 q13 q14 q15 q16 => body (lpw16 body n) q1 q2 q3 q4 q5 q6 q7 q8 q9 q10 q11 q12 q13 q14 q15 q16
theorem lpw16_use {A1 A2 A3 A4 A5 A6 A7 A8 A9 A10 A11 A12 A13 A14 A15 A16 : Type} {body : (A1 → A2 → A3 → A4 → A5 → A6 → A7 → A8 → A9 → A10 → A11 → A12 → A13 → A14 → A15 → A16 → Prop) → A1 → A2 → A3 → A4 → A5 → A6 → A7 → A8 → A9 → A10 → A11 → A12 → A13 → A14 → A15 → A16 → Prop} {q1 : A1} {q2 : A2} {q3 : A3} {q4 : A4} {q5 : A5} {q6 : A6} {q7 : A7} {q8 : A8} {q9 : A9} {q10 : A10} {q11 : A11} {q12 : A12} {q13 : A13} {q14 : A14} {q15 : A15} {q16 : A16} (h : ∃ n, lpw16 body n q1 q2 q3 q4 q5 q6 q7 q8 q9 q10 q11 q12 q13 q14 q15 q16) : ∃ T : Nat → A1 → A2 → A3 → A4 → A5 → A6 → A7 → A8 → A9 → A10 → A11 → A12 → A13 → A14 → A15 → A16 → Prop, (∀ (q1 : A1) (q2 : A2) (q3 : A3) (q4 : A4) (q5 : A5) (q6 : A6) (q7 : A7) (q8 : A8) (q9 : A9) (q10 : A10) (q11 : A11) (q12 : A12) (q13 : A13) (q14 : A14) (q15 : A15) (q16 : A16), ¬ T 0 q1 q2 q3 q4 q5 q6 q7 q8 q9 q10 q11 q12 q13 q14 q15 q16) ∧ (∀ n (q1 : A1) (q2 : A2) (q3 : A3) (q4 : A4) (q5 : A5) (q6 : A6) (q7 : A7) (q8 : A8) (q9 : A9) (q10 : A10) (q11 : A11) (q12 : A12) (q13 : A13) (q14 : A14) (q15 : A15) (q16 : A16), T (n + 1) q1 q2 q3 q4 q5 q6 q7 q8 q9 q10 q11 q12 q13 q14 q15 q16 → body (T n) q1 q2 q3 q4 q5 q6 q7 q8 q9 q10 q11 q12 q13 q14 q15 q16) ∧ ∃ n, T n q1 q2 q3 q4 q5 q6 q7 q8 q9 q10 q11 q12 q13 q14 q15 q16 := ⟨lpw16 body, fun _ _ _ _ _ _ _ _ _ _ _ _ _ _ _ _ h => h, fun _ _ _ _ _ _ _ _ _ _ _ _ _ _ _ _ _ h => h, h⟩
theorem lpw16_rule {A1 A2 A3 A4 A5 A6 A7 A8 A9 A10 A11 A12 A13 A14 A15 A16 : Type} {body : (A1 → A2 → A3 → A4 → A5 → A6 → A7 → A8 → A9 → A10 → A11 → A12 → A13 → A14 → A15 → A16 → Prop) → A1 → A2 → A3 → A4 → A5 → A6 → A7 → A8 → A9 → A10 → A11 → A12 → A13 → A14 → A15 → A16 → Prop} (I : A1 → A2 → A3 → A4 → A5 → A6 → A7 → A8 → A9 → A10 → A11 → A12 → A13 → A14 → A15 → A16 → Prop) (μ : A1 → A2 → A3 → A4 → A5 → A6 → A7 → A8 → A9 → A10 → A11 → A12 → A13 → A14 → A15 → A16 → Nat) (hs : ∀ (B : A1 → A2 → A3 → A4 → A5 → A6 → A7 → A8 → A9 → A10 → A11 → A12 → A13 → A14 → A15 → A16 → Prop) (q1 : A1) (q2 : A2) (q3 : A3) (q4 : A4) (q5 : A5) (q6 : A6) (q7 : A7) (q8 : A8) (q9 : A9) (q10 : A10) (q11 : A11) (q12 : A12) (q13 : A13) (q14 : A14) (q15 : A15) (q16 : A16), I q1 q2 q3 q4 q5 q6 q7 q8 q9 q10 q11 q12 q13 q14 q15 q16 → (∀ (q1' : A1) (q2' : A2) (q3' : A3) (q4' : A4) (q5' : A5) (q6' : A6) (q7' : A7) (q8' : A8) (q9' : A9) (q10' : A10) (q11' : A11) (q12' : A12) (q13' : A13) (q14' : A14) (q15' : A15) (q16' : A16), I q1' q2' q3' q4' q5' q6' q7' q8' q9' q10' q11' q12' q13' q14' q15' q16' → μ q1' q2' q3' q4' q5' q6' q7' q8' q9' q10' q11' q12' q13' q14' q15' q16' < μ q1 q2 q3 q4 q5 q6 q7 q8 q9 q10 q11 q12 q13 q14 q15 q16 → B q1' q2' q3' q4' q5' q6' q7' q8' q9' q10' q11' q12' q13' q14' q15' q16') → body B q1 q2 q3 q4 q5 q6 q7 q8 q9 q10 q11 q12 q13 q14 q15 q16) (q1 : A1) (q2 : A2) (q3 : A3) (q4 : A4) (q5 : A5) (q6 : A6) (q7 : A7) (q8 : A8) (q9 : A9) (q10 : A10) (q11 : A11) (q12 : A12) (q13 : A13) (q14 : A14) (q15 : A15) (q16 : A16) (h : I q1 q2 q3 q4 q5 q6 q7 q8 q9 q10 q11 q12 q13 q14 q15 q16) : ∃ n, lpw16 body n q1 q2 q3 q4 q5 q6 q7 q8 q9 q10 q11 q12 q13 q14 q15 q16 := by
  have key : ∀ n (q1 : A1) (q2 : A2) (q3 : A3) (q4 : A4) (q5 : A5) (q6 : A6) (q7 : A7) (q8 : A8) (q9 : A9) (q10 : A10) (q11 : A11) (q12 : A12) (q13 : A13) (q14 : A14) (q15 : A15) (q16 : A16), I q1 q2 q3 q4 q5 q6 q7 q8 q9 q10 q11 q12 q13 q14 q15 q16 → μ q1 q2 q3 q4 q5 q6 q7 q8 q9 q10 q11 q12 q13 q14 q15 q16 < n → lpw16 body n q1 q2 q3 q4 q5 q6 q7 q8 q9 q10 q11 q12 q13 q14 q15 q16 := by
    intro n
    induction n with
    | zero => intro q1 q2 q3 q4 q5 q6 q7 q8 q9 q10 q11 q12 q13 q14 q15 q16 _ h; exact absurd h (Nat.not_lt_zero _)
    | succ n ih => intro q1 q2 q3 q4 q5 q6 q7 q8 q9 q10 q11 q12 q13 q14 q15 q16 hI hm; exact hs _ q1 q2 q3 q4 q5 q6 q7 q8 q9 q10 q11 q12 q13 q14 q15 q16 hI (fun q1' q2' q3' q4' q5' q6' q7' q8' q9' q10' q11' q12' q13' q14' q15' q16' hI' hm' => ih q1' q2' q3' q4' q5' q6' q7' q8' q9' q10' q11' q12' q13' q14' q15' q16' hI' (by omega))
  exact ⟨_, key _ q1 q2 q3 q4 q5 q6 q7 q8 q9 q10 q11 q12 q13 q14 q15 q16 h (Nat.lt_succ_self _)⟩
abbrev irem (x y : Int32) : Int32 := x - x / y * y
abbrev lrem (x y : Int64) : Int64 := x - x / y * y
abbrev ishl (x y : Int32) : Int32 := x <<< (y &&& 31)
abbrev ishr (x y : Int32) : Int32 := x >>> (y &&& 31)
abbrev iushr (x y : Int32) : Int32 := (x.toUInt32 >>> (y.toUInt32 &&& Int32.toUInt32 31)).toInt32
abbrev imax (x y : Int32) : Int32 := if x < y then y else x
abbrev imin (x y : Int32) : Int32 := if y < x then y else x
abbrev iabs (x : Int32) : Int32 := if 0 ≤ x then x else 0 - x
abbrev i2b (x : Int32) : Int32 := x.toInt8.toInt32
abbrev cpok (sp dp n : Int32) (n0 n1 : Nat) : Prop := ¬ sp < 0 ∧ ¬ dp < 0 ∧ ¬ n < 0 ∧ sp.toNatClampNeg + n.toNatClampNeg ≤ n0 ∧ dp.toNatClampNeg + n.toNatClampNeg ≤ n1
abbrev tyS (q : ClassId × ClassId × ClassId × ClassId) : List (ClassId × FieldType) := [(q.1, .byte), (q.2.1, .int), (q.2.2.1, .boolean), (q.2.2.2, .object "RasherCase$Parish")]
/-- what stays the same in all states: the tables of classes and arrays; the one private call of a nest mate -/
abbrev KK (D : va_G) (cy : ClassId × ClassId × ClassId × ClassId) (U : State) : Prop := va_K D vwCl (tyS cy) U ∧ va_Nw (.methodLinkNest RX7 94 yX8_within RX8) U ∧ va_AO "RasherCase$Parish" U
theorem KK.warm {D : va_G} {cy : ClassId × ClassId × ClassId × ClassId} {s U : State} (hW : s.WarmedH U.vm) (h : KK D cy s) : KK D cy U := ⟨va_K.moved hW.alike h.1, va_Nw.warmM hW h.2.1, va_AO.moved hW.alike h.2.2⟩
theorem KK.call {D : va_G} {cy : ClassId × ClassId × ClassId × ClassId} {U : State} {g : JFrame} {mk : MethodId} {a : Array Value} (h : KK D cy U) : KK D cy (U.calling g mk a) := ⟨va_K.moved (u := U) (U := U.calling g mk a) (Vm.Alike.refl U.vm) h.1, va_Nw.same rfl rfl h.2.1, va_AO.moved (u := U) (U := U.calling g mk a) (Vm.Alike.refl U.vm) h.2.2⟩
/-- a method that writes: its world WS, behind it WSp u -/
def CoI {S : Type} (l : Launch) (y : MethodName) (ws : List Cond) (rm : Room) (D : va_G) (cy : ClassId × ClassId × ClassId × ClassId) (av : List Value) (WS : va_W) (WSp : S → va_W) (post : Int32 → S → Prop) : Prop :=
  ∀ sz : Nat, Met l y ws rm (va_Pc av (fun U => U.heap.size = sz ∧ va_P D vwCl WS U.heap ∧ KK D cy U ∧ va_D (fun _ => True) WS)) (va_Qi post (fun u t => va_P D vwCl (WSp u) t.heap ∧ va_D (va_A WS sz) (WSp u)) (va_A WS sz)) 0 0 (va_A WS sz)
def CoL {S : Type} (l : Launch) (y : MethodName) (ws : List Cond) (rm : Room) (D : va_G) (cy : ClassId × ClassId × ClassId × ClassId) (av : List Value) (WS : va_W) (WSp : S → va_W) (post : Int64 → S → Prop) : Prop :=
  ∀ sz : Nat, Met l y ws rm (va_Pc av (fun U => U.heap.size = sz ∧ va_P D vwCl WS U.heap ∧ KK D cy U ∧ va_D (fun _ => True) WS)) (va_Ql post (fun u t => va_P D vwCl (WSp u) t.heap ∧ va_D (va_A WS sz) (WSp u)) (va_A WS sz)) 0 0 (va_A WS sz)
def CoV {S : Type} (l : Launch) (y : MethodName) (ws : List Cond) (rm : Room) (D : va_G) (cy : ClassId × ClassId × ClassId × ClassId) (av : List Value) (WS : va_W) (WSp : S → va_W) (post : S → Prop) : Prop :=
  ∀ sz : Nat, Met l y ws rm (va_Pc av (fun U => U.heap.size = sz ∧ va_P D vwCl WS U.heap ∧ KK D cy U ∧ va_D (fun _ => True) WS)) (va_Qv post (fun u t => va_P D vwCl (WSp u) t.heap ∧ va_D (va_A WS sz) (WSp u)) (va_A WS sz)) 0 0 (va_A WS sz)
/-- a method that only reads: the heap stays -/
def RoI (l : Launch) (y : MethodName) (ws : List Cond) (rm : Room) (D : va_G) (cy : ClassId × ClassId × ClassId × ClassId) (av : List Value) (WS : va_W) (post : Int32 → Prop) : Prop :=
  Met l y ws rm (va_Pc av (fun U => va_P D vwCl WS U.heap ∧ KK D cy U)) (vp_Si post) 0 0 (fun _ => False)
def RoL (l : Launch) (y : MethodName) (ws : List Cond) (rm : Room) (D : va_G) (cy : ClassId × ClassId × ClassId × ClassId) (av : List Value) (WS : va_W) (post : Int64 → Prop) : Prop :=
  Met l y ws rm (va_Pc av (fun U => va_P D vwCl WS U.heap ∧ KK D cy U)) (vp_Sl post) 0 0 (fun _ => False)
def bz (v : Int32) : Prop := v = 0 ∨ v = 1
theorem bz0 : bz 0 := Or.inl rfl
theorem bz1 : bz 1 := Or.inr rfl
theorem bz_nar {v : Int32} (h : bz v) : narrow .boolean (.int v) = .int v := by rcases h with rfl | rfl <;> rfl
theorem bz_fit {v : Int32} (h : bz v) : fits .boolean (.int v) = true := by rcases h with rfl | rfl <;> rfl

section
variable {l : Launch} {y : MethodName} {ws ws' : List Cond} {rm : Room} {cc : ByteArray} {maxL : Nat} {D : va_G} {cy : ClassId × ClassId × ClassId × ClassId} {av : List Value} {WS : va_W}
/-- what a walk begins with -/
theorem st_ent {p : Program} {e : Env} {s : State} {m : MethodId} {below : List Frame} {meth : Method} {c : Code} {cells slots : Nat} {QQ : State → Prop} (hav : (lg_sl av).length ≤ maxL) (k : ∀ ls, lv_has ls maxL (lv_args 0 av) → W p l e rm s m av.toArray below meth c s.heap [] cells slots QQ (F0 m 0 ls [])) : W p l e rm s m av.toArray below meth c s.heap [] cells slots QQ (entryFrame m av.toArray maxL) := by
  rw [lg_entry_eq]
  exact k _ (lv_entry av hav)
theorem st_metI {S : Type} {WSp : S → va_W} {post : Int32 → S → Prop} (own : String) (hy : plainName y.cls = true) (hoc : y.cls = own) (hw : ws = Cond.code y cc maxL (some .int) :: ws') (hav : (lg_sl av).length ≤ maxL)
    (body : ∀ (p : Program) (e : Env) (s : State) (m : MethodId) (args : Array Value) (below : List Frame) (meth : Method) (c : Code) (A : Nat → Prop) (QQ : State → Prop) (ls : Array Slot), CallFix p m c cc maxL s args ws own → (∀ q, s.heap.size ≤ q → A q) → KK D cy s → va_P D vwCl WS s.heap → va_D A WS → va_S A s.heap s.heap [] → lv_has ls maxL (lv_args 0 av) →
      (∀ (v : Int32) (u : S) (H : Heap) (locs : List Loc) (pc : Nat) (ls : Array Slot), post v u → va_P D vwCl (WSp u) H → va_D A (WSp u) → va_S A s.heap H locs → decode cc pc = .ok (.ireturn, 1) → W p l e rm s m args below meth c H locs 0 0 QQ (F0 m pc ls [.int v])) →
      W p l e rm s m args below meth c s.heap [] 0 0 QQ (F0 m 0 ls [])) : CoI l y ws rm D cy av WS WSp post := by
  intro sz
  refine Met.ofW (cc := cc) (maxL := maxL) (ret := some .int) hy hw ?_
  intro p e s m args below meth c s₁ B hml hv
  obtain ⟨rfl, hsz, hP, hK, hD0⟩ := hv
  have hts := atoms_spec (ws := ws) B.pre
  have hown : s.vm.findClass own = some m.cls := by rw [← hoc]; exact findClass_of_methodNamed B.named
  have hlocks := B.notSynchronized
  have hr := B.returns
  subst hsz
  refine st_ent hav (fun ls hl => ?_)
  refine body p e s m av.toArray below meth c (va_A WS s.heap.size) _ ls ⟨B.exec, B.bytes, hml, hown, hts⟩ (fun q h => Or.inr h) hK hP hD0.self va_S.rf hl ?_
  intro v u H locs pc ls hp hP hD hS hdg
  exact W.iret (v := v) B.exec B.bytes hr (fun t ht hW => ⟨⟨v, u, rfl, hp, by rw [ht]; exact hP, hD⟩, hS.F ht⟩) hS.2.2 hdg
theorem st_metZ {S : Type} {WSp : S → va_W} {post : Int32 → S → Prop} (own : String) (hy : plainName y.cls = true) (hoc : y.cls = own) (hw : ws = Cond.code y cc maxL (some .boolean) :: ws') (hav : (lg_sl av).length ≤ maxL)
    (body : ∀ (p : Program) (e : Env) (s : State) (m : MethodId) (args : Array Value) (below : List Frame) (meth : Method) (c : Code) (A : Nat → Prop) (QQ : State → Prop) (ls : Array Slot), CallFix p m c cc maxL s args ws own → (∀ q, s.heap.size ≤ q → A q) → KK D cy s → va_P D vwCl WS s.heap → va_D A WS → va_S A s.heap s.heap [] → lv_has ls maxL (lv_args 0 av) →
      (∀ (v : Int32) (u : S) (H : Heap) (locs : List Loc) (pc : Nat) (ls : Array Slot), bz v → post v u → va_P D vwCl (WSp u) H → va_D A (WSp u) → va_S A s.heap H locs → decode cc pc = .ok (.ireturn, 1) → W p l e rm s m args below meth c H locs 0 0 QQ (F0 m pc ls [.int v])) →
      W p l e rm s m args below meth c s.heap [] 0 0 QQ (F0 m 0 ls [])) : CoI l y ws rm D cy av WS WSp post := by
  intro sz
  refine Met.ofW (cc := cc) (maxL := maxL) (ret := some .boolean) hy hw ?_
  intro p e s m args below meth c s₁ B hml hv
  obtain ⟨rfl, hsz, hP, hK, hD0⟩ := hv
  have hts := atoms_spec (ws := ws) B.pre
  have hown : s.vm.findClass own = some m.cls := by rw [← hoc]; exact findClass_of_methodNamed B.named
  have hlocks := B.notSynchronized
  have hr := B.returns
  subst hsz
  refine st_ent hav (fun ls hl => ?_)
  refine body p e s m av.toArray below meth c (va_A WS s.heap.size) _ ls ⟨B.exec, B.bytes, hml, hown, hts⟩ (fun q h => Or.inr h) hK hP hD0.self va_S.rf hl ?_
  intro v u H locs pc ls hz hp hP hD hS hdg
  exact W.zret (v := v) B.exec B.bytes hr (bz_nar hz) (fun t ht hW => ⟨⟨v, u, rfl, hp, by rw [ht]; exact hP, hD⟩, hS.F ht⟩) hS.2.2 hdg
theorem st_metL {S : Type} {WSp : S → va_W} {post : Int64 → S → Prop} (own : String) (hy : plainName y.cls = true) (hoc : y.cls = own) (hw : ws = Cond.code y cc maxL (some .long) :: ws') (hav : (lg_sl av).length ≤ maxL)
    (body : ∀ (p : Program) (e : Env) (s : State) (m : MethodId) (args : Array Value) (below : List Frame) (meth : Method) (c : Code) (A : Nat → Prop) (QQ : State → Prop) (ls : Array Slot), CallFix p m c cc maxL s args ws own → (∀ q, s.heap.size ≤ q → A q) → KK D cy s → va_P D vwCl WS s.heap → va_D A WS → va_S A s.heap s.heap [] → lv_has ls maxL (lv_args 0 av) →
      (∀ (v : Int64) (u : S) (H : Heap) (locs : List Loc) (pc : Nat) (ls : Array Slot), post v u → va_P D vwCl (WSp u) H → va_D A (WSp u) → va_S A s.heap H locs → decode cc pc = .ok (.lreturn, 1) → W p l e rm s m args below meth c H locs 0 0 QQ (F0 m pc ls [.long v])) →
      W p l e rm s m args below meth c s.heap [] 0 0 QQ (F0 m 0 ls [])) : CoL l y ws rm D cy av WS WSp post := by
  intro sz
  refine Met.ofW (cc := cc) (maxL := maxL) (ret := some .long) hy hw ?_
  intro p e s m args below meth c s₁ B hml hv
  obtain ⟨rfl, hsz, hP, hK, hD0⟩ := hv
  have hts := atoms_spec (ws := ws) B.pre
  have hown : s.vm.findClass own = some m.cls := by rw [← hoc]; exact findClass_of_methodNamed B.named
  have hlocks := B.notSynchronized
  have hr := B.returns
  subst hsz
  refine st_ent hav (fun ls hl => ?_)
  refine body p e s m av.toArray below meth c (va_A WS s.heap.size) _ ls ⟨B.exec, B.bytes, hml, hown, hts⟩ (fun q h => Or.inr h) hK hP hD0.self va_S.rf hl ?_
  intro v u H locs pc ls hp hP hD hS hdg
  exact W.lret (v := v) B.exec B.bytes hr (fun t ht hW => ⟨⟨v, u, rfl, hp, by rw [ht]; exact hP, hD⟩, hS.F ht⟩) hS.2.2 hdg
theorem st_metV {S : Type} {WSp : S → va_W} {post : S → Prop} (own : String) (hy : plainName y.cls = true) (hoc : y.cls = own) (hw : ws = Cond.code y cc maxL none :: ws') (hav : (lg_sl av).length ≤ maxL)
    (body : ∀ (p : Program) (e : Env) (s : State) (m : MethodId) (args : Array Value) (below : List Frame) (meth : Method) (c : Code) (A : Nat → Prop) (QQ : State → Prop) (ls : Array Slot), CallFix p m c cc maxL s args ws own → (∀ q, s.heap.size ≤ q → A q) → KK D cy s → va_P D vwCl WS s.heap → va_D A WS → va_S A s.heap s.heap [] → lv_has ls maxL (lv_args 0 av) →
      (∀ (u : S) (H : Heap) (locs : List Loc) (pc : Nat) (ls : Array Slot), post u → va_P D vwCl (WSp u) H → va_D A (WSp u) → va_S A s.heap H locs → decode cc pc = .ok (.return_, 1) → W p l e rm s m args below meth c H locs 0 0 QQ (F0 m pc ls [])) →
      W p l e rm s m args below meth c s.heap [] 0 0 QQ (F0 m 0 ls [])) : CoV l y ws rm D cy av WS WSp post := by
  intro sz
  refine Met.ofW (cc := cc) (maxL := maxL) (ret := none) hy hw ?_
  intro p e s m args below meth c s₁ B hml hv
  obtain ⟨rfl, hsz, hP, hK, hD0⟩ := hv
  have hts := atoms_spec (ws := ws) B.pre
  have hown : s.vm.findClass own = some m.cls := by rw [← hoc]; exact findClass_of_methodNamed B.named
  have hlocks := B.notSynchronized
  have hr := B.returns
  subst hsz
  refine st_ent hav (fun ls hl => ?_)
  refine body p e s m av.toArray below meth c (va_A WS s.heap.size) _ ls ⟨B.exec, B.bytes, hml, hown, hts⟩ (fun q h => Or.inr h) hK hP hD0.self va_S.rf hl ?_
  intro u H locs pc ls hp hP hD hS hdg
  exact W.vret B.exec B.bytes hr (fun t ht hW => ⟨⟨u, rfl, hp, by rw [ht]; exact hP, hD⟩, hS.F ht⟩) hS.2.2 hdg
theorem st_metRI {post : Int32 → Prop} (own : String) (hy : plainName y.cls = true) (hoc : y.cls = own) (hw : ws = Cond.code y cc maxL (some .int) :: ws') (hav : (lg_sl av).length ≤ maxL)
    (body : ∀ (p : Program) (e : Env) (s : State) (m : MethodId) (args : Array Value) (below : List Frame) (meth : Method) (c : Code) (QQ : State → Prop) (ls : Array Slot), CallFix p m c cc maxL s args ws own → KK D cy s → va_P D vwCl WS s.heap → lv_has ls maxL (lv_args 0 av) →
      (∀ (v : Int32) (pc : Nat) (ls : Array Slot), post v → decode cc pc = .ok (.ireturn, 1) → W p l e rm s m args below meth c s.heap [] 0 0 QQ (F0 m pc ls [.int v])) →
      W p l e rm s m args below meth c s.heap [] 0 0 QQ (F0 m 0 ls [])) : RoI l y ws rm D cy av WS post := by
  refine Met.ofW (cc := cc) (maxL := maxL) (ret := some .int) hy hw ?_
  intro p e s m args below meth c s₁ B hml hv
  obtain ⟨rfl, hP, hK⟩ := hv
  have hts := atoms_spec (ws := ws) B.pre
  have hown : s.vm.findClass own = some m.cls := by rw [← hoc]; exact findClass_of_methodNamed B.named
  have hlocks := B.notSynchronized
  have hr := B.returns
  refine st_ent hav (fun ls hl => ?_)
  refine body p e s m av.toArray below meth c _ ls ⟨B.exec, B.bytes, hml, hown, hts⟩ hK hP hl ?_
  intro v pc ls hp hdg
  exact W.iret (v := v) B.exec B.bytes hr (fun t ht hW => ⟨v, rfl, hp, ht⟩) (fun q hq => by cases hq) hdg
theorem st_metRZ {post : Int32 → Prop} (own : String) (hy : plainName y.cls = true) (hoc : y.cls = own) (hw : ws = Cond.code y cc maxL (some .boolean) :: ws') (hav : (lg_sl av).length ≤ maxL)
    (body : ∀ (p : Program) (e : Env) (s : State) (m : MethodId) (args : Array Value) (below : List Frame) (meth : Method) (c : Code) (QQ : State → Prop) (ls : Array Slot), CallFix p m c cc maxL s args ws own → KK D cy s → va_P D vwCl WS s.heap → lv_has ls maxL (lv_args 0 av) →
      (∀ (v : Int32) (pc : Nat) (ls : Array Slot), bz v → post v → decode cc pc = .ok (.ireturn, 1) → W p l e rm s m args below meth c s.heap [] 0 0 QQ (F0 m pc ls [.int v])) →
      W p l e rm s m args below meth c s.heap [] 0 0 QQ (F0 m 0 ls [])) : RoI l y ws rm D cy av WS post := by
  refine Met.ofW (cc := cc) (maxL := maxL) (ret := some .boolean) hy hw ?_
  intro p e s m args below meth c s₁ B hml hv
  obtain ⟨rfl, hP, hK⟩ := hv
  have hts := atoms_spec (ws := ws) B.pre
  have hown : s.vm.findClass own = some m.cls := by rw [← hoc]; exact findClass_of_methodNamed B.named
  have hlocks := B.notSynchronized
  have hr := B.returns
  refine st_ent hav (fun ls hl => ?_)
  refine body p e s m av.toArray below meth c _ ls ⟨B.exec, B.bytes, hml, hown, hts⟩ hK hP hl ?_
  intro v pc ls hz hp hdg
  exact W.zret (v := v) B.exec B.bytes hr (bz_nar hz) (fun t ht hW => ⟨v, rfl, hp, ht⟩) (fun q hq => by cases hq) hdg
theorem st_metRL {post : Int64 → Prop} (own : String) (hy : plainName y.cls = true) (hoc : y.cls = own) (hw : ws = Cond.code y cc maxL (some .long) :: ws') (hav : (lg_sl av).length ≤ maxL)
    (body : ∀ (p : Program) (e : Env) (s : State) (m : MethodId) (args : Array Value) (below : List Frame) (meth : Method) (c : Code) (QQ : State → Prop) (ls : Array Slot), CallFix p m c cc maxL s args ws own → KK D cy s → va_P D vwCl WS s.heap → lv_has ls maxL (lv_args 0 av) →
      (∀ (v : Int64) (pc : Nat) (ls : Array Slot), post v → decode cc pc = .ok (.lreturn, 1) → W p l e rm s m args below meth c s.heap [] 0 0 QQ (F0 m pc ls [.long v])) →
      W p l e rm s m args below meth c s.heap [] 0 0 QQ (F0 m 0 ls [])) : RoL l y ws rm D cy av WS post := by
  refine Met.ofW (cc := cc) (maxL := maxL) (ret := some .long) hy hw ?_
  intro p e s m args below meth c s₁ B hml hv
  obtain ⟨rfl, hP, hK⟩ := hv
  have hts := atoms_spec (ws := ws) B.pre
  have hown : s.vm.findClass own = some m.cls := by rw [← hoc]; exact findClass_of_methodNamed B.named
  have hlocks := B.notSynchronized
  have hr := B.returns
  refine st_ent hav (fun ls hl => ?_)
  refine body p e s m av.toArray below meth c _ ls ⟨B.exec, B.bytes, hml, hown, hts⟩ hK hP hl ?_
  intro v pc ls hp hdg
  exact W.lret (v := v) B.exec B.bytes hr (fun t ht hW => ⟨v, rfl, hp, ht⟩) (fun q hq => by cases hq) hdg
end
