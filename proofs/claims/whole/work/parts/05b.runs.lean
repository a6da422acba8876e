/-! loops by their traces: gK j is what the K-th value is when the head is reached for the j-th time; N: the last time -/
theorem lpw1_run {A1 : Type} {body : (A1 → Prop) → A1 → Prop} (g1 : Nat → A1) (N : Nat) (hs : ∀ (B : A1 → Prop) (j : Nat), j < N → B (g1 (j + 1)) → body B (g1 j)) (he : ∀ B : A1 → Prop, body B (g1 N)) (i : Nat) (hi : i ≤ N) : ∃ n, lpw1 body n (g1 i) := by
  have key : ∀ r j, j + r = N → lpw1 body (r + 1) (g1 j) := by
    intro r
    induction r with
    | zero => intro j hj; rw [show j = N by omega]; exact he _
    | succ r ih => intro j hj; exact hs _ j (by omega) (ih (j + 1) (by omega))
  exact ⟨_, key (N - i) i (by omega)⟩
theorem lpw2_run {A1 A2 : Type} {body : (A1 → A2 → Prop) → A1 → A2 → Prop} (g1 : Nat → A1) (g2 : Nat → A2) (N : Nat) (hs : ∀ (B : A1 → A2 → Prop) (j : Nat), j < N → B (g1 (j + 1)) (g2 (j + 1)) → body B (g1 j) (g2 j)) (he : ∀ B : A1 → A2 → Prop, body B (g1 N) (g2 N)) (i : Nat) (hi : i ≤ N) : ∃ n, lpw2 body n (g1 i) (g2 i) := by
  have key : ∀ r j, j + r = N → lpw2 body (r + 1) (g1 j) (g2 j) := by
    intro r
    induction r with
    | zero => intro j hj; rw [show j = N by omega]; exact he _
    | succ r ih => intro j hj; exact hs _ j (by omega) (ih (j + 1) (by omega))
  exact ⟨_, key (N - i) i (by omega)⟩
theorem lpw3_run {A1 A2 A3 : Type} {body : (A1 → A2 → A3 → Prop) → A1 → A2 → A3 → Prop} (g1 : Nat → A1) (g2 : Nat → A2) (g3 : Nat → A3) (N : Nat) (hs : ∀ (B : A1 → A2 → A3 → Prop) (j : Nat), j < N → B (g1 (j + 1)) (g2 (j + 1)) (g3 (j + 1)) → body B (g1 j) (g2 j) (g3 j)) (he : ∀ B : A1 → A2 → A3 → Prop, body B (g1 N) (g2 N) (g3 N)) (i : Nat) (hi : i ≤ N) : ∃ n, lpw3 body n (g1 i) (g2 i) (g3 i) := by
  have key : ∀ r j, j + r = N → lpw3 body (r + 1) (g1 j) (g2 j) (g3 j) := by
    intro r
    induction r with
    | zero => intro j hj; rw [show j = N by omega]; exact he _
    | succ r ih => intro j hj; exact hs _ j (by omega) (ih (j + 1) (by omega))
  exact ⟨_, key (N - i) i (by omega)⟩
theorem lpw4_run {A1 A2 A3 A4 : Type} {body : (A1 → A2 → A3 → A4 → Prop) → A1 → A2 → A3 → A4 → Prop} (g1 : Nat → A1) (g2 : Nat → A2) (g3 : Nat → A3) (g4 : Nat → A4) (N : Nat) (hs : ∀ (B : A1 → A2 → A3 → A4 → Prop) (j : Nat), j < N → B (g1 (j + 1)) (g2 (j + 1)) (g3 (j + 1)) (g4 (j + 1)) → body B (g1 j) (g2 j) (g3 j) (g4 j)) (he : ∀ B : A1 → A2 → A3 → A4 → Prop, body B (g1 N) (g2 N) (g3 N) (g4 N)) (i : Nat) (hi : i ≤ N) : ∃ n, lpw4 body n (g1 i) (g2 i) (g3 i) (g4 i) := by
  have key : ∀ r j, j + r = N → lpw4 body (r + 1) (g1 j) (g2 j) (g3 j) (g4 j) := by
    intro r
    induction r with
    | zero => intro j hj; rw [show j = N by omega]; exact he _
    | succ r ih => intro j hj; exact hs _ j (by omega) (ih (j + 1) (by omega))
  exact ⟨_, key (N - i) i (by omega)⟩
theorem lpw5_run {A1 A2 A3 A4 A5 : Type} {body : (A1 → A2 → A3 → A4 → A5 → Prop) → A1 → A2 → A3 → A4 → A5 → Prop} (g1 : Nat → A1) (g2 : Nat → A2) (g3 : Nat → A3) (g4 : Nat → A4) (g5 : Nat → A5) (N : Nat) (hs : ∀ (B : A1 → A2 → A3 → A4 → A5 → Prop) (j : Nat), j < N → B (g1 (j + 1)) (g2 (j + 1)) (g3 (j + 1)) (g4 (j + 1)) (g5 (j + 1)) → body B (g1 j) (g2 j) (g3 j) (g4 j) (g5 j)) (he : ∀ B : A1 → A2 → A3 → A4 → A5 → Prop, body B (g1 N) (g2 N) (g3 N) (g4 N) (g5 N)) (i : Nat) (hi : i ≤ N) : ∃ n, lpw5 body n (g1 i) (g2 i) (g3 i) (g4 i) (g5 i) := by
  have key : ∀ r j, j + r = N → lpw5 body (r + 1) (g1 j) (g2 j) (g3 j) (g4 j) (g5 j) := by
    intro r
    induction r with
    | zero => intro j hj; rw [show j = N by omega]; exact he _
    | succ r ih => intro j hj; exact hs _ j (by omega) (ih (j + 1) (by omega))
  exact ⟨_, key (N - i) i (by omega)⟩
theorem lpw6_run {A1 A2 A3 A4 A5 A6 : Type} {body : (A1 → A2 → A3 → A4 → A5 → A6 → Prop) → A1 → A2 → A3 → A4 → A5 → A6 → Prop} (g1 : Nat → A1) (g2 : Nat → A2) (g3 : Nat → A3) (g4 : Nat → A4) (g5 : Nat → A5) (g6 : Nat → A6) (N : Nat) (hs : ∀ (B : A1 → A2 → A3 → A4 → A5 → A6 → Prop) (j : Nat), j < N → B (g1 (j + 1)) (g2 (j + 1)) (g3 (j + 1)) (g4 (j + 1)) (g5 (j + 1)) (g6 (j + 1)) → body B (g1 j) (g2 j) (g3 j) (g4 j) (g5 j) (g6 j)) (he : ∀ B : A1 → A2 → A3 → A4 → A5 → A6 → Prop, body B (g1 N) (g2 N) (g3 N) (g4 N) (g5 N) (g6 N)) (i : Nat) (hi : i ≤ N) : ∃ n, lpw6 body n (g1 i) (g2 i) (g3 i) (g4 i) (g5 i) (g6 i) := by
  have key : ∀ r j, j + r = N → lpw6 body (r + 1) (g1 j) (g2 j) (g3 j) (g4 j) (g5 j) (g6 j) := by
    intro r
    induction r with
    | zero => intro j hj; rw [show j = N by omega]; exact he _
    | succ r ih => intro j hj; exact hs _ j (by omega) (ih (j + 1) (by omega))
  exact ⟨_, key (N - i) i (by omega)⟩
theorem lpw7_run {A1 A2 A3 A4 A5 A6 A7 : Type} {body : (A1 → A2 → A3 → A4 → A5 → A6 → A7 → Prop) → A1 → A2 → A3 → A4 → A5 → A6 → A7 → Prop} (g1 : Nat → A1) (g2 : Nat → A2) (g3 : Nat → A3) (g4 : Nat → A4) (g5 : Nat → A5) (g6 : Nat → A6) (g7 : Nat → A7) (N : Nat) (hs : ∀ (B : A1 → A2 → A3 → A4 → A5 → A6 → A7 → Prop) (j : Nat), j < N → B (g1 (j + 1)) (g2 (j + 1)) (g3 (j + 1)) (g4 (j + 1)) (g5 (j + 1)) (g6 (j + 1)) (g7 (j + 1)) → body B (g1 j) (g2 j) (g3 j) (g4 j) (g5 j) (g6 j) (g7 j)) (he : ∀ B : A1 → A2 → A3 → A4 → A5 → A6 → A7 → Prop, body B (g1 N) (g2 N) (g3 N) (g4 N) (g5 N) (g6 N) (g7 N)) (i : Nat) (hi : i ≤ N) : ∃ n, lpw7 body n (g1 i) (g2 i) (g3 i) (g4 i) (g5 i) (g6 i) (g7 i) := by
  have key : ∀ r j, j + r = N → lpw7 body (r + 1) (g1 j) (g2 j) (g3 j) (g4 j) (g5 j) (g6 j) (g7 j) := by
    intro r
    induction r with
    | zero => intro j hj; rw [show j = N by omega]; exact he _
    | succ r ih => intro j hj; exact hs _ j (by omega) (ih (j + 1) (by omega))
  exact ⟨_, key (N - i) i (by omega)⟩
theorem lpw8_run {A1 A2 A3 A4 A5 A6 A7 A8 : Type} {body : (A1 → A2 → A3 → A4 → A5 → A6 → A7 → A8 → Prop) → A1 → A2 → A3 → A4 → A5 → A6 → A7 → A8 → Prop} (g1 : Nat → A1) (g2 : Nat → A2) (g3 : Nat → A3) (g4 : Nat → A4) (g5 : Nat → A5) (g6 : Nat → A6) (g7 : Nat → A7) (g8 : Nat → A8) (N : Nat) (hs : ∀ (B : A1 → A2 → A3 → A4 → A5 → A6 → A7 → A8 → Prop) (j : Nat), j < N → B (g1 (j + 1)) (g2 (j + 1)) (g3 (j + 1)) (g4 (j + 1)) (g5 (j + 1)) (g6 (j + 1)) (g7 (j + 1)) (g8 (j + 1)) → body B (g1 j) (g2 j) (g3 j) (g4 j) (g5 j) (g6 j) (g7 j) (g8 j)) (he : ∀ B : A1 → A2 → A3 → A4 → A5 → A6 → A7 → A8 → Prop, body B (g1 N) (g2 N) (g3 N) (g4 N) (g5 N) (g6 N) (g7 N) (g8 N)) (i : Nat) (hi : i ≤ N) : ∃ n, lpw8 body n (g1 i) (g2 i) (g3 i) (g4 i) (g5 i) (g6 i) (g7 i) (g8 i) := by
  have key : ∀ r j, j + r = N → lpw8 body (r + 1) (g1 j) (g2 j) (g3 j) (g4 j) (g5 j) (g6 j) (g7 j) (g8 j) := by
    intro r
    induction r with
    | zero => intro j hj; rw [show j = N by omega]; exact he _
    | succ r ih => intro j hj; exact hs _ j (by omega) (ih (j + 1) (by omega))
  exact ⟨_, key (N - i) i (by omega)⟩
theorem lpw9_run {A1 A2 A3 A4 A5 A6 A7 A8 A9 : Type} {body : (A1 → A2 → A3 → A4 → A5 → A6 → A7 → A8 → A9 → Prop) → A1 → A2 → A3 → A4 → A5 → A6 → A7 → A8 → A9 → Prop} (g1 : Nat → A1) (g2 : Nat → A2) (g3 : Nat → A3) (g4 : Nat → A4) (g5 : Nat → A5) (g6 : Nat → A6) (g7 : Nat → A7) (g8 : Nat → A8) (g9 : Nat → A9) (N : Nat) (hs : ∀ (B : A1 → A2 → A3 → A4 → A5 → A6 → A7 → A8 → A9 → Prop) (j : Nat), j < N → B (g1 (j + 1)) (g2 (j + 1)) (g3 (j + 1)) (g4 (j + 1)) (g5 (j + 1)) (g6 (j + 1)) (g7 (j + 1)) (g8 (j + 1)) (g9 (j + 1)) → body B (g1 j) (g2 j) (g3 j) (g4 j) (g5 j) (g6 j) (g7 j) (g8 j) (g9 j)) (he : ∀ B : A1 → A2 → A3 → A4 → A5 → A6 → A7 → A8 → A9 → Prop, body B (g1 N) (g2 N) (g3 N) (g4 N) (g5 N) (g6 N) (g7 N) (g8 N) (g9 N)) (i : Nat) (hi : i ≤ N) : ∃ n, lpw9 body n (g1 i) (g2 i) (g3 i) (g4 i) (g5 i) (g6 i) (g7 i) (g8 i) (g9 i) := by
  have key : ∀ r j, j + r = N → lpw9 body (r + 1) (g1 j) (g2 j) (g3 j) (g4 j) (g5 j) (g6 j) (g7 j) (g8 j) (g9 j) := by
    intro r
    induction r with
    | zero => intro j hj; rw [show j = N by omega]; exact he _
    | succ r ih => intro j hj; exact hs _ j (by omega) (ih (j + 1) (by omega))
  exact ⟨_, key (N - i) i (by omega)⟩
theorem lpw10_run {A1 A2 A3 A4 A5 A6 A7 A8 A9 A10 : Type} {body : (A1 → A2 → A3 → A4 → A5 → A6 → A7 → A8 → A9 → A10 → Prop) → A1 → A2 → A3 → A4 → A5 → A6 → A7 → A8 → A9 → A10 → Prop} (g1 : Nat → A1) (g2 : Nat → A2) (g3 : Nat → A3) (g4 : Nat → A4) (g5 : Nat → A5) (g6 : Nat → A6) (g7 : Nat → A7) (g8 : Nat → A8) (g9 : Nat → A9) (g10 : Nat → A10) (N : Nat) (hs : ∀ (B : A1 → A2 → A3 → A4 → A5 → A6 → A7 → A8 → A9 → A10 → Prop) (j : Nat), j < N → B (g1 (j + 1)) (g2 (j + 1)) (g3 (j + 1)) (g4 (j + 1)) (g5 (j + 1)) (g6 (j + 1)) (g7 (j + 1)) (g8 (j + 1)) (g9 (j + 1)) (g10 (j + 1)) → body B (g1 j) (g2 j) (g3 j) (g4 j) (g5 j) (g6 j) (g7 j) (g8 j) (g9 j) (g10 j)) (he : ∀ B : A1 → A2 → A3 → A4 → A5 → A6 → A7 → A8 → A9 → A10 → Prop, body B (g1 N) (g2 N) (g3 N) (g4 N) (g5 N) (g6 N) (g7 N) (g8 N) (g9 N) (g10 N)) (i : Nat) (hi : i ≤ N) : ∃ n, lpw10 body n (g1 i) (g2 i) (g3 i) (g4 i) (g5 i) (g6 i) (g7 i) (g8 i) (g9 i) (g10 i) := by
  have key : ∀ r j, j + r = N → lpw10 body (r + 1) (g1 j) (g2 j) (g3 j) (g4 j) (g5 j) (g6 j) (g7 j) (g8 j) (g9 j) (g10 j) := by
    intro r
    induction r with
    | zero => intro j hj; rw [show j = N by omega]; exact he _
    | succ r ih => intro j hj; exact hs _ j (by omega) (ih (j + 1) (by omega))
  exact ⟨_, key (N - i) i (by omega)⟩
theorem lpw19_run {A1 A2 A3 A4 A5 A6 A7 A8 A9 A10 A11 A12 A13 A14 A15 A16 A17 A18 A19 : Type} {body : (A1 → A2 → A3 → A4 → A5 → A6 → A7 → A8 → A9 → A10 → A11 → A12 → A13 → A14 → A15 → A16 → A17 → A18 → A19 → Prop) → A1 → A2 → A3 → A4 → A5 → A6 → A7 → A8 → A9 → A10 → A11 → A12 → A13 → A14 → A15 → A16 → A17 → A18 → A19 → Prop} (g1 : Nat → A1) (g2 : Nat → A2) (g3 : Nat → A3) (g4 : Nat → A4) (g5 : Nat → A5) (g6 : Nat → A6) (g7 : Nat → A7) (g8 : Nat → A8) (g9 : Nat → A9) (g10 : Nat → A10) (g11 : Nat → A11) (g12 : Nat → A12) (g13 : Nat → A13) (g14 : Nat → A14) (g15 : Nat → A15) (g16 : Nat → A16) (g17 : Nat → A17) (g18 : Nat → A18) (g19 : Nat → A19) (N : Nat) (hs : ∀ (B : A1 → A2 → A3 → A4 → A5 → A6 → A7 → A8 → A9 → A10 → A11 → A12 → A13 → A14 → A15 → A16 → A17 → A18 → A19 → Prop) (j : Nat), j < N → B (g1 (j + 1)) (g2 (j + 1)) (g3 (j + 1)) (g4 (j + 1)) (g5 (j + 1)) (g6 (j + 1)) (g7 (j + 1)) (g8 (j + 1)) (g9 (j + 1)) (g10 (j + 1)) (g11 (j + 1)) (g12 (j + 1)) (g13 (j + 1)) (g14 (j + 1)) (g15 (j + 1)) (g16 (j + 1)) (g17 (j + 1)) (g18 (j + 1)) (g19 (j + 1)) → body B (g1 j) (g2 j) (g3 j) (g4 j) (g5 j) (g6 j) (g7 j) (g8 j) (g9 j) (g10 j) (g11 j) (g12 j) (g13 j) (g14 j) (g15 j) (g16 j) (g17 j) (g18 j) (g19 j)) (he : ∀ B : A1 → A2 → A3 → A4 → A5 → A6 → A7 → A8 → A9 → A10 → A11 → A12 → A13 → A14 → A15 → A16 → A17 → A18 → A19 → Prop, body B (g1 N) (g2 N) (g3 N) (g4 N) (g5 N) (g6 N) (g7 N) (g8 N) (g9 N) (g10 N) (g11 N) (g12 N) (g13 N) (g14 N) (g15 N) (g16 N) (g17 N) (g18 N) (g19 N)) (i : Nat) (hi : i ≤ N) : ∃ n, lpw19 body n (g1 i) (g2 i) (g3 i) (g4 i) (g5 i) (g6 i) (g7 i) (g8 i) (g9 i) (g10 i) (g11 i) (g12 i) (g13 i) (g14 i) (g15 i) (g16 i) (g17 i) (g18 i) (g19 i) := by
  have key : ∀ r j, j + r = N → lpw19 body (r + 1) (g1 j) (g2 j) (g3 j) (g4 j) (g5 j) (g6 j) (g7 j) (g8 j) (g9 j) (g10 j) (g11 j) (g12 j) (g13 j) (g14 j) (g15 j) (g16 j) (g17 j) (g18 j) (g19 j) := by
    intro r
    induction r with
    | zero => intro j hj; rw [show j = N by omega]; exact he _
    | succ r ih => intro j hj; exact hs _ j (by omega) (ih (j + 1) (by omega))
  exact ⟨_, key (N - i) i (by omega)⟩
