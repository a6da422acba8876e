/-! what holds at the law's entry -/
set_option maxRecDepth 100000 in
theorem lw_K {s : State} {b : Nat} (hts : ∀ w ∈ lw_tbl, w.before #[Value.ref b] s = true) : ∃ (D : va_G) (cy : ClassId × ClassId × ClassId × ClassId), KK D cy s := by
  obtain ⟨c0, i0, k0⟩ := u_known (C := RX0) (T := TX0) (N := 4) (n := 4) hts lwin_wsX00 (hts (.instantiable RX0 4) (lwin_2 _ (List.mem_of_getElem? (i := 6) rfl)))
  obtain ⟨c1, i1, k1⟩ := u_known (C := RX1) (T := TX1) (N := 7) (n := 7) hts lwin_wsX10 (hts (.instantiable RX1 7) (lwin_1 _ (List.mem_of_getElem? (i := 22) rfl)))
  obtain ⟨c2, i2, k2⟩ := u_known (C := RX2) (T := TX2) (N := 2) (n := 2) hts lwin_wsX20 (hts (.instantiable RX2 2) (lwin_2 _ (List.mem_of_getElem? (i := 10) rfl)))
  obtain ⟨c3, i3, k3⟩ := u_known (C := RX4) (T := TX4) (N := 15) (n := 15) hts lwin_wsX40 (hts (.instantiable RX4 15) (lwin_1 _ (List.mem_of_getElem? (i := 13) rfl)))
  obtain ⟨c4, i4, k4⟩ := u_known (C := RX5) (T := TX5) (N := 4) (n := 4) hts lwin_wsX50 (hts (.instantiable RX5 4) (lwin_2 _ (List.mem_of_getElem? (i := 2) rfl)))
  obtain ⟨c5, i5, k5⟩ := u_known (C := RX6) (T := TX6) (N := 4) (n := 4) hts lwin_wsX60 (hts (.instantiable RX6 4) (lwin_3 _ (List.mem_of_getElem? (i := 7) rfl)))
  obtain ⟨c6, i6, k6⟩ := u_known (C := RX7) (T := TX7) (N := 8) (n := 8) hts lwin_wsX70 (hts (.instantiable RX7 8) (lwin_2 _ (List.mem_of_getElem? (i := 14) rfl)))
  obtain ⟨c7, i7, k7⟩ := u_known (C := RX8) (T := TX8) (N := 15) (n := 15) hts lwin_wsX80 (hts (.instantiable RX8 15) (lwin_1 _ (List.mem_of_getElem? (i := 1) rfl)))
  obtain ⟨c8, i8, k8⟩ := u_known (C := RX9) (T := TX9) (N := 18) (n := 18) hts lwin_wsX90 (hts (.instantiable RX9 18) (lwin_1 _ (List.mem_of_getElem? (i := 4) rfl)))
  obtain ⟨cB, kB, pB, fB, gB, hB⟩ := Cond.arrayClass_spec (hts (.arrayClass .byte) (lwin_1 _ (List.mem_of_getElem? (i := 19) rfl)))
  obtain ⟨cI, kI, pI, fI, gI, hI⟩ := Cond.arrayClass_spec (hts (.arrayClass .int) (lwin_2 _ (List.mem_of_getElem? (i := 22) rfl)))
  obtain ⟨cZ, kZ, pZ, fZ, gZ, hZ⟩ := Cond.arrayClass_spec (hts (.arrayClass .boolean) (lwin_1 _ (List.mem_of_getElem? (i := 17) rfl)))
  have hao : (Cond.arrayOver (.object "RasherCase$Parish")).before #[Value.ref b] s = true := hts _ (by decide +kernel)
  obtain ⟨comp, cP, kP, p1, p2, p3, p4, p5⟩ := Cond.arrayOver_spec hao
  refine ⟨(fun k => [c0, c1, c2, c3, c4, c5, c6, c7, c8].getD k c0, fun k => [i0, i1, i2, i3, i4, i5, i6, i7, i8].getD k i0), (cB, cI, cZ, cP), ⟨fun k q hq => ?_, fun k q hq => ?_⟩, va_Nw.of rfl (hts (.methodLinkNest RX7 94 yX8_within RX8) (by decide +kernel)), va_AO.of hao⟩
  · match k, hq with
    | 0, hq => cases hq; exact k0
    | 1, hq => cases hq; exact k1
    | 2, hq => cases hq; exact k2
    | 3, hq => cases hq; exact k3
    | 4, hq => cases hq; exact k4
    | 5, hq => cases hq; exact k5
    | 6, hq => cases hq; exact k6
    | 7, hq => cases hq; exact k7
    | 8, hq => cases hq; exact k8
    | k + 9, hq => simp [vwCl] at hq
  · match k, hq with
    | 0, hq => cases hq; exact ⟨fun N z => ⟨(fun k h => by cases h), kB, gB, pB, hB⟩, fB⟩
    | 1, hq => cases hq; exact ⟨fun N z => ⟨(fun k h => by cases h), kI, gI, pI, hI⟩, fI⟩
    | 2, hq => cases hq; exact ⟨fun N z => ⟨(fun k h => by cases h), kZ, gZ, pZ, hZ⟩, fZ⟩
    | 3, hq => cases hq; exact ⟨fun N z => ⟨(fun k h => by cases h), kP, p3, comp, p4⟩, ⟨kP, comp, p3, p4, p1, p5⟩⟩
    | k + 4, hq => simp [tyS] at hq
set_option maxHeartbeats 4000000 in
set_option maxRecDepth 100000 in
theorem lw_SP {s : State} {b : Nat} {A : Nat → Prop} (hts : ∀ w ∈ lw_tbl, w.before #[Value.ref b] s = true) (hgv : (Jvm.Cond.and given_1 narrow_1).before #[Value.ref b] s = true) (hA : ∀ a : Nat, a < s.heap.size → ¬ A a) : ∃ adK adV : Nat → Nat, SP adK adV A s s.heap := by
  have hs := flat_of_before _ hgv
  refine (vk_Sof (args := #[Value.ref b]) (s := s) (N := 5) (tm := fun i => Term.string RX7 ([110, 116, 118, 120, 122].getD i 0)) (len := lenJ) (byt := bytJ) (A := A) (by decide) (fun i hi => by rcases (show i = 0 ∨ i = 1 ∨ i = 2 ∨ i = 3 ∨ i = 4 by omega) with rfl | rfl | rfl | rfl | rfl <;> exact hs _ (by decide +kernel)) (fun i hi => by rcases (show i = 0 ∨ i = 1 ∨ i = 2 ∨ i = 3 ∨ i = 4 by omega) with rfl | rfl | rfl | rfl | rfl <;> exact hs _ (by decide +kernel)) (fun i hi => by rcases (show i = 0 ∨ i = 1 ∨ i = 2 ∨ i = 3 ∨ i = 4 by omega) with rfl | rfl | rfl | rfl | rfl <;> exact hs _ (by decide +kernel)) (fun i hi => by rcases (show i = 0 ∨ i = 1 ∨ i = 2 ∨ i = 3 ∨ i = 4 by omega) with rfl | rfl | rfl | rfl | rfl <;> exact hs _ (by decide +kernel)) ?_ ?_ hA).elim (fun adK h => h.elim (fun adV h => ?_))
  · intro i hi j hj
    rcases (show i = 0 ∨ i = 1 ∨ i = 2 ∨ i = 3 ∨ i = 4 by omega) with rfl | rfl | rfl | rfl | rfl
    · have hj : j < 6 := hj
      rcases (show j = 0 ∨ j = 1 ∨ j = 2 ∨ j = 3 ∨ j = 4 ∨ j = 5 by omega) with rfl | rfl | rfl | rfl | rfl | rfl <;> exact hs _ (by decide +kernel)
    · have hj : j < 6 := hj
      rcases (show j = 0 ∨ j = 1 ∨ j = 2 ∨ j = 3 ∨ j = 4 ∨ j = 5 by omega) with rfl | rfl | rfl | rfl | rfl | rfl <;> exact hs _ (by decide +kernel)
    · have hj : j < 6 := hj
      rcases (show j = 0 ∨ j = 1 ∨ j = 2 ∨ j = 3 ∨ j = 4 ∨ j = 5 by omega) with rfl | rfl | rfl | rfl | rfl | rfl <;> exact hs _ (by decide +kernel)
    · have hj : j < 3 := hj
      rcases (show j = 0 ∨ j = 1 ∨ j = 2 by omega) with rfl | rfl | rfl <;> exact hs _ (by decide +kernel)
    · have hj : j < 4 := hj
      rcases (show j = 0 ∨ j = 1 ∨ j = 2 ∨ j = 3 by omega) with rfl | rfl | rfl | rfl <;> exact hs _ (by decide +kernel)
  · intro i j hi hj hij
    rcases (show i = 0 ∨ i = 1 ∨ i = 2 ∨ i = 3 ∨ i = 4 by omega) with rfl | rfl | rfl | rfl | rfl <;> rcases (show j = 0 ∨ j = 1 ∨ j = 2 ∨ j = 3 ∨ j = 4 by omega) with rfl | rfl | rfl | rfl | rfl <;> first | exact absurd rfl hij | exact Or.inl (hs _ (by decide +kernel)) | exact Or.inr (hs _ (by decide +kernel))
  · obtain ⟨hS, hE⟩ := h
    refine ⟨adK, adV, hS, va_Zof (args := #[Value.ref b]) (hts (.laysStatic "java/lang/String" "COMPACT_STRINGS" "Z") (by decide +kernel)) (hts (.initialized "java/lang/String") (by decide +kernel)) (va_eqt (hs (.eq (.static "java/lang/String" "COMPACT_STRINGS" "Z") (.int 1)) (by decide +kernel))) hA, va_Zqof (args := #[Value.ref b]) (hts (.laysStatic "jdk/internal/util/Preconditions" "SIOOBE_FORMATTER" "Ljava/util/function/BiFunction;") (by decide +kernel)) (hts (.initialized "jdk/internal/util/Preconditions") (by decide +kernel)) (hs (.isRef (.static "jdk/internal/util/Preconditions" "SIOOBE_FORMATTER" "Ljava/util/function/BiFunction;")) (by decide +kernel)) hA, vk_R.of (hts (.stringRef RX7 110 "parish") (by decide +kernel)) (hE 0 (by omega)), vk_R.of (hts (.stringRef RX7 116 "flitch") (by decide +kernel)) (hE 1 (by omega)), vk_R.of (hts (.stringRef RX7 118 "family") (by decide +kernel)) (hE 2 (by omega)), vk_R.of (hts (.stringRef RX7 120 "out") (by decide +kernel)) (hE 3 (by omega)), vk_R.of (hts (.stringRef RX7 122 "days") (by decide +kernel)) (hE 4 (by omega))⟩
