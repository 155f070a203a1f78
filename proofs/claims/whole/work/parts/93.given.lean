/-! WHAT THE START GIVES -/
set_option maxHeartbeats 4000000 in
set_option maxRecDepth 100000 in
theorem xz_start {s : State} {b : Nat} (hts : ∀ w ∈ lw_tbl, w.before #[Value.ref b] s = true) (hg : (Jvm.Cond.and given_1 narrow_1).before #[Value.ref b] s = true) : ∃ (t0 : Nat) (adK adV : Nat → Nat), xZ t0 adK adV (fun q => s.heap.size ≤ q) s := by
  have hs := flat_of_before _ hg
  have hA : ∀ a : Nat, a < s.heap.size → ¬ (fun q : Nat => s.heap.size ≤ q) a := fun a h => Nat.not_le.mpr h
  have hel : ∀ j : Nat, j < 13 → (Cond.eq (.elem (.static "FeatureImport$Days" "AHEAD_OF_MONTH" "[I") (.int (Int32.ofNat j))) (.int (nI (mTab j)))).before #[Value.ref b] s = true := by
    intro j hj
    match j, hj with
    | 0, _ => exact hs (.eq (.elem (.static "FeatureImport$Days" "AHEAD_OF_MONTH" "[I") (.int 0)) (.int 0)) (by decide +kernel)
    | 1, _ => exact hs (.eq (.elem (.static "FeatureImport$Days" "AHEAD_OF_MONTH" "[I") (.int 1)) (.int 31)) (by decide +kernel)
    | 2, _ => exact hs (.eq (.elem (.static "FeatureImport$Days" "AHEAD_OF_MONTH" "[I") (.int 2)) (.int 59)) (by decide +kernel)
    | 3, _ => exact hs (.eq (.elem (.static "FeatureImport$Days" "AHEAD_OF_MONTH" "[I") (.int 3)) (.int 90)) (by decide +kernel)
    | 4, _ => exact hs (.eq (.elem (.static "FeatureImport$Days" "AHEAD_OF_MONTH" "[I") (.int 4)) (.int 120)) (by decide +kernel)
    | 5, _ => exact hs (.eq (.elem (.static "FeatureImport$Days" "AHEAD_OF_MONTH" "[I") (.int 5)) (.int 151)) (by decide +kernel)
    | 6, _ => exact hs (.eq (.elem (.static "FeatureImport$Days" "AHEAD_OF_MONTH" "[I") (.int 6)) (.int 181)) (by decide +kernel)
    | 7, _ => exact hs (.eq (.elem (.static "FeatureImport$Days" "AHEAD_OF_MONTH" "[I") (.int 7)) (.int 212)) (by decide +kernel)
    | 8, _ => exact hs (.eq (.elem (.static "FeatureImport$Days" "AHEAD_OF_MONTH" "[I") (.int 8)) (.int 243)) (by decide +kernel)
    | 9, _ => exact hs (.eq (.elem (.static "FeatureImport$Days" "AHEAD_OF_MONTH" "[I") (.int 9)) (.int 273)) (by decide +kernel)
    | 10, _ => exact hs (.eq (.elem (.static "FeatureImport$Days" "AHEAD_OF_MONTH" "[I") (.int 10)) (.int 304)) (by decide +kernel)
    | 11, _ => exact hs (.eq (.elem (.static "FeatureImport$Days" "AHEAD_OF_MONTH" "[I") (.int 11)) (.int 334)) (by decide +kernel)
    | 12, _ => exact hs (.eq (.elem (.static "FeatureImport$Days" "AHEAD_OF_MONTH" "[I") (.int 12)) (.int 365)) (by decide +kernel)
    | j + 13, hj => exact absurd hj (by omega)
  obtain ⟨t0, ht0, hT⟩ := va_Tof (args := #[Value.ref b]) (s := s) (tm := .static "FeatureImport$Days" "AHEAD_OF_MONTH" "[I") (ty := .int) (N := 13) (f := fun j => .int (nI (mTab j))) (A := fun q => s.heap.size ≤ q) (by decide) (hs _ (by decide +kernel)) (va_eqt (hs (.eq (.length (.static "FeatureImport$Days" "AHEAD_OF_MONTH" "[I")) (.int 13)) (by decide +kernel))) (fun j hj => va_eqt (hel j hj)) hA
  have hel2 : ∀ i : Nat, i < 2 → ∀ j : Nat, j < zLens.getD i 0 → (Cond.eq (.elem (.field ((fun i : Nat => if i = 0 then (.string "FeatureImport$Days" 9) else (.string "FeatureImport$Days" 15)) i) "java/lang/String" "value" "[B") (.int (Int32.ofNat j))) (.int ((zBytes.getD i []).getD j 0))).before #[Value.ref b] s = true := by
    intro i hi j hj
    match i, hi, j, hj with
    | 0, _, 0, _ => exact hs (.eq (.elem (.field (.string "FeatureImport$Days" 9) "java/lang/String" "value" "[B") (.int 0)) (.int 48)) (by decide +kernel)
    | 0, _, 1, _ => exact hs (.eq (.elem (.field (.string "FeatureImport$Days" 9) "java/lang/String" "value" "[B") (.int 1)) (.int 48)) (by decide +kernel)
    | 0, _, 2, _ => exact hs (.eq (.elem (.field (.string "FeatureImport$Days" 9) "java/lang/String" "value" "[B") (.int 2)) (.int 47)) (by decide +kernel)
    | 0, _, 3, _ => exact hs (.eq (.elem (.field (.string "FeatureImport$Days" 9) "java/lang/String" "value" "[B") (.int 3)) (.int 48)) (by decide +kernel)
    | 0, _, 4, _ => exact hs (.eq (.elem (.field (.string "FeatureImport$Days" 9) "java/lang/String" "value" "[B") (.int 4)) (.int 48)) (by decide +kernel)
    | 0, _, 5, _ => exact hs (.eq (.elem (.field (.string "FeatureImport$Days" 9) "java/lang/String" "value" "[B") (.int 5)) (.int 47)) (by decide +kernel)
    | 0, _, 6, _ => exact hs (.eq (.elem (.field (.string "FeatureImport$Days" 9) "java/lang/String" "value" "[B") (.int 6)) (.int 48)) (by decide +kernel)
    | 0, _, 7, _ => exact hs (.eq (.elem (.field (.string "FeatureImport$Days" 9) "java/lang/String" "value" "[B") (.int 7)) (.int 48)) (by decide +kernel)
    | 0, _, 8, _ => exact hs (.eq (.elem (.field (.string "FeatureImport$Days" 9) "java/lang/String" "value" "[B") (.int 8)) (.int 48)) (by decide +kernel)
    | 0, _, 9, _ => exact hs (.eq (.elem (.field (.string "FeatureImport$Days" 9) "java/lang/String" "value" "[B") (.int 9)) (.int 48)) (by decide +kernel)
    | 0, _, j + 10, hj => exact absurd hj (by show ¬ j + 10 < 10; omega)
    | 1, _, 0, _ => exact hs (.eq (.elem (.field (.string "FeatureImport$Days" 15) "java/lang/String" "value" "[B") (.int 0)) (.int 48)) (by decide +kernel)
    | 1, _, 1, _ => exact hs (.eq (.elem (.field (.string "FeatureImport$Days" 15) "java/lang/String" "value" "[B") (.int 1)) (.int 48)) (by decide +kernel)
    | 1, _, 2, _ => exact hs (.eq (.elem (.field (.string "FeatureImport$Days" 15) "java/lang/String" "value" "[B") (.int 2)) (.int 48)) (by decide +kernel)
    | 1, _, 3, _ => exact hs (.eq (.elem (.field (.string "FeatureImport$Days" 15) "java/lang/String" "value" "[B") (.int 3)) (.int 48)) (by decide +kernel)
    | 1, _, 4, _ => exact hs (.eq (.elem (.field (.string "FeatureImport$Days" 15) "java/lang/String" "value" "[B") (.int 4)) (.int 45)) (by decide +kernel)
    | 1, _, 5, _ => exact hs (.eq (.elem (.field (.string "FeatureImport$Days" 15) "java/lang/String" "value" "[B") (.int 5)) (.int 48)) (by decide +kernel)
    | 1, _, 6, _ => exact hs (.eq (.elem (.field (.string "FeatureImport$Days" 15) "java/lang/String" "value" "[B") (.int 6)) (.int 48)) (by decide +kernel)
    | 1, _, 7, _ => exact hs (.eq (.elem (.field (.string "FeatureImport$Days" 15) "java/lang/String" "value" "[B") (.int 7)) (.int 45)) (by decide +kernel)
    | 1, _, 8, _ => exact hs (.eq (.elem (.field (.string "FeatureImport$Days" 15) "java/lang/String" "value" "[B") (.int 8)) (.int 48)) (by decide +kernel)
    | 1, _, 9, _ => exact hs (.eq (.elem (.field (.string "FeatureImport$Days" 15) "java/lang/String" "value" "[B") (.int 9)) (.int 48)) (by decide +kernel)
    | 1, _, j + 10, hj => exact absurd hj (by show ¬ j + 10 < 10; omega)
    | i + 2, hi, _, _ => exact absurd hi (by omega)
  obtain ⟨adK, adV, hS, hR⟩ := vk_Sof (args := #[Value.ref b]) (s := s) (N := 2) (tm := fun i : Nat => if i = 0 then (.string "FeatureImport$Days" 9) else (.string "FeatureImport$Days" 15)) (len := zLens) (byt := zBytes) (A := fun q => s.heap.size ≤ q)
    (fun i hi => match i, hi with
    | 0, _ => (by decide)
    | 1, _ => (by decide)
    | i + 2, hi => absurd hi (by omega))
    (fun i hi => match i, hi with
    | 0, _ => hs (.exactly (.string "FeatureImport$Days" 9) "java/lang/String") (by decide +kernel)
    | 1, _ => hs (.exactly (.string "FeatureImport$Days" 15) "java/lang/String") (by decide +kernel)
    | i + 2, hi => absurd hi (by omega))
    (fun i hi => match i, hi with
    | 0, _ => hs (.eq (.field (.string "FeatureImport$Days" 9) "java/lang/String" "coder" "B") (.int 0)) (by decide +kernel)
    | 1, _ => hs (.eq (.field (.string "FeatureImport$Days" 15) "java/lang/String" "coder" "B") (.int 0)) (by decide +kernel)
    | i + 2, hi => absurd hi (by omega))
    (fun i hi => match i, hi with
    | 0, _ => hs (.arrayOf (.field (.string "FeatureImport$Days" 9) "java/lang/String" "value" "[B") .byte) (by decide +kernel)
    | 1, _ => hs (.arrayOf (.field (.string "FeatureImport$Days" 15) "java/lang/String" "value" "[B") .byte) (by decide +kernel)
    | i + 2, hi => absurd hi (by omega))
    (fun i hi => match i, hi with
    | 0, _ => hs (.eq (.length (.field (.string "FeatureImport$Days" 9) "java/lang/String" "value" "[B")) (.int 10)) (by decide +kernel)
    | 1, _ => hs (.eq (.length (.field (.string "FeatureImport$Days" 15) "java/lang/String" "value" "[B")) (.int 10)) (by decide +kernel)
    | i + 2, hi => absurd hi (by omega))
    hel2
    (fun i j hi hj hij => by
      rcases (show i = 0 ∨ i = 1 by omega) with rfl | rfl <;> rcases (show j = 0 ∨ j = 1 by omega) with rfl | rfl
      · exact absurd rfl hij
      · exact Or.inl (hs (.not (.eq (.string "FeatureImport$Days" 9) (.string "FeatureImport$Days" 15))) (by decide +kernel))
      · exact Or.inr (hs (.not (.eq (.string "FeatureImport$Days" 9) (.string "FeatureImport$Days" 15))) (by decide +kernel))
      · exact absurd rfl hij) hA
  refine ⟨t0, adK, adV, va_Zref (hts (.laysStatic "FeatureImport$Days" "AHEAD_OF_MONTH" "[I") (by decide +kernel)) (hts (.initialized "FeatureImport$Days") (by decide +kernel)) ht0 hA, hT, hS, vk_R.of (hts (.stringRef RX0 9 "00/00/0000") (by decide +kernel)) (hR 0 (by decide)), vk_R.of (hts (.stringRef RX0 15 "0000-00-00") (by decide +kernel)) (hR 1 (by decide)), ?_, ?_⟩
  · exact va_Zof (hts (.laysStatic "java/lang/String" "COMPACT_STRINGS" "Z") (by decide +kernel)) (hts (.initialized "java/lang/String") (by decide +kernel)) (va_eqt (hs (.eq (.static "java/lang/String" "COMPACT_STRINGS" "Z") (.int 1)) (by decide +kernel))) hA
  · exact va_Zqof (hts (.laysStatic "jdk/internal/util/Preconditions" "SIOOBE_FORMATTER" "Ljava/util/function/BiFunction;") (by decide +kernel)) (hts (.initialized "jdk/internal/util/Preconditions") (by decide +kernel)) (hs (.isRef (.static "jdk/internal/util/Preconditions" "SIOOBE_FORMATTER" "Ljava/util/function/BiFunction;")) (by decide +kernel)) hA
theorem ar_prim {args : Array Value} {s : State} {ty : FieldType} (h : (Cond.arrayClass ty).before args s = true) (hp : ∀ C, ty ≠ .object C) : ∃ cA : ClassId, ArrOfT s cA ty ∧ va_RA s cA ty := by
  obtain ⟨c, k, comp, h1, h2, h3⟩ := Cond.arrayClass_spec h
  refine ⟨c, fun n z => ⟨fun q hq => (by cases hq), k, h2, comp, h3⟩, ?_⟩
  cases ty with
  | object C => exact absurd rfl (hp C)
  | _ => exact h1
theorem ar_obj {args : Array Value} {s : State} {C : String} (h : (Cond.arrayOver (.object C)).before args s = true) : ∃ cA : ClassId, ArrOfT s cA (.object C) ∧ va_RA s cA (.object C) := by
  obtain ⟨comp, c, k, h1, h2, h3, h4, h5⟩ := Cond.arrayOver_spec h
  exact ⟨c, fun n z => ⟨fun q hq => (by cases hq), k, h3, comp, h4⟩, ⟨k, comp, h3, h4, h1, h5⟩⟩
theorem ar_arr {args : Array Value} {s : State} {t : FieldType} (h : (Cond.arrayOver (.array t)).before args s = true) : ∃ cA : ClassId, ArrOfT s cA (.array t) ∧ va_RA s cA (.array t) := by
  obtain ⟨comp, c, k, h1, h2, h3, h4, h5⟩ := arrayOverA_spec h
  exact ⟨c, fun n z => ⟨fun q hq => (by cases hq), k, h3, comp, h4⟩, h5⟩
set_option maxHeartbeats 4000000 in
theorem k_start {s : State} {args : Array Value} (hts : ∀ w ∈ lw_tbl, w.before args s = true) : ∃ (D : va_G) (cy : Nat → ClassId), va_K D vwCl (TY cy) s := by
  obtain ⟨c0, i0, k0⟩ := u_known (C := RX1) (T := TX1) (N := 4) (n := 4) hts in_wsX10 (hts (.instantiable RX1 4) (wsL_law_in _ lw_i0))
  obtain ⟨c1, i1, k1⟩ := u_known (C := RX2) (T := TX2) (N := 3) (n := 3) hts in_wsX20 (hts (.instantiable RX2 3) (wsL_law_in _ lw_i1))
  obtain ⟨c2, i2, k2⟩ := u_known (C := RX3) (T := TX3) (N := 3) (n := 3) hts in_wsX30 (hts (.instantiable RX3 3) (wsL_law_in _ lw_i2))
  obtain ⟨c3, i3, k3⟩ := u_known (C := RX4) (T := TX4) (N := 1) (n := 1) hts in_wsX40 (hts (.instantiable RX4 1) (wsL_law_in _ lw_i3))
  obtain ⟨c4, i4, k4⟩ := u_known (C := RX5) (T := TX5) (N := 9) (n := 9) hts in_wsX50 (hts (.instantiable RX5 9) (wsL_law_in _ lw_i4))
  obtain ⟨c5, i5, k5⟩ := u_known (C := RX6) (T := TX6) (N := 2) (n := 2) hts in_wsX60 (hts (.instantiable RX6 2) (wsL_law_in _ lw_i5))
  obtain ⟨c6, i6, k6⟩ := u_known (C := RX7) (T := TX7) (N := 11) (n := 11) hts in_wsX70 (hts (.instantiable RX7 11) (wsL_law_in _ lw_i6))
  obtain ⟨c7, i7, k7⟩ := u_known (C := RX8) (T := TX8) (N := 3) (n := 3) hts in_wsX80 (hts (.instantiable RX8 3) (wsL_law_in _ lw_i7))
  obtain ⟨c8, i8, k8⟩ := u_known (C := RX9) (T := TX9) (N := 9) (n := 9) hts in_wsX90 (hts (.instantiable RX9 9) (wsL_law_in _ lw_i8))
  obtain ⟨c9, i9, k9⟩ := u_known (C := RX10) (T := TX10) (N := 47) (n := 47) hts in_wsX100 (hts (.instantiable RX10 47) (wsL_law_in _ lw_i9))
  obtain ⟨y0, a0⟩ := ar_prim (hts (.arrayClass .byte) (wsL_law_in _ lw_ab)) (fun C h => by cases h)
  obtain ⟨y1, a1⟩ := ar_prim (hts (.arrayClass .int) (wsL_law_in _ lw_ai)) (fun C h => by cases h)
  obtain ⟨y2, a2⟩ := ar_prim (hts (.arrayClass .long) (wsL_law_in _ lw_al)) (fun C h => by cases h)
  obtain ⟨y3, a3⟩ := ar_obj (hts (.arrayOver (.object "FeatureImport$Field")) (by decide +kernel))
  obtain ⟨y4, a4⟩ := ar_obj (hts (.arrayOver (.object "FeatureImport$Line")) (by decide +kernel))
  obtain ⟨y5, a5⟩ := ar_obj (hts (.arrayOver (.object "FeatureImport$Tape")) (by decide +kernel))
  obtain ⟨y6, a6⟩ := ar_arr (hts (.arrayOver (.array .long)) (by decide +kernel))
  refine ⟨(fun k => [c0, c1, c2, c3, c4, c5, c6, c7, c8, c9].getD k c0, fun k => [i0, i1, i2, i3, i4, i5, i6, i7, i8, i9].getD k i0), fun k => [y0, y1, y2, y3, y4, y5, y6].getD k y0, fun k q hq => ?_, fun k q hq => ?_⟩
  · match k, hq with
    | 0, hq => cases hq; exact k0
    | 1, hq => cases hq; exact k1
    | 2, hq => cases hq; exact k2
    | 3, hq => cases hq; exact k3
    | 4, hq => cases hq; exact k4
    | 5, hq => cases hq; exact k5
    | 6, hq => cases hq; exact k6
    | 7, hq => cases hq; exact k7
    | 8, hq => cases hq; exact k8
    | 9, hq => cases hq; exact k9
    | k + 10, hq => simp [vwCl] at hq
  · match k, hq with
    | 0, hq => cases hq; exact a0
    | 1, hq => cases hq; exact a1
    | 2, hq => cases hq; exact a2
    | 3, hq => cases hq; exact a3
    | 4, hq => cases hq; exact a4
    | 5, hq => cases hq; exact a5
    | 6, hq => cases hq; exact a6
    | k + 7, hq => simp [TY] at hq
