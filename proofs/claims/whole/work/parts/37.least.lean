
def leS (g : Nat → Int64) : Nat → Int64
  | 0 => 9223372036854775807
  | k + 1 => if g k < leS g k then g k else leS g k
def grS (g : Nat → Int64) : Nat → Int64
  | 0 => -9223372036854775808
  | k + 1 => if g k < grS g k then grS g k else g k

set_option maxHeartbeats 4000000 in
set_option maxRecDepth 100000 in
/-- the least, the greatest -/
theorem c_X9_leastGathered (l : Launch) (D : va_G) (cy : Nat → ClassId) (fi : Nat) (tO : Nat) (gO : Nat) (nO : Nat) (tb : Nat) (tb' : Nat) (trO : Nat) (gA : Nat) (tP : Nat) (kf : Nat) (ga : Nat → Int64) (cn : Nat) (hcn : cn ≤ 24) : xMet l D cy xT yX9_leastGathered wsX9_leastGathered ({ frames := 2, cells := 0, slots := 0, locals := 200 } : Room) [.ref fi, .int (nI cn)] [(fi, .inr (8, [.ref tO, .ref gO, .ref nO, .ref tb, .ref tb', .ref trO, .ref gA, .ref tP, .int (nI kf)])), (gA, .inl (cy 2, 24, .inr (.inl ga)))] [] (fun (v9 : Option Value) (w9 : va_W) => (v9 = some (.long (leS ga cn)) ∧ w9 = [(fi, .inr (8, [.ref tO, .ref gO, .ref nO, .ref tb, .ref tb', .ref trO, .ref gA, .ref tP, .int (nI kf)])), (gA, .inl (cy 2, 24, .inr (.inl ga)))])) := by
  refine xMet_of (cc := cX9_leastGathered) (maxL := 5) (ret := (some .long)) (by decide) rfl (Nat.le_of_ble_eq_true rfl) (fun p e s m args below meth c A R Q hA hR hQ C hr hnm hro hX => ?_)
  have hw0 : Jvm.Cond.constantLong RX9 327 (9223372036854775807) ∈ wsX9_leastGathered := by decide +kernel
  have hw1 : ∀ w ∈ u_ws RX9 TX9 9, w ∈ wsX9_leastGathered := by decide +kernel
  have hw2 : Cond.fieldLink RX9 47 (TX9 6).1 (TX9 6).2.1 (TX9 6).2.2.1 ∈ wsX9_leastGathered := by decide +kernel
  have hw3 : Cond.methodLink RX9 329 Lib.MathLoose.min_long.x ∈ wsX9_leastGathered := by decide +kernel
  have hw4 : Cond.static Lib.MathLoose.min_long.x ∈ wsX9_leastGathered := by decide +kernel
  have hw5 : Cond.initialized "java/lang/Math" ∈ wsX9_leastGathered := by decide +kernel
  have hw6 : Cond.code Lib.MathLoose.min_long.x Lib.MathLoose.min_long.code 4 (some .long) ∈ wsX9_leastGathered := by decide +kernel
  refine x_L (L' := [(0, .ref fi), (1, .int (nI cn))]) [0, 1] rfl ?_
  refine x_ldc2 C (v := (9223372036854775807)) hw0 dX9_leastGathered_0 (q := 3) rfl ?_
  refine x_lstore_n C (L' := [(2, .long ((9223372036854775807))), (0, .ref fi), (1, .int (nI cn))]) dX9_leastGathered_3 (q := 4) rfl rfl (by decide) rfl ?_
  refine x_iconst C dX9_leastGathered_4 (q := 5) rfl (v := nI 0) (by decide) ?_
  refine x_istore C (L' := [(4, .int (nI 0)), (2, .long ((9223372036854775807))), (0, .ref fi), (1, .int (nI cn))]) dX9_leastGathered_5 (q := 7) rfl (by decide) rfl ?_
  have cut7 : ∀ (fuel : Nat) (i : Nat) (v : Int64), (i ≤ cn) → (v = leS ga i) → cn - i < fuel → xG p l e R s m args below meth c Q D A 5 [(fi, .inr (8, [.ref tO, .ref gO, .ref nO, .ref tb, .ref tb', .ref trO, .ref gA, .ref tP, .int (nI kf)])), (gA, .inl (cy 2, 24, .inr (.inl ga)))] 0 0 7 [(0, .ref fi), (1, .int (nI cn)), (2, .long (v)), (4, .int (nI i))] [] := by
    intro fuel
    induction fuel with
    | zero =>
      intro i v hi hv hmu
      exact absurd hmu (Nat.not_lt_zero _)
    | succ fuel ih =>
      intro i v hi hv hmu
      have ih7 := ih
      clear ih
      refine x_iload C dX9_leastGathered_7 (q := 9) rfl 3 rfl ?_
      refine x_iload_n C dX9_leastGathered_9 (q := 10) rfl rfl 1 rfl ?_
      refine x_icmp_ge C (tgt := 41) dX9_leastGathered_10 (by decide) (q := 13) rfl (a := ((i : Nat) : Int)) (b := ((cn : Nat) : Int)) (nI_toInt (by omega)) (nI_toInt (by omega)) (fun h1 => ?_) (fun h1 => ?_)
      · first
        | (exfalso; omega)
        |
          refine x_lload_n C dX9_leastGathered_41 (q := 42) rfl rfl 2 rfl ?_
          refine x_lret C hA hQ hr dX9_leastGathered_42 (Nat.le_of_ble_eq_true rfl) ?_
          have e9 : i = cn := by omega
          refine ⟨?_, rfl⟩
          rw [hv, e9]
      · first
        | (exfalso; omega)
        |
          refine x_iload C dX9_leastGathered_13 (q := 15) rfl 3 rfl ?_
          refine x_aload_n C dX9_leastGathered_15 (q := 16) rfl rfl 0 rfl ?_
          refine x_get C (ci := 8) (v := .ref gA) hw1 0 rfl rfl 6 (by decide) hw2 rfl dX9_leastGathered_16 (q := 19) rfl ?_
          refine x_alen C 1 2 rfl rfl (v := nI 24) rfl dX9_leastGathered_19 (q := 20) rfl ?_
          refine x_icmp_ge C (tgt := 41) dX9_leastGathered_20 (by decide) (q := 23) rfl (a := ((i : Nat) : Int)) (b := 24) (nI_toInt (by omega)) rfl (fun h2 => ?_) (fun h2 => ?_)
          · first
            | (exfalso; omega)
            |
              refine x_lload_n C dX9_leastGathered_41 (q := 42) rfl rfl 2 rfl ?_
              refine x_lret C hA hQ hr dX9_leastGathered_42 (Nat.le_of_ble_eq_true rfl) ?_
              have e9 : i = cn := by omega
              refine ⟨?_, rfl⟩
              rw [hv, e9]
          · first
            | (exfalso; omega)
            |
              refine x_lload_n C dX9_leastGathered_23 (q := 24) rfl rfl 2 rfl ?_
              refine x_aload_n C dX9_leastGathered_24 (q := 25) rfl rfl 0 rfl ?_
              refine x_get C (ci := 8) (v := .ref gA) hw1 0 rfl rfl 6 (by decide) hw2 rfl dX9_leastGathered_25 (q := 28) rfl ?_
              refine x_iload C dX9_leastGathered_28 (q := 30) rfl 3 rfl ?_
              refine x_lald C (j := i) (v := ga i) 1 rfl (nI_toInt (by omega)) (by omega) rfl dX9_leastGathered_30 (q := 31) rfl ?_
              refine x_mminl C hw3 hw4 hw5 hw6 (by rw [hR]; exact Nat.le_of_ble_eq_true rfl) (by rw [hR]; exact Nat.le_of_ble_eq_true rfl) (by rw [hR]; exact ⟨Nat.le_of_ble_eq_true rfl, Nat.le_of_ble_eq_true rfl⟩) (z := if ga i < v then ga i else v) (rfl) dX9_leastGathered_31 (q := 34) rfl ?_
              refine x_lstore_n C (L' := [(2, .long (if ga i < v then ga i else v)), (0, .ref fi), (1, .int (nI cn)), (4, .int (nI i))]) dX9_leastGathered_34 (q := 35) rfl rfl (by decide) rfl ?_
              refine x_iinc C (L' := [(4, .int (nI (i + 1))), (2, .long (if ga i < v then ga i else v)), (0, .ref fi), (1, .int (nI cn))]) dX9_leastGathered_35 (q := 38) rfl 3 rfl (v := nI (i + 1)) (nI_add i 1) (by decide) rfl ?_
              refine x_goto C (tgt := 7) dX9_leastGathered_38 (by decide) ?_
              refine x_L (L' := [(0, .ref fi), (1, .int (nI cn)), (2, .long (if ga i < v then ga i else v)), (4, .int (nI (i + 1)))]) [2, 3, 1, 0] rfl ?_
              exact ih7 (i + 1) (if ga i < v then ga i else v) (by first | omega | assumption) (by rw [hv]; rfl) (by omega)
  refine x_L (L' := [(0, .ref fi), (1, .int (nI cn)), (2, .long (9223372036854775807)), (4, .int (nI 0))]) [2, 3, 1, 0] rfl ?_
  exact cut7 (cn - 0 + 1) 0 9223372036854775807 (by first | omega | assumption) (by rfl) (by omega)

set_option maxHeartbeats 4000000 in
set_option maxRecDepth 100000 in
/-- the least, the greatest -/
theorem c_X9_greatestGathered (l : Launch) (D : va_G) (cy : Nat → ClassId) (fi : Nat) (tO : Nat) (gO : Nat) (nO : Nat) (tb : Nat) (tb' : Nat) (trO : Nat) (gA : Nat) (tP : Nat) (kf : Nat) (ga : Nat → Int64) (cn : Nat) (hcn : cn ≤ 24) : xMet l D cy xT yX9_greatestGathered wsX9_greatestGathered ({ frames := 2, cells := 0, slots := 0, locals := 200 } : Room) [.ref fi, .int (nI cn)] [(fi, .inr (8, [.ref tO, .ref gO, .ref nO, .ref tb, .ref tb', .ref trO, .ref gA, .ref tP, .int (nI kf)])), (gA, .inl (cy 2, 24, .inr (.inl ga)))] [] (fun (v9 : Option Value) (w9 : va_W) => (v9 = some (.long (grS ga cn)) ∧ w9 = [(fi, .inr (8, [.ref tO, .ref gO, .ref nO, .ref tb, .ref tb', .ref trO, .ref gA, .ref tP, .int (nI kf)])), (gA, .inl (cy 2, 24, .inr (.inl ga)))])) := by
  refine xMet_of (cc := cX9_greatestGathered) (maxL := 5) (ret := (some .long)) (by decide) rfl (Nat.le_of_ble_eq_true rfl) (fun p e s m args below meth c A R Q hA hR hQ C hr hnm hro hX => ?_)
  have hw0 : Jvm.Cond.constantLong RX9 186 (-9223372036854775808) ∈ wsX9_greatestGathered := by decide +kernel
  have hw1 : ∀ w ∈ u_ws RX9 TX9 9, w ∈ wsX9_greatestGathered := by decide +kernel
  have hw2 : Cond.fieldLink RX9 47 (TX9 6).1 (TX9 6).2.1 (TX9 6).2.2.1 ∈ wsX9_greatestGathered := by decide +kernel
  have hw3 : Cond.methodLink RX9 333 Lib.MathLoose.max_long.x ∈ wsX9_greatestGathered := by decide +kernel
  have hw4 : Cond.static Lib.MathLoose.max_long.x ∈ wsX9_greatestGathered := by decide +kernel
  have hw5 : Cond.initialized "java/lang/Math" ∈ wsX9_greatestGathered := by decide +kernel
  have hw6 : Cond.code Lib.MathLoose.max_long.x Lib.MathLoose.max_long.code 4 (some .long) ∈ wsX9_greatestGathered := by decide +kernel
  refine x_L (L' := [(0, .ref fi), (1, .int (nI cn))]) [0, 1] rfl ?_
  refine x_ldc2 C (v := (-9223372036854775808)) hw0 dX9_greatestGathered_0 (q := 3) rfl ?_
  refine x_lstore_n C (L' := [(2, .long ((-9223372036854775808))), (0, .ref fi), (1, .int (nI cn))]) dX9_greatestGathered_3 (q := 4) rfl rfl (by decide) rfl ?_
  refine x_iconst C dX9_greatestGathered_4 (q := 5) rfl (v := nI 0) (by decide) ?_
  refine x_istore C (L' := [(4, .int (nI 0)), (2, .long ((-9223372036854775808))), (0, .ref fi), (1, .int (nI cn))]) dX9_greatestGathered_5 (q := 7) rfl (by decide) rfl ?_
  have cut7 : ∀ (fuel : Nat) (i : Nat) (v : Int64), (i ≤ cn) → (v = grS ga i) → cn - i < fuel → xG p l e R s m args below meth c Q D A 5 [(fi, .inr (8, [.ref tO, .ref gO, .ref nO, .ref tb, .ref tb', .ref trO, .ref gA, .ref tP, .int (nI kf)])), (gA, .inl (cy 2, 24, .inr (.inl ga)))] 0 0 7 [(0, .ref fi), (1, .int (nI cn)), (2, .long (v)), (4, .int (nI i))] [] := by
    intro fuel
    induction fuel with
    | zero =>
      intro i v hi hv hmu
      exact absurd hmu (Nat.not_lt_zero _)
    | succ fuel ih =>
      intro i v hi hv hmu
      have ih7 := ih
      clear ih
      refine x_iload C dX9_greatestGathered_7 (q := 9) rfl 3 rfl ?_
      refine x_iload_n C dX9_greatestGathered_9 (q := 10) rfl rfl 1 rfl ?_
      refine x_icmp_ge C (tgt := 41) dX9_greatestGathered_10 (by decide) (q := 13) rfl (a := ((i : Nat) : Int)) (b := ((cn : Nat) : Int)) (nI_toInt (by omega)) (nI_toInt (by omega)) (fun h1 => ?_) (fun h1 => ?_)
      · first
        | (exfalso; omega)
        |
          refine x_lload_n C dX9_greatestGathered_41 (q := 42) rfl rfl 2 rfl ?_
          refine x_lret C hA hQ hr dX9_greatestGathered_42 (Nat.le_of_ble_eq_true rfl) ?_
          have e9 : i = cn := by omega
          refine ⟨?_, rfl⟩
          rw [hv, e9]
      · first
        | (exfalso; omega)
        |
          refine x_iload C dX9_greatestGathered_13 (q := 15) rfl 3 rfl ?_
          refine x_aload_n C dX9_greatestGathered_15 (q := 16) rfl rfl 0 rfl ?_
          refine x_get C (ci := 8) (v := .ref gA) hw1 0 rfl rfl 6 (by decide) hw2 rfl dX9_greatestGathered_16 (q := 19) rfl ?_
          refine x_alen C 1 2 rfl rfl (v := nI 24) rfl dX9_greatestGathered_19 (q := 20) rfl ?_
          refine x_icmp_ge C (tgt := 41) dX9_greatestGathered_20 (by decide) (q := 23) rfl (a := ((i : Nat) : Int)) (b := 24) (nI_toInt (by omega)) rfl (fun h2 => ?_) (fun h2 => ?_)
          · first
            | (exfalso; omega)
            |
              refine x_lload_n C dX9_greatestGathered_41 (q := 42) rfl rfl 2 rfl ?_
              refine x_lret C hA hQ hr dX9_greatestGathered_42 (Nat.le_of_ble_eq_true rfl) ?_
              have e9 : i = cn := by omega
              refine ⟨?_, rfl⟩
              rw [hv, e9]
          · first
            | (exfalso; omega)
            |
              refine x_lload_n C dX9_greatestGathered_23 (q := 24) rfl rfl 2 rfl ?_
              refine x_aload_n C dX9_greatestGathered_24 (q := 25) rfl rfl 0 rfl ?_
              refine x_get C (ci := 8) (v := .ref gA) hw1 0 rfl rfl 6 (by decide) hw2 rfl dX9_greatestGathered_25 (q := 28) rfl ?_
              refine x_iload C dX9_greatestGathered_28 (q := 30) rfl 3 rfl ?_
              refine x_lald C (j := i) (v := ga i) 1 rfl (nI_toInt (by omega)) (by omega) rfl dX9_greatestGathered_30 (q := 31) rfl ?_
              refine x_mmaxl C hw3 hw4 hw5 hw6 (by rw [hR]; exact Nat.le_of_ble_eq_true rfl) (by rw [hR]; exact Nat.le_of_ble_eq_true rfl) (by rw [hR]; exact ⟨Nat.le_of_ble_eq_true rfl, Nat.le_of_ble_eq_true rfl⟩) (z := if ga i < v then v else ga i) (rfl) dX9_greatestGathered_31 (q := 34) rfl ?_
              refine x_lstore_n C (L' := [(2, .long (if ga i < v then v else ga i)), (0, .ref fi), (1, .int (nI cn)), (4, .int (nI i))]) dX9_greatestGathered_34 (q := 35) rfl rfl (by decide) rfl ?_
              refine x_iinc C (L' := [(4, .int (nI (i + 1))), (2, .long (if ga i < v then v else ga i)), (0, .ref fi), (1, .int (nI cn))]) dX9_greatestGathered_35 (q := 38) rfl 3 rfl (v := nI (i + 1)) (nI_add i 1) (by decide) rfl ?_
              refine x_goto C (tgt := 7) dX9_greatestGathered_38 (by decide) ?_
              refine x_L (L' := [(0, .ref fi), (1, .int (nI cn)), (2, .long (if ga i < v then v else ga i)), (4, .int (nI (i + 1)))]) [2, 3, 1, 0] rfl ?_
              exact ih7 (i + 1) (if ga i < v then v else ga i) (by first | omega | assumption) (by rw [hv]; rfl) (by omega)
  refine x_L (L' := [(0, .ref fi), (1, .int (nI cn)), (2, .long (-9223372036854775808)), (4, .int (nI 0))]) [2, 3, 1, 0] rfl ?_
  exact cut7 (cn - 0 + 1) 0 (-9223372036854775808) (by first | omega | assumption) (by rfl) (by omega)
