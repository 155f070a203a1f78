
/-! THE MODEL -/
theorem up_self {α : Type} (f : Nat → α) (i : Nat) : va_up f i (f i) = f := funext fun k => by
  unfold va_up
  split
  · rename_i h; rw [h]
  · rfl
theorem xw_id (x : Int32) : x.toInt64.toInt32 = x := Int32.toInt32_toInt64 x

set_option maxHeartbeats 4000000 in
set_option maxRecDepth 100000 in
/-- in -/
theorem c_X10_in (l : Launch) (D : va_G) (cy : Nat → ClassId) (v : Int64) (lo : Int64) (hi : Int64) (va : Int) (la : Int) (ha : Int) (hva : v.toInt = va) (hla : lo.toInt = la) (hha : hi.toInt = ha) : xMet l D cy xT yX10_in wsX10_in ({ frames := 1, cells := 0, slots := 0, locals := 0 } : Room) [.long (v), .long (lo), .long (hi)] [] [] (fun (v9 : Option Value) (w9 : va_W) => (v9 = some (.int (nI 1)) ∧ w9 = [] ∧ la ≤ va ∧ va ≤ ha) ∨ (v9 = some (.int (nI 0)) ∧ w9 = [] ∧ (va < la ∨ ha < va))) := by
  refine xMet_of (cc := cX10_in) (maxL := 6) (ret := (some .boolean)) (by decide) rfl (Nat.le_of_ble_eq_true rfl) (fun p e s m args below meth c A R Q hA hR hQ C hr hnm hro hX => ?_)
  refine x_L (L' := [(0, .long (v)), (2, .long (lo)), (4, .long (hi))]) [0, 1, 2] rfl ?_
  refine x_lload_n C dX10_in_0 (q := 1) rfl rfl 0 rfl ?_
  refine x_lload_n C dX10_in_1 (q := 2) rfl rfl 1 rfl ?_
  refine x_lcmp_lt C (tgt := 17) dX10_in_2 dX10_in_3 (by decide) (q := 6) rfl (a := v.toInt) (b := lo.toInt) rfl rfl (fun h1 => ?_) (fun h1 => ?_)
  · first
    | (exfalso; omega)
    |
      refine x_iconst C dX10_in_17 (q := 18) rfl (v := nI 0) (by decide) ?_
      refine x_zret C hA hQ hr (ty := .boolean) (by first | rfl | assumption | exact xz_nar _) dX10_in_18 (Nat.le_of_ble_eq_true rfl) ?_
      first | exact Or.inl ⟨rfl, rfl, by omega, by omega⟩ | exact Or.inr ⟨rfl, rfl, by omega⟩
  · first
    | (exfalso; omega)
    |
      refine x_lload_n C dX10_in_6 (q := 7) rfl rfl 0 rfl ?_
      refine x_lload C dX10_in_7 (q := 9) rfl 2 rfl ?_
      refine x_lcmp_gt C (tgt := 17) dX10_in_9 dX10_in_10 (by decide) (q := 13) rfl (a := v.toInt) (b := hi.toInt) rfl rfl (fun h2 => ?_) (fun h2 => ?_)
      · first
        | (exfalso; omega)
        |
          refine x_iconst C dX10_in_17 (q := 18) rfl (v := nI 0) (by decide) ?_
          refine x_zret C hA hQ hr (ty := .boolean) (by first | rfl | assumption | exact xz_nar _) dX10_in_18 (Nat.le_of_ble_eq_true rfl) ?_
          first | exact Or.inl ⟨rfl, rfl, by omega, by omega⟩ | exact Or.inr ⟨rfl, rfl, by omega⟩
      · first
        | (exfalso; omega)
        |
          refine x_iconst C dX10_in_13 (q := 14) rfl (v := nI 1) (by decide) ?_
          refine x_goto C (tgt := 18) dX10_in_14 (by decide) ?_
          refine x_zret C hA hQ hr (ty := .boolean) (by first | rfl | assumption | exact xz_nar _) dX10_in_18 (Nat.le_of_ble_eq_true rfl) ?_
          first | exact Or.inl ⟨rfl, rfl, by omega, by omega⟩ | exact Or.inr ⟨rfl, rfl, by omega⟩

set_option maxHeartbeats 4000000 in
set_option maxRecDepth 100000 in
/-- whether there is such -/
theorem c_X10_isColumn (l : Launch) (D : va_G) (cy : Nat → ClassId) (mo : Nat) (mr : Nat → Nat) (cols : Nat) (lc : Nat) (smp : Nat) (mk : Nat) (rs : Nat) (nse : Nat) (npa : Nat) (nbo : Nat) (tn : Nat) (ik : Nat) (ky : Int32) (j0 : Int32) (j1 : Int32) (j2 : Int32) (j3 : Int32) (j4 : Int32) (x : Int32) (hb9 : cols ≤ 1000) : xMet l D cy xT yX10_isColumn wsX10_isColumn ({ frames := 2, cells := 0, slots := 0, locals := 200 } : Room) [.ref mo, .int (x)] [(mo, .inr (9, [.int (nI cols), .int (nI lc), .int (nI smp), .int (ky), .ref (mr 0), .ref (mr 1), .ref (mr 2), .ref (mr 3), .ref (mr 4), .ref (mr 5), .ref (mr 6), .ref (mr 7), .ref (mr 8), .ref (mr 9), .int (nI mk), .int (nI rs), .ref (mr 10), .ref (mr 11), .ref (mr 12), .ref (mr 13), .ref (mr 14), .ref (mr 15), .ref (mr 16), .ref (mr 17), .ref (mr 18), .ref (mr 19), .ref (mr 20), .int (nI nse), .int (nI npa), .int (nI nbo), .ref (mr 21), .int (nI tn), .ref (mr 22), .int (nI ik), .int (j0), .int (j1), .ref (mr 23), .int (j2), .ref (mr 24), .ref (mr 25), .int (j3), .ref (mr 26), .int (j4), .ref (mr 27), .ref (mr 28), .ref (mr 29), .ref (mr 30)]))] [] (fun (v9 : Option Value) (w9 : va_W) => (v9 = some (.int (nI 1)) ∧ w9 = [(mo, .inr (9, [.int (nI cols), .int (nI lc), .int (nI smp), .int (ky), .ref (mr 0), .ref (mr 1), .ref (mr 2), .ref (mr 3), .ref (mr 4), .ref (mr 5), .ref (mr 6), .ref (mr 7), .ref (mr 8), .ref (mr 9), .int (nI mk), .int (nI rs), .ref (mr 10), .ref (mr 11), .ref (mr 12), .ref (mr 13), .ref (mr 14), .ref (mr 15), .ref (mr 16), .ref (mr 17), .ref (mr 18), .ref (mr 19), .ref (mr 20), .int (nI nse), .int (nI npa), .int (nI nbo), .ref (mr 21), .int (nI tn), .ref (mr 22), .int (nI ik), .int (j0), .int (j1), .ref (mr 23), .int (j2), .ref (mr 24), .ref (mr 25), .int (j3), .ref (mr 26), .int (j4), .ref (mr 27), .ref (mr 28), .ref (mr 29), .ref (mr 30)]))] ∧ 0 ≤ x.toInt ∧ x.toInt < cols) ∨ (v9 = some (.int (nI 0)) ∧ w9 = [(mo, .inr (9, [.int (nI cols), .int (nI lc), .int (nI smp), .int (ky), .ref (mr 0), .ref (mr 1), .ref (mr 2), .ref (mr 3), .ref (mr 4), .ref (mr 5), .ref (mr 6), .ref (mr 7), .ref (mr 8), .ref (mr 9), .int (nI mk), .int (nI rs), .ref (mr 10), .ref (mr 11), .ref (mr 12), .ref (mr 13), .ref (mr 14), .ref (mr 15), .ref (mr 16), .ref (mr 17), .ref (mr 18), .ref (mr 19), .ref (mr 20), .int (nI nse), .int (nI npa), .int (nI nbo), .ref (mr 21), .int (nI tn), .ref (mr 22), .int (nI ik), .int (j0), .int (j1), .ref (mr 23), .int (j2), .ref (mr 24), .ref (mr 25), .int (j3), .ref (mr 26), .int (j4), .ref (mr 27), .ref (mr 28), .ref (mr 29), .ref (mr 30)]))] ∧ (x.toInt < 0 ∨ cols ≤ x.toInt))) := by
  refine xMet_of (cc := cX10_isColumn) (maxL := 2) (ret := (some .boolean)) (by decide) rfl (Nat.le_of_ble_eq_true rfl) (fun p e s m args below meth c A R Q hA hR hQ C hr hnm hro hX => ?_)
  have hw0 : ∀ w ∈ u_ws RX10 TX10 47, w ∈ wsX10_isColumn := by decide +kernel
  have hw1 : Cond.fieldLink RX10 118 (TX10 0).1 (TX10 0).2.1 (TX10 0).2.2.1 ∈ wsX10_isColumn := by decide +kernel
  refine x_L (L' := [(0, .ref mo), (1, .int (x))]) [0, 1] rfl ?_
  refine x_iload_n C dX10_isColumn_0 (q := 1) rfl rfl 1 rfl ?_
  refine x_i2l C dX10_isColumn_1 (q := 2) rfl (v := x.toInt64) (rfl) ?_
  refine x_lconst C dX10_isColumn_2 (q := 3) rfl (v := lN 0) rfl ?_
  refine x_aload_n C dX10_isColumn_3 (q := 4) rfl rfl 0 rfl ?_
  refine x_get C (ci := 9) (v := .int (nI cols)) hw0 0 rfl rfl 0 (by decide) hw1 rfl dX10_isColumn_4 (q := 7) rfl ?_
  refine x_iconst C dX10_isColumn_7 (q := 8) rfl (v := nI 1) (by decide) ?_
  refine x_isub C dX10_isColumn_8 (q := 9) rfl (z := (nI cols) - (nI 1)) (rfl) ?_
  refine x_i2l C dX10_isColumn_9 (q := 10) rfl (v := ((nI cols) - (nI 1)).toInt64) (rfl) ?_
  refine x_callS C (roW := []) (roR := []) (c_X10_in l D cy x.toInt64 (lN 0) (((nI cols) - (nI 1)).toInt64) x.toInt 0 (((cols : Nat) : Int) - 1) (xl_wide rfl) rfl (xl_wide (xi_sub2 (nI_toInt (by omega)) rfl (by omega) (by omega)))) (cwS 3 C.2.2.2.2.1 gX10_isColumn_X10_in rfl rfl rfl (by decide +kernel) (by rw [hR]; exact ⟨Nat.le_of_ble_eq_true rfl, Nat.le_of_ble_eq_true rfl⟩)) [] [] rfl (by decide) rfl (by decide) xro_nil xT_bl (fun _ _ _ _ _ _ _ => trivial) rfl rfl dX10_isColumn_10 rfl rfl (Nat.le_of_ble_eq_true rfl) (q := 13) rfl (k' := 0) rfl (n' := 0) rfl (by rw [hR]; exact ⟨Nat.le_of_ble_eq_true rfl, Nat.le_of_ble_eq_true rfl⟩) (fun v1 w1 hp1 => ?_)
  rcases hp1 with hp1 | hp1
  · skip
    obtain ⟨rfl, rfl, hc2, hc3⟩ := hp1
    refine x_ws (ws' := [(mo, .inr (9, [.int (nI cols), .int (nI lc), .int (nI smp), .int (ky), .ref (mr 0), .ref (mr 1), .ref (mr 2), .ref (mr 3), .ref (mr 4), .ref (mr 5), .ref (mr 6), .ref (mr 7), .ref (mr 8), .ref (mr 9), .int (nI mk), .int (nI rs), .ref (mr 10), .ref (mr 11), .ref (mr 12), .ref (mr 13), .ref (mr 14), .ref (mr 15), .ref (mr 16), .ref (mr 17), .ref (mr 18), .ref (mr 19), .ref (mr 20), .int (nI nse), .int (nI npa), .int (nI nbo), .ref (mr 21), .int (nI tn), .ref (mr 22), .int (nI ik), .int (j0), .int (j1), .ref (mr 23), .int (j2), .ref (mr 24), .ref (mr 25), .int (j3), .ref (mr 26), .int (j4), .ref (mr 27), .ref (mr 28), .ref (mr 29), .ref (mr 30)]))]) (List.append_nil _) ?_
    refine x_zret C hA hQ hr (ty := .boolean) (by first | rfl | assumption | exact xz_nar _) dX10_isColumn_13 (Nat.le_of_ble_eq_true rfl) ?_
    first | exact Or.inl ⟨rfl, rfl, by omega, by omega⟩ | exact Or.inr ⟨rfl, rfl, by omega⟩
  · skip
    obtain ⟨rfl, rfl, hc4⟩ := hp1
    refine x_ws (ws' := [(mo, .inr (9, [.int (nI cols), .int (nI lc), .int (nI smp), .int (ky), .ref (mr 0), .ref (mr 1), .ref (mr 2), .ref (mr 3), .ref (mr 4), .ref (mr 5), .ref (mr 6), .ref (mr 7), .ref (mr 8), .ref (mr 9), .int (nI mk), .int (nI rs), .ref (mr 10), .ref (mr 11), .ref (mr 12), .ref (mr 13), .ref (mr 14), .ref (mr 15), .ref (mr 16), .ref (mr 17), .ref (mr 18), .ref (mr 19), .ref (mr 20), .int (nI nse), .int (nI npa), .int (nI nbo), .ref (mr 21), .int (nI tn), .ref (mr 22), .int (nI ik), .int (j0), .int (j1), .ref (mr 23), .int (j2), .ref (mr 24), .ref (mr 25), .int (j3), .ref (mr 26), .int (j4), .ref (mr 27), .ref (mr 28), .ref (mr 29), .ref (mr 30)]))]) (List.append_nil _) ?_
    refine x_zret C hA hQ hr (ty := .boolean) (by first | rfl | assumption | exact xz_nar _) dX10_isColumn_13 (Nat.le_of_ble_eq_true rfl) ?_
    first | exact Or.inl ⟨rfl, rfl, by omega, by omega⟩ | exact Or.inr ⟨rfl, rfl, by omega⟩

set_option maxHeartbeats 4000000 in
set_option maxRecDepth 100000 in
/-- whether there is such -/
theorem c_X10_isLine (l : Launch) (D : va_G) (cy : Nat → ClassId) (mo : Nat) (mr : Nat → Nat) (cols : Nat) (lc : Nat) (smp : Nat) (mk : Nat) (rs : Nat) (nse : Nat) (npa : Nat) (nbo : Nat) (tn : Nat) (ik : Nat) (ky : Int32) (j0 : Int32) (j1 : Int32) (j2 : Int32) (j3 : Int32) (j4 : Int32) (x : Int32) (hb9 : lc ≤ 1000) : xMet l D cy xT yX10_isLine wsX10_isLine ({ frames := 2, cells := 0, slots := 0, locals := 200 } : Room) [.ref mo, .int (x)] [(mo, .inr (9, [.int (nI cols), .int (nI lc), .int (nI smp), .int (ky), .ref (mr 0), .ref (mr 1), .ref (mr 2), .ref (mr 3), .ref (mr 4), .ref (mr 5), .ref (mr 6), .ref (mr 7), .ref (mr 8), .ref (mr 9), .int (nI mk), .int (nI rs), .ref (mr 10), .ref (mr 11), .ref (mr 12), .ref (mr 13), .ref (mr 14), .ref (mr 15), .ref (mr 16), .ref (mr 17), .ref (mr 18), .ref (mr 19), .ref (mr 20), .int (nI nse), .int (nI npa), .int (nI nbo), .ref (mr 21), .int (nI tn), .ref (mr 22), .int (nI ik), .int (j0), .int (j1), .ref (mr 23), .int (j2), .ref (mr 24), .ref (mr 25), .int (j3), .ref (mr 26), .int (j4), .ref (mr 27), .ref (mr 28), .ref (mr 29), .ref (mr 30)]))] [] (fun (v9 : Option Value) (w9 : va_W) => (v9 = some (.int (nI 1)) ∧ w9 = [(mo, .inr (9, [.int (nI cols), .int (nI lc), .int (nI smp), .int (ky), .ref (mr 0), .ref (mr 1), .ref (mr 2), .ref (mr 3), .ref (mr 4), .ref (mr 5), .ref (mr 6), .ref (mr 7), .ref (mr 8), .ref (mr 9), .int (nI mk), .int (nI rs), .ref (mr 10), .ref (mr 11), .ref (mr 12), .ref (mr 13), .ref (mr 14), .ref (mr 15), .ref (mr 16), .ref (mr 17), .ref (mr 18), .ref (mr 19), .ref (mr 20), .int (nI nse), .int (nI npa), .int (nI nbo), .ref (mr 21), .int (nI tn), .ref (mr 22), .int (nI ik), .int (j0), .int (j1), .ref (mr 23), .int (j2), .ref (mr 24), .ref (mr 25), .int (j3), .ref (mr 26), .int (j4), .ref (mr 27), .ref (mr 28), .ref (mr 29), .ref (mr 30)]))] ∧ 0 ≤ x.toInt ∧ x.toInt < lc) ∨ (v9 = some (.int (nI 0)) ∧ w9 = [(mo, .inr (9, [.int (nI cols), .int (nI lc), .int (nI smp), .int (ky), .ref (mr 0), .ref (mr 1), .ref (mr 2), .ref (mr 3), .ref (mr 4), .ref (mr 5), .ref (mr 6), .ref (mr 7), .ref (mr 8), .ref (mr 9), .int (nI mk), .int (nI rs), .ref (mr 10), .ref (mr 11), .ref (mr 12), .ref (mr 13), .ref (mr 14), .ref (mr 15), .ref (mr 16), .ref (mr 17), .ref (mr 18), .ref (mr 19), .ref (mr 20), .int (nI nse), .int (nI npa), .int (nI nbo), .ref (mr 21), .int (nI tn), .ref (mr 22), .int (nI ik), .int (j0), .int (j1), .ref (mr 23), .int (j2), .ref (mr 24), .ref (mr 25), .int (j3), .ref (mr 26), .int (j4), .ref (mr 27), .ref (mr 28), .ref (mr 29), .ref (mr 30)]))] ∧ (x.toInt < 0 ∨ lc ≤ x.toInt))) := by
  refine xMet_of (cc := cX10_isLine) (maxL := 2) (ret := (some .boolean)) (by decide) rfl (Nat.le_of_ble_eq_true rfl) (fun p e s m args below meth c A R Q hA hR hQ C hr hnm hro hX => ?_)
  have hw0 : ∀ w ∈ u_ws RX10 TX10 47, w ∈ wsX10_isLine := by decide +kernel
  have hw1 : Cond.fieldLink RX10 125 (TX10 1).1 (TX10 1).2.1 (TX10 1).2.2.1 ∈ wsX10_isLine := by decide +kernel
  refine x_L (L' := [(0, .ref mo), (1, .int (x))]) [0, 1] rfl ?_
  refine x_iload_n C dX10_isLine_0 (q := 1) rfl rfl 1 rfl ?_
  refine x_i2l C dX10_isLine_1 (q := 2) rfl (v := x.toInt64) (rfl) ?_
  refine x_lconst C dX10_isLine_2 (q := 3) rfl (v := lN 0) rfl ?_
  refine x_aload_n C dX10_isLine_3 (q := 4) rfl rfl 0 rfl ?_
  refine x_get C (ci := 9) (v := .int (nI lc)) hw0 0 rfl rfl 1 (by decide) hw1 rfl dX10_isLine_4 (q := 7) rfl ?_
  refine x_iconst C dX10_isLine_7 (q := 8) rfl (v := nI 1) (by decide) ?_
  refine x_isub C dX10_isLine_8 (q := 9) rfl (z := (nI lc) - (nI 1)) (rfl) ?_
  refine x_i2l C dX10_isLine_9 (q := 10) rfl (v := ((nI lc) - (nI 1)).toInt64) (rfl) ?_
  refine x_callS C (roW := []) (roR := []) (c_X10_in l D cy x.toInt64 (lN 0) (((nI lc) - (nI 1)).toInt64) x.toInt 0 (((lc : Nat) : Int) - 1) (xl_wide rfl) rfl (xl_wide (xi_sub2 (nI_toInt (by omega)) rfl (by omega) (by omega)))) (cwS 3 C.2.2.2.2.1 gX10_isLine_X10_in rfl rfl rfl (by decide +kernel) (by rw [hR]; exact ⟨Nat.le_of_ble_eq_true rfl, Nat.le_of_ble_eq_true rfl⟩)) [] [] rfl (by decide) rfl (by decide) xro_nil xT_bl (fun _ _ _ _ _ _ _ => trivial) rfl rfl dX10_isLine_10 rfl rfl (Nat.le_of_ble_eq_true rfl) (q := 13) rfl (k' := 0) rfl (n' := 0) rfl (by rw [hR]; exact ⟨Nat.le_of_ble_eq_true rfl, Nat.le_of_ble_eq_true rfl⟩) (fun v1 w1 hp1 => ?_)
  rcases hp1 with hp1 | hp1
  · skip
    obtain ⟨rfl, rfl, hc2, hc3⟩ := hp1
    refine x_ws (ws' := [(mo, .inr (9, [.int (nI cols), .int (nI lc), .int (nI smp), .int (ky), .ref (mr 0), .ref (mr 1), .ref (mr 2), .ref (mr 3), .ref (mr 4), .ref (mr 5), .ref (mr 6), .ref (mr 7), .ref (mr 8), .ref (mr 9), .int (nI mk), .int (nI rs), .ref (mr 10), .ref (mr 11), .ref (mr 12), .ref (mr 13), .ref (mr 14), .ref (mr 15), .ref (mr 16), .ref (mr 17), .ref (mr 18), .ref (mr 19), .ref (mr 20), .int (nI nse), .int (nI npa), .int (nI nbo), .ref (mr 21), .int (nI tn), .ref (mr 22), .int (nI ik), .int (j0), .int (j1), .ref (mr 23), .int (j2), .ref (mr 24), .ref (mr 25), .int (j3), .ref (mr 26), .int (j4), .ref (mr 27), .ref (mr 28), .ref (mr 29), .ref (mr 30)]))]) (List.append_nil _) ?_
    refine x_zret C hA hQ hr (ty := .boolean) (by first | rfl | assumption | exact xz_nar _) dX10_isLine_13 (Nat.le_of_ble_eq_true rfl) ?_
    first | exact Or.inl ⟨rfl, rfl, by omega, by omega⟩ | exact Or.inr ⟨rfl, rfl, by omega⟩
  · skip
    obtain ⟨rfl, rfl, hc4⟩ := hp1
    refine x_ws (ws' := [(mo, .inr (9, [.int (nI cols), .int (nI lc), .int (nI smp), .int (ky), .ref (mr 0), .ref (mr 1), .ref (mr 2), .ref (mr 3), .ref (mr 4), .ref (mr 5), .ref (mr 6), .ref (mr 7), .ref (mr 8), .ref (mr 9), .int (nI mk), .int (nI rs), .ref (mr 10), .ref (mr 11), .ref (mr 12), .ref (mr 13), .ref (mr 14), .ref (mr 15), .ref (mr 16), .ref (mr 17), .ref (mr 18), .ref (mr 19), .ref (mr 20), .int (nI nse), .int (nI npa), .int (nI nbo), .ref (mr 21), .int (nI tn), .ref (mr 22), .int (nI ik), .int (j0), .int (j1), .ref (mr 23), .int (j2), .ref (mr 24), .ref (mr 25), .int (j3), .ref (mr 26), .int (j4), .ref (mr 27), .ref (mr 28), .ref (mr 29), .ref (mr 30)]))]) (List.append_nil _) ?_
    refine x_zret C hA hQ hr (ty := .boolean) (by first | rfl | assumption | exact xz_nar _) dX10_isLine_13 (Nat.le_of_ble_eq_true rfl) ?_
    first | exact Or.inl ⟨rfl, rfl, by omega, by omega⟩ | exact Or.inr ⟨rfl, rfl, by omega⟩

set_option maxHeartbeats 4000000 in
set_option maxRecDepth 100000 in
/-- whether there is such -/
theorem c_X10_isRow (l : Launch) (D : va_G) (cy : Nat → ClassId) (mo : Nat) (mr : Nat → Nat) (cols : Nat) (lc : Nat) (smp : Nat) (mk : Nat) (rs : Nat) (nse : Nat) (npa : Nat) (nbo : Nat) (tn : Nat) (ik : Nat) (ky : Int32) (j0 : Int32) (j1 : Int32) (j2 : Int32) (j3 : Int32) (j4 : Int32) (x : Int32) (hb9 : rs ≤ 1000) : xMet l D cy xT yX10_isRow wsX10_isRow ({ frames := 2, cells := 0, slots := 0, locals := 200 } : Room) [.ref mo, .int (x)] [(mo, .inr (9, [.int (nI cols), .int (nI lc), .int (nI smp), .int (ky), .ref (mr 0), .ref (mr 1), .ref (mr 2), .ref (mr 3), .ref (mr 4), .ref (mr 5), .ref (mr 6), .ref (mr 7), .ref (mr 8), .ref (mr 9), .int (nI mk), .int (nI rs), .ref (mr 10), .ref (mr 11), .ref (mr 12), .ref (mr 13), .ref (mr 14), .ref (mr 15), .ref (mr 16), .ref (mr 17), .ref (mr 18), .ref (mr 19), .ref (mr 20), .int (nI nse), .int (nI npa), .int (nI nbo), .ref (mr 21), .int (nI tn), .ref (mr 22), .int (nI ik), .int (j0), .int (j1), .ref (mr 23), .int (j2), .ref (mr 24), .ref (mr 25), .int (j3), .ref (mr 26), .int (j4), .ref (mr 27), .ref (mr 28), .ref (mr 29), .ref (mr 30)]))] [] (fun (v9 : Option Value) (w9 : va_W) => (v9 = some (.int (nI 1)) ∧ w9 = [(mo, .inr (9, [.int (nI cols), .int (nI lc), .int (nI smp), .int (ky), .ref (mr 0), .ref (mr 1), .ref (mr 2), .ref (mr 3), .ref (mr 4), .ref (mr 5), .ref (mr 6), .ref (mr 7), .ref (mr 8), .ref (mr 9), .int (nI mk), .int (nI rs), .ref (mr 10), .ref (mr 11), .ref (mr 12), .ref (mr 13), .ref (mr 14), .ref (mr 15), .ref (mr 16), .ref (mr 17), .ref (mr 18), .ref (mr 19), .ref (mr 20), .int (nI nse), .int (nI npa), .int (nI nbo), .ref (mr 21), .int (nI tn), .ref (mr 22), .int (nI ik), .int (j0), .int (j1), .ref (mr 23), .int (j2), .ref (mr 24), .ref (mr 25), .int (j3), .ref (mr 26), .int (j4), .ref (mr 27), .ref (mr 28), .ref (mr 29), .ref (mr 30)]))] ∧ 0 ≤ x.toInt ∧ x.toInt < rs) ∨ (v9 = some (.int (nI 0)) ∧ w9 = [(mo, .inr (9, [.int (nI cols), .int (nI lc), .int (nI smp), .int (ky), .ref (mr 0), .ref (mr 1), .ref (mr 2), .ref (mr 3), .ref (mr 4), .ref (mr 5), .ref (mr 6), .ref (mr 7), .ref (mr 8), .ref (mr 9), .int (nI mk), .int (nI rs), .ref (mr 10), .ref (mr 11), .ref (mr 12), .ref (mr 13), .ref (mr 14), .ref (mr 15), .ref (mr 16), .ref (mr 17), .ref (mr 18), .ref (mr 19), .ref (mr 20), .int (nI nse), .int (nI npa), .int (nI nbo), .ref (mr 21), .int (nI tn), .ref (mr 22), .int (nI ik), .int (j0), .int (j1), .ref (mr 23), .int (j2), .ref (mr 24), .ref (mr 25), .int (j3), .ref (mr 26), .int (j4), .ref (mr 27), .ref (mr 28), .ref (mr 29), .ref (mr 30)]))] ∧ (x.toInt < 0 ∨ rs ≤ x.toInt))) := by
  refine xMet_of (cc := cX10_isRow) (maxL := 2) (ret := (some .boolean)) (by decide) rfl (Nat.le_of_ble_eq_true rfl) (fun p e s m args below meth c A R Q hA hR hQ C hr hnm hro hX => ?_)
  have hw0 : ∀ w ∈ u_ws RX10 TX10 47, w ∈ wsX10_isRow := by decide +kernel
  have hw1 : Cond.fieldLink RX10 128 (TX10 15).1 (TX10 15).2.1 (TX10 15).2.2.1 ∈ wsX10_isRow := by decide +kernel
  refine x_L (L' := [(0, .ref mo), (1, .int (x))]) [0, 1] rfl ?_
  refine x_iload_n C dX10_isRow_0 (q := 1) rfl rfl 1 rfl ?_
  refine x_i2l C dX10_isRow_1 (q := 2) rfl (v := x.toInt64) (rfl) ?_
  refine x_lconst C dX10_isRow_2 (q := 3) rfl (v := lN 0) rfl ?_
  refine x_aload_n C dX10_isRow_3 (q := 4) rfl rfl 0 rfl ?_
  refine x_get C (ci := 9) (v := .int (nI rs)) hw0 0 rfl rfl 15 (by decide) hw1 rfl dX10_isRow_4 (q := 7) rfl ?_
  refine x_iconst C dX10_isRow_7 (q := 8) rfl (v := nI 1) (by decide) ?_
  refine x_isub C dX10_isRow_8 (q := 9) rfl (z := (nI rs) - (nI 1)) (rfl) ?_
  refine x_i2l C dX10_isRow_9 (q := 10) rfl (v := ((nI rs) - (nI 1)).toInt64) (rfl) ?_
  refine x_callS C (roW := []) (roR := []) (c_X10_in l D cy x.toInt64 (lN 0) (((nI rs) - (nI 1)).toInt64) x.toInt 0 (((rs : Nat) : Int) - 1) (xl_wide rfl) rfl (xl_wide (xi_sub2 (nI_toInt (by omega)) rfl (by omega) (by omega)))) (cwS 3 C.2.2.2.2.1 gX10_isRow_X10_in rfl rfl rfl (by decide +kernel) (by rw [hR]; exact ⟨Nat.le_of_ble_eq_true rfl, Nat.le_of_ble_eq_true rfl⟩)) [] [] rfl (by decide) rfl (by decide) xro_nil xT_bl (fun _ _ _ _ _ _ _ => trivial) rfl rfl dX10_isRow_10 rfl rfl (Nat.le_of_ble_eq_true rfl) (q := 13) rfl (k' := 0) rfl (n' := 0) rfl (by rw [hR]; exact ⟨Nat.le_of_ble_eq_true rfl, Nat.le_of_ble_eq_true rfl⟩) (fun v1 w1 hp1 => ?_)
  rcases hp1 with hp1 | hp1
  · skip
    obtain ⟨rfl, rfl, hc2, hc3⟩ := hp1
    refine x_ws (ws' := [(mo, .inr (9, [.int (nI cols), .int (nI lc), .int (nI smp), .int (ky), .ref (mr 0), .ref (mr 1), .ref (mr 2), .ref (mr 3), .ref (mr 4), .ref (mr 5), .ref (mr 6), .ref (mr 7), .ref (mr 8), .ref (mr 9), .int (nI mk), .int (nI rs), .ref (mr 10), .ref (mr 11), .ref (mr 12), .ref (mr 13), .ref (mr 14), .ref (mr 15), .ref (mr 16), .ref (mr 17), .ref (mr 18), .ref (mr 19), .ref (mr 20), .int (nI nse), .int (nI npa), .int (nI nbo), .ref (mr 21), .int (nI tn), .ref (mr 22), .int (nI ik), .int (j0), .int (j1), .ref (mr 23), .int (j2), .ref (mr 24), .ref (mr 25), .int (j3), .ref (mr 26), .int (j4), .ref (mr 27), .ref (mr 28), .ref (mr 29), .ref (mr 30)]))]) (List.append_nil _) ?_
    refine x_zret C hA hQ hr (ty := .boolean) (by first | rfl | assumption | exact xz_nar _) dX10_isRow_13 (Nat.le_of_ble_eq_true rfl) ?_
    first | exact Or.inl ⟨rfl, rfl, by omega, by omega⟩ | exact Or.inr ⟨rfl, rfl, by omega⟩
  · skip
    obtain ⟨rfl, rfl, hc4⟩ := hp1
    refine x_ws (ws' := [(mo, .inr (9, [.int (nI cols), .int (nI lc), .int (nI smp), .int (ky), .ref (mr 0), .ref (mr 1), .ref (mr 2), .ref (mr 3), .ref (mr 4), .ref (mr 5), .ref (mr 6), .ref (mr 7), .ref (mr 8), .ref (mr 9), .int (nI mk), .int (nI rs), .ref (mr 10), .ref (mr 11), .ref (mr 12), .ref (mr 13), .ref (mr 14), .ref (mr 15), .ref (mr 16), .ref (mr 17), .ref (mr 18), .ref (mr 19), .ref (mr 20), .int (nI nse), .int (nI npa), .int (nI nbo), .ref (mr 21), .int (nI tn), .ref (mr 22), .int (nI ik), .int (j0), .int (j1), .ref (mr 23), .int (j2), .ref (mr 24), .ref (mr 25), .int (j3), .ref (mr 26), .int (j4), .ref (mr 27), .ref (mr 28), .ref (mr 29), .ref (mr 30)]))]) (List.append_nil _) ?_
    refine x_zret C hA hQ hr (ty := .boolean) (by first | rfl | assumption | exact xz_nar _) dX10_isRow_13 (Nat.le_of_ble_eq_true rfl) ?_
    first | exact Or.inl ⟨rfl, rfl, by omega, by omega⟩ | exact Or.inr ⟨rfl, rfl, by omega⟩

set_option maxHeartbeats 4000000 in
set_option maxRecDepth 100000 in
/-- whether there is such a TAPE -/
theorem c_X10_isTape (l : Launch) (D : va_G) (cy : Nat → ClassId) (x : Int32)  : xMet l D cy xT yX10_isTape wsX10_isTape ({ frames := 2, cells := 0, slots := 0, locals := 200 } : Room) [.int (x)] [] [] (fun (v9 : Option Value) (w9 : va_W) => (v9 = some (.int (nI 1)) ∧ w9 = [] ∧ 0 ≤ x.toInt ∧ x.toInt < 6) ∨ (v9 = some (.int (nI 0)) ∧ w9 = [] ∧ (x.toInt < 0 ∨ 6 ≤ x.toInt))) := by
  refine xMet_of (cc := cX10_isTape) (maxL := 1) (ret := (some .boolean)) (by decide) rfl (Nat.le_of_ble_eq_true rfl) (fun p e s m args below meth c A R Q hA hR hQ C hr hnm hro hX => ?_)
  have hw0 : Jvm.Cond.constantLong RX10 381 (5) ∈ wsX10_isTape := by decide +kernel
  refine x_L (L' := [(0, .int (x))]) [0] rfl ?_
  refine x_iload_n C dX10_isTape_0 (q := 1) rfl rfl 0 rfl ?_
  refine x_i2l C dX10_isTape_1 (q := 2) rfl (v := x.toInt64) (rfl) ?_
  refine x_lconst C dX10_isTape_2 (q := 3) rfl (v := lN 0) rfl ?_
  refine x_ldc2 C (v := lN 5) hw0 dX10_isTape_3 (q := 6) rfl ?_
  refine x_callS C (roW := []) (roR := []) (c_X10_in l D cy x.toInt64 (lN 0) (lN 5) x.toInt 0 5 (xl_wide rfl) rfl rfl) (cwS 3 C.2.2.2.2.1 gX10_isTape_X10_in rfl rfl rfl (by decide +kernel) (by rw [hR]; exact ⟨Nat.le_of_ble_eq_true rfl, Nat.le_of_ble_eq_true rfl⟩)) [] [] rfl (by decide) rfl (by decide) xro_nil xT_bl (fun _ _ _ _ _ _ _ => trivial) rfl rfl dX10_isTape_6 rfl rfl (Nat.le_of_ble_eq_true rfl) (q := 9) rfl (k' := 0) rfl (n' := 0) rfl (by rw [hR]; exact ⟨Nat.le_of_ble_eq_true rfl, Nat.le_of_ble_eq_true rfl⟩) (fun v1 w1 hp1 => ?_)
  rcases hp1 with hp1 | hp1
  · skip
    obtain ⟨rfl, rfl, hc2, hc3⟩ := hp1
    refine x_ws (ws' := []) (List.append_nil _) ?_
    refine x_zret C hA hQ hr (ty := .boolean) (by first | rfl | assumption | exact xz_nar _) dX10_isTape_9 (Nat.le_of_ble_eq_true rfl) ?_
    first | exact Or.inl ⟨rfl, rfl, by omega, by omega⟩ | exact Or.inr ⟨rfl, rfl, by omega⟩
  · skip
    obtain ⟨rfl, rfl, hc4⟩ := hp1
    refine x_ws (ws' := []) (List.append_nil _) ?_
    refine x_zret C hA hQ hr (ty := .boolean) (by first | rfl | assumption | exact xz_nar _) dX10_isTape_9 (Nat.le_of_ble_eq_true rfl) ?_
    first | exact Or.inl ⟨rfl, rfl, by omega, by omega⟩ | exact Or.inr ⟨rfl, rfl, by omega⟩


/-- rows laid one behind another, the last first; where they end -/
def snL {α : Type} : List (Nat × (Nat → α)) → (Nat → α) → Nat → Prop
  | [], _, sp => sp = 0
  | (n, g) :: r, im, sp => ∃ s0, sp = s0 + n ∧ (∀ k, k < n → im (s0 + k) = g k) ∧ snL r im s0
theorem snL_pre {α : Type} : ∀ {r : List (Nat × (Nat → α))} {im im' : Nat → α} {sp : Nat}, (∀ q, q < sp → im' q = im q) → snL r im sp → snL r im' sp
  | [], _, _, _, _, h => h
  | (n, g) :: r, im, im', sp, h, ⟨s0, e, hA1, hA2⟩ => ⟨s0, e, fun k hk => by rw [h _ (by omega)]; exact hA1 k hk, snL_pre (fun q hq => h q (by omega)) hA2⟩
theorem snL_add {α : Type} {r : List (Nat × (Nat → α))} {im im' : Nat → α} {sp n : Nat} {g : Nat → α} (h : snL r im sp) (hA1 : ∀ q, q < sp → im' q = im q) (hA2 : ∀ k, k < n → im' (sp + k) = g k) : snL ((n, g) :: r) im' (sp + n) := ⟨sp, rfl, hA2, snL_pre hA1 h⟩
theorem snL_one {α : Type} {r : List (Nat × (Nat → α))} {im : Nat → α} {sp : Nat} {v : α} (h : snL r im sp) : snL ((1, fun _ => v) :: r) (va_up im sp v) (sp + 1) :=
  snL_add h (fun q hq => va_up_ne' (by omega)) (fun k hk => by rw [show sp + k = sp by omega]; exact va_up_eq)
theorem snL_get {α : Type} {n sp : Nat} {g : Nat → α} {r : List (Nat × (Nat → α))} {im : Nat → α} (h : snL ((n, g) :: r) im (sp + n)) : (∀ k, k < n → im (sp + k) = g k) ∧ snL r im sp := by
  obtain ⟨s0, e, hA1, hA2⟩ := h
  have : s0 = sp := by omega
  subst this
  exact ⟨hA1, hA2⟩

set_option maxHeartbeats 4000000 in
set_option maxRecDepth 100000 in
/-- a long passes -/
theorem c_X10_passes_1 (l : Launch) (D : va_G) (cy : Nat → ClassId) (mo : Nat) (mr : Nat → Nat) (cols : Nat) (lc : Nat) (smp : Nat) (mk : Nat) (rs : Nat) (nse : Nat) (npa : Nat) (nbo : Nat) (tn : Nat) (ik : Nat) (ky : Int32) (j2 : Int32) (j3 : Int32) (j4 : Int32) (sp : Nat) (im : Nat → Int64) (v : Int64) (hsp : sp < 2400) : xMet l D cy xT yX10_passes wsX10_passes ({ frames := 1, cells := 0, slots := 0, locals := 0 } : Room) [.ref mo, .long (v)] [(mo, .inr (9, [.int (nI cols), .int (nI lc), .int (nI smp), .int (ky), .ref (mr 0), .ref (mr 1), .ref (mr 2), .ref (mr 3), .ref (mr 4), .ref (mr 5), .ref (mr 6), .ref (mr 7), .ref (mr 8), .ref (mr 9), .int (nI mk), .int (nI rs), .ref (mr 10), .ref (mr 11), .ref (mr 12), .ref (mr 13), .ref (mr 14), .ref (mr 15), .ref (mr 16), .ref (mr 17), .ref (mr 18), .ref (mr 19), .ref (mr 20), .int (nI nse), .int (nI npa), .int (nI nbo), .ref (mr 21), .int (nI tn), .ref (mr 22), .int (nI ik), .int (nI sp), .int (nI 1), .ref (mr 23), .int (j2), .ref (mr 24), .ref (mr 25), .int (j3), .ref (mr 26), .int (j4), .ref (mr 27), .ref (mr 28), .ref (mr 29), .ref (mr 30)])), (mr 22, .inl (cy 2, 2400, .inr (.inl im)))] [] (fun (v9 : Option Value) (w9 : va_W) => (v9 = some (.long (v)) ∧ w9 = [(mo, .inr (9, [.int (nI cols), .int (nI lc), .int (nI smp), .int (ky), .ref (mr 0), .ref (mr 1), .ref (mr 2), .ref (mr 3), .ref (mr 4), .ref (mr 5), .ref (mr 6), .ref (mr 7), .ref (mr 8), .ref (mr 9), .int (nI mk), .int (nI rs), .ref (mr 10), .ref (mr 11), .ref (mr 12), .ref (mr 13), .ref (mr 14), .ref (mr 15), .ref (mr 16), .ref (mr 17), .ref (mr 18), .ref (mr 19), .ref (mr 20), .int (nI nse), .int (nI npa), .int (nI nbo), .ref (mr 21), .int (nI tn), .ref (mr 22), .int (nI ik), .int (nI (sp + 1)), .int (nI 1), .ref (mr 23), .int (j2), .ref (mr 24), .ref (mr 25), .int (j3), .ref (mr 26), .int (j4), .ref (mr 27), .ref (mr 28), .ref (mr 29), .ref (mr 30)])), (mr 22, .inl (cy 2, 2400, .inr (.inl (va_up im sp v))))])) := by
  refine xMet_of (cc := cX10_passes) (maxL := 5) (ret := (some .long)) (by decide) rfl (Nat.le_of_ble_eq_true rfl) (fun p e s m args below meth c A R Q hA hR hQ C hr hnm hro hX => ?_)
  have hw0 : ∀ w ∈ u_ws RX10 TX10 47, w ∈ wsX10_passes := by decide +kernel
  have hw1 : Cond.fieldLink RX10 131 (TX10 35).1 (TX10 35).2.1 (TX10 35).2.2.1 ∈ wsX10_passes := by decide +kernel
  have hw2 : Cond.fieldLink RX10 86 (TX10 32).1 (TX10 32).2.1 (TX10 32).2.2.1 ∈ wsX10_passes := by decide +kernel
  have hw3 : Cond.fieldLink RX10 135 (TX10 34).1 (TX10 34).2.1 (TX10 34).2.2.1 ∈ wsX10_passes := by decide +kernel
  refine x_L (L' := [(0, .ref mo), (1, .long (v))]) [0, 1] rfl ?_
  refine x_aload_n C dX10_passes_0 (q := 1) rfl rfl 0 rfl ?_
  refine x_get C (ci := 9) (v := .int (nI 1)) hw0 0 rfl rfl 35 (by decide) hw1 rfl dX10_passes_1 (q := 4) rfl ?_
  refine x_if_eq C (tgt := 11) dX10_passes_4 (by decide) (q := 7) rfl (a := 1) rfl (fun h1 => (by omega : False).elim) (fun h1 => ?_)
  refine x_lload_n C dX10_passes_7 (q := 8) rfl rfl 1 rfl ?_
  refine x_goto C (tgt := 20) dX10_passes_8 (by decide) ?_
  refine x_lstore_n C (L' := [(3, .long (v)), (0, .ref mo), (1, .long (v))]) dX10_passes_20 (q := 21) rfl rfl (by decide) rfl ?_
  refine x_aload_n C dX10_passes_21 (q := 22) rfl rfl 1 rfl ?_
  refine x_get C (ci := 9) (v := .ref (mr 22)) hw0 0 rfl rfl 32 (by decide) hw2 rfl dX10_passes_22 (q := 25) rfl ?_
  refine x_aload_n C dX10_passes_25 (q := 26) rfl rfl 1 rfl ?_
  refine x_get C (ci := 9) (v := .int (nI sp)) hw0 0 rfl rfl 34 (by decide) hw3 rfl dX10_passes_26 (q := 29) rfl ?_
  refine x_lload_n C dX10_passes_29 (q := 30) rfl rfl 0 rfl ?_
  refine x_last C (ws' := [(mo, .inr (9, [.int (nI cols), .int (nI lc), .int (nI smp), .int (ky), .ref (mr 0), .ref (mr 1), .ref (mr 2), .ref (mr 3), .ref (mr 4), .ref (mr 5), .ref (mr 6), .ref (mr 7), .ref (mr 8), .ref (mr 9), .int (nI mk), .int (nI rs), .ref (mr 10), .ref (mr 11), .ref (mr 12), .ref (mr 13), .ref (mr 14), .ref (mr 15), .ref (mr 16), .ref (mr 17), .ref (mr 18), .ref (mr 19), .ref (mr 20), .int (nI nse), .int (nI npa), .int (nI nbo), .ref (mr 21), .int (nI tn), .ref (mr 22), .int (nI ik), .int (nI sp), .int (nI 1), .ref (mr 23), .int (j2), .ref (mr 24), .ref (mr 25), .int (j3), .ref (mr 26), .int (j4), .ref (mr 27), .ref (mr 28), .ref (mr 29), .ref (mr 30)])), (mr 22, .inl (cy 2, 2400, .inr (.inl (va_up im sp v))))]) 1 rfl (j := sp) (nI_toInt (by omega)) (by omega) (rfl) rfl dX10_passes_30 (q := 31) rfl ?_
  refine x_aload_n C dX10_passes_31 (q := 32) rfl rfl 1 rfl ?_
  refine x_dup C dX10_passes_32 (q := 33) rfl rfl ?_
  refine x_get C (ci := 9) (v := .int (nI sp)) hw0 0 rfl rfl 34 (by decide) hw3 rfl dX10_passes_33 (q := 36) rfl ?_
  refine x_iconst C dX10_passes_36 (q := 37) rfl (v := nI 1) (by decide) ?_
  refine x_iadd C dX10_passes_37 (q := 38) rfl (z := nI (sp + 1)) (nI_add sp 1) ?_
  refine x_put C (ci := 9) (ty := .int) (ws' := [(mo, .inr (9, [.int (nI cols), .int (nI lc), .int (nI smp), .int (ky), .ref (mr 0), .ref (mr 1), .ref (mr 2), .ref (mr 3), .ref (mr 4), .ref (mr 5), .ref (mr 6), .ref (mr 7), .ref (mr 8), .ref (mr 9), .int (nI mk), .int (nI rs), .ref (mr 10), .ref (mr 11), .ref (mr 12), .ref (mr 13), .ref (mr 14), .ref (mr 15), .ref (mr 16), .ref (mr 17), .ref (mr 18), .ref (mr 19), .ref (mr 20), .int (nI nse), .int (nI npa), .int (nI nbo), .ref (mr 21), .int (nI tn), .ref (mr 22), .int (nI ik), .int (nI (sp + 1)), .int (nI 1), .ref (mr 23), .int (j2), .ref (mr 24), .ref (mr 25), .int (j3), .ref (mr 26), .int (j4), .ref (mr 27), .ref (mr 28), .ref (mr 29), .ref (mr 30)])), (mr 22, .inl (cy 2, 2400, .inr (.inl (va_up im sp v))))]) hw0 tyX10 tyX10_ok nmX10 0 rfl rfl 34 (by decide) hw3 rfl (by decide +kernel) rfl rfl (Nat.le_of_ble_eq_true rfl) rfl dX10_passes_38 (q := 41) rfl ?_
  refine x_lload_n C dX10_passes_41 (q := 42) rfl rfl 0 rfl ?_
  refine x_lret C hA hQ hr dX10_passes_42 (Nat.le_of_ble_eq_true rfl) ?_
  first | exact ⟨rfl, rfl⟩ | exact ⟨_, rfl, rfl, by first | rfl | omega | assumption⟩ | (refine ⟨_, rfl, rfl, ?_⟩; (first | rfl | omega | (simp only []; omega)))

set_option maxHeartbeats 4000000 in
set_option maxRecDepth 100000 in
/-- a row passes -/
theorem c_X10_passesRow_1 (l : Launch) (D : va_G) (cy : Nat → ClassId) (mo : Nat) (mr : Nat → Nat) (cols : Nat) (lc : Nat) (smp : Nat) (mk : Nat) (rs : Nat) (nse : Nat) (npa : Nat) (nbo : Nat) (tn : Nat) (ik : Nat) (ky : Int32) (j2 : Int32) (j3 : Int32) (j4 : Int32) (sp : Nat) (im : Nat → Int64) (a : Nat) (len : Nat) (f : Nat → Int32) (hsp : sp + len ≤ 2400) : xMet l D cy xT yX10_passesRow wsX10_passesRow ({ frames := 2, cells := 0, slots := 0, locals := 200 } : Room) [.ref mo, .ref a] [(mo, .inr (9, [.int (nI cols), .int (nI lc), .int (nI smp), .int (ky), .ref (mr 0), .ref (mr 1), .ref (mr 2), .ref (mr 3), .ref (mr 4), .ref (mr 5), .ref (mr 6), .ref (mr 7), .ref (mr 8), .ref (mr 9), .int (nI mk), .int (nI rs), .ref (mr 10), .ref (mr 11), .ref (mr 12), .ref (mr 13), .ref (mr 14), .ref (mr 15), .ref (mr 16), .ref (mr 17), .ref (mr 18), .ref (mr 19), .ref (mr 20), .int (nI nse), .int (nI npa), .int (nI nbo), .ref (mr 21), .int (nI tn), .ref (mr 22), .int (nI ik), .int (nI sp), .int (nI 1), .ref (mr 23), .int (j2), .ref (mr 24), .ref (mr 25), .int (j3), .ref (mr 26), .int (j4), .ref (mr 27), .ref (mr 28), .ref (mr 29), .ref (mr 30)])), (mr 22, .inl (cy 2, 2400, .inr (.inl im))), (a, .inl (cy 1, len, .inl f))] [] (fun (v9 : Option Value) (w9 : va_W) => (∃ im' : Nat → Int64, v9 = none ∧ w9 = [(mo, .inr (9, [.int (nI cols), .int (nI lc), .int (nI smp), .int (ky), .ref (mr 0), .ref (mr 1), .ref (mr 2), .ref (mr 3), .ref (mr 4), .ref (mr 5), .ref (mr 6), .ref (mr 7), .ref (mr 8), .ref (mr 9), .int (nI mk), .int (nI rs), .ref (mr 10), .ref (mr 11), .ref (mr 12), .ref (mr 13), .ref (mr 14), .ref (mr 15), .ref (mr 16), .ref (mr 17), .ref (mr 18), .ref (mr 19), .ref (mr 20), .int (nI nse), .int (nI npa), .int (nI nbo), .ref (mr 21), .int (nI tn), .ref (mr 22), .int (nI ik), .int (nI (sp + len)), .int (nI 1), .ref (mr 23), .int (j2), .ref (mr 24), .ref (mr 25), .int (j3), .ref (mr 26), .int (j4), .ref (mr 27), .ref (mr 28), .ref (mr 29), .ref (mr 30)])), (mr 22, .inl (cy 2, 2400, .inr (.inl im'))), (a, .inl (cy 1, len, .inl f))] ∧ (∀ q, q < sp → im' q = im q) ∧ (∀ k, k < len → im' (sp + k) = (f k).toInt64))) := by
  refine xMet_of (cc := cX10_passesRow) (maxL := 3) (ret := none) (by decide) rfl (Nat.le_of_ble_eq_true rfl) (fun p e s m args below meth c A R Q hA hR hQ C hr hnm hro hX => ?_)
  refine x_L (L' := [(0, .ref mo), (1, .ref a)]) [0, 1] rfl ?_
  refine x_iconst C dX10_passesRow_0 (q := 1) rfl (v := nI 0) (by decide) ?_
  refine x_istore_n C (L' := [(2, .int (nI 0)), (0, .ref mo), (1, .ref a)]) dX10_passesRow_1 (q := 2) rfl rfl (by decide) rfl ?_
  have cut2 : ∀ (fuel : Nat) (i : Nat) (s9 : Nat) (im9 : Nat → Int64) (f9 : Nat → Int32), (i ≤ len) → (s9 = sp + i) → (f9 = f) → (∀ q, q < sp → im9 q = im q) → (∀ k, k < i → im9 (sp + k) = (f k).toInt64) → len - i < fuel → xG p l e R s m args below meth c Q D A 3 [(mo, .inr (9, [.int (nI cols), .int (nI lc), .int (nI smp), .int (ky), .ref (mr 0), .ref (mr 1), .ref (mr 2), .ref (mr 3), .ref (mr 4), .ref (mr 5), .ref (mr 6), .ref (mr 7), .ref (mr 8), .ref (mr 9), .int (nI mk), .int (nI rs), .ref (mr 10), .ref (mr 11), .ref (mr 12), .ref (mr 13), .ref (mr 14), .ref (mr 15), .ref (mr 16), .ref (mr 17), .ref (mr 18), .ref (mr 19), .ref (mr 20), .int (nI nse), .int (nI npa), .int (nI nbo), .ref (mr 21), .int (nI tn), .ref (mr 22), .int (nI ik), .int (nI s9), .int (nI 1), .ref (mr 23), .int (j2), .ref (mr 24), .ref (mr 25), .int (j3), .ref (mr 26), .int (j4), .ref (mr 27), .ref (mr 28), .ref (mr 29), .ref (mr 30)])), (mr 22, .inl (cy 2, 2400, .inr (.inl im9))), (a, .inl (cy 1, len, .inl f9))] 0 0 2 [(0, .ref mo), (1, .ref a), (2, .int (nI i))] [] := by
    intro fuel
    induction fuel with
    | zero =>
      intro i s9 im9 f9 hi hs hf hA1 hA2 hmu
      exact absurd hmu (Nat.not_lt_zero _)
    | succ fuel ih =>
      intro i s9 im9 f9 hi hs hf hA1 hA2 hmu
      have ih2 := ih
      clear ih
      refine x_iload_n C dX10_passesRow_2 (q := 3) rfl rfl 2 rfl ?_
      refine x_aload_n C dX10_passesRow_3 (q := 4) rfl rfl 1 rfl ?_
      refine x_alen C 2 1 rfl rfl (v := nI len) rfl dX10_passesRow_4 (q := 5) rfl ?_
      refine x_icmp_ge C (tgt := 26) dX10_passesRow_5 (by decide) (q := 8) rfl (a := ((i : Nat) : Int)) (b := ((len : Nat) : Int)) (nI_toInt (by omega)) (nI_toInt (by omega)) (fun h1 => ?_) (fun h1 => ?_)
      · first
        | (exfalso; omega)
        |
          refine x_vret C hA hQ hr dX10_passesRow_26 (Nat.le_of_ble_eq_true rfl) ?_
          have e9 : i = len := by omega
          subst e9 hf hs
          exact ⟨im9, rfl, rfl, hA1, hA2⟩
      · first
        | (exfalso; omega)
        |
          refine x_aload_n C dX10_passesRow_8 (q := 9) rfl rfl 1 rfl ?_
          refine x_iload_n C dX10_passesRow_9 (q := 10) rfl rfl 2 rfl ?_
          refine x_aload_n C dX10_passesRow_10 (q := 11) rfl rfl 0 rfl ?_
          refine x_aload_n C dX10_passesRow_11 (q := 12) rfl rfl 1 rfl ?_
          refine x_iload_n C dX10_passesRow_12 (q := 13) rfl rfl 2 rfl ?_
          refine x_iald C (j := i) (v := f9 i) 2 rfl (nI_toInt (by omega)) (by omega) rfl dX10_passesRow_13 (q := 14) rfl ?_
          refine x_i2l C dX10_passesRow_14 (q := 15) rfl (v := (f9 i).toInt64) (rfl) ?_
          refine x_callV C (roW := []) (roR := []) (c_X10_passes_1 l D cy mo mr cols lc smp mk rs nse npa nbo tn ik ky j2 j3 j4 s9 im9 ((f9 i).toInt64) (by first | assumption | omega | (simp only []; omega))) (cwV 1 C.2.2.2.2.1 gX10_passesRow_X10_passes rfl rfl rfl (by decide +kernel) (by rw [hR]; exact ⟨Nat.le_of_ble_eq_true rfl, Nat.le_of_ble_eq_true rfl⟩)) [0, 1] [] rfl (by decide) rfl (by decide) xro_nil (List.mem_of_getElem? (i := 0) rfl) (ci := 9) rfl xT_bl (fun _ _ _ _ _ _ _ => trivial) rfl rfl dX10_passesRow_15 rfl rfl (Nat.le_of_ble_eq_true rfl) (q := 18) rfl (k' := 0) rfl (n' := 0) rfl (by rw [hR]; exact ⟨Nat.le_of_ble_eq_true rfl, Nat.le_of_ble_eq_true rfl⟩) (fun v2 w2 hp2 => ?_)
          obtain ⟨rfl, rfl⟩ := hp2
          refine x_ws (ws' := [(mo, .inr (9, [.int (nI cols), .int (nI lc), .int (nI smp), .int (ky), .ref (mr 0), .ref (mr 1), .ref (mr 2), .ref (mr 3), .ref (mr 4), .ref (mr 5), .ref (mr 6), .ref (mr 7), .ref (mr 8), .ref (mr 9), .int (nI mk), .int (nI rs), .ref (mr 10), .ref (mr 11), .ref (mr 12), .ref (mr 13), .ref (mr 14), .ref (mr 15), .ref (mr 16), .ref (mr 17), .ref (mr 18), .ref (mr 19), .ref (mr 20), .int (nI nse), .int (nI npa), .int (nI nbo), .ref (mr 21), .int (nI tn), .ref (mr 22), .int (nI ik), .int (nI (s9 + 1)), .int (nI 1), .ref (mr 23), .int (j2), .ref (mr 24), .ref (mr 25), .int (j3), .ref (mr 26), .int (j4), .ref (mr 27), .ref (mr 28), .ref (mr 29), .ref (mr 30)])), (mr 22, .inl (cy 2, 2400, .inr (.inl (va_up im9 s9 ((f9 i).toInt64))))), (a, .inl (cy 1, len, .inl f9))]) rfl ?_
          refine x_l2i C dX10_passesRow_18 (q := 19) rfl (v := ((f9 i).toInt64).toInt32) (rfl) ?_
          refine x_iast C (ws' := [(mo, .inr (9, [.int (nI cols), .int (nI lc), .int (nI smp), .int (ky), .ref (mr 0), .ref (mr 1), .ref (mr 2), .ref (mr 3), .ref (mr 4), .ref (mr 5), .ref (mr 6), .ref (mr 7), .ref (mr 8), .ref (mr 9), .int (nI mk), .int (nI rs), .ref (mr 10), .ref (mr 11), .ref (mr 12), .ref (mr 13), .ref (mr 14), .ref (mr 15), .ref (mr 16), .ref (mr 17), .ref (mr 18), .ref (mr 19), .ref (mr 20), .int (nI nse), .int (nI npa), .int (nI nbo), .ref (mr 21), .int (nI tn), .ref (mr 22), .int (nI ik), .int (nI (s9 + 1)), .int (nI 1), .ref (mr 23), .int (j2), .ref (mr 24), .ref (mr 25), .int (j3), .ref (mr 26), .int (j4), .ref (mr 27), .ref (mr 28), .ref (mr 29), .ref (mr 30)])), (mr 22, .inl (cy 2, 2400, .inr (.inl (va_up im9 s9 ((f9 i).toInt64))))), (a, .inl (cy 1, len, .inl (va_up f9 i (((f9 i).toInt64).toInt32))))]) 2 rfl (j := i) (nI_toInt (by omega)) (by omega) (rfl) rfl dX10_passesRow_19 (q := 20) rfl ?_
          refine x_iinc C (L' := [(2, .int (nI (i + 1))), (0, .ref mo), (1, .ref a)]) dX10_passesRow_20 (q := 23) rfl 2 rfl (v := nI (i + 1)) (nI_add i 1) (by decide) rfl ?_
          refine x_goto C (tgt := 2) dX10_passesRow_23 (by decide) ?_
          refine x_L (L' := [(0, .ref mo), (1, .ref a), (2, .int (nI (i + 1)))]) [1, 2, 0] rfl ?_
          exact ih2 (i + 1) (s9 + 1) (va_up im9 s9 ((f9 i).toInt64)) (va_up f9 i (((f9 i).toInt64).toInt32)) (by first | omega | assumption) (by first | omega | assumption) (by rw [hf]; rw [xw_id]; exact up_self f i) (by intro q hq; rw [va_up_ne' (by omega)]; exact hA1 q hq) (by intro k hk; rw [hf, hs]; by_cases hA9 : k = i; (subst hA9; exact va_up_eq); (rw [va_up_ne' (by omega)]; exact hA2 k (by omega))) (by omega)
  refine x_L (L' := [(0, .ref mo), (1, .ref a), (2, .int (nI 0))]) [1, 2, 0] rfl ?_
  exact cut2 (len - 0 + 1) 0 sp im f (by first | omega | assumption) (by first | omega | assumption) (by rfl) (by exact fun q _ => rfl) (by intro k hk; omega) (by omega)

set_option maxHeartbeats 4000000 in
set_option maxRecDepth 100000 in
/-- a row passes -/
theorem c_X10_passesLongs_1 (l : Launch) (D : va_G) (cy : Nat → ClassId) (mo : Nat) (mr : Nat → Nat) (cols : Nat) (lc : Nat) (smp : Nat) (mk : Nat) (rs : Nat) (nse : Nat) (npa : Nat) (nbo : Nat) (tn : Nat) (ik : Nat) (ky : Int32) (j2 : Int32) (j3 : Int32) (j4 : Int32) (sp : Nat) (im : Nat → Int64) (a : Nat) (len : Nat) (f : Nat → Int64) (hsp : sp + len ≤ 2400) : xMet l D cy xT yX10_passesLongs wsX10_passesLongs ({ frames := 2, cells := 0, slots := 0, locals := 200 } : Room) [.ref mo, .ref a] [(mo, .inr (9, [.int (nI cols), .int (nI lc), .int (nI smp), .int (ky), .ref (mr 0), .ref (mr 1), .ref (mr 2), .ref (mr 3), .ref (mr 4), .ref (mr 5), .ref (mr 6), .ref (mr 7), .ref (mr 8), .ref (mr 9), .int (nI mk), .int (nI rs), .ref (mr 10), .ref (mr 11), .ref (mr 12), .ref (mr 13), .ref (mr 14), .ref (mr 15), .ref (mr 16), .ref (mr 17), .ref (mr 18), .ref (mr 19), .ref (mr 20), .int (nI nse), .int (nI npa), .int (nI nbo), .ref (mr 21), .int (nI tn), .ref (mr 22), .int (nI ik), .int (nI sp), .int (nI 1), .ref (mr 23), .int (j2), .ref (mr 24), .ref (mr 25), .int (j3), .ref (mr 26), .int (j4), .ref (mr 27), .ref (mr 28), .ref (mr 29), .ref (mr 30)])), (mr 22, .inl (cy 2, 2400, .inr (.inl im))), (a, .inl (cy 2, len, .inr (.inl f)))] [] (fun (v9 : Option Value) (w9 : va_W) => (∃ im' : Nat → Int64, v9 = none ∧ w9 = [(mo, .inr (9, [.int (nI cols), .int (nI lc), .int (nI smp), .int (ky), .ref (mr 0), .ref (mr 1), .ref (mr 2), .ref (mr 3), .ref (mr 4), .ref (mr 5), .ref (mr 6), .ref (mr 7), .ref (mr 8), .ref (mr 9), .int (nI mk), .int (nI rs), .ref (mr 10), .ref (mr 11), .ref (mr 12), .ref (mr 13), .ref (mr 14), .ref (mr 15), .ref (mr 16), .ref (mr 17), .ref (mr 18), .ref (mr 19), .ref (mr 20), .int (nI nse), .int (nI npa), .int (nI nbo), .ref (mr 21), .int (nI tn), .ref (mr 22), .int (nI ik), .int (nI (sp + len)), .int (nI 1), .ref (mr 23), .int (j2), .ref (mr 24), .ref (mr 25), .int (j3), .ref (mr 26), .int (j4), .ref (mr 27), .ref (mr 28), .ref (mr 29), .ref (mr 30)])), (mr 22, .inl (cy 2, 2400, .inr (.inl im'))), (a, .inl (cy 2, len, .inr (.inl f)))] ∧ (∀ q, q < sp → im' q = im q) ∧ (∀ k, k < len → im' (sp + k) = f k))) := by
  refine xMet_of (cc := cX10_passesLongs) (maxL := 3) (ret := none) (by decide) rfl (Nat.le_of_ble_eq_true rfl) (fun p e s m args below meth c A R Q hA hR hQ C hr hnm hro hX => ?_)
  refine x_L (L' := [(0, .ref mo), (1, .ref a)]) [0, 1] rfl ?_
  refine x_iconst C dX10_passesLongs_0 (q := 1) rfl (v := nI 0) (by decide) ?_
  refine x_istore_n C (L' := [(2, .int (nI 0)), (0, .ref mo), (1, .ref a)]) dX10_passesLongs_1 (q := 2) rfl rfl (by decide) rfl ?_
  have cut2 : ∀ (fuel : Nat) (i : Nat) (s9 : Nat) (im9 : Nat → Int64) (f9 : Nat → Int64), (i ≤ len) → (s9 = sp + i) → (f9 = f) → (∀ q, q < sp → im9 q = im q) → (∀ k, k < i → im9 (sp + k) = f k) → len - i < fuel → xG p l e R s m args below meth c Q D A 3 [(mo, .inr (9, [.int (nI cols), .int (nI lc), .int (nI smp), .int (ky), .ref (mr 0), .ref (mr 1), .ref (mr 2), .ref (mr 3), .ref (mr 4), .ref (mr 5), .ref (mr 6), .ref (mr 7), .ref (mr 8), .ref (mr 9), .int (nI mk), .int (nI rs), .ref (mr 10), .ref (mr 11), .ref (mr 12), .ref (mr 13), .ref (mr 14), .ref (mr 15), .ref (mr 16), .ref (mr 17), .ref (mr 18), .ref (mr 19), .ref (mr 20), .int (nI nse), .int (nI npa), .int (nI nbo), .ref (mr 21), .int (nI tn), .ref (mr 22), .int (nI ik), .int (nI s9), .int (nI 1), .ref (mr 23), .int (j2), .ref (mr 24), .ref (mr 25), .int (j3), .ref (mr 26), .int (j4), .ref (mr 27), .ref (mr 28), .ref (mr 29), .ref (mr 30)])), (mr 22, .inl (cy 2, 2400, .inr (.inl im9))), (a, .inl (cy 2, len, .inr (.inl f9)))] 0 0 2 [(0, .ref mo), (1, .ref a), (2, .int (nI i))] [] := by
    intro fuel
    induction fuel with
    | zero =>
      intro i s9 im9 f9 hi hs hf hA1 hA2 hmu
      exact absurd hmu (Nat.not_lt_zero _)
    | succ fuel ih =>
      intro i s9 im9 f9 hi hs hf hA1 hA2 hmu
      have ih2 := ih
      clear ih
      refine x_iload_n C dX10_passesLongs_2 (q := 3) rfl rfl 2 rfl ?_
      refine x_aload_n C dX10_passesLongs_3 (q := 4) rfl rfl 1 rfl ?_
      refine x_alen C 2 2 rfl rfl (v := nI len) rfl dX10_passesLongs_4 (q := 5) rfl ?_
      refine x_icmp_ge C (tgt := 24) dX10_passesLongs_5 (by decide) (q := 8) rfl (a := ((i : Nat) : Int)) (b := ((len : Nat) : Int)) (nI_toInt (by omega)) (nI_toInt (by omega)) (fun h1 => ?_) (fun h1 => ?_)
      · first
        | (exfalso; omega)
        |
          refine x_vret C hA hQ hr dX10_passesLongs_24 (Nat.le_of_ble_eq_true rfl) ?_
          have e9 : i = len := by omega
          subst e9 hf hs
          exact ⟨im9, rfl, rfl, hA1, hA2⟩
      · first
        | (exfalso; omega)
        |
          refine x_aload_n C dX10_passesLongs_8 (q := 9) rfl rfl 1 rfl ?_
          refine x_iload_n C dX10_passesLongs_9 (q := 10) rfl rfl 2 rfl ?_
          refine x_aload_n C dX10_passesLongs_10 (q := 11) rfl rfl 0 rfl ?_
          refine x_aload_n C dX10_passesLongs_11 (q := 12) rfl rfl 1 rfl ?_
          refine x_iload_n C dX10_passesLongs_12 (q := 13) rfl rfl 2 rfl ?_
          refine x_lald C (j := i) (v := f9 i) 2 rfl (nI_toInt (by omega)) (by omega) rfl dX10_passesLongs_13 (q := 14) rfl ?_
          refine x_callV C (roW := []) (roR := []) (c_X10_passes_1 l D cy mo mr cols lc smp mk rs nse npa nbo tn ik ky j2 j3 j4 s9 im9 (f9 i) (by first | assumption | omega | (simp only []; omega))) (cwV 1 C.2.2.2.2.1 gX10_passesLongs_X10_passes rfl rfl rfl (by decide +kernel) (by rw [hR]; exact ⟨Nat.le_of_ble_eq_true rfl, Nat.le_of_ble_eq_true rfl⟩)) [0, 1] [] rfl (by decide) rfl (by decide) xro_nil (List.mem_of_getElem? (i := 0) rfl) (ci := 9) rfl xT_bl (fun _ _ _ _ _ _ _ => trivial) rfl rfl dX10_passesLongs_14 rfl rfl (Nat.le_of_ble_eq_true rfl) (q := 17) rfl (k' := 0) rfl (n' := 0) rfl (by rw [hR]; exact ⟨Nat.le_of_ble_eq_true rfl, Nat.le_of_ble_eq_true rfl⟩) (fun v2 w2 hp2 => ?_)
          obtain ⟨rfl, rfl⟩ := hp2
          refine x_ws (ws' := [(mo, .inr (9, [.int (nI cols), .int (nI lc), .int (nI smp), .int (ky), .ref (mr 0), .ref (mr 1), .ref (mr 2), .ref (mr 3), .ref (mr 4), .ref (mr 5), .ref (mr 6), .ref (mr 7), .ref (mr 8), .ref (mr 9), .int (nI mk), .int (nI rs), .ref (mr 10), .ref (mr 11), .ref (mr 12), .ref (mr 13), .ref (mr 14), .ref (mr 15), .ref (mr 16), .ref (mr 17), .ref (mr 18), .ref (mr 19), .ref (mr 20), .int (nI nse), .int (nI npa), .int (nI nbo), .ref (mr 21), .int (nI tn), .ref (mr 22), .int (nI ik), .int (nI (s9 + 1)), .int (nI 1), .ref (mr 23), .int (j2), .ref (mr 24), .ref (mr 25), .int (j3), .ref (mr 26), .int (j4), .ref (mr 27), .ref (mr 28), .ref (mr 29), .ref (mr 30)])), (mr 22, .inl (cy 2, 2400, .inr (.inl (va_up im9 s9 (f9 i))))), (a, .inl (cy 2, len, .inr (.inl f9)))]) rfl ?_
          refine x_last C (ws' := [(mo, .inr (9, [.int (nI cols), .int (nI lc), .int (nI smp), .int (ky), .ref (mr 0), .ref (mr 1), .ref (mr 2), .ref (mr 3), .ref (mr 4), .ref (mr 5), .ref (mr 6), .ref (mr 7), .ref (mr 8), .ref (mr 9), .int (nI mk), .int (nI rs), .ref (mr 10), .ref (mr 11), .ref (mr 12), .ref (mr 13), .ref (mr 14), .ref (mr 15), .ref (mr 16), .ref (mr 17), .ref (mr 18), .ref (mr 19), .ref (mr 20), .int (nI nse), .int (nI npa), .int (nI nbo), .ref (mr 21), .int (nI tn), .ref (mr 22), .int (nI ik), .int (nI (s9 + 1)), .int (nI 1), .ref (mr 23), .int (j2), .ref (mr 24), .ref (mr 25), .int (j3), .ref (mr 26), .int (j4), .ref (mr 27), .ref (mr 28), .ref (mr 29), .ref (mr 30)])), (mr 22, .inl (cy 2, 2400, .inr (.inl (va_up im9 s9 (f9 i))))), (a, .inl (cy 2, len, .inr (.inl (va_up f9 i (f9 i)))))]) 2 rfl (j := i) (nI_toInt (by omega)) (by omega) (rfl) rfl dX10_passesLongs_17 (q := 18) rfl ?_
          refine x_iinc C (L' := [(2, .int (nI (i + 1))), (0, .ref mo), (1, .ref a)]) dX10_passesLongs_18 (q := 21) rfl 2 rfl (v := nI (i + 1)) (nI_add i 1) (by decide) rfl ?_
          refine x_goto C (tgt := 2) dX10_passesLongs_21 (by decide) ?_
          refine x_L (L' := [(0, .ref mo), (1, .ref a), (2, .int (nI (i + 1)))]) [1, 2, 0] rfl ?_
          exact ih2 (i + 1) (s9 + 1) (va_up im9 s9 (f9 i)) (va_up f9 i (f9 i)) (by first | omega | assumption) (by first | omega | assumption) (by rw [hf]; exact up_self f i) (by intro q hq; rw [va_up_ne' (by omega)]; exact hA1 q hq) (by intro k hk; rw [hf, hs]; by_cases hA9 : k = i; (subst hA9; exact va_up_eq); (rw [va_up_ne' (by omega)]; exact hA2 k (by omega))) (by omega)
  refine x_L (L' := [(0, .ref mo), (1, .ref a), (2, .int (nI 0))]) [1, 2, 0] rfl ?_
  exact cut2 (len - 0 + 1) 0 sp im f (by first | omega | assumption) (by first | omega | assumption) (by rfl) (by exact fun q _ => rfl) (by intro k hk; omega) (by omega)

set_option maxHeartbeats 4000000 in
set_option maxRecDepth 100000 in
/-- a long passes -/
theorem c_X10_passes_0 (l : Launch) (D : va_G) (cy : Nat → ClassId) (mo : Nat) (mr : Nat → Nat) (cols : Nat) (lc : Nat) (smp : Nat) (mk : Nat) (rs : Nat) (nse : Nat) (npa : Nat) (nbo : Nat) (tn : Nat) (ik : Nat) (ky : Int32) (j2 : Int32) (j3 : Int32) (j4 : Int32) (sp : Nat) (im : Nat → Int64) (v : Int64) (hsp : sp < 2400) : xMet l D cy xT yX10_passes wsX10_passes ({ frames := 1, cells := 0, slots := 0, locals := 0 } : Room) [.ref mo, .long (v)] [(mo, .inr (9, [.int (nI cols), .int (nI lc), .int (nI smp), .int (ky), .ref (mr 0), .ref (mr 1), .ref (mr 2), .ref (mr 3), .ref (mr 4), .ref (mr 5), .ref (mr 6), .ref (mr 7), .ref (mr 8), .ref (mr 9), .int (nI mk), .int (nI rs), .ref (mr 10), .ref (mr 11), .ref (mr 12), .ref (mr 13), .ref (mr 14), .ref (mr 15), .ref (mr 16), .ref (mr 17), .ref (mr 18), .ref (mr 19), .ref (mr 20), .int (nI nse), .int (nI npa), .int (nI nbo), .ref (mr 21), .int (nI tn), .ref (mr 22), .int (nI ik), .int (nI sp), .int (nI 0), .ref (mr 23), .int (j2), .ref (mr 24), .ref (mr 25), .int (j3), .ref (mr 26), .int (j4), .ref (mr 27), .ref (mr 28), .ref (mr 29), .ref (mr 30)])), (mr 22, .inl (cy 2, 2400, .inr (.inl im)))] [] (fun (v9 : Option Value) (w9 : va_W) => (v9 = some (.long (im sp)) ∧ w9 = [(mo, .inr (9, [.int (nI cols), .int (nI lc), .int (nI smp), .int (ky), .ref (mr 0), .ref (mr 1), .ref (mr 2), .ref (mr 3), .ref (mr 4), .ref (mr 5), .ref (mr 6), .ref (mr 7), .ref (mr 8), .ref (mr 9), .int (nI mk), .int (nI rs), .ref (mr 10), .ref (mr 11), .ref (mr 12), .ref (mr 13), .ref (mr 14), .ref (mr 15), .ref (mr 16), .ref (mr 17), .ref (mr 18), .ref (mr 19), .ref (mr 20), .int (nI nse), .int (nI npa), .int (nI nbo), .ref (mr 21), .int (nI tn), .ref (mr 22), .int (nI ik), .int (nI (sp + 1)), .int (nI 0), .ref (mr 23), .int (j2), .ref (mr 24), .ref (mr 25), .int (j3), .ref (mr 26), .int (j4), .ref (mr 27), .ref (mr 28), .ref (mr 29), .ref (mr 30)])), (mr 22, .inl (cy 2, 2400, .inr (.inl im)))])) := by
  refine xMet_of (cc := cX10_passes) (maxL := 5) (ret := (some .long)) (by decide) rfl (Nat.le_of_ble_eq_true rfl) (fun p e s m args below meth c A R Q hA hR hQ C hr hnm hro hX => ?_)
  have hw0 : ∀ w ∈ u_ws RX10 TX10 47, w ∈ wsX10_passes := by decide +kernel
  have hw1 : Cond.fieldLink RX10 131 (TX10 35).1 (TX10 35).2.1 (TX10 35).2.2.1 ∈ wsX10_passes := by decide +kernel
  have hw2 : Cond.fieldLink RX10 86 (TX10 32).1 (TX10 32).2.1 (TX10 32).2.2.1 ∈ wsX10_passes := by decide +kernel
  have hw3 : Cond.fieldLink RX10 135 (TX10 34).1 (TX10 34).2.1 (TX10 34).2.2.1 ∈ wsX10_passes := by decide +kernel
  refine x_L (L' := [(0, .ref mo), (1, .long (v))]) [0, 1] rfl ?_
  refine x_aload_n C dX10_passes_0 (q := 1) rfl rfl 0 rfl ?_
  refine x_get C (ci := 9) (v := .int (nI 0)) hw0 0 rfl rfl 35 (by decide) hw1 rfl dX10_passes_1 (q := 4) rfl ?_
  refine x_if_eq C (tgt := 11) dX10_passes_4 (by decide) (q := 7) rfl (a := 0) rfl (fun h1 => ?_) (fun h1 => (by omega : False).elim)
  refine x_aload_n C dX10_passes_11 (q := 12) rfl rfl 0 rfl ?_
  refine x_get C (ci := 9) (v := .ref (mr 22)) hw0 0 rfl rfl 32 (by decide) hw2 rfl dX10_passes_12 (q := 15) rfl ?_
  refine x_aload_n C dX10_passes_15 (q := 16) rfl rfl 0 rfl ?_
  refine x_get C (ci := 9) (v := .int (nI sp)) hw0 0 rfl rfl 34 (by decide) hw3 rfl dX10_passes_16 (q := 19) rfl ?_
  refine x_lald C (j := sp) (v := im sp) 1 rfl (nI_toInt (by omega)) (by omega) rfl dX10_passes_19 (q := 20) rfl ?_
  refine x_lstore_n C (L' := [(3, .long (im sp)), (0, .ref mo), (1, .long (v))]) dX10_passes_20 (q := 21) rfl rfl (by decide) rfl ?_
  refine x_aload_n C dX10_passes_21 (q := 22) rfl rfl 1 rfl ?_
  refine x_get C (ci := 9) (v := .ref (mr 22)) hw0 0 rfl rfl 32 (by decide) hw2 rfl dX10_passes_22 (q := 25) rfl ?_
  refine x_aload_n C dX10_passes_25 (q := 26) rfl rfl 1 rfl ?_
  refine x_get C (ci := 9) (v := .int (nI sp)) hw0 0 rfl rfl 34 (by decide) hw3 rfl dX10_passes_26 (q := 29) rfl ?_
  refine x_lload_n C dX10_passes_29 (q := 30) rfl rfl 0 rfl ?_
  refine x_last C (ws' := [(mo, .inr (9, [.int (nI cols), .int (nI lc), .int (nI smp), .int (ky), .ref (mr 0), .ref (mr 1), .ref (mr 2), .ref (mr 3), .ref (mr 4), .ref (mr 5), .ref (mr 6), .ref (mr 7), .ref (mr 8), .ref (mr 9), .int (nI mk), .int (nI rs), .ref (mr 10), .ref (mr 11), .ref (mr 12), .ref (mr 13), .ref (mr 14), .ref (mr 15), .ref (mr 16), .ref (mr 17), .ref (mr 18), .ref (mr 19), .ref (mr 20), .int (nI nse), .int (nI npa), .int (nI nbo), .ref (mr 21), .int (nI tn), .ref (mr 22), .int (nI ik), .int (nI sp), .int (nI 0), .ref (mr 23), .int (j2), .ref (mr 24), .ref (mr 25), .int (j3), .ref (mr 26), .int (j4), .ref (mr 27), .ref (mr 28), .ref (mr 29), .ref (mr 30)])), (mr 22, .inl (cy 2, 2400, .inr (.inl (va_up im sp (im sp)))))]) 1 rfl (j := sp) (nI_toInt (by omega)) (by omega) (rfl) rfl dX10_passes_30 (q := 31) rfl ?_
  refine x_aload_n C dX10_passes_31 (q := 32) rfl rfl 1 rfl ?_
  refine x_dup C dX10_passes_32 (q := 33) rfl rfl ?_
  refine x_get C (ci := 9) (v := .int (nI sp)) hw0 0 rfl rfl 34 (by decide) hw3 rfl dX10_passes_33 (q := 36) rfl ?_
  refine x_iconst C dX10_passes_36 (q := 37) rfl (v := nI 1) (by decide) ?_
  refine x_iadd C dX10_passes_37 (q := 38) rfl (z := nI (sp + 1)) (nI_add sp 1) ?_
  refine x_put C (ci := 9) (ty := .int) (ws' := [(mo, .inr (9, [.int (nI cols), .int (nI lc), .int (nI smp), .int (ky), .ref (mr 0), .ref (mr 1), .ref (mr 2), .ref (mr 3), .ref (mr 4), .ref (mr 5), .ref (mr 6), .ref (mr 7), .ref (mr 8), .ref (mr 9), .int (nI mk), .int (nI rs), .ref (mr 10), .ref (mr 11), .ref (mr 12), .ref (mr 13), .ref (mr 14), .ref (mr 15), .ref (mr 16), .ref (mr 17), .ref (mr 18), .ref (mr 19), .ref (mr 20), .int (nI nse), .int (nI npa), .int (nI nbo), .ref (mr 21), .int (nI tn), .ref (mr 22), .int (nI ik), .int (nI (sp + 1)), .int (nI 0), .ref (mr 23), .int (j2), .ref (mr 24), .ref (mr 25), .int (j3), .ref (mr 26), .int (j4), .ref (mr 27), .ref (mr 28), .ref (mr 29), .ref (mr 30)])), (mr 22, .inl (cy 2, 2400, .inr (.inl (va_up im sp (im sp)))))]) hw0 tyX10 tyX10_ok nmX10 0 rfl rfl 34 (by decide) hw3 rfl (by decide +kernel) rfl rfl (Nat.le_of_ble_eq_true rfl) rfl dX10_passes_38 (q := 41) rfl ?_
  refine x_lload_n C dX10_passes_41 (q := 42) rfl rfl 0 rfl ?_
  refine x_lret C hA hQ hr dX10_passes_42 (Nat.le_of_ble_eq_true rfl) ?_
  exact ⟨rfl, by rw [up_self]⟩

set_option maxHeartbeats 4000000 in
set_option maxRecDepth 100000 in
/-- a row passes -/
theorem c_X10_passesRow_0 (l : Launch) (D : va_G) (cy : Nat → ClassId) (mo : Nat) (mr : Nat → Nat) (cols : Nat) (lc : Nat) (smp : Nat) (mk : Nat) (rs : Nat) (nse : Nat) (npa : Nat) (nbo : Nat) (tn : Nat) (ik : Nat) (ky : Int32) (j2 : Int32) (j3 : Int32) (j4 : Int32) (sp : Nat) (im : Nat → Int64) (a : Nat) (len : Nat) (f : Nat → Int32) (hsp : sp + len ≤ 2400) : xMet l D cy xT yX10_passesRow wsX10_passesRow ({ frames := 2, cells := 0, slots := 0, locals := 200 } : Room) [.ref mo, .ref a] [(mo, .inr (9, [.int (nI cols), .int (nI lc), .int (nI smp), .int (ky), .ref (mr 0), .ref (mr 1), .ref (mr 2), .ref (mr 3), .ref (mr 4), .ref (mr 5), .ref (mr 6), .ref (mr 7), .ref (mr 8), .ref (mr 9), .int (nI mk), .int (nI rs), .ref (mr 10), .ref (mr 11), .ref (mr 12), .ref (mr 13), .ref (mr 14), .ref (mr 15), .ref (mr 16), .ref (mr 17), .ref (mr 18), .ref (mr 19), .ref (mr 20), .int (nI nse), .int (nI npa), .int (nI nbo), .ref (mr 21), .int (nI tn), .ref (mr 22), .int (nI ik), .int (nI sp), .int (nI 0), .ref (mr 23), .int (j2), .ref (mr 24), .ref (mr 25), .int (j3), .ref (mr 26), .int (j4), .ref (mr 27), .ref (mr 28), .ref (mr 29), .ref (mr 30)])), (mr 22, .inl (cy 2, 2400, .inr (.inl im))), (a, .inl (cy 1, len, .inl f))] [] (fun (v9 : Option Value) (w9 : va_W) => (∃ f' : Nat → Int32, v9 = none ∧ w9 = [(mo, .inr (9, [.int (nI cols), .int (nI lc), .int (nI smp), .int (ky), .ref (mr 0), .ref (mr 1), .ref (mr 2), .ref (mr 3), .ref (mr 4), .ref (mr 5), .ref (mr 6), .ref (mr 7), .ref (mr 8), .ref (mr 9), .int (nI mk), .int (nI rs), .ref (mr 10), .ref (mr 11), .ref (mr 12), .ref (mr 13), .ref (mr 14), .ref (mr 15), .ref (mr 16), .ref (mr 17), .ref (mr 18), .ref (mr 19), .ref (mr 20), .int (nI nse), .int (nI npa), .int (nI nbo), .ref (mr 21), .int (nI tn), .ref (mr 22), .int (nI ik), .int (nI (sp + len)), .int (nI 0), .ref (mr 23), .int (j2), .ref (mr 24), .ref (mr 25), .int (j3), .ref (mr 26), .int (j4), .ref (mr 27), .ref (mr 28), .ref (mr 29), .ref (mr 30)])), (mr 22, .inl (cy 2, 2400, .inr (.inl im))), (a, .inl (cy 1, len, .inl f'))] ∧ (∀ k, k < len → f' k = (im (sp + k)).toInt32))) := by
  refine xMet_of (cc := cX10_passesRow) (maxL := 3) (ret := none) (by decide) rfl (Nat.le_of_ble_eq_true rfl) (fun p e s m args below meth c A R Q hA hR hQ C hr hnm hro hX => ?_)
  refine x_L (L' := [(0, .ref mo), (1, .ref a)]) [0, 1] rfl ?_
  refine x_iconst C dX10_passesRow_0 (q := 1) rfl (v := nI 0) (by decide) ?_
  refine x_istore_n C (L' := [(2, .int (nI 0)), (0, .ref mo), (1, .ref a)]) dX10_passesRow_1 (q := 2) rfl rfl (by decide) rfl ?_
  have cut2 : ∀ (fuel : Nat) (i : Nat) (s9 : Nat) (f9 : Nat → Int32), (i ≤ len) → (s9 = sp + i) → (∀ k, k < i → f9 k = (im (sp + k)).toInt32) → len - i < fuel → xG p l e R s m args below meth c Q D A 3 [(mo, .inr (9, [.int (nI cols), .int (nI lc), .int (nI smp), .int (ky), .ref (mr 0), .ref (mr 1), .ref (mr 2), .ref (mr 3), .ref (mr 4), .ref (mr 5), .ref (mr 6), .ref (mr 7), .ref (mr 8), .ref (mr 9), .int (nI mk), .int (nI rs), .ref (mr 10), .ref (mr 11), .ref (mr 12), .ref (mr 13), .ref (mr 14), .ref (mr 15), .ref (mr 16), .ref (mr 17), .ref (mr 18), .ref (mr 19), .ref (mr 20), .int (nI nse), .int (nI npa), .int (nI nbo), .ref (mr 21), .int (nI tn), .ref (mr 22), .int (nI ik), .int (nI s9), .int (nI 0), .ref (mr 23), .int (j2), .ref (mr 24), .ref (mr 25), .int (j3), .ref (mr 26), .int (j4), .ref (mr 27), .ref (mr 28), .ref (mr 29), .ref (mr 30)])), (mr 22, .inl (cy 2, 2400, .inr (.inl im))), (a, .inl (cy 1, len, .inl f9))] 0 0 2 [(0, .ref mo), (1, .ref a), (2, .int (nI i))] [] := by
    intro fuel
    induction fuel with
    | zero =>
      intro i s9 f9 hi hs hA2 hmu
      exact absurd hmu (Nat.not_lt_zero _)
    | succ fuel ih =>
      intro i s9 f9 hi hs hA2 hmu
      have ih2 := ih
      clear ih
      refine x_iload_n C dX10_passesRow_2 (q := 3) rfl rfl 2 rfl ?_
      refine x_aload_n C dX10_passesRow_3 (q := 4) rfl rfl 1 rfl ?_
      refine x_alen C 2 1 rfl rfl (v := nI len) rfl dX10_passesRow_4 (q := 5) rfl ?_
      refine x_icmp_ge C (tgt := 26) dX10_passesRow_5 (by decide) (q := 8) rfl (a := ((i : Nat) : Int)) (b := ((len : Nat) : Int)) (nI_toInt (by omega)) (nI_toInt (by omega)) (fun h1 => ?_) (fun h1 => ?_)
      · first
        | (exfalso; omega)
        |
          refine x_vret C hA hQ hr dX10_passesRow_26 (Nat.le_of_ble_eq_true rfl) ?_
          have e9 : i = len := by omega
          subst e9 hs
          exact ⟨f9, rfl, rfl, hA2⟩
      · first
        | (exfalso; omega)
        |
          refine x_aload_n C dX10_passesRow_8 (q := 9) rfl rfl 1 rfl ?_
          refine x_iload_n C dX10_passesRow_9 (q := 10) rfl rfl 2 rfl ?_
          refine x_aload_n C dX10_passesRow_10 (q := 11) rfl rfl 0 rfl ?_
          refine x_aload_n C dX10_passesRow_11 (q := 12) rfl rfl 1 rfl ?_
          refine x_iload_n C dX10_passesRow_12 (q := 13) rfl rfl 2 rfl ?_
          refine x_iald C (j := i) (v := f9 i) 2 rfl (nI_toInt (by omega)) (by omega) rfl dX10_passesRow_13 (q := 14) rfl ?_
          refine x_i2l C dX10_passesRow_14 (q := 15) rfl (v := (f9 i).toInt64) (rfl) ?_
          refine x_callV C (roW := []) (roR := []) (c_X10_passes_0 l D cy mo mr cols lc smp mk rs nse npa nbo tn ik ky j2 j3 j4 s9 im ((f9 i).toInt64) (by first | assumption | omega | (simp only []; omega))) (cwV 1 C.2.2.2.2.1 gX10_passesRow_X10_passes rfl rfl rfl (by decide +kernel) (by rw [hR]; exact ⟨Nat.le_of_ble_eq_true rfl, Nat.le_of_ble_eq_true rfl⟩)) [0, 1] [] rfl (by decide) rfl (by decide) xro_nil (List.mem_of_getElem? (i := 0) rfl) (ci := 9) rfl xT_bl (fun _ _ _ _ _ _ _ => trivial) rfl rfl dX10_passesRow_15 rfl rfl (Nat.le_of_ble_eq_true rfl) (q := 18) rfl (k' := 0) rfl (n' := 0) rfl (by rw [hR]; exact ⟨Nat.le_of_ble_eq_true rfl, Nat.le_of_ble_eq_true rfl⟩) (fun v2 w2 hp2 => ?_)
          obtain ⟨rfl, rfl⟩ := hp2
          refine x_ws (ws' := [(mo, .inr (9, [.int (nI cols), .int (nI lc), .int (nI smp), .int (ky), .ref (mr 0), .ref (mr 1), .ref (mr 2), .ref (mr 3), .ref (mr 4), .ref (mr 5), .ref (mr 6), .ref (mr 7), .ref (mr 8), .ref (mr 9), .int (nI mk), .int (nI rs), .ref (mr 10), .ref (mr 11), .ref (mr 12), .ref (mr 13), .ref (mr 14), .ref (mr 15), .ref (mr 16), .ref (mr 17), .ref (mr 18), .ref (mr 19), .ref (mr 20), .int (nI nse), .int (nI npa), .int (nI nbo), .ref (mr 21), .int (nI tn), .ref (mr 22), .int (nI ik), .int (nI (s9 + 1)), .int (nI 0), .ref (mr 23), .int (j2), .ref (mr 24), .ref (mr 25), .int (j3), .ref (mr 26), .int (j4), .ref (mr 27), .ref (mr 28), .ref (mr 29), .ref (mr 30)])), (mr 22, .inl (cy 2, 2400, .inr (.inl im))), (a, .inl (cy 1, len, .inl f9))]) rfl ?_
          refine x_l2i C dX10_passesRow_18 (q := 19) rfl (v := (im s9).toInt32) (rfl) ?_
          refine x_iast C (ws' := [(mo, .inr (9, [.int (nI cols), .int (nI lc), .int (nI smp), .int (ky), .ref (mr 0), .ref (mr 1), .ref (mr 2), .ref (mr 3), .ref (mr 4), .ref (mr 5), .ref (mr 6), .ref (mr 7), .ref (mr 8), .ref (mr 9), .int (nI mk), .int (nI rs), .ref (mr 10), .ref (mr 11), .ref (mr 12), .ref (mr 13), .ref (mr 14), .ref (mr 15), .ref (mr 16), .ref (mr 17), .ref (mr 18), .ref (mr 19), .ref (mr 20), .int (nI nse), .int (nI npa), .int (nI nbo), .ref (mr 21), .int (nI tn), .ref (mr 22), .int (nI ik), .int (nI (s9 + 1)), .int (nI 0), .ref (mr 23), .int (j2), .ref (mr 24), .ref (mr 25), .int (j3), .ref (mr 26), .int (j4), .ref (mr 27), .ref (mr 28), .ref (mr 29), .ref (mr 30)])), (mr 22, .inl (cy 2, 2400, .inr (.inl im))), (a, .inl (cy 1, len, .inl (va_up f9 i ((im s9).toInt32))))]) 2 rfl (j := i) (nI_toInt (by omega)) (by omega) (rfl) rfl dX10_passesRow_19 (q := 20) rfl ?_
          refine x_iinc C (L' := [(2, .int (nI (i + 1))), (0, .ref mo), (1, .ref a)]) dX10_passesRow_20 (q := 23) rfl 2 rfl (v := nI (i + 1)) (nI_add i 1) (by decide) rfl ?_
          refine x_goto C (tgt := 2) dX10_passesRow_23 (by decide) ?_
          refine x_L (L' := [(0, .ref mo), (1, .ref a), (2, .int (nI (i + 1)))]) [1, 2, 0] rfl ?_
          exact ih2 (i + 1) (s9 + 1) (va_up f9 i ((im s9).toInt32)) (by first | omega | assumption) (by first | omega | assumption) (by intro k hk; rw [hs]; by_cases hA9 : k = i; (subst hA9; exact va_up_eq); (rw [va_up_ne' hA9]; exact hA2 k (by omega))) (by omega)
  refine x_L (L' := [(0, .ref mo), (1, .ref a), (2, .int (nI 0))]) [1, 2, 0] rfl ?_
  exact cut2 (len - 0 + 1) 0 sp f (by first | omega | assumption) (by first | omega | assumption) (by intro k hk; omega) (by omega)

set_option maxHeartbeats 4000000 in
set_option maxRecDepth 100000 in
/-- a row passes -/
theorem c_X10_passesLongs_0 (l : Launch) (D : va_G) (cy : Nat → ClassId) (mo : Nat) (mr : Nat → Nat) (cols : Nat) (lc : Nat) (smp : Nat) (mk : Nat) (rs : Nat) (nse : Nat) (npa : Nat) (nbo : Nat) (tn : Nat) (ik : Nat) (ky : Int32) (j2 : Int32) (j3 : Int32) (j4 : Int32) (sp : Nat) (im : Nat → Int64) (a : Nat) (len : Nat) (f : Nat → Int64) (hsp : sp + len ≤ 2400) : xMet l D cy xT yX10_passesLongs wsX10_passesLongs ({ frames := 2, cells := 0, slots := 0, locals := 200 } : Room) [.ref mo, .ref a] [(mo, .inr (9, [.int (nI cols), .int (nI lc), .int (nI smp), .int (ky), .ref (mr 0), .ref (mr 1), .ref (mr 2), .ref (mr 3), .ref (mr 4), .ref (mr 5), .ref (mr 6), .ref (mr 7), .ref (mr 8), .ref (mr 9), .int (nI mk), .int (nI rs), .ref (mr 10), .ref (mr 11), .ref (mr 12), .ref (mr 13), .ref (mr 14), .ref (mr 15), .ref (mr 16), .ref (mr 17), .ref (mr 18), .ref (mr 19), .ref (mr 20), .int (nI nse), .int (nI npa), .int (nI nbo), .ref (mr 21), .int (nI tn), .ref (mr 22), .int (nI ik), .int (nI sp), .int (nI 0), .ref (mr 23), .int (j2), .ref (mr 24), .ref (mr 25), .int (j3), .ref (mr 26), .int (j4), .ref (mr 27), .ref (mr 28), .ref (mr 29), .ref (mr 30)])), (mr 22, .inl (cy 2, 2400, .inr (.inl im))), (a, .inl (cy 2, len, .inr (.inl f)))] [] (fun (v9 : Option Value) (w9 : va_W) => (∃ f' : Nat → Int64, v9 = none ∧ w9 = [(mo, .inr (9, [.int (nI cols), .int (nI lc), .int (nI smp), .int (ky), .ref (mr 0), .ref (mr 1), .ref (mr 2), .ref (mr 3), .ref (mr 4), .ref (mr 5), .ref (mr 6), .ref (mr 7), .ref (mr 8), .ref (mr 9), .int (nI mk), .int (nI rs), .ref (mr 10), .ref (mr 11), .ref (mr 12), .ref (mr 13), .ref (mr 14), .ref (mr 15), .ref (mr 16), .ref (mr 17), .ref (mr 18), .ref (mr 19), .ref (mr 20), .int (nI nse), .int (nI npa), .int (nI nbo), .ref (mr 21), .int (nI tn), .ref (mr 22), .int (nI ik), .int (nI (sp + len)), .int (nI 0), .ref (mr 23), .int (j2), .ref (mr 24), .ref (mr 25), .int (j3), .ref (mr 26), .int (j4), .ref (mr 27), .ref (mr 28), .ref (mr 29), .ref (mr 30)])), (mr 22, .inl (cy 2, 2400, .inr (.inl im))), (a, .inl (cy 2, len, .inr (.inl f')))] ∧ (∀ k, k < len → f' k = im (sp + k)))) := by
  refine xMet_of (cc := cX10_passesLongs) (maxL := 3) (ret := none) (by decide) rfl (Nat.le_of_ble_eq_true rfl) (fun p e s m args below meth c A R Q hA hR hQ C hr hnm hro hX => ?_)
  refine x_L (L' := [(0, .ref mo), (1, .ref a)]) [0, 1] rfl ?_
  refine x_iconst C dX10_passesLongs_0 (q := 1) rfl (v := nI 0) (by decide) ?_
  refine x_istore_n C (L' := [(2, .int (nI 0)), (0, .ref mo), (1, .ref a)]) dX10_passesLongs_1 (q := 2) rfl rfl (by decide) rfl ?_
  have cut2 : ∀ (fuel : Nat) (i : Nat) (s9 : Nat) (f9 : Nat → Int64), (i ≤ len) → (s9 = sp + i) → (∀ k, k < i → f9 k = im (sp + k)) → len - i < fuel → xG p l e R s m args below meth c Q D A 3 [(mo, .inr (9, [.int (nI cols), .int (nI lc), .int (nI smp), .int (ky), .ref (mr 0), .ref (mr 1), .ref (mr 2), .ref (mr 3), .ref (mr 4), .ref (mr 5), .ref (mr 6), .ref (mr 7), .ref (mr 8), .ref (mr 9), .int (nI mk), .int (nI rs), .ref (mr 10), .ref (mr 11), .ref (mr 12), .ref (mr 13), .ref (mr 14), .ref (mr 15), .ref (mr 16), .ref (mr 17), .ref (mr 18), .ref (mr 19), .ref (mr 20), .int (nI nse), .int (nI npa), .int (nI nbo), .ref (mr 21), .int (nI tn), .ref (mr 22), .int (nI ik), .int (nI s9), .int (nI 0), .ref (mr 23), .int (j2), .ref (mr 24), .ref (mr 25), .int (j3), .ref (mr 26), .int (j4), .ref (mr 27), .ref (mr 28), .ref (mr 29), .ref (mr 30)])), (mr 22, .inl (cy 2, 2400, .inr (.inl im))), (a, .inl (cy 2, len, .inr (.inl f9)))] 0 0 2 [(0, .ref mo), (1, .ref a), (2, .int (nI i))] [] := by
    intro fuel
    induction fuel with
    | zero =>
      intro i s9 f9 hi hs hA2 hmu
      exact absurd hmu (Nat.not_lt_zero _)
    | succ fuel ih =>
      intro i s9 f9 hi hs hA2 hmu
      have ih2 := ih
      clear ih
      refine x_iload_n C dX10_passesLongs_2 (q := 3) rfl rfl 2 rfl ?_
      refine x_aload_n C dX10_passesLongs_3 (q := 4) rfl rfl 1 rfl ?_
      refine x_alen C 2 2 rfl rfl (v := nI len) rfl dX10_passesLongs_4 (q := 5) rfl ?_
      refine x_icmp_ge C (tgt := 24) dX10_passesLongs_5 (by decide) (q := 8) rfl (a := ((i : Nat) : Int)) (b := ((len : Nat) : Int)) (nI_toInt (by omega)) (nI_toInt (by omega)) (fun h1 => ?_) (fun h1 => ?_)
      · first
        | (exfalso; omega)
        |
          refine x_vret C hA hQ hr dX10_passesLongs_24 (Nat.le_of_ble_eq_true rfl) ?_
          have e9 : i = len := by omega
          subst e9 hs
          exact ⟨f9, rfl, rfl, hA2⟩
      · first
        | (exfalso; omega)
        |
          refine x_aload_n C dX10_passesLongs_8 (q := 9) rfl rfl 1 rfl ?_
          refine x_iload_n C dX10_passesLongs_9 (q := 10) rfl rfl 2 rfl ?_
          refine x_aload_n C dX10_passesLongs_10 (q := 11) rfl rfl 0 rfl ?_
          refine x_aload_n C dX10_passesLongs_11 (q := 12) rfl rfl 1 rfl ?_
          refine x_iload_n C dX10_passesLongs_12 (q := 13) rfl rfl 2 rfl ?_
          refine x_lald C (j := i) (v := f9 i) 2 rfl (nI_toInt (by omega)) (by omega) rfl dX10_passesLongs_13 (q := 14) rfl ?_
          refine x_callV C (roW := []) (roR := []) (c_X10_passes_0 l D cy mo mr cols lc smp mk rs nse npa nbo tn ik ky j2 j3 j4 s9 im (f9 i) (by first | assumption | omega | (simp only []; omega))) (cwV 1 C.2.2.2.2.1 gX10_passesLongs_X10_passes rfl rfl rfl (by decide +kernel) (by rw [hR]; exact ⟨Nat.le_of_ble_eq_true rfl, Nat.le_of_ble_eq_true rfl⟩)) [0, 1] [] rfl (by decide) rfl (by decide) xro_nil (List.mem_of_getElem? (i := 0) rfl) (ci := 9) rfl xT_bl (fun _ _ _ _ _ _ _ => trivial) rfl rfl dX10_passesLongs_14 rfl rfl (Nat.le_of_ble_eq_true rfl) (q := 17) rfl (k' := 0) rfl (n' := 0) rfl (by rw [hR]; exact ⟨Nat.le_of_ble_eq_true rfl, Nat.le_of_ble_eq_true rfl⟩) (fun v2 w2 hp2 => ?_)
          obtain ⟨rfl, rfl⟩ := hp2
          refine x_ws (ws' := [(mo, .inr (9, [.int (nI cols), .int (nI lc), .int (nI smp), .int (ky), .ref (mr 0), .ref (mr 1), .ref (mr 2), .ref (mr 3), .ref (mr 4), .ref (mr 5), .ref (mr 6), .ref (mr 7), .ref (mr 8), .ref (mr 9), .int (nI mk), .int (nI rs), .ref (mr 10), .ref (mr 11), .ref (mr 12), .ref (mr 13), .ref (mr 14), .ref (mr 15), .ref (mr 16), .ref (mr 17), .ref (mr 18), .ref (mr 19), .ref (mr 20), .int (nI nse), .int (nI npa), .int (nI nbo), .ref (mr 21), .int (nI tn), .ref (mr 22), .int (nI ik), .int (nI (s9 + 1)), .int (nI 0), .ref (mr 23), .int (j2), .ref (mr 24), .ref (mr 25), .int (j3), .ref (mr 26), .int (j4), .ref (mr 27), .ref (mr 28), .ref (mr 29), .ref (mr 30)])), (mr 22, .inl (cy 2, 2400, .inr (.inl im))), (a, .inl (cy 2, len, .inr (.inl f9)))]) rfl ?_
          refine x_last C (ws' := [(mo, .inr (9, [.int (nI cols), .int (nI lc), .int (nI smp), .int (ky), .ref (mr 0), .ref (mr 1), .ref (mr 2), .ref (mr 3), .ref (mr 4), .ref (mr 5), .ref (mr 6), .ref (mr 7), .ref (mr 8), .ref (mr 9), .int (nI mk), .int (nI rs), .ref (mr 10), .ref (mr 11), .ref (mr 12), .ref (mr 13), .ref (mr 14), .ref (mr 15), .ref (mr 16), .ref (mr 17), .ref (mr 18), .ref (mr 19), .ref (mr 20), .int (nI nse), .int (nI npa), .int (nI nbo), .ref (mr 21), .int (nI tn), .ref (mr 22), .int (nI ik), .int (nI (s9 + 1)), .int (nI 0), .ref (mr 23), .int (j2), .ref (mr 24), .ref (mr 25), .int (j3), .ref (mr 26), .int (j4), .ref (mr 27), .ref (mr 28), .ref (mr 29), .ref (mr 30)])), (mr 22, .inl (cy 2, 2400, .inr (.inl im))), (a, .inl (cy 2, len, .inr (.inl (va_up f9 i (im s9)))))]) 2 rfl (j := i) (nI_toInt (by omega)) (by omega) (rfl) rfl dX10_passesLongs_17 (q := 18) rfl ?_
          refine x_iinc C (L' := [(2, .int (nI (i + 1))), (0, .ref mo), (1, .ref a)]) dX10_passesLongs_18 (q := 21) rfl 2 rfl (v := nI (i + 1)) (nI_add i 1) (by decide) rfl ?_
          refine x_goto C (tgt := 2) dX10_passesLongs_21 (by decide) ?_
          refine x_L (L' := [(0, .ref mo), (1, .ref a), (2, .int (nI (i + 1)))]) [1, 2, 0] rfl ?_
          exact ih2 (i + 1) (s9 + 1) (va_up f9 i (im s9)) (by first | omega | assumption) (by first | omega | assumption) (by intro k hk; rw [hs]; by_cases hA9 : k = i; (subst hA9; exact va_up_eq); (rw [va_up_ne' hA9]; exact hA2 k (by omega))) (by omega)
  refine x_L (L' := [(0, .ref mo), (1, .ref a), (2, .int (nI 0))]) [1, 2, 0] rfl ?_
  exact cut2 (len - 0 + 1) 0 sp f (by first | omega | assumption) (by first | omega | assumption) (by intro k hk; omega) (by omega)

set_option maxHeartbeats 4000000 in
set_option maxRecDepth 100000 in
/-- a row is laid -/
theorem c_X10_lays (l : Launch) (D : va_G) (cy : Nat → ClassId) (mo : Nat) (mr : Nat → Nat) (cols : Nat) (lc : Nat) (smp : Nat) (mk : Nat) (rs : Nat) (nse : Nat) (npa : Nat) (nbo : Nat) (tn : Nat) (ik : Nat) (ky : Int32) (j0 : Int32) (j1 : Int32) (j3 : Int32) (j4 : Int32) (sp : Nat) (mi : Nat → Int32) (a : Nat) (len : Nat) (f : Nat → Int32) (hsp : sp + len ≤ 134) : xMet l D cy xT yX10_lays wsX10_lays ({ frames := 1, cells := 0, slots := 0, locals := 0 } : Room) [.ref mo, .ref a] [(mo, .inr (9, [.int (nI cols), .int (nI lc), .int (nI smp), .int (ky), .ref (mr 0), .ref (mr 1), .ref (mr 2), .ref (mr 3), .ref (mr 4), .ref (mr 5), .ref (mr 6), .ref (mr 7), .ref (mr 8), .ref (mr 9), .int (nI mk), .int (nI rs), .ref (mr 10), .ref (mr 11), .ref (mr 12), .ref (mr 13), .ref (mr 14), .ref (mr 15), .ref (mr 16), .ref (mr 17), .ref (mr 18), .ref (mr 19), .ref (mr 20), .int (nI nse), .int (nI npa), .int (nI nbo), .ref (mr 21), .int (nI tn), .ref (mr 22), .int (nI ik), .int (j0), .int (j1), .ref (mr 23), .int (nI sp), .ref (mr 24), .ref (mr 25), .int (j3), .ref (mr 26), .int (j4), .ref (mr 27), .ref (mr 28), .ref (mr 29), .ref (mr 30)])), (mr 23, .inl (cy 1, 134, .inl mi)), (a, .inl (cy 1, len, .inl f))] [] (fun (v9 : Option Value) (w9 : va_W) => (∃ mi' : Nat → Int32, v9 = none ∧ w9 = [(mo, .inr (9, [.int (nI cols), .int (nI lc), .int (nI smp), .int (ky), .ref (mr 0), .ref (mr 1), .ref (mr 2), .ref (mr 3), .ref (mr 4), .ref (mr 5), .ref (mr 6), .ref (mr 7), .ref (mr 8), .ref (mr 9), .int (nI mk), .int (nI rs), .ref (mr 10), .ref (mr 11), .ref (mr 12), .ref (mr 13), .ref (mr 14), .ref (mr 15), .ref (mr 16), .ref (mr 17), .ref (mr 18), .ref (mr 19), .ref (mr 20), .int (nI nse), .int (nI npa), .int (nI nbo), .ref (mr 21), .int (nI tn), .ref (mr 22), .int (nI ik), .int (j0), .int (j1), .ref (mr 23), .int (nI (sp + len)), .ref (mr 24), .ref (mr 25), .int (j3), .ref (mr 26), .int (j4), .ref (mr 27), .ref (mr 28), .ref (mr 29), .ref (mr 30)])), (mr 23, .inl (cy 1, 134, .inl mi')), (a, .inl (cy 1, len, .inl f))] ∧ (∀ q, q < sp → mi' q = mi q) ∧ (∀ k, k < len → mi' (sp + k) = f k))) := by
  refine xMet_of (cc := cX10_lays) (maxL := 3) (ret := none) (by decide) rfl (Nat.le_of_ble_eq_true rfl) (fun p e s m args below meth c A R Q hA hR hQ C hr hnm hro hX => ?_)
  have hw0 : ∀ w ∈ u_ws RX10 TX10 47, w ∈ wsX10_lays := by decide +kernel
  have hw1 : Cond.fieldLink RX10 89 (TX10 36).1 (TX10 36).2.1 (TX10 36).2.2.1 ∈ wsX10_lays := by decide +kernel
  have hw2 : Cond.fieldLink RX10 169 (TX10 37).1 (TX10 37).2.1 (TX10 37).2.2.1 ∈ wsX10_lays := by decide +kernel
  refine x_L (L' := [(0, .ref mo), (1, .ref a)]) [0, 1] rfl ?_
  refine x_iconst C dX10_lays_0 (q := 1) rfl (v := nI 0) (by decide) ?_
  refine x_istore_n C (L' := [(2, .int (nI 0)), (0, .ref mo), (1, .ref a)]) dX10_lays_1 (q := 2) rfl rfl (by decide) rfl ?_
  have cut2 : ∀ (fuel : Nat) (i : Nat) (s9 : Nat) (m9 : Nat → Int32), (i ≤ len) → (s9 = sp + i) → (∀ q, q < sp → m9 q = mi q) → (∀ k, k < i → m9 (sp + k) = f k) → len - i < fuel → xG p l e R s m args below meth c Q D A 3 [(mo, .inr (9, [.int (nI cols), .int (nI lc), .int (nI smp), .int (ky), .ref (mr 0), .ref (mr 1), .ref (mr 2), .ref (mr 3), .ref (mr 4), .ref (mr 5), .ref (mr 6), .ref (mr 7), .ref (mr 8), .ref (mr 9), .int (nI mk), .int (nI rs), .ref (mr 10), .ref (mr 11), .ref (mr 12), .ref (mr 13), .ref (mr 14), .ref (mr 15), .ref (mr 16), .ref (mr 17), .ref (mr 18), .ref (mr 19), .ref (mr 20), .int (nI nse), .int (nI npa), .int (nI nbo), .ref (mr 21), .int (nI tn), .ref (mr 22), .int (nI ik), .int (j0), .int (j1), .ref (mr 23), .int (nI s9), .ref (mr 24), .ref (mr 25), .int (j3), .ref (mr 26), .int (j4), .ref (mr 27), .ref (mr 28), .ref (mr 29), .ref (mr 30)])), (mr 23, .inl (cy 1, 134, .inl m9)), (a, .inl (cy 1, len, .inl f))] 0 0 2 [(0, .ref mo), (1, .ref a), (2, .int (nI i))] [] := by
    intro fuel
    induction fuel with
    | zero =>
      intro i s9 m9 hi hs hA1 hA2 hmu
      exact absurd hmu (Nat.not_lt_zero _)
    | succ fuel ih =>
      intro i s9 m9 hi hs hA1 hA2 hmu
      have ih2 := ih
      clear ih
      refine x_iload_n C dX10_lays_2 (q := 3) rfl rfl 2 rfl ?_
      refine x_aload_n C dX10_lays_3 (q := 4) rfl rfl 1 rfl ?_
      refine x_alen C 2 1 rfl rfl (v := nI len) rfl dX10_lays_4 (q := 5) rfl ?_
      refine x_icmp_ge C (tgt := 36) dX10_lays_5 (by decide) (q := 8) rfl (a := ((i : Nat) : Int)) (b := ((len : Nat) : Int)) (nI_toInt (by omega)) (nI_toInt (by omega)) (fun h1 => ?_) (fun h1 => ?_)
      · first
        | (exfalso; omega)
        |
          refine x_vret C hA hQ hr dX10_lays_36 (Nat.le_of_ble_eq_true rfl) ?_
          have e9 : i = len := by omega
          subst e9 hs
          exact ⟨m9, rfl, rfl, hA1, hA2⟩
      · first
        | (exfalso; omega)
        |
          refine x_aload_n C dX10_lays_8 (q := 9) rfl rfl 0 rfl ?_
          refine x_get C (ci := 9) (v := .ref (mr 23)) hw0 0 rfl rfl 36 (by decide) hw1 rfl dX10_lays_9 (q := 12) rfl ?_
          refine x_aload_n C dX10_lays_12 (q := 13) rfl rfl 0 rfl ?_
          refine x_get C (ci := 9) (v := .int (nI s9)) hw0 0 rfl rfl 37 (by decide) hw2 rfl dX10_lays_13 (q := 16) rfl ?_
          refine x_aload_n C dX10_lays_16 (q := 17) rfl rfl 1 rfl ?_
          refine x_iload_n C dX10_lays_17 (q := 18) rfl rfl 2 rfl ?_
          refine x_iald C (j := i) (v := f i) 2 rfl (nI_toInt (by omega)) (by omega) rfl dX10_lays_18 (q := 19) rfl ?_
          refine x_iast C (ws' := [(mo, .inr (9, [.int (nI cols), .int (nI lc), .int (nI smp), .int (ky), .ref (mr 0), .ref (mr 1), .ref (mr 2), .ref (mr 3), .ref (mr 4), .ref (mr 5), .ref (mr 6), .ref (mr 7), .ref (mr 8), .ref (mr 9), .int (nI mk), .int (nI rs), .ref (mr 10), .ref (mr 11), .ref (mr 12), .ref (mr 13), .ref (mr 14), .ref (mr 15), .ref (mr 16), .ref (mr 17), .ref (mr 18), .ref (mr 19), .ref (mr 20), .int (nI nse), .int (nI npa), .int (nI nbo), .ref (mr 21), .int (nI tn), .ref (mr 22), .int (nI ik), .int (j0), .int (j1), .ref (mr 23), .int (nI s9), .ref (mr 24), .ref (mr 25), .int (j3), .ref (mr 26), .int (j4), .ref (mr 27), .ref (mr 28), .ref (mr 29), .ref (mr 30)])), (mr 23, .inl (cy 1, 134, .inl (va_up m9 s9 (f i)))), (a, .inl (cy 1, len, .inl f))]) 1 rfl (j := s9) (nI_toInt (by omega)) (by omega) (rfl) rfl dX10_lays_19 (q := 20) rfl ?_
          refine x_aload_n C dX10_lays_20 (q := 21) rfl rfl 0 rfl ?_
          refine x_dup C dX10_lays_21 (q := 22) rfl rfl ?_
          refine x_get C (ci := 9) (v := .int (nI s9)) hw0 0 rfl rfl 37 (by decide) hw2 rfl dX10_lays_22 (q := 25) rfl ?_
          refine x_iconst C dX10_lays_25 (q := 26) rfl (v := nI 1) (by decide) ?_
          refine x_iadd C dX10_lays_26 (q := 27) rfl (z := nI (s9 + 1)) (nI_add s9 1) ?_
          refine x_put C (ci := 9) (ty := .int) (ws' := [(mo, .inr (9, [.int (nI cols), .int (nI lc), .int (nI smp), .int (ky), .ref (mr 0), .ref (mr 1), .ref (mr 2), .ref (mr 3), .ref (mr 4), .ref (mr 5), .ref (mr 6), .ref (mr 7), .ref (mr 8), .ref (mr 9), .int (nI mk), .int (nI rs), .ref (mr 10), .ref (mr 11), .ref (mr 12), .ref (mr 13), .ref (mr 14), .ref (mr 15), .ref (mr 16), .ref (mr 17), .ref (mr 18), .ref (mr 19), .ref (mr 20), .int (nI nse), .int (nI npa), .int (nI nbo), .ref (mr 21), .int (nI tn), .ref (mr 22), .int (nI ik), .int (j0), .int (j1), .ref (mr 23), .int (nI (s9 + 1)), .ref (mr 24), .ref (mr 25), .int (j3), .ref (mr 26), .int (j4), .ref (mr 27), .ref (mr 28), .ref (mr 29), .ref (mr 30)])), (mr 23, .inl (cy 1, 134, .inl (va_up m9 s9 (f i)))), (a, .inl (cy 1, len, .inl f))]) hw0 tyX10 tyX10_ok nmX10 0 rfl rfl 37 (by decide) hw2 rfl (by decide +kernel) rfl rfl (Nat.le_of_ble_eq_true rfl) rfl dX10_lays_27 (q := 30) rfl ?_
          refine x_iinc C (L' := [(2, .int (nI (i + 1))), (0, .ref mo), (1, .ref a)]) dX10_lays_30 (q := 33) rfl 2 rfl (v := nI (i + 1)) (nI_add i 1) (by decide) rfl ?_
          refine x_goto C (tgt := 2) dX10_lays_33 (by decide) ?_
          refine x_L (L' := [(0, .ref mo), (1, .ref a), (2, .int (nI (i + 1)))]) [1, 2, 0] rfl ?_
          exact ih2 (i + 1) (s9 + 1) (va_up m9 s9 (f i)) (by first | omega | assumption) (by first | omega | assumption) (by intro q hq; rw [va_up_ne' (by omega)]; exact hA1 q hq) (by intro k hk; rw [hs]; by_cases hA9 : k = i; (subst hA9; exact va_up_eq); (rw [va_up_ne' (by omega)]; exact hA2 k (by omega))) (by omega)
  refine x_L (L' := [(0, .ref mo), (1, .ref a), (2, .int (nI 0))]) [1, 2, 0] rfl ?_
  exact cut2 (len - 0 + 1) 0 sp mi (by first | omega | assumption) (by first | omega | assumption) (by exact fun q _ => rfl) (by intro k hk; omega) (by omega)

set_option maxHeartbeats 4000000 in
set_option maxRecDepth 100000 in
/-- a row is taken back -/
theorem c_X10_takesBack (l : Launch) (D : va_G) (cy : Nat → ClassId) (mo : Nat) (mr : Nat → Nat) (cols : Nat) (lc : Nat) (smp : Nat) (mk : Nat) (rs : Nat) (nse : Nat) (npa : Nat) (nbo : Nat) (tn : Nat) (ik : Nat) (ky : Int32) (j0 : Int32) (j1 : Int32) (j3 : Int32) (j4 : Int32) (sp : Nat) (mi : Nat → Int32) (a : Nat) (len : Nat) (f : Nat → Int32) (hsp : sp + len ≤ 134) : xMet l D cy xT yX10_takesBack wsX10_takesBack ({ frames := 1, cells := 0, slots := 0, locals := 0 } : Room) [.ref mo, .ref a] [(mo, .inr (9, [.int (nI cols), .int (nI lc), .int (nI smp), .int (ky), .ref (mr 0), .ref (mr 1), .ref (mr 2), .ref (mr 3), .ref (mr 4), .ref (mr 5), .ref (mr 6), .ref (mr 7), .ref (mr 8), .ref (mr 9), .int (nI mk), .int (nI rs), .ref (mr 10), .ref (mr 11), .ref (mr 12), .ref (mr 13), .ref (mr 14), .ref (mr 15), .ref (mr 16), .ref (mr 17), .ref (mr 18), .ref (mr 19), .ref (mr 20), .int (nI nse), .int (nI npa), .int (nI nbo), .ref (mr 21), .int (nI tn), .ref (mr 22), .int (nI ik), .int (j0), .int (j1), .ref (mr 23), .int (nI sp), .ref (mr 24), .ref (mr 25), .int (j3), .ref (mr 26), .int (j4), .ref (mr 27), .ref (mr 28), .ref (mr 29), .ref (mr 30)])), (mr 23, .inl (cy 1, 134, .inl mi)), (a, .inl (cy 1, len, .inl f))] [] (fun (v9 : Option Value) (w9 : va_W) => (∃ f' : Nat → Int32, v9 = none ∧ w9 = [(mo, .inr (9, [.int (nI cols), .int (nI lc), .int (nI smp), .int (ky), .ref (mr 0), .ref (mr 1), .ref (mr 2), .ref (mr 3), .ref (mr 4), .ref (mr 5), .ref (mr 6), .ref (mr 7), .ref (mr 8), .ref (mr 9), .int (nI mk), .int (nI rs), .ref (mr 10), .ref (mr 11), .ref (mr 12), .ref (mr 13), .ref (mr 14), .ref (mr 15), .ref (mr 16), .ref (mr 17), .ref (mr 18), .ref (mr 19), .ref (mr 20), .int (nI nse), .int (nI npa), .int (nI nbo), .ref (mr 21), .int (nI tn), .ref (mr 22), .int (nI ik), .int (j0), .int (j1), .ref (mr 23), .int (nI (sp + len)), .ref (mr 24), .ref (mr 25), .int (j3), .ref (mr 26), .int (j4), .ref (mr 27), .ref (mr 28), .ref (mr 29), .ref (mr 30)])), (mr 23, .inl (cy 1, 134, .inl mi)), (a, .inl (cy 1, len, .inl f'))] ∧ (∀ k, k < len → f' k = mi (sp + k)))) := by
  refine xMet_of (cc := cX10_takesBack) (maxL := 3) (ret := none) (by decide) rfl (Nat.le_of_ble_eq_true rfl) (fun p e s m args below meth c A R Q hA hR hQ C hr hnm hro hX => ?_)
  have hw0 : ∀ w ∈ u_ws RX10 TX10 47, w ∈ wsX10_takesBack := by decide +kernel
  have hw1 : Cond.fieldLink RX10 89 (TX10 36).1 (TX10 36).2.1 (TX10 36).2.2.1 ∈ wsX10_takesBack := by decide +kernel
  have hw2 : Cond.fieldLink RX10 169 (TX10 37).1 (TX10 37).2.1 (TX10 37).2.2.1 ∈ wsX10_takesBack := by decide +kernel
  refine x_L (L' := [(0, .ref mo), (1, .ref a)]) [0, 1] rfl ?_
  refine x_iconst C dX10_takesBack_0 (q := 1) rfl (v := nI 0) (by decide) ?_
  refine x_istore_n C (L' := [(2, .int (nI 0)), (0, .ref mo), (1, .ref a)]) dX10_takesBack_1 (q := 2) rfl rfl (by decide) rfl ?_
  have cut2 : ∀ (fuel : Nat) (i : Nat) (s9 : Nat) (f9 : Nat → Int32), (i ≤ len) → (s9 = sp + i) → (∀ k, k < i → f9 k = mi (sp + k)) → len - i < fuel → xG p l e R s m args below meth c Q D A 3 [(mo, .inr (9, [.int (nI cols), .int (nI lc), .int (nI smp), .int (ky), .ref (mr 0), .ref (mr 1), .ref (mr 2), .ref (mr 3), .ref (mr 4), .ref (mr 5), .ref (mr 6), .ref (mr 7), .ref (mr 8), .ref (mr 9), .int (nI mk), .int (nI rs), .ref (mr 10), .ref (mr 11), .ref (mr 12), .ref (mr 13), .ref (mr 14), .ref (mr 15), .ref (mr 16), .ref (mr 17), .ref (mr 18), .ref (mr 19), .ref (mr 20), .int (nI nse), .int (nI npa), .int (nI nbo), .ref (mr 21), .int (nI tn), .ref (mr 22), .int (nI ik), .int (j0), .int (j1), .ref (mr 23), .int (nI s9), .ref (mr 24), .ref (mr 25), .int (j3), .ref (mr 26), .int (j4), .ref (mr 27), .ref (mr 28), .ref (mr 29), .ref (mr 30)])), (mr 23, .inl (cy 1, 134, .inl mi)), (a, .inl (cy 1, len, .inl f9))] 0 0 2 [(0, .ref mo), (1, .ref a), (2, .int (nI i))] [] := by
    intro fuel
    induction fuel with
    | zero =>
      intro i s9 f9 hi hs hA2 hmu
      exact absurd hmu (Nat.not_lt_zero _)
    | succ fuel ih =>
      intro i s9 f9 hi hs hA2 hmu
      have ih2 := ih
      clear ih
      refine x_iload_n C dX10_takesBack_2 (q := 3) rfl rfl 2 rfl ?_
      refine x_aload_n C dX10_takesBack_3 (q := 4) rfl rfl 1 rfl ?_
      refine x_alen C 2 1 rfl rfl (v := nI len) rfl dX10_takesBack_4 (q := 5) rfl ?_
      refine x_icmp_ge C (tgt := 36) dX10_takesBack_5 (by decide) (q := 8) rfl (a := ((i : Nat) : Int)) (b := ((len : Nat) : Int)) (nI_toInt (by omega)) (nI_toInt (by omega)) (fun h1 => ?_) (fun h1 => ?_)
      · first
        | (exfalso; omega)
        |
          refine x_vret C hA hQ hr dX10_takesBack_36 (Nat.le_of_ble_eq_true rfl) ?_
          have e9 : i = len := by omega
          subst e9 hs
          exact ⟨f9, rfl, rfl, hA2⟩
      · first
        | (exfalso; omega)
        |
          refine x_aload_n C dX10_takesBack_8 (q := 9) rfl rfl 1 rfl ?_
          refine x_iload_n C dX10_takesBack_9 (q := 10) rfl rfl 2 rfl ?_
          refine x_aload_n C dX10_takesBack_10 (q := 11) rfl rfl 0 rfl ?_
          refine x_get C (ci := 9) (v := .ref (mr 23)) hw0 0 rfl rfl 36 (by decide) hw1 rfl dX10_takesBack_11 (q := 14) rfl ?_
          refine x_aload_n C dX10_takesBack_14 (q := 15) rfl rfl 0 rfl ?_
          refine x_get C (ci := 9) (v := .int (nI s9)) hw0 0 rfl rfl 37 (by decide) hw2 rfl dX10_takesBack_15 (q := 18) rfl ?_
          refine x_iald C (j := s9) (v := mi s9) 1 rfl (nI_toInt (by omega)) (by omega) rfl dX10_takesBack_18 (q := 19) rfl ?_
          refine x_iast C (ws' := [(mo, .inr (9, [.int (nI cols), .int (nI lc), .int (nI smp), .int (ky), .ref (mr 0), .ref (mr 1), .ref (mr 2), .ref (mr 3), .ref (mr 4), .ref (mr 5), .ref (mr 6), .ref (mr 7), .ref (mr 8), .ref (mr 9), .int (nI mk), .int (nI rs), .ref (mr 10), .ref (mr 11), .ref (mr 12), .ref (mr 13), .ref (mr 14), .ref (mr 15), .ref (mr 16), .ref (mr 17), .ref (mr 18), .ref (mr 19), .ref (mr 20), .int (nI nse), .int (nI npa), .int (nI nbo), .ref (mr 21), .int (nI tn), .ref (mr 22), .int (nI ik), .int (j0), .int (j1), .ref (mr 23), .int (nI s9), .ref (mr 24), .ref (mr 25), .int (j3), .ref (mr 26), .int (j4), .ref (mr 27), .ref (mr 28), .ref (mr 29), .ref (mr 30)])), (mr 23, .inl (cy 1, 134, .inl mi)), (a, .inl (cy 1, len, .inl (va_up f9 i (mi s9))))]) 2 rfl (j := i) (nI_toInt (by omega)) (by omega) (rfl) rfl dX10_takesBack_19 (q := 20) rfl ?_
          refine x_aload_n C dX10_takesBack_20 (q := 21) rfl rfl 0 rfl ?_
          refine x_dup C dX10_takesBack_21 (q := 22) rfl rfl ?_
          refine x_get C (ci := 9) (v := .int (nI s9)) hw0 0 rfl rfl 37 (by decide) hw2 rfl dX10_takesBack_22 (q := 25) rfl ?_
          refine x_iconst C dX10_takesBack_25 (q := 26) rfl (v := nI 1) (by decide) ?_
          refine x_iadd C dX10_takesBack_26 (q := 27) rfl (z := nI (s9 + 1)) (nI_add s9 1) ?_
          refine x_put C (ci := 9) (ty := .int) (ws' := [(mo, .inr (9, [.int (nI cols), .int (nI lc), .int (nI smp), .int (ky), .ref (mr 0), .ref (mr 1), .ref (mr 2), .ref (mr 3), .ref (mr 4), .ref (mr 5), .ref (mr 6), .ref (mr 7), .ref (mr 8), .ref (mr 9), .int (nI mk), .int (nI rs), .ref (mr 10), .ref (mr 11), .ref (mr 12), .ref (mr 13), .ref (mr 14), .ref (mr 15), .ref (mr 16), .ref (mr 17), .ref (mr 18), .ref (mr 19), .ref (mr 20), .int (nI nse), .int (nI npa), .int (nI nbo), .ref (mr 21), .int (nI tn), .ref (mr 22), .int (nI ik), .int (j0), .int (j1), .ref (mr 23), .int (nI (s9 + 1)), .ref (mr 24), .ref (mr 25), .int (j3), .ref (mr 26), .int (j4), .ref (mr 27), .ref (mr 28), .ref (mr 29), .ref (mr 30)])), (mr 23, .inl (cy 1, 134, .inl mi)), (a, .inl (cy 1, len, .inl (va_up f9 i (mi s9))))]) hw0 tyX10 tyX10_ok nmX10 0 rfl rfl 37 (by decide) hw2 rfl (by decide +kernel) rfl rfl (Nat.le_of_ble_eq_true rfl) rfl dX10_takesBack_27 (q := 30) rfl ?_
          refine x_iinc C (L' := [(2, .int (nI (i + 1))), (0, .ref mo), (1, .ref a)]) dX10_takesBack_30 (q := 33) rfl 2 rfl (v := nI (i + 1)) (nI_add i 1) (by decide) rfl ?_
          refine x_goto C (tgt := 2) dX10_takesBack_33 (by decide) ?_
          refine x_L (L' := [(0, .ref mo), (1, .ref a), (2, .int (nI (i + 1)))]) [1, 2, 0] rfl ?_
          exact ih2 (i + 1) (s9 + 1) (va_up f9 i (mi s9)) (by first | omega | assumption) (by first | omega | assumption) (by intro k hk; rw [hs]; by_cases hA9 : k = i; (subst hA9; exact va_up_eq); (rw [va_up_ne' (by omega)]; exact hA2 k (by omega))) (by omega)
  refine x_L (L' := [(0, .ref mo), (1, .ref a), (2, .int (nI 0))]) [1, 2, 0] rfl ?_
  exact cut2 (len - 0 + 1) 0 sp f (by first | omega | assumption) (by first | omega | assumption) (by intro k hk; omega) (by omega)
