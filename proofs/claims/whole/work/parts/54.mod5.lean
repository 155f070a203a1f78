set_option maxHeartbeats 4000000 in
set_option maxRecDepth 100000 in
/-- all anew -/
theorem c_X10_afresh (l : Launch) (D : va_G) (cy : Nat → ClassId) (mo : Nat) (mr : Nat → Nat) (cols : Nat) (lc : Nat) (smp : Nat) (mk : Nat) (rs : Nat) (nse : Nat) (npa : Nat) (nbo : Nat) (tn : Nat) (ik : Nat) (ky : Int32) (j0 : Int32) (j1 : Int32) (j2 : Int32) (j3 : Int32) (j4 : Int32) (rl9 : Nat → Int32) (fa9 : Nat → Int32) (ca9 : Nat → Int32) (dc9 : Nat → Int32) (st9 : Nat → Nat)  : xMet l D cy xT yX10_afresh wsX10_afresh ({ frames := 1, cells := 0, slots := 0, locals := 0 } : Room) [.ref mo] [(mo, .inr (9, [.int (nI cols), .int (nI lc), .int (nI smp), .int (ky), .ref (mr 0), .ref (mr 1), .ref (mr 2), .ref (mr 3), .ref (mr 4), .ref (mr 5), .ref (mr 6), .ref (mr 7), .ref (mr 8), .ref (mr 9), .int (nI mk), .int (nI rs), .ref (mr 10), .ref (mr 11), .ref (mr 12), .ref (mr 13), .ref (mr 14), .ref (mr 15), .ref (mr 16), .ref (mr 17), .ref (mr 18), .ref (mr 19), .ref (mr 20), .int (nI nse), .int (nI npa), .int (nI nbo), .ref (mr 21), .int (nI tn), .ref (mr 22), .int (nI ik), .int (j0), .int (j1), .ref (mr 23), .int (j2), .ref (mr 24), .ref (mr 25), .int (j3), .ref (mr 26), .int (j4), .ref (mr 27), .ref (mr 28), .ref (mr 29), .ref (mr 30)])), (mr 11, .inl (cy 1, 24, .inl rl9)), (mr 12, .inl (cy 1, 24, .inl fa9)), (mr 13, .inl (cy 1, 24, .inl ca9)), (mr 14, .inl (cy 1, 24, .inl dc9)), (mr 3, .inl (cy 1, 5, .inl (fun k => nI (st9 k))))] [] (fun (v9 : Option Value) (w9 : va_W) => (v9 = none ∧ w9 = [(mo, .inr (9, [.int (nI cols), .int (nI lc), .int (nI smp), .int (ky), .ref (mr 0), .ref (mr 1), .ref (mr 2), .ref (mr 3), .ref (mr 4), .ref (mr 5), .ref (mr 6), .ref (mr 7), .ref (mr 8), .ref (mr 9), .int (nI 0), .int (nI 0), .ref (mr 10), .ref (mr 11), .ref (mr 12), .ref (mr 13), .ref (mr 14), .ref (mr 15), .ref (mr 16), .ref (mr 17), .ref (mr 18), .ref (mr 19), .ref (mr 20), .int (nI nse), .int (nI npa), .int (nI nbo), .ref (mr 21), .int (nI tn), .ref (mr 22), .int (nI ik), .int (j0), .int (j1), .ref (mr 23), .int (j2), .ref (mr 24), .ref (mr 25), .int (j3), .ref (mr 26), .int (j4), .ref (mr 27), .ref (mr 28), .ref (mr 29), .ref (mr 30)])), (mr 11, .inl (cy 1, 24, .inl (fun _ => (-5 : Int32)))), (mr 12, .inl (cy 1, 24, .inl (fun _ => (-5 : Int32)))), (mr 13, .inl (cy 1, 24, .inl (fun _ => (-5 : Int32)))), (mr 14, .inl (cy 1, 24, .inl (fun _ => (-5 : Int32)))), (mr 3, .inl (cy 1, 5, .inl (fun k => nI ((fun _ => 0) k))))])) := by
  refine xMet_of (cc := cX10_afresh) (maxL := 2) (ret := none) (by decide) rfl (Nat.le_of_ble_eq_true rfl) (fun p e s m args below meth c A R Q hA hR hQ C hr hnm hro hX => ?_)
  have hw0 : ∀ w ∈ u_ws RX10 TX10 47, w ∈ wsX10_afresh := by decide +kernel
  have hw1 : Cond.fieldLink RX10 142 (TX10 14).1 (TX10 14).2.1 (TX10 14).2.2.1 ∈ wsX10_afresh := by decide +kernel
  have hw2 : Cond.fieldLink RX10 128 (TX10 15).1 (TX10 15).2.1 (TX10 15).2.2.1 ∈ wsX10_afresh := by decide +kernel
  have hw3 : Cond.fieldLink RX10 28 (TX10 7).1 (TX10 7).2.1 (TX10 7).2.2.1 ∈ wsX10_afresh := by decide +kernel
  have hw4 : Cond.fieldLink RX10 53 (TX10 17).1 (TX10 17).2.1 (TX10 17).2.2.1 ∈ wsX10_afresh := by decide +kernel
  have hw5 : Cond.fieldLink RX10 56 (TX10 18).1 (TX10 18).2.1 (TX10 18).2.2.1 ∈ wsX10_afresh := by decide +kernel
  have hw6 : Cond.fieldLink RX10 59 (TX10 19).1 (TX10 19).2.1 (TX10 19).2.2.1 ∈ wsX10_afresh := by decide +kernel
  have hw7 : Cond.fieldLink RX10 62 (TX10 20).1 (TX10 20).2.1 (TX10 20).2.2.1 ∈ wsX10_afresh := by decide +kernel
  refine x_L (L' := [(0, .ref mo)]) [0] rfl ?_
  refine x_aload_n C dX10_afresh_0 (q := 1) rfl rfl 0 rfl ?_
  refine x_iconst C dX10_afresh_1 (q := 2) rfl (v := nI 0) (by decide) ?_
  refine x_put C (ci := 9) (ty := .int) (ws' := [(mo, .inr (9, [.int (nI cols), .int (nI lc), .int (nI smp), .int (ky), .ref (mr 0), .ref (mr 1), .ref (mr 2), .ref (mr 3), .ref (mr 4), .ref (mr 5), .ref (mr 6), .ref (mr 7), .ref (mr 8), .ref (mr 9), .int (nI 0), .int (nI rs), .ref (mr 10), .ref (mr 11), .ref (mr 12), .ref (mr 13), .ref (mr 14), .ref (mr 15), .ref (mr 16), .ref (mr 17), .ref (mr 18), .ref (mr 19), .ref (mr 20), .int (nI nse), .int (nI npa), .int (nI nbo), .ref (mr 21), .int (nI tn), .ref (mr 22), .int (nI ik), .int (j0), .int (j1), .ref (mr 23), .int (j2), .ref (mr 24), .ref (mr 25), .int (j3), .ref (mr 26), .int (j4), .ref (mr 27), .ref (mr 28), .ref (mr 29), .ref (mr 30)])), (mr 11, .inl (cy 1, 24, .inl rl9)), (mr 12, .inl (cy 1, 24, .inl fa9)), (mr 13, .inl (cy 1, 24, .inl ca9)), (mr 14, .inl (cy 1, 24, .inl dc9)), (mr 3, .inl (cy 1, 5, .inl (fun k => nI (st9 k))))]) hw0 tyX10 tyX10_ok nmX10 0 rfl rfl 14 (by decide) hw1 rfl (by decide +kernel) rfl rfl (Nat.le_of_ble_eq_true rfl) rfl dX10_afresh_2 (q := 5) rfl ?_
  refine x_aload_n C dX10_afresh_5 (q := 6) rfl rfl 0 rfl ?_
  refine x_iconst C dX10_afresh_6 (q := 7) rfl (v := nI 0) (by decide) ?_
  refine x_put C (ci := 9) (ty := .int) (ws' := [(mo, .inr (9, [.int (nI cols), .int (nI lc), .int (nI smp), .int (ky), .ref (mr 0), .ref (mr 1), .ref (mr 2), .ref (mr 3), .ref (mr 4), .ref (mr 5), .ref (mr 6), .ref (mr 7), .ref (mr 8), .ref (mr 9), .int (nI 0), .int (nI 0), .ref (mr 10), .ref (mr 11), .ref (mr 12), .ref (mr 13), .ref (mr 14), .ref (mr 15), .ref (mr 16), .ref (mr 17), .ref (mr 18), .ref (mr 19), .ref (mr 20), .int (nI nse), .int (nI npa), .int (nI nbo), .ref (mr 21), .int (nI tn), .ref (mr 22), .int (nI ik), .int (j0), .int (j1), .ref (mr 23), .int (j2), .ref (mr 24), .ref (mr 25), .int (j3), .ref (mr 26), .int (j4), .ref (mr 27), .ref (mr 28), .ref (mr 29), .ref (mr 30)])), (mr 11, .inl (cy 1, 24, .inl rl9)), (mr 12, .inl (cy 1, 24, .inl fa9)), (mr 13, .inl (cy 1, 24, .inl ca9)), (mr 14, .inl (cy 1, 24, .inl dc9)), (mr 3, .inl (cy 1, 5, .inl (fun k => nI (st9 k))))]) hw0 tyX10 tyX10_ok nmX10 0 rfl rfl 15 (by decide) hw2 rfl (by decide +kernel) rfl rfl (Nat.le_of_ble_eq_true rfl) rfl dX10_afresh_7 (q := 10) rfl ?_
  refine x_iconst C dX10_afresh_10 (q := 11) rfl (v := nI 0) (by decide) ?_
  refine x_istore_n C (L' := [(1, .int (nI 0)), (0, .ref mo)]) dX10_afresh_11 (q := 12) rfl rfl (by decide) rfl ?_
  have cut12 : ∀ (fuel : Nat) (i : Nat) (q1 : Nat → Int32) (q2 : Nat → Int32) (q3 : Nat → Int32) (q4 : Nat → Int32), (i ≤ 24) → (∀ j, j < i → q1 j = -5) → (∀ j, j < i → q2 j = -5) → (∀ j, j < i → q3 j = -5) → (∀ j, j < i → q4 j = -5) → 24 - i < fuel → xG p l e R s m args below meth c Q D A 2 [(mo, .inr (9, [.int (nI cols), .int (nI lc), .int (nI smp), .int (ky), .ref (mr 0), .ref (mr 1), .ref (mr 2), .ref (mr 3), .ref (mr 4), .ref (mr 5), .ref (mr 6), .ref (mr 7), .ref (mr 8), .ref (mr 9), .int (nI 0), .int (nI 0), .ref (mr 10), .ref (mr 11), .ref (mr 12), .ref (mr 13), .ref (mr 14), .ref (mr 15), .ref (mr 16), .ref (mr 17), .ref (mr 18), .ref (mr 19), .ref (mr 20), .int (nI nse), .int (nI npa), .int (nI nbo), .ref (mr 21), .int (nI tn), .ref (mr 22), .int (nI ik), .int (j0), .int (j1), .ref (mr 23), .int (j2), .ref (mr 24), .ref (mr 25), .int (j3), .ref (mr 26), .int (j4), .ref (mr 27), .ref (mr 28), .ref (mr 29), .ref (mr 30)])), (mr 11, .inl (cy 1, 24, .inl q1)), (mr 12, .inl (cy 1, 24, .inl q2)), (mr 13, .inl (cy 1, 24, .inl q3)), (mr 14, .inl (cy 1, 24, .inl q4)), (mr 3, .inl (cy 1, 5, .inl (fun k => nI (st9 k))))] 0 0 12 [(0, .ref mo), (1, .int (nI i))] [] := by
    intro fuel
    induction fuel with
    | zero =>
      intro i q1 q2 q3 q4 hi hq1 hq2 hq3 hq4 hmu
      exact absurd hmu (Nat.not_lt_zero _)
    | succ fuel ih =>
      intro i q1 q2 q3 q4 hi hq1 hq2 hq3 hq4 hmu
      have ih12 := ih
      clear ih
      refine x_iload_n C dX10_afresh_12 (q := 13) rfl rfl 1 rfl ?_
      refine x_bipush C dX10_afresh_13 (q := 15) rfl (v := nI 24) (by decide) ?_
      refine x_icmp_ge C (tgt := 56) dX10_afresh_15 (by decide) (q := 18) rfl (a := ((i : Nat) : Int)) (b := 24) (nI_toInt (by omega)) rfl (fun h1 => ?_) (fun h1 => ?_)
      · first
        | (exfalso; omega)
        |
          refine x_recI (ws' := [(mo, .inr (9, [.int (nI cols), .int (nI lc), .int (nI smp), .int (ky), .ref (mr 0), .ref (mr 1), .ref (mr 2), .ref (mr 3), .ref (mr 4), .ref (mr 5), .ref (mr 6), .ref (mr 7), .ref (mr 8), .ref (mr 9), .int (nI 0), .int (nI 0), .ref (mr 10), .ref (mr 11), .ref (mr 12), .ref (mr 13), .ref (mr 14), .ref (mr 15), .ref (mr 16), .ref (mr 17), .ref (mr 18), .ref (mr 19), .ref (mr 20), .int (nI nse), .int (nI npa), .int (nI nbo), .ref (mr 21), .int (nI tn), .ref (mr 22), .int (nI ik), .int (j0), .int (j1), .ref (mr 23), .int (j2), .ref (mr 24), .ref (mr 25), .int (j3), .ref (mr 26), .int (j4), .ref (mr 27), .ref (mr 28), .ref (mr 29), .ref (mr 30)])), (mr 11, .inl (cy 1, 24, .inl (fun _ => (-5 : Int32)))), (mr 12, .inl (cy 1, 24, .inl q2)), (mr 13, .inl (cy 1, 24, .inl q3)), (mr 14, .inl (cy 1, 24, .inl q4)), (mr 3, .inl (cy 1, 5, .inl (fun k => nI (st9 k))))]) 1 rfl (fun k hk => hq1 k (by omega)) rfl ?_
          refine x_recI (ws' := [(mo, .inr (9, [.int (nI cols), .int (nI lc), .int (nI smp), .int (ky), .ref (mr 0), .ref (mr 1), .ref (mr 2), .ref (mr 3), .ref (mr 4), .ref (mr 5), .ref (mr 6), .ref (mr 7), .ref (mr 8), .ref (mr 9), .int (nI 0), .int (nI 0), .ref (mr 10), .ref (mr 11), .ref (mr 12), .ref (mr 13), .ref (mr 14), .ref (mr 15), .ref (mr 16), .ref (mr 17), .ref (mr 18), .ref (mr 19), .ref (mr 20), .int (nI nse), .int (nI npa), .int (nI nbo), .ref (mr 21), .int (nI tn), .ref (mr 22), .int (nI ik), .int (j0), .int (j1), .ref (mr 23), .int (j2), .ref (mr 24), .ref (mr 25), .int (j3), .ref (mr 26), .int (j4), .ref (mr 27), .ref (mr 28), .ref (mr 29), .ref (mr 30)])), (mr 11, .inl (cy 1, 24, .inl (fun _ => (-5 : Int32)))), (mr 12, .inl (cy 1, 24, .inl (fun _ => (-5 : Int32)))), (mr 13, .inl (cy 1, 24, .inl q3)), (mr 14, .inl (cy 1, 24, .inl q4)), (mr 3, .inl (cy 1, 5, .inl (fun k => nI (st9 k))))]) 2 rfl (fun k hk => hq2 k (by omega)) rfl ?_
          refine x_recI (ws' := [(mo, .inr (9, [.int (nI cols), .int (nI lc), .int (nI smp), .int (ky), .ref (mr 0), .ref (mr 1), .ref (mr 2), .ref (mr 3), .ref (mr 4), .ref (mr 5), .ref (mr 6), .ref (mr 7), .ref (mr 8), .ref (mr 9), .int (nI 0), .int (nI 0), .ref (mr 10), .ref (mr 11), .ref (mr 12), .ref (mr 13), .ref (mr 14), .ref (mr 15), .ref (mr 16), .ref (mr 17), .ref (mr 18), .ref (mr 19), .ref (mr 20), .int (nI nse), .int (nI npa), .int (nI nbo), .ref (mr 21), .int (nI tn), .ref (mr 22), .int (nI ik), .int (j0), .int (j1), .ref (mr 23), .int (j2), .ref (mr 24), .ref (mr 25), .int (j3), .ref (mr 26), .int (j4), .ref (mr 27), .ref (mr 28), .ref (mr 29), .ref (mr 30)])), (mr 11, .inl (cy 1, 24, .inl (fun _ => (-5 : Int32)))), (mr 12, .inl (cy 1, 24, .inl (fun _ => (-5 : Int32)))), (mr 13, .inl (cy 1, 24, .inl (fun _ => (-5 : Int32)))), (mr 14, .inl (cy 1, 24, .inl q4)), (mr 3, .inl (cy 1, 5, .inl (fun k => nI (st9 k))))]) 3 rfl (fun k hk => hq3 k (by omega)) rfl ?_
          refine x_recI (ws' := [(mo, .inr (9, [.int (nI cols), .int (nI lc), .int (nI smp), .int (ky), .ref (mr 0), .ref (mr 1), .ref (mr 2), .ref (mr 3), .ref (mr 4), .ref (mr 5), .ref (mr 6), .ref (mr 7), .ref (mr 8), .ref (mr 9), .int (nI 0), .int (nI 0), .ref (mr 10), .ref (mr 11), .ref (mr 12), .ref (mr 13), .ref (mr 14), .ref (mr 15), .ref (mr 16), .ref (mr 17), .ref (mr 18), .ref (mr 19), .ref (mr 20), .int (nI nse), .int (nI npa), .int (nI nbo), .ref (mr 21), .int (nI tn), .ref (mr 22), .int (nI ik), .int (j0), .int (j1), .ref (mr 23), .int (j2), .ref (mr 24), .ref (mr 25), .int (j3), .ref (mr 26), .int (j4), .ref (mr 27), .ref (mr 28), .ref (mr 29), .ref (mr 30)])), (mr 11, .inl (cy 1, 24, .inl (fun _ => (-5 : Int32)))), (mr 12, .inl (cy 1, 24, .inl (fun _ => (-5 : Int32)))), (mr 13, .inl (cy 1, 24, .inl (fun _ => (-5 : Int32)))), (mr 14, .inl (cy 1, 24, .inl (fun _ => (-5 : Int32)))), (mr 3, .inl (cy 1, 5, .inl (fun k => nI (st9 k))))]) 4 rfl (fun k hk => hq4 k (by omega)) rfl ?_
          refine x_iconst C dX10_afresh_56 (q := 57) rfl (v := nI 0) (by decide) ?_
          refine x_istore_n C (L' := [(1, .int (nI 0)), (0, .ref mo)]) dX10_afresh_57 (q := 58) rfl rfl (by decide) rfl ?_
          have cut58 : ∀ (fuel : Nat) (i : Nat) (q5 : Nat → Nat), (i ≤ 5) → (∀ j, j < i → q5 j = 0) → 5 - i < fuel → xG p l e R s m args below meth c Q D A 2 [(mo, .inr (9, [.int (nI cols), .int (nI lc), .int (nI smp), .int (ky), .ref (mr 0), .ref (mr 1), .ref (mr 2), .ref (mr 3), .ref (mr 4), .ref (mr 5), .ref (mr 6), .ref (mr 7), .ref (mr 8), .ref (mr 9), .int (nI 0), .int (nI 0), .ref (mr 10), .ref (mr 11), .ref (mr 12), .ref (mr 13), .ref (mr 14), .ref (mr 15), .ref (mr 16), .ref (mr 17), .ref (mr 18), .ref (mr 19), .ref (mr 20), .int (nI nse), .int (nI npa), .int (nI nbo), .ref (mr 21), .int (nI tn), .ref (mr 22), .int (nI ik), .int (j0), .int (j1), .ref (mr 23), .int (j2), .ref (mr 24), .ref (mr 25), .int (j3), .ref (mr 26), .int (j4), .ref (mr 27), .ref (mr 28), .ref (mr 29), .ref (mr 30)])), (mr 11, .inl (cy 1, 24, .inl (fun _ => (-5 : Int32)))), (mr 12, .inl (cy 1, 24, .inl (fun _ => (-5 : Int32)))), (mr 13, .inl (cy 1, 24, .inl (fun _ => (-5 : Int32)))), (mr 14, .inl (cy 1, 24, .inl (fun _ => (-5 : Int32)))), (mr 3, .inl (cy 1, 5, .inl (fun k => nI (q5 k))))] 0 0 58 [(0, .ref mo), (1, .int (nI i))] [] := by
            intro fuel
            induction fuel with
            | zero =>
              intro i q5 hi hq5 hmu
              exact absurd hmu (Nat.not_lt_zero _)
            | succ fuel ih =>
              intro i q5 hi hq5 hmu
              have ih58 := ih
              clear ih
              refine x_iload_n C dX10_afresh_58 (q := 59) rfl rfl 1 rfl ?_
              refine x_iconst C dX10_afresh_59 (q := 60) rfl (v := nI 5) (by decide) ?_
              refine x_icmp_ge C (tgt := 76) dX10_afresh_60 (by decide) (q := 63) rfl (a := ((i : Nat) : Int)) (b := 5) (nI_toInt (by omega)) rfl (fun h2 => ?_) (fun h2 => ?_)
              · first
                | (exfalso; omega)
                |
                  refine x_recI (ws' := [(mo, .inr (9, [.int (nI cols), .int (nI lc), .int (nI smp), .int (ky), .ref (mr 0), .ref (mr 1), .ref (mr 2), .ref (mr 3), .ref (mr 4), .ref (mr 5), .ref (mr 6), .ref (mr 7), .ref (mr 8), .ref (mr 9), .int (nI 0), .int (nI 0), .ref (mr 10), .ref (mr 11), .ref (mr 12), .ref (mr 13), .ref (mr 14), .ref (mr 15), .ref (mr 16), .ref (mr 17), .ref (mr 18), .ref (mr 19), .ref (mr 20), .int (nI nse), .int (nI npa), .int (nI nbo), .ref (mr 21), .int (nI tn), .ref (mr 22), .int (nI ik), .int (j0), .int (j1), .ref (mr 23), .int (j2), .ref (mr 24), .ref (mr 25), .int (j3), .ref (mr 26), .int (j4), .ref (mr 27), .ref (mr 28), .ref (mr 29), .ref (mr 30)])), (mr 11, .inl (cy 1, 24, .inl (fun _ => (-5 : Int32)))), (mr 12, .inl (cy 1, 24, .inl (fun _ => (-5 : Int32)))), (mr 13, .inl (cy 1, 24, .inl (fun _ => (-5 : Int32)))), (mr 14, .inl (cy 1, 24, .inl (fun _ => (-5 : Int32)))), (mr 3, .inl (cy 1, 5, .inl (fun k => nI ((fun _ => 0) k))))]) 5 rfl (fun k hk => congrArg nI (hq5 k (by omega))) rfl ?_
                  refine x_vret C hA hQ hr dX10_afresh_76 (Nat.le_of_ble_eq_true rfl) ?_
                  first | exact ⟨rfl, rfl⟩ | exact ⟨_, rfl, rfl, by first | rfl | omega | assumption⟩ | (refine ⟨_, rfl, rfl, ?_⟩; (first | rfl | omega | (simp only []; omega)))
              · first
                | (exfalso; omega)
                |
                  refine x_aload_n C dX10_afresh_63 (q := 64) rfl rfl 0 rfl ?_
                  refine x_get C (ci := 9) (v := .ref (mr 3)) hw0 0 rfl rfl 7 (by decide) hw3 rfl dX10_afresh_64 (q := 67) rfl ?_
                  refine x_iload_n C dX10_afresh_67 (q := 68) rfl rfl 1 rfl ?_
                  refine x_iconst C dX10_afresh_68 (q := 69) rfl (v := nI 0) (by decide) ?_
                  refine x_iast C (ws' := [(mo, .inr (9, [.int (nI cols), .int (nI lc), .int (nI smp), .int (ky), .ref (mr 0), .ref (mr 1), .ref (mr 2), .ref (mr 3), .ref (mr 4), .ref (mr 5), .ref (mr 6), .ref (mr 7), .ref (mr 8), .ref (mr 9), .int (nI 0), .int (nI 0), .ref (mr 10), .ref (mr 11), .ref (mr 12), .ref (mr 13), .ref (mr 14), .ref (mr 15), .ref (mr 16), .ref (mr 17), .ref (mr 18), .ref (mr 19), .ref (mr 20), .int (nI nse), .int (nI npa), .int (nI nbo), .ref (mr 21), .int (nI tn), .ref (mr 22), .int (nI ik), .int (j0), .int (j1), .ref (mr 23), .int (j2), .ref (mr 24), .ref (mr 25), .int (j3), .ref (mr 26), .int (j4), .ref (mr 27), .ref (mr 28), .ref (mr 29), .ref (mr 30)])), (mr 11, .inl (cy 1, 24, .inl (fun _ => (-5 : Int32)))), (mr 12, .inl (cy 1, 24, .inl (fun _ => (-5 : Int32)))), (mr 13, .inl (cy 1, 24, .inl (fun _ => (-5 : Int32)))), (mr 14, .inl (cy 1, 24, .inl (fun _ => (-5 : Int32)))), (mr 3, .inl (cy 1, 5, .inl (fun k => nI ((va_up q5 i 0) k))))]) 5 rfl (j := i) (nI_toInt (by omega)) (by omega) (xup_n q5 i 0) rfl dX10_afresh_69 (q := 70) rfl ?_
                  refine x_iinc C (L' := [(1, .int (nI (i + 1))), (0, .ref mo)]) dX10_afresh_70 (q := 73) rfl 1 rfl (v := nI (i + 1)) (nI_add i 1) (by decide) rfl ?_
                  refine x_goto C (tgt := 58) dX10_afresh_73 (by decide) ?_
                  refine x_L (L' := [(0, .ref mo), (1, .int (nI (i + 1)))]) [1, 0] rfl ?_
                  exact ih58 (i + 1) (va_up q5 i 0) (by first | omega | assumption) (by intro j hj; by_cases h9 : j = i; (subst h9; exact va_up_eq); (rw [va_up_ne' h9]; exact hq5 j (by omega))) (by omega)
          refine x_L (L' := [(0, .ref mo), (1, .int (nI 0))]) [1, 0] rfl ?_
          exact cut58 (5 - 0 + 1) 0 st9 (by first | omega | assumption) (by intro j hj; omega) (by omega)
      · first
        | (exfalso; omega)
        |
          refine x_aload_n C dX10_afresh_18 (q := 19) rfl rfl 0 rfl ?_
          refine x_get C (ci := 9) (v := .ref (mr 11)) hw0 0 rfl rfl 17 (by decide) hw4 rfl dX10_afresh_19 (q := 22) rfl ?_
          refine x_iload_n C dX10_afresh_22 (q := 23) rfl rfl 1 rfl ?_
          refine x_bipush C dX10_afresh_23 (q := 25) rfl (v := (-5)) (by decide) ?_
          refine x_iast C (ws' := [(mo, .inr (9, [.int (nI cols), .int (nI lc), .int (nI smp), .int (ky), .ref (mr 0), .ref (mr 1), .ref (mr 2), .ref (mr 3), .ref (mr 4), .ref (mr 5), .ref (mr 6), .ref (mr 7), .ref (mr 8), .ref (mr 9), .int (nI 0), .int (nI 0), .ref (mr 10), .ref (mr 11), .ref (mr 12), .ref (mr 13), .ref (mr 14), .ref (mr 15), .ref (mr 16), .ref (mr 17), .ref (mr 18), .ref (mr 19), .ref (mr 20), .int (nI nse), .int (nI npa), .int (nI nbo), .ref (mr 21), .int (nI tn), .ref (mr 22), .int (nI ik), .int (j0), .int (j1), .ref (mr 23), .int (j2), .ref (mr 24), .ref (mr 25), .int (j3), .ref (mr 26), .int (j4), .ref (mr 27), .ref (mr 28), .ref (mr 29), .ref (mr 30)])), (mr 11, .inl (cy 1, 24, .inl (va_up q1 i ((-5))))), (mr 12, .inl (cy 1, 24, .inl q2)), (mr 13, .inl (cy 1, 24, .inl q3)), (mr 14, .inl (cy 1, 24, .inl q4)), (mr 3, .inl (cy 1, 5, .inl (fun k => nI (st9 k))))]) 1 rfl (j := i) (nI_toInt (by omega)) (by omega) (rfl) rfl dX10_afresh_25 (q := 26) rfl ?_
          refine x_aload_n C dX10_afresh_26 (q := 27) rfl rfl 0 rfl ?_
          refine x_get C (ci := 9) (v := .ref (mr 12)) hw0 0 rfl rfl 18 (by decide) hw5 rfl dX10_afresh_27 (q := 30) rfl ?_
          refine x_iload_n C dX10_afresh_30 (q := 31) rfl rfl 1 rfl ?_
          refine x_bipush C dX10_afresh_31 (q := 33) rfl (v := (-5)) (by decide) ?_
          refine x_iast C (ws' := [(mo, .inr (9, [.int (nI cols), .int (nI lc), .int (nI smp), .int (ky), .ref (mr 0), .ref (mr 1), .ref (mr 2), .ref (mr 3), .ref (mr 4), .ref (mr 5), .ref (mr 6), .ref (mr 7), .ref (mr 8), .ref (mr 9), .int (nI 0), .int (nI 0), .ref (mr 10), .ref (mr 11), .ref (mr 12), .ref (mr 13), .ref (mr 14), .ref (mr 15), .ref (mr 16), .ref (mr 17), .ref (mr 18), .ref (mr 19), .ref (mr 20), .int (nI nse), .int (nI npa), .int (nI nbo), .ref (mr 21), .int (nI tn), .ref (mr 22), .int (nI ik), .int (j0), .int (j1), .ref (mr 23), .int (j2), .ref (mr 24), .ref (mr 25), .int (j3), .ref (mr 26), .int (j4), .ref (mr 27), .ref (mr 28), .ref (mr 29), .ref (mr 30)])), (mr 11, .inl (cy 1, 24, .inl (va_up q1 i ((-5))))), (mr 12, .inl (cy 1, 24, .inl (va_up q2 i ((-5))))), (mr 13, .inl (cy 1, 24, .inl q3)), (mr 14, .inl (cy 1, 24, .inl q4)), (mr 3, .inl (cy 1, 5, .inl (fun k => nI (st9 k))))]) 2 rfl (j := i) (nI_toInt (by omega)) (by omega) (rfl) rfl dX10_afresh_33 (q := 34) rfl ?_
          refine x_aload_n C dX10_afresh_34 (q := 35) rfl rfl 0 rfl ?_
          refine x_get C (ci := 9) (v := .ref (mr 13)) hw0 0 rfl rfl 19 (by decide) hw6 rfl dX10_afresh_35 (q := 38) rfl ?_
          refine x_iload_n C dX10_afresh_38 (q := 39) rfl rfl 1 rfl ?_
          refine x_bipush C dX10_afresh_39 (q := 41) rfl (v := (-5)) (by decide) ?_
          refine x_iast C (ws' := [(mo, .inr (9, [.int (nI cols), .int (nI lc), .int (nI smp), .int (ky), .ref (mr 0), .ref (mr 1), .ref (mr 2), .ref (mr 3), .ref (mr 4), .ref (mr 5), .ref (mr 6), .ref (mr 7), .ref (mr 8), .ref (mr 9), .int (nI 0), .int (nI 0), .ref (mr 10), .ref (mr 11), .ref (mr 12), .ref (mr 13), .ref (mr 14), .ref (mr 15), .ref (mr 16), .ref (mr 17), .ref (mr 18), .ref (mr 19), .ref (mr 20), .int (nI nse), .int (nI npa), .int (nI nbo), .ref (mr 21), .int (nI tn), .ref (mr 22), .int (nI ik), .int (j0), .int (j1), .ref (mr 23), .int (j2), .ref (mr 24), .ref (mr 25), .int (j3), .ref (mr 26), .int (j4), .ref (mr 27), .ref (mr 28), .ref (mr 29), .ref (mr 30)])), (mr 11, .inl (cy 1, 24, .inl (va_up q1 i ((-5))))), (mr 12, .inl (cy 1, 24, .inl (va_up q2 i ((-5))))), (mr 13, .inl (cy 1, 24, .inl (va_up q3 i ((-5))))), (mr 14, .inl (cy 1, 24, .inl q4)), (mr 3, .inl (cy 1, 5, .inl (fun k => nI (st9 k))))]) 3 rfl (j := i) (nI_toInt (by omega)) (by omega) (rfl) rfl dX10_afresh_41 (q := 42) rfl ?_
          refine x_aload_n C dX10_afresh_42 (q := 43) rfl rfl 0 rfl ?_
          refine x_get C (ci := 9) (v := .ref (mr 14)) hw0 0 rfl rfl 20 (by decide) hw7 rfl dX10_afresh_43 (q := 46) rfl ?_
          refine x_iload_n C dX10_afresh_46 (q := 47) rfl rfl 1 rfl ?_
          refine x_bipush C dX10_afresh_47 (q := 49) rfl (v := (-5)) (by decide) ?_
          refine x_iast C (ws' := [(mo, .inr (9, [.int (nI cols), .int (nI lc), .int (nI smp), .int (ky), .ref (mr 0), .ref (mr 1), .ref (mr 2), .ref (mr 3), .ref (mr 4), .ref (mr 5), .ref (mr 6), .ref (mr 7), .ref (mr 8), .ref (mr 9), .int (nI 0), .int (nI 0), .ref (mr 10), .ref (mr 11), .ref (mr 12), .ref (mr 13), .ref (mr 14), .ref (mr 15), .ref (mr 16), .ref (mr 17), .ref (mr 18), .ref (mr 19), .ref (mr 20), .int (nI nse), .int (nI npa), .int (nI nbo), .ref (mr 21), .int (nI tn), .ref (mr 22), .int (nI ik), .int (j0), .int (j1), .ref (mr 23), .int (j2), .ref (mr 24), .ref (mr 25), .int (j3), .ref (mr 26), .int (j4), .ref (mr 27), .ref (mr 28), .ref (mr 29), .ref (mr 30)])), (mr 11, .inl (cy 1, 24, .inl (va_up q1 i ((-5))))), (mr 12, .inl (cy 1, 24, .inl (va_up q2 i ((-5))))), (mr 13, .inl (cy 1, 24, .inl (va_up q3 i ((-5))))), (mr 14, .inl (cy 1, 24, .inl (va_up q4 i ((-5))))), (mr 3, .inl (cy 1, 5, .inl (fun k => nI (st9 k))))]) 4 rfl (j := i) (nI_toInt (by omega)) (by omega) (rfl) rfl dX10_afresh_49 (q := 50) rfl ?_
          refine x_iinc C (L' := [(1, .int (nI (i + 1))), (0, .ref mo)]) dX10_afresh_50 (q := 53) rfl 1 rfl (v := nI (i + 1)) (nI_add i 1) (by decide) rfl ?_
          refine x_goto C (tgt := 12) dX10_afresh_53 (by decide) ?_
          refine x_L (L' := [(0, .ref mo), (1, .int (nI (i + 1)))]) [1, 0] rfl ?_
          exact ih12 (i + 1) (va_up q1 i ((-5))) (va_up q2 i ((-5))) (va_up q3 i ((-5))) (va_up q4 i ((-5))) (by first | omega | assumption) (by intro j hj; by_cases h9 : j = i; (subst h9; exact va_up_eq); (rw [va_up_ne' h9]; exact hq1 j (by omega))) (by intro j hj; by_cases h9 : j = i; (subst h9; exact va_up_eq); (rw [va_up_ne' h9]; exact hq2 j (by omega))) (by intro j hj; by_cases h9 : j = i; (subst h9; exact va_up_eq); (rw [va_up_ne' h9]; exact hq3 j (by omega))) (by intro j hj; by_cases h9 : j = i; (subst h9; exact va_up_eq); (rw [va_up_ne' h9]; exact hq4 j (by omega))) (by omega)
  refine x_L (L' := [(0, .ref mo), (1, .int (nI 0))]) [1, 0] rfl ?_
  exact cut12 (24 - 0 + 1) 0 rl9 fa9 ca9 dc9 (by first | omega | assumption) (by intro j hj; omega) (by intro j hj; omega) (by intro j hj; omega) (by intro j hj; omega) (by omega)

set_option maxHeartbeats 4000000 in
set_option maxRecDepth 100000 in
/-- feed -/
theorem c_X10_feed (l : Launch) (D : va_G) (cy : Nat → ClassId) (mo : Nat) (mr : Nat → Nat) (cols : Nat) (lc : Nat) (smp : Nat) (mk : Nat) (rs : Nat) (nse : Nat) (npa : Nat) (nbo : Nat) (tn : Nat) (ik : Nat) (ky : Int32) (j0 : Int32) (j1 : Int32) (j2 : Int32) (j3 : Int32) (j4 : Int32) (tx9 : Nat → Nat) (x : Int32) (htn : tn ≤ 60) : xMet l D cy xT yX10_feed wsX10_feed ({ frames := 2, cells := 0, slots := 0, locals := 200 } : Room) [.ref mo, .int (x)] [(mo, .inr (9, [.int (nI cols), .int (nI lc), .int (nI smp), .int (ky), .ref (mr 0), .ref (mr 1), .ref (mr 2), .ref (mr 3), .ref (mr 4), .ref (mr 5), .ref (mr 6), .ref (mr 7), .ref (mr 8), .ref (mr 9), .int (nI mk), .int (nI rs), .ref (mr 10), .ref (mr 11), .ref (mr 12), .ref (mr 13), .ref (mr 14), .ref (mr 15), .ref (mr 16), .ref (mr 17), .ref (mr 18), .ref (mr 19), .ref (mr 20), .int (nI nse), .int (nI npa), .int (nI nbo), .ref (mr 21), .int (nI tn), .ref (mr 22), .int (nI ik), .int (j0), .int (j1), .ref (mr 23), .int (j2), .ref (mr 24), .ref (mr 25), .int (j3), .ref (mr 26), .int (j4), .ref (mr 27), .ref (mr 28), .ref (mr 29), .ref (mr 30)])), (mr 21, .inl (cy 1, 60, .inl (fun k => nI (tx9 k))))] [] (fun (v9 : Option Value) (w9 : va_W) => (v9 = some (.int (feA tn x)) ∧ w9 = [(mo, .inr (9, [.int (nI cols), .int (nI lc), .int (nI smp), .int (ky), .ref (mr 0), .ref (mr 1), .ref (mr 2), .ref (mr 3), .ref (mr 4), .ref (mr 5), .ref (mr 6), .ref (mr 7), .ref (mr 8), .ref (mr 9), .int (nI mk), .int (nI rs), .ref (mr 10), .ref (mr 11), .ref (mr 12), .ref (mr 13), .ref (mr 14), .ref (mr 15), .ref (mr 16), .ref (mr 17), .ref (mr 18), .ref (mr 19), .ref (mr 20), .int (nI nse), .int (nI npa), .int (nI nbo), .ref (mr 21), .int (nI ((feN tn tx9 x).1)), .ref (mr 22), .int (nI ik), .int (j0), .int (j1), .ref (mr 23), .int (j2), .ref (mr 24), .ref (mr 25), .int (j3), .ref (mr 26), .int (j4), .ref (mr 27), .ref (mr 28), .ref (mr 29), .ref (mr 30)])), (mr 21, .inl (cy 1, 60, .inl (fun k => nI (((feN tn tx9 x).2) k))))])) := by
  refine xMet_of (cc := cX10_feed) (maxL := 2) (ret := (some .int)) (by decide) rfl (Nat.le_of_ble_eq_true rfl) (fun p e s m args below meth c A R Q hA hR hQ C hr hnm hro hX => ?_)
  have hw0 : Jvm.Cond.constantLong RX10 196 (127) ∈ wsX10_feed := by decide +kernel
  have hw1 : ∀ w ∈ u_ws RX10 TX10 47, w ∈ wsX10_feed := by decide +kernel
  have hw2 : Cond.fieldLink RX10 178 (TX10 31).1 (TX10 31).2.1 (TX10 31).2.2.1 ∈ wsX10_feed := by decide +kernel
  have hw3 : Cond.fieldLink RX10 83 (TX10 30).1 (TX10 30).2.1 (TX10 30).2.2.1 ∈ wsX10_feed := by decide +kernel
  refine x_L (L' := [(0, .ref mo), (1, .int (x))]) [0, 1] rfl ?_
  refine x_iload_n C dX10_feed_0 (q := 1) rfl rfl 1 rfl ?_
  refine x_i2l C dX10_feed_1 (q := 2) rfl (v := x.toInt64) (rfl) ?_
  refine x_lconst C dX10_feed_2 (q := 3) rfl (v := lN 0) rfl ?_
  refine x_ldc2 C (v := lN 127) hw0 dX10_feed_3 (q := 6) rfl ?_
  refine x_callS C (roW := []) (roR := []) (c_X10_in l D cy x.toInt64 (lN 0) (lN 127) x.toInt 0 127 (xl_wide rfl) rfl rfl) (cwS 3 C.2.2.2.2.1 gX10_feed_X10_in rfl rfl rfl (by decide +kernel) (by rw [hR]; exact ⟨Nat.le_of_ble_eq_true rfl, Nat.le_of_ble_eq_true rfl⟩)) [] [] rfl (by decide) rfl (by decide) xro_nil xT_bl (fun _ _ _ _ _ _ _ => trivial) rfl rfl dX10_feed_6 rfl rfl (Nat.le_of_ble_eq_true rfl) (q := 9) rfl (k' := 0) rfl (n' := 0) rfl (by rw [hR]; exact ⟨Nat.le_of_ble_eq_true rfl, Nat.le_of_ble_eq_true rfl⟩) (fun v1 w1 hp1 => ?_)
  rcases hp1 with hp1 | hp1
  · skip
    obtain ⟨rfl, rfl, hc2, hc3⟩ := hp1
    refine x_ws (ws' := [(mo, .inr (9, [.int (nI cols), .int (nI lc), .int (nI smp), .int (ky), .ref (mr 0), .ref (mr 1), .ref (mr 2), .ref (mr 3), .ref (mr 4), .ref (mr 5), .ref (mr 6), .ref (mr 7), .ref (mr 8), .ref (mr 9), .int (nI mk), .int (nI rs), .ref (mr 10), .ref (mr 11), .ref (mr 12), .ref (mr 13), .ref (mr 14), .ref (mr 15), .ref (mr 16), .ref (mr 17), .ref (mr 18), .ref (mr 19), .ref (mr 20), .int (nI nse), .int (nI npa), .int (nI nbo), .ref (mr 21), .int (nI tn), .ref (mr 22), .int (nI ik), .int (j0), .int (j1), .ref (mr 23), .int (j2), .ref (mr 24), .ref (mr 25), .int (j3), .ref (mr 26), .int (j4), .ref (mr 27), .ref (mr 28), .ref (mr 29), .ref (mr 30)])), (mr 21, .inl (cy 1, 60, .inl (fun k => nI (tx9 k))))]) (List.append_nil _) ?_
    refine x_if_ne C (tgt := 15) dX10_feed_9 (by decide) (q := 12) rfl (a := 1) rfl (fun h4 => ?_) (fun h4 => (by omega : False).elim)
    refine x_aload_n C dX10_feed_15 (q := 16) rfl rfl 0 rfl ?_
    refine x_get C (ci := 9) (v := .int (nI tn)) hw1 0 rfl rfl 31 (by decide) hw2 rfl dX10_feed_16 (q := 19) rfl ?_
    refine x_bipush C dX10_feed_19 (q := 21) rfl (v := nI 60) (by decide) ?_
    refine x_icmp_ne C (tgt := 27) dX10_feed_21 (by decide) (q := 24) rfl (a := ((tn : Nat) : Int)) (b := 60) (nI_toInt (by omega)) rfl (fun h5 => ?_) (fun h5 => ?_)
    · first
      | (exfalso; omega)
      |
        refine x_aload_n C dX10_feed_27 (q := 28) rfl rfl 0 rfl ?_
        refine x_get C (ci := 9) (v := .ref (mr 21)) hw1 0 rfl rfl 30 (by decide) hw3 rfl dX10_feed_28 (q := 31) rfl ?_
        refine x_aload_n C dX10_feed_31 (q := 32) rfl rfl 0 rfl ?_
        refine x_get C (ci := 9) (v := .int (nI tn)) hw1 0 rfl rfl 31 (by decide) hw2 rfl dX10_feed_32 (q := 35) rfl ?_
        refine x_iload_n C dX10_feed_35 (q := 36) rfl rfl 1 rfl ?_
        refine x_topi (y := nI x.toInt.toNat) (xi_nat (by omega)) ?_
        refine x_iast C (ws' := [(mo, .inr (9, [.int (nI cols), .int (nI lc), .int (nI smp), .int (ky), .ref (mr 0), .ref (mr 1), .ref (mr 2), .ref (mr 3), .ref (mr 4), .ref (mr 5), .ref (mr 6), .ref (mr 7), .ref (mr 8), .ref (mr 9), .int (nI mk), .int (nI rs), .ref (mr 10), .ref (mr 11), .ref (mr 12), .ref (mr 13), .ref (mr 14), .ref (mr 15), .ref (mr 16), .ref (mr 17), .ref (mr 18), .ref (mr 19), .ref (mr 20), .int (nI nse), .int (nI npa), .int (nI nbo), .ref (mr 21), .int (nI tn), .ref (mr 22), .int (nI ik), .int (j0), .int (j1), .ref (mr 23), .int (j2), .ref (mr 24), .ref (mr 25), .int (j3), .ref (mr 26), .int (j4), .ref (mr 27), .ref (mr 28), .ref (mr 29), .ref (mr 30)])), (mr 21, .inl (cy 1, 60, .inl (fun k => nI ((va_up tx9 tn x.toInt.toNat) k))))]) 1 rfl (j := tn) (nI_toInt (by omega)) (by omega) (xup_n tx9 tn x.toInt.toNat) rfl dX10_feed_36 (q := 37) rfl ?_
        refine x_aload_n C dX10_feed_37 (q := 38) rfl rfl 0 rfl ?_
        refine x_dup C dX10_feed_38 (q := 39) rfl rfl ?_
        refine x_get C (ci := 9) (v := .int (nI tn)) hw1 0 rfl rfl 31 (by decide) hw2 rfl dX10_feed_39 (q := 42) rfl ?_
        refine x_iconst C dX10_feed_42 (q := 43) rfl (v := nI 1) (by decide) ?_
        refine x_iadd C dX10_feed_43 (q := 44) rfl (z := nI (tn + 1)) (nI_add tn 1) ?_
        refine x_put C (ci := 9) (ty := .int) (ws' := [(mo, .inr (9, [.int (nI cols), .int (nI lc), .int (nI smp), .int (ky), .ref (mr 0), .ref (mr 1), .ref (mr 2), .ref (mr 3), .ref (mr 4), .ref (mr 5), .ref (mr 6), .ref (mr 7), .ref (mr 8), .ref (mr 9), .int (nI mk), .int (nI rs), .ref (mr 10), .ref (mr 11), .ref (mr 12), .ref (mr 13), .ref (mr 14), .ref (mr 15), .ref (mr 16), .ref (mr 17), .ref (mr 18), .ref (mr 19), .ref (mr 20), .int (nI nse), .int (nI npa), .int (nI nbo), .ref (mr 21), .int (nI (tn + 1)), .ref (mr 22), .int (nI ik), .int (j0), .int (j1), .ref (mr 23), .int (j2), .ref (mr 24), .ref (mr 25), .int (j3), .ref (mr 26), .int (j4), .ref (mr 27), .ref (mr 28), .ref (mr 29), .ref (mr 30)])), (mr 21, .inl (cy 1, 60, .inl (fun k => nI ((va_up tx9 tn x.toInt.toNat) k))))]) hw1 tyX10 tyX10_ok nmX10 0 rfl rfl 31 (by decide) hw2 rfl (by decide +kernel) rfl rfl (Nat.le_of_ble_eq_true rfl) rfl dX10_feed_44 (q := 47) rfl ?_
        refine x_aload_n C dX10_feed_47 (q := 48) rfl rfl 0 rfl ?_
        refine x_get C (ci := 9) (v := .int (nI (tn + 1))) hw1 0 rfl rfl 31 (by decide) hw2 rfl dX10_feed_48 (q := 51) rfl ?_
        refine x_iret C hA hQ hr dX10_feed_51 (Nat.le_of_ble_eq_true rfl) ?_
        unfold feA feN
        repeat (first | rw [if_pos (by omega)] | rw [if_neg (by omega)])
        exact ⟨rfl, rfl⟩
    · first
      | (exfalso; omega)
      |
        refine x_bipush C dX10_feed_24 (q := 26) rfl (v := (-4)) (by decide) ?_
        refine x_iret C hA hQ hr dX10_feed_26 (Nat.le_of_ble_eq_true rfl) ?_
        unfold feA feN
        repeat (first | rw [if_pos (by omega)] | rw [if_neg (by omega)])
        exact ⟨rfl, rfl⟩
  · skip
    obtain ⟨rfl, rfl, hc6⟩ := hp1
    refine x_ws (ws' := [(mo, .inr (9, [.int (nI cols), .int (nI lc), .int (nI smp), .int (ky), .ref (mr 0), .ref (mr 1), .ref (mr 2), .ref (mr 3), .ref (mr 4), .ref (mr 5), .ref (mr 6), .ref (mr 7), .ref (mr 8), .ref (mr 9), .int (nI mk), .int (nI rs), .ref (mr 10), .ref (mr 11), .ref (mr 12), .ref (mr 13), .ref (mr 14), .ref (mr 15), .ref (mr 16), .ref (mr 17), .ref (mr 18), .ref (mr 19), .ref (mr 20), .int (nI nse), .int (nI npa), .int (nI nbo), .ref (mr 21), .int (nI tn), .ref (mr 22), .int (nI ik), .int (j0), .int (j1), .ref (mr 23), .int (j2), .ref (mr 24), .ref (mr 25), .int (j3), .ref (mr 26), .int (j4), .ref (mr 27), .ref (mr 28), .ref (mr 29), .ref (mr 30)])), (mr 21, .inl (cy 1, 60, .inl (fun k => nI (tx9 k))))]) (List.append_nil _) ?_
    refine x_if_ne C (tgt := 15) dX10_feed_9 (by decide) (q := 12) rfl (a := 0) rfl (fun h7 => (by omega : False).elim) (fun h7 => ?_)
    refine x_bipush C dX10_feed_12 (q := 14) rfl (v := (-2)) (by decide) ?_
    refine x_iret C hA hQ hr dX10_feed_14 (Nat.le_of_ble_eq_true rfl) ?_
    unfold feA feN
    repeat (first | rw [if_pos (by omega)] | rw [if_neg (by omega)])
    exact ⟨rfl, rfl⟩

set_option maxHeartbeats 4000000 in
set_option maxRecDepth 100000 in
/-- head -/
theorem c_X10_head (l : Launch) (D : va_G) (cy : Nat → ClassId) (mo : Nat) (mr : Nat → Nat) (cols : Nat) (lc : Nat) (smp : Nat) (mk : Nat) (rs : Nat) (nse : Nat) (npa : Nat) (nbo : Nat) (tn : Nat) (ik : Nat) (ky : Int32) (j0 : Int32) (j1 : Int32) (j2 : Int32) (j3 : Int32) (j4 : Int32) (tx9 : Nat → Nat) (nn9 : Nat → Nat) (nz9 : Nat → Nat) (nm9 : Nat → Nat) (ns9 : Nat → Nat) (tl9 : Nat → Nat) (rl9 : Nat → Int32) (fa9 : Nat → Int32) (ca9 : Nat → Int32) (dc9 : Nat → Int32) (st9 : Nat → Nat) (htn : tn ≤ 60) (htx : ∀ k, tx9 k < 128) (hnn : ∀ k, nn9 k < 128) (hnz : ∀ k, nz9 k ≤ 4) : xMet l D cy xT yX10_head wsX10_head ({ frames := 5, cells := 0, slots := 0, locals := 600 } : Room) [.ref mo] [(mo, .inr (9, [.int (nI cols), .int (nI lc), .int (nI smp), .int (ky), .ref (mr 0), .ref (mr 1), .ref (mr 2), .ref (mr 3), .ref (mr 4), .ref (mr 5), .ref (mr 6), .ref (mr 7), .ref (mr 8), .ref (mr 9), .int (nI mk), .int (nI rs), .ref (mr 10), .ref (mr 11), .ref (mr 12), .ref (mr 13), .ref (mr 14), .ref (mr 15), .ref (mr 16), .ref (mr 17), .ref (mr 18), .ref (mr 19), .ref (mr 20), .int (nI nse), .int (nI npa), .int (nI nbo), .ref (mr 21), .int (nI tn), .ref (mr 22), .int (nI ik), .int (j0), .int (j1), .ref (mr 23), .int (j2), .ref (mr 24), .ref (mr 25), .int (j3), .ref (mr 26), .int (j4), .ref (mr 27), .ref (mr 28), .ref (mr 29), .ref (mr 30)])), (mr 21, .inl (cy 1, 60, .inl (fun k => nI (tx9 k)))), (mr 24, .inl (cy 1, 20, .inl (fun k => nI (nn9 k)))), (mr 25, .inl (cy 1, 5, .inl (fun k => nI (nz9 k)))), (mr 0, .inl (cy 1, 20, .inl (fun k => nI (nm9 k)))), (mr 1, .inl (cy 1, 5, .inl (fun k => nI (ns9 k)))), (mr 2, .inl (cy 1, 5, .inl (fun k => nI (tl9 k)))), (mr 11, .inl (cy 1, 24, .inl rl9)), (mr 12, .inl (cy 1, 24, .inl fa9)), (mr 13, .inl (cy 1, 24, .inl ca9)), (mr 14, .inl (cy 1, 24, .inl dc9)), (mr 3, .inl (cy 1, 5, .inl (fun k => nI (st9 k))))] [] (fun (v9 : Option Value) (w9 : va_W) => (∃ r : Int32, ∃ m2 : Nat, ∃ ss2 : Nat → Nat, ∃ zs2 : Nat → Nat, ∃ nn2 : Nat → Nat, ∃ nz2 : Nat → Nat, ∃ hp : Int, v9 = some (.int (r)) ∧ w9 = [(mo, .inr (9, [.int (nI cols), .int (nI lc), .int (nI smp), .int (ky), .ref (mr 0), .ref (mr 1), .ref (mr 2), .ref (mr 3), .ref (mr 4), .ref (mr 5), .ref (mr 6), .ref (mr 7), .ref (mr 8), .ref (mr 9), .int (nI mk), .int (nI rs), .ref (mr 10), .ref (mr 11), .ref (mr 12), .ref (mr 13), .ref (mr 14), .ref (mr 15), .ref (mr 16), .ref (mr 17), .ref (mr 18), .ref (mr 19), .ref (mr 20), .int (nI nse), .int (nI npa), .int (nI nbo), .ref (mr 21), .int (nI 0), .ref (mr 22), .int (nI ik), .int (j0), .int (j1), .ref (mr 23), .int (j2), .ref (mr 24), .ref (mr 25), .int (nI m2), .ref (mr 26), .int (j4), .ref (mr 27), .ref (mr 28), .ref (mr 29), .ref (mr 30)])), (mr 21, .inl (cy 1, 60, .inl (fun k => nI (tx9 k)))), (mr 24, .inl (cy 1, 20, .inl (fun k => nI (nn2 k)))), (mr 25, .inl (cy 1, 5, .inl (fun k => nI (nz2 k)))), (mr 0, .inl (cy 1, 20, .inl (fun k => nI (nm9 k)))), (mr 1, .inl (cy 1, 5, .inl (fun k => nI (ns9 k)))), (mr 2, .inl (cy 1, 5, .inl (fun k => nI (tl9 k)))), (mr 11, .inl (cy 1, 24, .inl rl9)), (mr 12, .inl (cy 1, 24, .inl fa9)), (mr 13, .inl (cy 1, 24, .inl ca9)), (mr 14, .inl (cy 1, 24, .inl dc9)), (mr 3, .inl (cy 1, 5, .inl (fun k => nI (st9 k))))] ∧ hdR tx9 tn 5 (fun _ => 0) (fun _ => 0) 0 0 = (hp, m2, ss2, zs2) ∧ ¬ hp = -1 ∧ r.toInt = -10 - hp ∧ (∀ k, nn2 k < 128) ∧ (∀ k, nz2 k ≤ 4)) ∨ (∃ m2 : Nat, ∃ ss2 : Nat → Nat, ∃ zs2 : Nat → Nat, ∃ nn2 : Nat → Nat, ∃ nz2 : Nat → Nat, ∃ ns2 : Nat → Nat, v9 = some (.int (nI m2)) ∧ w9 = [(mo, .inr (9, [.int (nI m2), .int (nI 0), .int (nI smp), .int ((-1)), .ref (mr 0), .ref (mr 1), .ref (mr 2), .ref (mr 3), .ref (mr 4), .ref (mr 5), .ref (mr 6), .ref (mr 7), .ref (mr 8), .ref (mr 9), .int (nI 0), .int (nI 0), .ref (mr 10), .ref (mr 11), .ref (mr 12), .ref (mr 13), .ref (mr 14), .ref (mr 15), .ref (mr 16), .ref (mr 17), .ref (mr 18), .ref (mr 19), .ref (mr 20), .int (nI 0), .int (nI 0), .int (nI 0), .ref (mr 21), .int (nI 0), .ref (mr 22), .int (nI ik), .int (j0), .int (j1), .ref (mr 23), .int (j2), .ref (mr 24), .ref (mr 25), .int (nI m2), .ref (mr 26), .int (j4), .ref (mr 27), .ref (mr 28), .ref (mr 29), .ref (mr 30)])), (mr 21, .inl (cy 1, 60, .inl (fun k => nI (tx9 k)))), (mr 24, .inl (cy 1, 20, .inl (fun k => nI (nn2 k)))), (mr 25, .inl (cy 1, 5, .inl (fun k => nI (nz2 k)))), (mr 0, .inl (cy 1, 20, .inl (fun k => nI (nn2 k)))), (mr 1, .inl (cy 1, 5, .inl (fun k => nI (ns2 k)))), (mr 2, .inl (cy 1, 5, .inl (fun k => nI ((fun _ => 0) k)))), (mr 11, .inl (cy 1, 24, .inl (fun _ => (-5 : Int32)))), (mr 12, .inl (cy 1, 24, .inl (fun _ => (-5 : Int32)))), (mr 13, .inl (cy 1, 24, .inl (fun _ => (-5 : Int32)))), (mr 14, .inl (cy 1, 24, .inl (fun _ => (-5 : Int32)))), (mr 3, .inl (cy 1, 5, .inl (fun k => nI ((fun _ => 0) k))))] ∧ hdR tx9 tn 5 (fun _ => 0) (fun _ => 0) 0 0 = (-1, m2, ss2, zs2) ∧ m2 ≤ 5 ∧ (∀ c, c < m2 → ns2 c = zs2 c) ∧ (∀ k, nn2 k < 128) ∧ (∀ k, nz2 k ≤ 4) ∧ (∀ k, zs2 k ≤ 4))) := by
  refine xMet_of (cc := cX10_head) (maxL := 3) (ret := (some .int)) (by decide) rfl (Nat.le_of_ble_eq_true rfl) (fun p e s m args below meth c A R Q hA hR hQ C hr hnm hro hX => ?_)
  have hw0 : ∀ w ∈ u_ws RX10 TX10 47, w ∈ wsX10_head := by decide +kernel
  have hw1 : Cond.fieldLink RX10 178 (TX10 31).1 (TX10 31).2.1 (TX10 31).2.2.1 ∈ wsX10_head := by decide +kernel
  have hw2 : Cond.fieldLink RX10 185 (TX10 40).1 (TX10 40).2.1 (TX10 40).2.2.1 ∈ wsX10_head := by decide +kernel
  have hw3 : Cond.fieldLink RX10 118 (TX10 0).1 (TX10 0).2.1 (TX10 0).2.2.1 ∈ wsX10_head := by decide +kernel
  have hw4 : Cond.fieldLink RX10 18 (TX10 4).1 (TX10 4).2.1 (TX10 4).2.2.1 ∈ wsX10_head := by decide +kernel
  have hw5 : Cond.fieldLink RX10 125 (TX10 1).1 (TX10 1).2.1 (TX10 1).2.2.1 ∈ wsX10_head := by decide +kernel
  have hw6 : Cond.fieldLink RX10 145 (TX10 27).1 (TX10 27).2.1 (TX10 27).2.2.1 ∈ wsX10_head := by decide +kernel
  have hw7 : Cond.fieldLink RX10 148 (TX10 28).1 (TX10 28).2.1 (TX10 28).2.2.1 ∈ wsX10_head := by decide +kernel
  have hw8 : Cond.fieldLink RX10 151 (TX10 29).1 (TX10 29).2.1 (TX10 29).2.2.1 ∈ wsX10_head := by decide +kernel
  have hw9 : Cond.fieldLink RX10 15 (TX10 3).1 (TX10 3).2.1 (TX10 3).2.2.1 ∈ wsX10_head := by decide +kernel
  have hw10 : Cond.fieldLink RX10 22 (TX10 5).1 (TX10 5).2.1 (TX10 5).2.2.1 ∈ wsX10_head := by decide +kernel
  have hw11 : Cond.fieldLink RX10 95 (TX10 39).1 (TX10 39).2.1 (TX10 39).2.2.1 ∈ wsX10_head := by decide +kernel
  have hw12 : Cond.fieldLink RX10 25 (TX10 6).1 (TX10 6).2.1 (TX10 6).2.2.1 ∈ wsX10_head := by decide +kernel
  have hw13 : Cond.fieldLink RX10 92 (TX10 38).1 (TX10 38).2.1 (TX10 38).2.2.1 ∈ wsX10_head := by decide +kernel
  refine x_L (L' := [(0, .ref mo)]) [0] rfl ?_
  refine x_aload_n C dX10_head_0 (q := 1) rfl rfl 0 rfl ?_
  refine x_callV C (roW := []) (roR := []) (c_X10_goesThrough l D cy mo mr cols lc smp mk rs nse npa nbo tn ik ky j0 j1 j2 j3 j4 tx9 nn9 nz9 (by first | assumption | omega | (simp only []; omega)) (by assumption) (by assumption) (by assumption)) (cwV 0 C.2.2.2.2.1 gX10_head_X10_goesThrough rfl rfl rfl (by decide +kernel) (by rw [hR]; exact ⟨Nat.le_of_ble_eq_true rfl, Nat.le_of_ble_eq_true rfl⟩)) [0, 1, 2, 3] [] rfl (by decide) rfl (by decide) xro_nil (List.mem_of_getElem? (i := 0) rfl) (ci := 9) rfl xT_bl (fun _ _ _ _ _ _ _ => trivial) rfl rfl dX10_head_1 rfl rfl (Nat.le_of_ble_eq_true rfl) (q := 4) rfl (k' := 0) rfl (n' := 0) rfl (by rw [hR]; exact ⟨Nat.le_of_ble_eq_true rfl, Nat.le_of_ble_eq_true rfl⟩) (fun v1 w1 hp1 => ?_)
  obtain ⟨r_2, m2_3, ss2_4, zs2_5, nn2_6, nz2_7, rfl, rfl, hc8, hc9, hc10, hc11, hc12, hc13⟩ := hp1
  refine x_ws (ws' := [(mo, .inr (9, [.int (nI cols), .int (nI lc), .int (nI smp), .int (ky), .ref (mr 0), .ref (mr 1), .ref (mr 2), .ref (mr 3), .ref (mr 4), .ref (mr 5), .ref (mr 6), .ref (mr 7), .ref (mr 8), .ref (mr 9), .int (nI mk), .int (nI rs), .ref (mr 10), .ref (mr 11), .ref (mr 12), .ref (mr 13), .ref (mr 14), .ref (mr 15), .ref (mr 16), .ref (mr 17), .ref (mr 18), .ref (mr 19), .ref (mr 20), .int (nI nse), .int (nI npa), .int (nI nbo), .ref (mr 21), .int (nI tn), .ref (mr 22), .int (nI ik), .int (j0), .int (j1), .ref (mr 23), .int (j2), .ref (mr 24), .ref (mr 25), .int (nI m2_3), .ref (mr 26), .int (j4), .ref (mr 27), .ref (mr 28), .ref (mr 29), .ref (mr 30)])), (mr 21, .inl (cy 1, 60, .inl (fun k => nI (tx9 k)))), (mr 24, .inl (cy 1, 20, .inl (fun k => nI (nn2_6 k)))), (mr 25, .inl (cy 1, 5, .inl (fun k => nI (nz2_7 k)))), (mr 0, .inl (cy 1, 20, .inl (fun k => nI (nm9 k)))), (mr 1, .inl (cy 1, 5, .inl (fun k => nI (ns9 k)))), (mr 2, .inl (cy 1, 5, .inl (fun k => nI (tl9 k)))), (mr 11, .inl (cy 1, 24, .inl rl9)), (mr 12, .inl (cy 1, 24, .inl fa9)), (mr 13, .inl (cy 1, 24, .inl ca9)), (mr 14, .inl (cy 1, 24, .inl dc9)), (mr 3, .inl (cy 1, 5, .inl (fun k => nI (st9 k))))]) rfl ?_
  have hdi := hdR_in (tx := tx9) (n := tn) 5 (fun _ => 0) (fun _ => 0) 0 0 (Nat.zero_le _) (Nat.zero_le _)
  rw [hc8] at hdi
  dsimp only at hdi
  refine x_istore_n C (L' := [(1, .int (r_2)), (0, .ref mo)]) dX10_head_4 (q := 5) rfl rfl (by decide) rfl ?_
  refine x_aload_n C dX10_head_5 (q := 6) rfl rfl 1 rfl ?_
  refine x_iconst C dX10_head_6 (q := 7) rfl (v := nI 0) (by decide) ?_
  refine x_put C (ci := 9) (ty := .int) (ws' := [(mo, .inr (9, [.int (nI cols), .int (nI lc), .int (nI smp), .int (ky), .ref (mr 0), .ref (mr 1), .ref (mr 2), .ref (mr 3), .ref (mr 4), .ref (mr 5), .ref (mr 6), .ref (mr 7), .ref (mr 8), .ref (mr 9), .int (nI mk), .int (nI rs), .ref (mr 10), .ref (mr 11), .ref (mr 12), .ref (mr 13), .ref (mr 14), .ref (mr 15), .ref (mr 16), .ref (mr 17), .ref (mr 18), .ref (mr 19), .ref (mr 20), .int (nI nse), .int (nI npa), .int (nI nbo), .ref (mr 21), .int (nI 0), .ref (mr 22), .int (nI ik), .int (j0), .int (j1), .ref (mr 23), .int (j2), .ref (mr 24), .ref (mr 25), .int (nI m2_3), .ref (mr 26), .int (j4), .ref (mr 27), .ref (mr 28), .ref (mr 29), .ref (mr 30)])), (mr 21, .inl (cy 1, 60, .inl (fun k => nI (tx9 k)))), (mr 24, .inl (cy 1, 20, .inl (fun k => nI (nn2_6 k)))), (mr 25, .inl (cy 1, 5, .inl (fun k => nI (nz2_7 k)))), (mr 0, .inl (cy 1, 20, .inl (fun k => nI (nm9 k)))), (mr 1, .inl (cy 1, 5, .inl (fun k => nI (ns9 k)))), (mr 2, .inl (cy 1, 5, .inl (fun k => nI (tl9 k)))), (mr 11, .inl (cy 1, 24, .inl rl9)), (mr 12, .inl (cy 1, 24, .inl fa9)), (mr 13, .inl (cy 1, 24, .inl ca9)), (mr 14, .inl (cy 1, 24, .inl dc9)), (mr 3, .inl (cy 1, 5, .inl (fun k => nI (st9 k))))]) hw0 tyX10 tyX10_ok nmX10 0 rfl rfl 31 (by decide) hw1 rfl (by decide +kernel) rfl rfl (Nat.le_of_ble_eq_true rfl) rfl dX10_head_7 (q := 10) rfl ?_
  refine x_iload_n C dX10_head_10 (q := 11) rfl rfl 0 rfl ?_
  refine x_if_lt C (tgt := 19) dX10_head_11 (by decide) (q := 14) rfl (a := r_2.toInt) rfl (fun h14 => ?_) (fun h14 => ?_)
  · first
    | (exfalso; omega)
    |
      refine x_aload_n C dX10_head_19 (q := 20) rfl rfl 1 rfl ?_
      refine x_aload_n C dX10_head_20 (q := 21) rfl rfl 1 rfl ?_
      refine x_get C (ci := 9) (v := .int (nI m2_3)) hw0 0 rfl rfl 40 (by decide) hw2 rfl dX10_head_21 (q := 24) rfl ?_
      refine x_put C (ci := 9) (ty := .int) (ws' := [(mo, .inr (9, [.int (nI m2_3), .int (nI lc), .int (nI smp), .int (ky), .ref (mr 0), .ref (mr 1), .ref (mr 2), .ref (mr 3), .ref (mr 4), .ref (mr 5), .ref (mr 6), .ref (mr 7), .ref (mr 8), .ref (mr 9), .int (nI mk), .int (nI rs), .ref (mr 10), .ref (mr 11), .ref (mr 12), .ref (mr 13), .ref (mr 14), .ref (mr 15), .ref (mr 16), .ref (mr 17), .ref (mr 18), .ref (mr 19), .ref (mr 20), .int (nI nse), .int (nI npa), .int (nI nbo), .ref (mr 21), .int (nI 0), .ref (mr 22), .int (nI ik), .int (j0), .int (j1), .ref (mr 23), .int (j2), .ref (mr 24), .ref (mr 25), .int (nI m2_3), .ref (mr 26), .int (j4), .ref (mr 27), .ref (mr 28), .ref (mr 29), .ref (mr 30)])), (mr 21, .inl (cy 1, 60, .inl (fun k => nI (tx9 k)))), (mr 24, .inl (cy 1, 20, .inl (fun k => nI (nn2_6 k)))), (mr 25, .inl (cy 1, 5, .inl (fun k => nI (nz2_7 k)))), (mr 0, .inl (cy 1, 20, .inl (fun k => nI (nm9 k)))), (mr 1, .inl (cy 1, 5, .inl (fun k => nI (ns9 k)))), (mr 2, .inl (cy 1, 5, .inl (fun k => nI (tl9 k)))), (mr 11, .inl (cy 1, 24, .inl rl9)), (mr 12, .inl (cy 1, 24, .inl fa9)), (mr 13, .inl (cy 1, 24, .inl ca9)), (mr 14, .inl (cy 1, 24, .inl dc9)), (mr 3, .inl (cy 1, 5, .inl (fun k => nI (st9 k))))]) hw0 tyX10 tyX10_ok nmX10 0 rfl rfl 0 (by decide) hw3 rfl (by decide +kernel) rfl rfl (Nat.le_of_ble_eq_true rfl) rfl dX10_head_24 (q := 27) rfl ?_
      refine x_iconst C dX10_head_27 (q := 28) rfl (v := nI 0) (by decide) ?_
      refine x_istore_n C (L' := [(2, .int (nI 0)), (1, .int (r_2)), (0, .ref mo)]) dX10_head_28 (q := 29) rfl rfl (by decide) rfl ?_
      have cut29 : ∀ (fuel : Nat) (i : Nat) (qn : Nat → Nat), (i ≤ 20) → (∀ j, j < i → qn j = nn2_6 j) → 20 - i < fuel → xG p l e R s m args below meth c Q D A 3 [(mo, .inr (9, [.int (nI m2_3), .int (nI lc), .int (nI smp), .int (ky), .ref (mr 0), .ref (mr 1), .ref (mr 2), .ref (mr 3), .ref (mr 4), .ref (mr 5), .ref (mr 6), .ref (mr 7), .ref (mr 8), .ref (mr 9), .int (nI mk), .int (nI rs), .ref (mr 10), .ref (mr 11), .ref (mr 12), .ref (mr 13), .ref (mr 14), .ref (mr 15), .ref (mr 16), .ref (mr 17), .ref (mr 18), .ref (mr 19), .ref (mr 20), .int (nI nse), .int (nI npa), .int (nI nbo), .ref (mr 21), .int (nI 0), .ref (mr 22), .int (nI ik), .int (j0), .int (j1), .ref (mr 23), .int (j2), .ref (mr 24), .ref (mr 25), .int (nI m2_3), .ref (mr 26), .int (j4), .ref (mr 27), .ref (mr 28), .ref (mr 29), .ref (mr 30)])), (mr 21, .inl (cy 1, 60, .inl (fun k => nI (tx9 k)))), (mr 24, .inl (cy 1, 20, .inl (fun k => nI (nn2_6 k)))), (mr 25, .inl (cy 1, 5, .inl (fun k => nI (nz2_7 k)))), (mr 0, .inl (cy 1, 20, .inl (fun k => nI (qn k)))), (mr 1, .inl (cy 1, 5, .inl (fun k => nI (ns9 k)))), (mr 2, .inl (cy 1, 5, .inl (fun k => nI (tl9 k)))), (mr 11, .inl (cy 1, 24, .inl rl9)), (mr 12, .inl (cy 1, 24, .inl fa9)), (mr 13, .inl (cy 1, 24, .inl ca9)), (mr 14, .inl (cy 1, 24, .inl dc9)), (mr 3, .inl (cy 1, 5, .inl (fun k => nI (st9 k))))] 0 0 29 [(0, .ref mo), (2, .int (nI i))] [] := by
        intro fuel
        induction fuel with
        | zero =>
          intro i qn hi hqn hmu
          exact absurd hmu (Nat.not_lt_zero _)
        | succ fuel ih =>
          intro i qn hi hqn hmu
          have ih29 := ih
          clear ih
          refine x_iload_n C dX10_head_29 (q := 30) rfl rfl 1 rfl ?_
          refine x_aload_n C dX10_head_30 (q := 31) rfl rfl 0 rfl ?_
          refine x_get C (ci := 9) (v := .ref (mr 0)) hw0 0 rfl rfl 4 (by decide) hw4 rfl dX10_head_31 (q := 34) rfl ?_
          refine x_alen C 4 1 rfl rfl (v := nI 20) rfl dX10_head_34 (q := 35) rfl ?_
          refine x_icmp_ge C (tgt := 56) dX10_head_35 (by decide) (q := 38) rfl (a := ((i : Nat) : Int)) (b := 20) (nI_toInt (by omega)) rfl (fun h15 => ?_) (fun h15 => ?_)
          · first
            | (exfalso; omega)
            |
              refine x_recI (ws' := [(mo, .inr (9, [.int (nI m2_3), .int (nI lc), .int (nI smp), .int (ky), .ref (mr 0), .ref (mr 1), .ref (mr 2), .ref (mr 3), .ref (mr 4), .ref (mr 5), .ref (mr 6), .ref (mr 7), .ref (mr 8), .ref (mr 9), .int (nI mk), .int (nI rs), .ref (mr 10), .ref (mr 11), .ref (mr 12), .ref (mr 13), .ref (mr 14), .ref (mr 15), .ref (mr 16), .ref (mr 17), .ref (mr 18), .ref (mr 19), .ref (mr 20), .int (nI nse), .int (nI npa), .int (nI nbo), .ref (mr 21), .int (nI 0), .ref (mr 22), .int (nI ik), .int (j0), .int (j1), .ref (mr 23), .int (j2), .ref (mr 24), .ref (mr 25), .int (nI m2_3), .ref (mr 26), .int (j4), .ref (mr 27), .ref (mr 28), .ref (mr 29), .ref (mr 30)])), (mr 21, .inl (cy 1, 60, .inl (fun k => nI (tx9 k)))), (mr 24, .inl (cy 1, 20, .inl (fun k => nI (nn2_6 k)))), (mr 25, .inl (cy 1, 5, .inl (fun k => nI (nz2_7 k)))), (mr 0, .inl (cy 1, 20, .inl (fun k => nI (nn2_6 k)))), (mr 1, .inl (cy 1, 5, .inl (fun k => nI (ns9 k)))), (mr 2, .inl (cy 1, 5, .inl (fun k => nI (tl9 k)))), (mr 11, .inl (cy 1, 24, .inl rl9)), (mr 12, .inl (cy 1, 24, .inl fa9)), (mr 13, .inl (cy 1, 24, .inl ca9)), (mr 14, .inl (cy 1, 24, .inl dc9)), (mr 3, .inl (cy 1, 5, .inl (fun k => nI (st9 k))))]) 4 rfl (fun k hk => congrArg nI (hqn k (by omega))) rfl ?_
              refine x_iconst C dX10_head_56 (q := 57) rfl (v := nI 0) (by decide) ?_
              refine x_istore_n C (L' := [(2, .int (nI 0)), (0, .ref mo)]) dX10_head_57 (q := 58) rfl rfl (by decide) rfl ?_
              have cut58 : ∀ (fuel : Nat) (i : Nat) (qs : Nat → Nat) (qt : Nat → Nat), (i ≤ 5) → (∀ j, j < i → qs j = nz2_7 j) → (∀ j, j < i → qt j = 0) → 5 - i < fuel → xG p l e R s m args below meth c Q D A 3 [(mo, .inr (9, [.int (nI m2_3), .int (nI lc), .int (nI smp), .int (ky), .ref (mr 0), .ref (mr 1), .ref (mr 2), .ref (mr 3), .ref (mr 4), .ref (mr 5), .ref (mr 6), .ref (mr 7), .ref (mr 8), .ref (mr 9), .int (nI mk), .int (nI rs), .ref (mr 10), .ref (mr 11), .ref (mr 12), .ref (mr 13), .ref (mr 14), .ref (mr 15), .ref (mr 16), .ref (mr 17), .ref (mr 18), .ref (mr 19), .ref (mr 20), .int (nI nse), .int (nI npa), .int (nI nbo), .ref (mr 21), .int (nI 0), .ref (mr 22), .int (nI ik), .int (j0), .int (j1), .ref (mr 23), .int (j2), .ref (mr 24), .ref (mr 25), .int (nI m2_3), .ref (mr 26), .int (j4), .ref (mr 27), .ref (mr 28), .ref (mr 29), .ref (mr 30)])), (mr 21, .inl (cy 1, 60, .inl (fun k => nI (tx9 k)))), (mr 24, .inl (cy 1, 20, .inl (fun k => nI (nn2_6 k)))), (mr 25, .inl (cy 1, 5, .inl (fun k => nI (nz2_7 k)))), (mr 0, .inl (cy 1, 20, .inl (fun k => nI (nn2_6 k)))), (mr 1, .inl (cy 1, 5, .inl (fun k => nI (qs k)))), (mr 2, .inl (cy 1, 5, .inl (fun k => nI (qt k)))), (mr 11, .inl (cy 1, 24, .inl rl9)), (mr 12, .inl (cy 1, 24, .inl fa9)), (mr 13, .inl (cy 1, 24, .inl ca9)), (mr 14, .inl (cy 1, 24, .inl dc9)), (mr 3, .inl (cy 1, 5, .inl (fun k => nI (st9 k))))] 0 0 58 [(0, .ref mo), (2, .int (nI i))] [] := by
                intro fuel
                induction fuel with
                | zero =>
                  intro i qs qt hi hqs hqt hmu
                  exact absurd hmu (Nat.not_lt_zero _)
                | succ fuel ih =>
                  intro i qs qt hi hqs hqt hmu
                  have ih58 := ih
                  clear ih
                  refine x_iload_n C dX10_head_58 (q := 59) rfl rfl 1 rfl ?_
                  refine x_iconst C dX10_head_59 (q := 60) rfl (v := nI 5) (by decide) ?_
                  refine x_icmp_ge C (tgt := 88) dX10_head_60 (by decide) (q := 63) rfl (a := ((i : Nat) : Int)) (b := 5) (nI_toInt (by omega)) rfl (fun h16 => ?_) (fun h16 => ?_)
                  · first
                    | (exfalso; omega)
                    |
                      refine x_recI (ws' := [(mo, .inr (9, [.int (nI m2_3), .int (nI lc), .int (nI smp), .int (ky), .ref (mr 0), .ref (mr 1), .ref (mr 2), .ref (mr 3), .ref (mr 4), .ref (mr 5), .ref (mr 6), .ref (mr 7), .ref (mr 8), .ref (mr 9), .int (nI mk), .int (nI rs), .ref (mr 10), .ref (mr 11), .ref (mr 12), .ref (mr 13), .ref (mr 14), .ref (mr 15), .ref (mr 16), .ref (mr 17), .ref (mr 18), .ref (mr 19), .ref (mr 20), .int (nI nse), .int (nI npa), .int (nI nbo), .ref (mr 21), .int (nI 0), .ref (mr 22), .int (nI ik), .int (j0), .int (j1), .ref (mr 23), .int (j2), .ref (mr 24), .ref (mr 25), .int (nI m2_3), .ref (mr 26), .int (j4), .ref (mr 27), .ref (mr 28), .ref (mr 29), .ref (mr 30)])), (mr 21, .inl (cy 1, 60, .inl (fun k => nI (tx9 k)))), (mr 24, .inl (cy 1, 20, .inl (fun k => nI (nn2_6 k)))), (mr 25, .inl (cy 1, 5, .inl (fun k => nI (nz2_7 k)))), (mr 0, .inl (cy 1, 20, .inl (fun k => nI (nn2_6 k)))), (mr 1, .inl (cy 1, 5, .inl (fun k => nI (nz2_7 k)))), (mr 2, .inl (cy 1, 5, .inl (fun k => nI (qt k)))), (mr 11, .inl (cy 1, 24, .inl rl9)), (mr 12, .inl (cy 1, 24, .inl fa9)), (mr 13, .inl (cy 1, 24, .inl ca9)), (mr 14, .inl (cy 1, 24, .inl dc9)), (mr 3, .inl (cy 1, 5, .inl (fun k => nI (st9 k))))]) 5 rfl (fun k hk => congrArg nI (hqs k (by omega))) rfl ?_
                      refine x_recI (ws' := [(mo, .inr (9, [.int (nI m2_3), .int (nI lc), .int (nI smp), .int (ky), .ref (mr 0), .ref (mr 1), .ref (mr 2), .ref (mr 3), .ref (mr 4), .ref (mr 5), .ref (mr 6), .ref (mr 7), .ref (mr 8), .ref (mr 9), .int (nI mk), .int (nI rs), .ref (mr 10), .ref (mr 11), .ref (mr 12), .ref (mr 13), .ref (mr 14), .ref (mr 15), .ref (mr 16), .ref (mr 17), .ref (mr 18), .ref (mr 19), .ref (mr 20), .int (nI nse), .int (nI npa), .int (nI nbo), .ref (mr 21), .int (nI 0), .ref (mr 22), .int (nI ik), .int (j0), .int (j1), .ref (mr 23), .int (j2), .ref (mr 24), .ref (mr 25), .int (nI m2_3), .ref (mr 26), .int (j4), .ref (mr 27), .ref (mr 28), .ref (mr 29), .ref (mr 30)])), (mr 21, .inl (cy 1, 60, .inl (fun k => nI (tx9 k)))), (mr 24, .inl (cy 1, 20, .inl (fun k => nI (nn2_6 k)))), (mr 25, .inl (cy 1, 5, .inl (fun k => nI (nz2_7 k)))), (mr 0, .inl (cy 1, 20, .inl (fun k => nI (nn2_6 k)))), (mr 1, .inl (cy 1, 5, .inl (fun k => nI (nz2_7 k)))), (mr 2, .inl (cy 1, 5, .inl (fun k => nI ((fun _ => 0) k)))), (mr 11, .inl (cy 1, 24, .inl rl9)), (mr 12, .inl (cy 1, 24, .inl fa9)), (mr 13, .inl (cy 1, 24, .inl ca9)), (mr 14, .inl (cy 1, 24, .inl dc9)), (mr 3, .inl (cy 1, 5, .inl (fun k => nI (st9 k))))]) 6 rfl (fun k hk => congrArg nI (hqt k (by omega))) rfl ?_
                      refine x_aload_n C dX10_head_88 (q := 89) rfl rfl 0 rfl ?_
                      refine x_iconst C dX10_head_89 (q := 90) rfl (v := nI 0) (by decide) ?_
                      refine x_put C (ci := 9) (ty := .int) (ws' := [(mo, .inr (9, [.int (nI m2_3), .int (nI 0), .int (nI smp), .int (ky), .ref (mr 0), .ref (mr 1), .ref (mr 2), .ref (mr 3), .ref (mr 4), .ref (mr 5), .ref (mr 6), .ref (mr 7), .ref (mr 8), .ref (mr 9), .int (nI mk), .int (nI rs), .ref (mr 10), .ref (mr 11), .ref (mr 12), .ref (mr 13), .ref (mr 14), .ref (mr 15), .ref (mr 16), .ref (mr 17), .ref (mr 18), .ref (mr 19), .ref (mr 20), .int (nI nse), .int (nI npa), .int (nI nbo), .ref (mr 21), .int (nI 0), .ref (mr 22), .int (nI ik), .int (j0), .int (j1), .ref (mr 23), .int (j2), .ref (mr 24), .ref (mr 25), .int (nI m2_3), .ref (mr 26), .int (j4), .ref (mr 27), .ref (mr 28), .ref (mr 29), .ref (mr 30)])), (mr 21, .inl (cy 1, 60, .inl (fun k => nI (tx9 k)))), (mr 24, .inl (cy 1, 20, .inl (fun k => nI (nn2_6 k)))), (mr 25, .inl (cy 1, 5, .inl (fun k => nI (nz2_7 k)))), (mr 0, .inl (cy 1, 20, .inl (fun k => nI (nn2_6 k)))), (mr 1, .inl (cy 1, 5, .inl (fun k => nI (nz2_7 k)))), (mr 2, .inl (cy 1, 5, .inl (fun k => nI ((fun _ => 0) k)))), (mr 11, .inl (cy 1, 24, .inl rl9)), (mr 12, .inl (cy 1, 24, .inl fa9)), (mr 13, .inl (cy 1, 24, .inl ca9)), (mr 14, .inl (cy 1, 24, .inl dc9)), (mr 3, .inl (cy 1, 5, .inl (fun k => nI (st9 k))))]) hw0 tyX10 tyX10_ok nmX10 0 rfl rfl 1 (by decide) hw5 rfl (by decide +kernel) rfl rfl (Nat.le_of_ble_eq_true rfl) rfl dX10_head_90 (q := 93) rfl ?_
                      refine x_aload_n C dX10_head_93 (q := 94) rfl rfl 0 rfl ?_
                      refine x_iconst C dX10_head_94 (q := 95) rfl (v := nI 0) (by decide) ?_
                      refine x_put C (ci := 9) (ty := .int) (ws' := [(mo, .inr (9, [.int (nI m2_3), .int (nI 0), .int (nI smp), .int (ky), .ref (mr 0), .ref (mr 1), .ref (mr 2), .ref (mr 3), .ref (mr 4), .ref (mr 5), .ref (mr 6), .ref (mr 7), .ref (mr 8), .ref (mr 9), .int (nI mk), .int (nI rs), .ref (mr 10), .ref (mr 11), .ref (mr 12), .ref (mr 13), .ref (mr 14), .ref (mr 15), .ref (mr 16), .ref (mr 17), .ref (mr 18), .ref (mr 19), .ref (mr 20), .int (nI 0), .int (nI npa), .int (nI nbo), .ref (mr 21), .int (nI 0), .ref (mr 22), .int (nI ik), .int (j0), .int (j1), .ref (mr 23), .int (j2), .ref (mr 24), .ref (mr 25), .int (nI m2_3), .ref (mr 26), .int (j4), .ref (mr 27), .ref (mr 28), .ref (mr 29), .ref (mr 30)])), (mr 21, .inl (cy 1, 60, .inl (fun k => nI (tx9 k)))), (mr 24, .inl (cy 1, 20, .inl (fun k => nI (nn2_6 k)))), (mr 25, .inl (cy 1, 5, .inl (fun k => nI (nz2_7 k)))), (mr 0, .inl (cy 1, 20, .inl (fun k => nI (nn2_6 k)))), (mr 1, .inl (cy 1, 5, .inl (fun k => nI (nz2_7 k)))), (mr 2, .inl (cy 1, 5, .inl (fun k => nI ((fun _ => 0) k)))), (mr 11, .inl (cy 1, 24, .inl rl9)), (mr 12, .inl (cy 1, 24, .inl fa9)), (mr 13, .inl (cy 1, 24, .inl ca9)), (mr 14, .inl (cy 1, 24, .inl dc9)), (mr 3, .inl (cy 1, 5, .inl (fun k => nI (st9 k))))]) hw0 tyX10 tyX10_ok nmX10 0 rfl rfl 27 (by decide) hw6 rfl (by decide +kernel) rfl rfl (Nat.le_of_ble_eq_true rfl) rfl dX10_head_95 (q := 98) rfl ?_
                      refine x_aload_n C dX10_head_98 (q := 99) rfl rfl 0 rfl ?_
                      refine x_iconst C dX10_head_99 (q := 100) rfl (v := nI 0) (by decide) ?_
                      refine x_put C (ci := 9) (ty := .int) (ws' := [(mo, .inr (9, [.int (nI m2_3), .int (nI 0), .int (nI smp), .int (ky), .ref (mr 0), .ref (mr 1), .ref (mr 2), .ref (mr 3), .ref (mr 4), .ref (mr 5), .ref (mr 6), .ref (mr 7), .ref (mr 8), .ref (mr 9), .int (nI mk), .int (nI rs), .ref (mr 10), .ref (mr 11), .ref (mr 12), .ref (mr 13), .ref (mr 14), .ref (mr 15), .ref (mr 16), .ref (mr 17), .ref (mr 18), .ref (mr 19), .ref (mr 20), .int (nI 0), .int (nI 0), .int (nI nbo), .ref (mr 21), .int (nI 0), .ref (mr 22), .int (nI ik), .int (j0), .int (j1), .ref (mr 23), .int (j2), .ref (mr 24), .ref (mr 25), .int (nI m2_3), .ref (mr 26), .int (j4), .ref (mr 27), .ref (mr 28), .ref (mr 29), .ref (mr 30)])), (mr 21, .inl (cy 1, 60, .inl (fun k => nI (tx9 k)))), (mr 24, .inl (cy 1, 20, .inl (fun k => nI (nn2_6 k)))), (mr 25, .inl (cy 1, 5, .inl (fun k => nI (nz2_7 k)))), (mr 0, .inl (cy 1, 20, .inl (fun k => nI (nn2_6 k)))), (mr 1, .inl (cy 1, 5, .inl (fun k => nI (nz2_7 k)))), (mr 2, .inl (cy 1, 5, .inl (fun k => nI ((fun _ => 0) k)))), (mr 11, .inl (cy 1, 24, .inl rl9)), (mr 12, .inl (cy 1, 24, .inl fa9)), (mr 13, .inl (cy 1, 24, .inl ca9)), (mr 14, .inl (cy 1, 24, .inl dc9)), (mr 3, .inl (cy 1, 5, .inl (fun k => nI (st9 k))))]) hw0 tyX10 tyX10_ok nmX10 0 rfl rfl 28 (by decide) hw7 rfl (by decide +kernel) rfl rfl (Nat.le_of_ble_eq_true rfl) rfl dX10_head_100 (q := 103) rfl ?_
                      refine x_aload_n C dX10_head_103 (q := 104) rfl rfl 0 rfl ?_
                      refine x_iconst C dX10_head_104 (q := 105) rfl (v := nI 0) (by decide) ?_
                      refine x_put C (ci := 9) (ty := .int) (ws' := [(mo, .inr (9, [.int (nI m2_3), .int (nI 0), .int (nI smp), .int (ky), .ref (mr 0), .ref (mr 1), .ref (mr 2), .ref (mr 3), .ref (mr 4), .ref (mr 5), .ref (mr 6), .ref (mr 7), .ref (mr 8), .ref (mr 9), .int (nI mk), .int (nI rs), .ref (mr 10), .ref (mr 11), .ref (mr 12), .ref (mr 13), .ref (mr 14), .ref (mr 15), .ref (mr 16), .ref (mr 17), .ref (mr 18), .ref (mr 19), .ref (mr 20), .int (nI 0), .int (nI 0), .int (nI 0), .ref (mr 21), .int (nI 0), .ref (mr 22), .int (nI ik), .int (j0), .int (j1), .ref (mr 23), .int (j2), .ref (mr 24), .ref (mr 25), .int (nI m2_3), .ref (mr 26), .int (j4), .ref (mr 27), .ref (mr 28), .ref (mr 29), .ref (mr 30)])), (mr 21, .inl (cy 1, 60, .inl (fun k => nI (tx9 k)))), (mr 24, .inl (cy 1, 20, .inl (fun k => nI (nn2_6 k)))), (mr 25, .inl (cy 1, 5, .inl (fun k => nI (nz2_7 k)))), (mr 0, .inl (cy 1, 20, .inl (fun k => nI (nn2_6 k)))), (mr 1, .inl (cy 1, 5, .inl (fun k => nI (nz2_7 k)))), (mr 2, .inl (cy 1, 5, .inl (fun k => nI ((fun _ => 0) k)))), (mr 11, .inl (cy 1, 24, .inl rl9)), (mr 12, .inl (cy 1, 24, .inl fa9)), (mr 13, .inl (cy 1, 24, .inl ca9)), (mr 14, .inl (cy 1, 24, .inl dc9)), (mr 3, .inl (cy 1, 5, .inl (fun k => nI (st9 k))))]) hw0 tyX10 tyX10_ok nmX10 0 rfl rfl 29 (by decide) hw8 rfl (by decide +kernel) rfl rfl (Nat.le_of_ble_eq_true rfl) rfl dX10_head_105 (q := 108) rfl ?_
                      refine x_aload_n C dX10_head_108 (q := 109) rfl rfl 0 rfl ?_
                      refine x_iconst C dX10_head_109 (q := 110) rfl (v := (-1)) (by decide) ?_
                      refine x_put C (ci := 9) (ty := .int) (ws' := [(mo, .inr (9, [.int (nI m2_3), .int (nI 0), .int (nI smp), .int ((-1)), .ref (mr 0), .ref (mr 1), .ref (mr 2), .ref (mr 3), .ref (mr 4), .ref (mr 5), .ref (mr 6), .ref (mr 7), .ref (mr 8), .ref (mr 9), .int (nI mk), .int (nI rs), .ref (mr 10), .ref (mr 11), .ref (mr 12), .ref (mr 13), .ref (mr 14), .ref (mr 15), .ref (mr 16), .ref (mr 17), .ref (mr 18), .ref (mr 19), .ref (mr 20), .int (nI 0), .int (nI 0), .int (nI 0), .ref (mr 21), .int (nI 0), .ref (mr 22), .int (nI ik), .int (j0), .int (j1), .ref (mr 23), .int (j2), .ref (mr 24), .ref (mr 25), .int (nI m2_3), .ref (mr 26), .int (j4), .ref (mr 27), .ref (mr 28), .ref (mr 29), .ref (mr 30)])), (mr 21, .inl (cy 1, 60, .inl (fun k => nI (tx9 k)))), (mr 24, .inl (cy 1, 20, .inl (fun k => nI (nn2_6 k)))), (mr 25, .inl (cy 1, 5, .inl (fun k => nI (nz2_7 k)))), (mr 0, .inl (cy 1, 20, .inl (fun k => nI (nn2_6 k)))), (mr 1, .inl (cy 1, 5, .inl (fun k => nI (nz2_7 k)))), (mr 2, .inl (cy 1, 5, .inl (fun k => nI ((fun _ => 0) k)))), (mr 11, .inl (cy 1, 24, .inl rl9)), (mr 12, .inl (cy 1, 24, .inl fa9)), (mr 13, .inl (cy 1, 24, .inl ca9)), (mr 14, .inl (cy 1, 24, .inl dc9)), (mr 3, .inl (cy 1, 5, .inl (fun k => nI (st9 k))))]) hw0 tyX10 tyX10_ok nmX10 0 rfl rfl 3 (by decide) hw9 rfl (by decide +kernel) rfl rfl (Nat.le_of_ble_eq_true rfl) rfl dX10_head_110 (q := 113) rfl ?_
                      refine x_aload_n C dX10_head_113 (q := 114) rfl rfl 0 rfl ?_
                      refine x_callV C (roW := []) (roR := []) (c_X10_afresh l D cy mo mr m2_3 0 smp mk rs 0 0 0 0 ik (-1) j0 j1 j2 (nI m2_3) j4 rl9 fa9 ca9 dc9 st9 ) (cwV 0 C.2.2.2.2.1 gX10_head_X10_afresh rfl rfl rfl (by decide +kernel) (by rw [hR]; exact ⟨Nat.le_of_ble_eq_true rfl, Nat.le_of_ble_eq_true rfl⟩)) [0, 7, 8, 9, 10, 11] [] rfl (by decide) rfl (by decide) xro_nil (List.mem_of_getElem? (i := 0) rfl) (ci := 9) rfl xT_bl (fun _ _ _ _ _ _ _ => trivial) rfl rfl dX10_head_114 rfl rfl (Nat.le_of_ble_eq_true rfl) (q := 117) rfl (k' := 0) rfl (n' := 0) rfl (by rw [hR]; exact ⟨Nat.le_of_ble_eq_true rfl, Nat.le_of_ble_eq_true rfl⟩) (fun v17 w17 hp17 => ?_)
                      obtain ⟨rfl, rfl⟩ := hp17
                      refine x_ws (ws' := [(mo, .inr (9, [.int (nI m2_3), .int (nI 0), .int (nI smp), .int (-1), .ref (mr 0), .ref (mr 1), .ref (mr 2), .ref (mr 3), .ref (mr 4), .ref (mr 5), .ref (mr 6), .ref (mr 7), .ref (mr 8), .ref (mr 9), .int (nI 0), .int (nI 0), .ref (mr 10), .ref (mr 11), .ref (mr 12), .ref (mr 13), .ref (mr 14), .ref (mr 15), .ref (mr 16), .ref (mr 17), .ref (mr 18), .ref (mr 19), .ref (mr 20), .int (nI 0), .int (nI 0), .int (nI 0), .ref (mr 21), .int (nI 0), .ref (mr 22), .int (nI ik), .int (j0), .int (j1), .ref (mr 23), .int (j2), .ref (mr 24), .ref (mr 25), .int (nI m2_3), .ref (mr 26), .int (j4), .ref (mr 27), .ref (mr 28), .ref (mr 29), .ref (mr 30)])), (mr 21, .inl (cy 1, 60, .inl (fun k => nI (tx9 k)))), (mr 24, .inl (cy 1, 20, .inl (fun k => nI (nn2_6 k)))), (mr 25, .inl (cy 1, 5, .inl (fun k => nI (nz2_7 k)))), (mr 0, .inl (cy 1, 20, .inl (fun k => nI (nn2_6 k)))), (mr 1, .inl (cy 1, 5, .inl (fun k => nI (nz2_7 k)))), (mr 2, .inl (cy 1, 5, .inl (fun k => nI ((fun _ => 0) k)))), (mr 11, .inl (cy 1, 24, .inl (fun _ => (-5 : Int32)))), (mr 12, .inl (cy 1, 24, .inl (fun _ => (-5 : Int32)))), (mr 13, .inl (cy 1, 24, .inl (fun _ => (-5 : Int32)))), (mr 14, .inl (cy 1, 24, .inl (fun _ => (-5 : Int32)))), (mr 3, .inl (cy 1, 5, .inl (fun k => nI ((fun _ => 0) k))))]) rfl ?_
                      refine x_aload_n C dX10_head_117 (q := 118) rfl rfl 0 rfl ?_
                      refine x_get C (ci := 9) (v := .int (nI m2_3)) hw0 0 rfl rfl 0 (by decide) hw3 rfl dX10_head_118 (q := 121) rfl ?_
                      refine x_iret C hA hQ hr dX10_head_121 (Nat.le_of_ble_eq_true rfl) ?_
                      refine Or.inr ⟨m2_3, ss2_4, zs2_5, nn2_6, nz2_7, nz2_7, rfl, rfl, ?_, hc9, hc10, hc11, hc12, hc13⟩
                      rw [show (-1 : Int) = r_2.toInt by omega]
                      exact hc8
                  · first
                    | (exfalso; omega)
                    |
                      refine x_aload_n C dX10_head_63 (q := 64) rfl rfl 0 rfl ?_
                      refine x_get C (ci := 9) (v := .ref (mr 1)) hw0 0 rfl rfl 5 (by decide) hw10 rfl dX10_head_64 (q := 67) rfl ?_
                      refine x_iload_n C dX10_head_67 (q := 68) rfl rfl 1 rfl ?_
                      refine x_aload_n C dX10_head_68 (q := 69) rfl rfl 0 rfl ?_
                      refine x_get C (ci := 9) (v := .ref (mr 25)) hw0 0 rfl rfl 39 (by decide) hw11 rfl dX10_head_69 (q := 72) rfl ?_
                      refine x_iload_n C dX10_head_72 (q := 73) rfl rfl 1 rfl ?_
                      have hb18 := hc12 i
                      refine x_iald C (j := i) (v := nI (nz2_7 i)) 3 rfl (nI_toInt (by omega)) (by omega) rfl dX10_head_73 (q := 74) rfl ?_
                      refine x_iast C (ws' := [(mo, .inr (9, [.int (nI m2_3), .int (nI lc), .int (nI smp), .int (ky), .ref (mr 0), .ref (mr 1), .ref (mr 2), .ref (mr 3), .ref (mr 4), .ref (mr 5), .ref (mr 6), .ref (mr 7), .ref (mr 8), .ref (mr 9), .int (nI mk), .int (nI rs), .ref (mr 10), .ref (mr 11), .ref (mr 12), .ref (mr 13), .ref (mr 14), .ref (mr 15), .ref (mr 16), .ref (mr 17), .ref (mr 18), .ref (mr 19), .ref (mr 20), .int (nI nse), .int (nI npa), .int (nI nbo), .ref (mr 21), .int (nI 0), .ref (mr 22), .int (nI ik), .int (j0), .int (j1), .ref (mr 23), .int (j2), .ref (mr 24), .ref (mr 25), .int (nI m2_3), .ref (mr 26), .int (j4), .ref (mr 27), .ref (mr 28), .ref (mr 29), .ref (mr 30)])), (mr 21, .inl (cy 1, 60, .inl (fun k => nI (tx9 k)))), (mr 24, .inl (cy 1, 20, .inl (fun k => nI (nn2_6 k)))), (mr 25, .inl (cy 1, 5, .inl (fun k => nI (nz2_7 k)))), (mr 0, .inl (cy 1, 20, .inl (fun k => nI (nn2_6 k)))), (mr 1, .inl (cy 1, 5, .inl (fun k => nI ((va_up qs i (nz2_7 i)) k)))), (mr 2, .inl (cy 1, 5, .inl (fun k => nI (qt k)))), (mr 11, .inl (cy 1, 24, .inl rl9)), (mr 12, .inl (cy 1, 24, .inl fa9)), (mr 13, .inl (cy 1, 24, .inl ca9)), (mr 14, .inl (cy 1, 24, .inl dc9)), (mr 3, .inl (cy 1, 5, .inl (fun k => nI (st9 k))))]) 5 rfl (j := i) (nI_toInt (by omega)) (by omega) (xup_n qs i (nz2_7 i)) rfl dX10_head_74 (q := 75) rfl ?_
                      refine x_aload_n C dX10_head_75 (q := 76) rfl rfl 0 rfl ?_
                      refine x_get C (ci := 9) (v := .ref (mr 2)) hw0 0 rfl rfl 6 (by decide) hw12 rfl dX10_head_76 (q := 79) rfl ?_
                      refine x_iload_n C dX10_head_79 (q := 80) rfl rfl 1 rfl ?_
                      refine x_iconst C dX10_head_80 (q := 81) rfl (v := nI 0) (by decide) ?_
                      refine x_iast C (ws' := [(mo, .inr (9, [.int (nI m2_3), .int (nI lc), .int (nI smp), .int (ky), .ref (mr 0), .ref (mr 1), .ref (mr 2), .ref (mr 3), .ref (mr 4), .ref (mr 5), .ref (mr 6), .ref (mr 7), .ref (mr 8), .ref (mr 9), .int (nI mk), .int (nI rs), .ref (mr 10), .ref (mr 11), .ref (mr 12), .ref (mr 13), .ref (mr 14), .ref (mr 15), .ref (mr 16), .ref (mr 17), .ref (mr 18), .ref (mr 19), .ref (mr 20), .int (nI nse), .int (nI npa), .int (nI nbo), .ref (mr 21), .int (nI 0), .ref (mr 22), .int (nI ik), .int (j0), .int (j1), .ref (mr 23), .int (j2), .ref (mr 24), .ref (mr 25), .int (nI m2_3), .ref (mr 26), .int (j4), .ref (mr 27), .ref (mr 28), .ref (mr 29), .ref (mr 30)])), (mr 21, .inl (cy 1, 60, .inl (fun k => nI (tx9 k)))), (mr 24, .inl (cy 1, 20, .inl (fun k => nI (nn2_6 k)))), (mr 25, .inl (cy 1, 5, .inl (fun k => nI (nz2_7 k)))), (mr 0, .inl (cy 1, 20, .inl (fun k => nI (nn2_6 k)))), (mr 1, .inl (cy 1, 5, .inl (fun k => nI ((va_up qs i (nz2_7 i)) k)))), (mr 2, .inl (cy 1, 5, .inl (fun k => nI ((va_up qt i 0) k)))), (mr 11, .inl (cy 1, 24, .inl rl9)), (mr 12, .inl (cy 1, 24, .inl fa9)), (mr 13, .inl (cy 1, 24, .inl ca9)), (mr 14, .inl (cy 1, 24, .inl dc9)), (mr 3, .inl (cy 1, 5, .inl (fun k => nI (st9 k))))]) 6 rfl (j := i) (nI_toInt (by omega)) (by omega) (xup_n qt i 0) rfl dX10_head_81 (q := 82) rfl ?_
                      refine x_iinc C (L' := [(2, .int (nI (i + 1))), (0, .ref mo)]) dX10_head_82 (q := 85) rfl 1 rfl (v := nI (i + 1)) (nI_add i 1) (by decide) rfl ?_
                      refine x_goto C (tgt := 58) dX10_head_85 (by decide) ?_
                      refine x_L (L' := [(0, .ref mo), (2, .int (nI (i + 1)))]) [1, 0] rfl ?_
                      exact ih58 (i + 1) (va_up qs i (nz2_7 i)) (va_up qt i 0) (by first | omega | assumption) (by intro j hj; by_cases h9 : j = i; (subst h9; exact va_up_eq); (rw [va_up_ne' h9]; exact hqs j (by omega))) (by intro j hj; by_cases h9 : j = i; (subst h9; exact va_up_eq); (rw [va_up_ne' h9]; exact hqt j (by omega))) (by omega)
              refine x_L (L' := [(0, .ref mo), (2, .int (nI 0))]) [1, 0] rfl ?_
              exact cut58 (5 - 0 + 1) 0 ns9 tl9 (by first | omega | assumption) (by intro j hj; omega) (by intro j hj; omega) (by omega)
          · first
            | (exfalso; omega)
            |
              refine x_aload_n C dX10_head_38 (q := 39) rfl rfl 0 rfl ?_
              refine x_get C (ci := 9) (v := .ref (mr 0)) hw0 0 rfl rfl 4 (by decide) hw4 rfl dX10_head_39 (q := 42) rfl ?_
              refine x_iload_n C dX10_head_42 (q := 43) rfl rfl 1 rfl ?_
              refine x_aload_n C dX10_head_43 (q := 44) rfl rfl 0 rfl ?_
              refine x_get C (ci := 9) (v := .ref (mr 24)) hw0 0 rfl rfl 38 (by decide) hw13 rfl dX10_head_44 (q := 47) rfl ?_
              refine x_iload_n C dX10_head_47 (q := 48) rfl rfl 1 rfl ?_
              have hb19 := hc11 i
              refine x_iald C (j := i) (v := nI (nn2_6 i)) 2 rfl (nI_toInt (by omega)) (by omega) rfl dX10_head_48 (q := 49) rfl ?_
              refine x_iast C (ws' := [(mo, .inr (9, [.int (nI m2_3), .int (nI lc), .int (nI smp), .int (ky), .ref (mr 0), .ref (mr 1), .ref (mr 2), .ref (mr 3), .ref (mr 4), .ref (mr 5), .ref (mr 6), .ref (mr 7), .ref (mr 8), .ref (mr 9), .int (nI mk), .int (nI rs), .ref (mr 10), .ref (mr 11), .ref (mr 12), .ref (mr 13), .ref (mr 14), .ref (mr 15), .ref (mr 16), .ref (mr 17), .ref (mr 18), .ref (mr 19), .ref (mr 20), .int (nI nse), .int (nI npa), .int (nI nbo), .ref (mr 21), .int (nI 0), .ref (mr 22), .int (nI ik), .int (j0), .int (j1), .ref (mr 23), .int (j2), .ref (mr 24), .ref (mr 25), .int (nI m2_3), .ref (mr 26), .int (j4), .ref (mr 27), .ref (mr 28), .ref (mr 29), .ref (mr 30)])), (mr 21, .inl (cy 1, 60, .inl (fun k => nI (tx9 k)))), (mr 24, .inl (cy 1, 20, .inl (fun k => nI (nn2_6 k)))), (mr 25, .inl (cy 1, 5, .inl (fun k => nI (nz2_7 k)))), (mr 0, .inl (cy 1, 20, .inl (fun k => nI ((va_up qn i (nn2_6 i)) k)))), (mr 1, .inl (cy 1, 5, .inl (fun k => nI (ns9 k)))), (mr 2, .inl (cy 1, 5, .inl (fun k => nI (tl9 k)))), (mr 11, .inl (cy 1, 24, .inl rl9)), (mr 12, .inl (cy 1, 24, .inl fa9)), (mr 13, .inl (cy 1, 24, .inl ca9)), (mr 14, .inl (cy 1, 24, .inl dc9)), (mr 3, .inl (cy 1, 5, .inl (fun k => nI (st9 k))))]) 4 rfl (j := i) (nI_toInt (by omega)) (by omega) (xup_n qn i (nn2_6 i)) rfl dX10_head_49 (q := 50) rfl ?_
              refine x_iinc C (L' := [(2, .int (nI (i + 1))), (0, .ref mo)]) dX10_head_50 (q := 53) rfl 1 rfl (v := nI (i + 1)) (nI_add i 1) (by decide) rfl ?_
              refine x_goto C (tgt := 29) dX10_head_53 (by decide) ?_
              refine x_L (L' := [(0, .ref mo), (2, .int (nI (i + 1)))]) [1, 0] rfl ?_
              exact ih29 (i + 1) (va_up qn i (nn2_6 i)) (by first | omega | assumption) (by intro j hj; by_cases h9 : j = i; (subst h9; exact va_up_eq); (rw [va_up_ne' h9]; exact hqn j (by omega))) (by omega)
      refine x_L (L' := [(0, .ref mo), (2, .int (nI 0))]) [2, 0] rfl ?_
      exact cut29 (20 - 0 + 1) 0 nm9 (by first | omega | assumption) (by intro j hj; omega) (by omega)
  · first
    | (exfalso; omega)
    |
      refine x_bipush C dX10_head_14 (q := 16) rfl (v := (-10)) (by decide) ?_
      refine x_iload_n C dX10_head_16 (q := 17) rfl rfl 0 rfl ?_
      refine x_isub C dX10_head_17 (q := 18) rfl (z := ((-10)) - r_2) (rfl) ?_
      refine x_iret C hA hQ hr dX10_head_18 (Nat.le_of_ble_eq_true rfl) ?_
      refine Or.inl ⟨(-10) - r_2, m2_3, ss2_4, zs2_5, nn2_6, nz2_7, r_2.toInt, rfl, rfl, hc8, by omega, xi_sub10 (by omega), hc11, hc12⟩

set_option maxHeartbeats 4000000 in
set_option maxRecDepth 100000 in
/-- wrongOfLine -/
theorem c_X10_wrongOfLine (l : Launch) (D : va_G) (cy : Nat → ClassId) (mo : Nat) (mr : Nat → Nat) (cols : Nat) (lc : Nat) (smp : Nat) (mk : Nat) (rs : Nat) (nse : Nat) (npa : Nat) (nbo : Nat) (tn : Nat) (ik : Nat) (ky : Int32) (j0 : Int32) (j1 : Int32) (j2 : Int32) (j3 : Int32) (j4 : Int32) (tx9 : Nat → Nat) (htn : tn ≤ 60) (htx : ∀ k, tx9 k < 128) : xMet l D cy xT yX10_wrongOfLine wsX10_wrongOfLine ({ frames := 2, cells := 0, slots := 0, locals := 200 } : Room) [.ref mo] [(mo, .inr (9, [.int (nI cols), .int (nI lc), .int (nI smp), .int (ky), .ref (mr 0), .ref (mr 1), .ref (mr 2), .ref (mr 3), .ref (mr 4), .ref (mr 5), .ref (mr 6), .ref (mr 7), .ref (mr 8), .ref (mr 9), .int (nI mk), .int (nI rs), .ref (mr 10), .ref (mr 11), .ref (mr 12), .ref (mr 13), .ref (mr 14), .ref (mr 15), .ref (mr 16), .ref (mr 17), .ref (mr 18), .ref (mr 19), .ref (mr 20), .int (nI nse), .int (nI npa), .int (nI nbo), .ref (mr 21), .int (nI tn), .ref (mr 22), .int (nI ik), .int (j0), .int (j1), .ref (mr 23), .int (j2), .ref (mr 24), .ref (mr 25), .int (j3), .ref (mr 26), .int (j4), .ref (mr 27), .ref (mr 28), .ref (mr 29), .ref (mr 30)])), (mr 21, .inl (cy 1, 60, .inl (fun k => nI (tx9 k))))] [] (fun (v9 : Option Value) (w9 : va_W) => (∃ r : Int32, v9 = some (.int (r)) ∧ w9 = [(mo, .inr (9, [.int (nI cols), .int (nI lc), .int (nI smp), .int (ky), .ref (mr 0), .ref (mr 1), .ref (mr 2), .ref (mr 3), .ref (mr 4), .ref (mr 5), .ref (mr 6), .ref (mr 7), .ref (mr 8), .ref (mr 9), .int (nI mk), .int (nI rs), .ref (mr 10), .ref (mr 11), .ref (mr 12), .ref (mr 13), .ref (mr 14), .ref (mr 15), .ref (mr 16), .ref (mr 17), .ref (mr 18), .ref (mr 19), .ref (mr 20), .int (nI nse), .int (nI npa), .int (nI nbo), .ref (mr 21), .int (nI tn), .ref (mr 22), .int (nI ik), .int (j0), .int (j1), .ref (mr 23), .int (j2), .ref (mr 24), .ref (mr 25), .int (j3), .ref (mr 26), .int (j4), .ref (mr 27), .ref (mr 28), .ref (mr 29), .ref (mr 30)])), (mr 21, .inl (cy 1, 60, .inl (fun k => nI (tx9 k))))] ∧ r.toInt = lfA tx9 tn)) := by
  refine xMet_of (cc := cX10_wrongOfLine) (maxL := 3) (ret := (some .int)) (by decide) rfl (Nat.le_of_ble_eq_true rfl) (fun p e s m args below meth c A R Q hA hR hQ C hr hnm hro hX => ?_)
  have hw0 : ∀ w ∈ u_ws RX10 TX10 47, w ∈ wsX10_wrongOfLine := by decide +kernel
  have hw1 : Cond.fieldLink RX10 178 (TX10 31).1 (TX10 31).2.1 (TX10 31).2.2.1 ∈ wsX10_wrongOfLine := by decide +kernel
  have hw2 : Cond.fieldLink RX10 83 (TX10 30).1 (TX10 30).2.1 (TX10 30).2.2.1 ∈ wsX10_wrongOfLine := by decide +kernel
  have hw3 : Jvm.Cond.constantLong RX10 202 (32) ∈ wsX10_wrongOfLine := by decide +kernel
  have hw4 : Jvm.Cond.constantLong RX10 204 (126) ∈ wsX10_wrongOfLine := by decide +kernel
  refine x_L (L' := [(0, .ref mo)]) [0] rfl ?_
  refine x_iconst C dX10_wrongOfLine_0 (q := 1) rfl (v := nI 0) (by decide) ?_
  refine x_istore_n C (L' := [(1, .int (nI 0)), (0, .ref mo)]) dX10_wrongOfLine_1 (q := 2) rfl rfl (by decide) rfl ?_
  refine x_iconst C dX10_wrongOfLine_2 (q := 3) rfl (v := nI 0) (by decide) ?_
  refine x_istore_n C (L' := [(2, .int (nI 0)), (1, .int (nI 0)), (0, .ref mo)]) dX10_wrongOfLine_3 (q := 4) rfl rfl (by decide) rfl ?_
  have cut4 : ∀ (fuel : Nat) (ln : Nat) (p0 : Nat), (p0 ≤ tn) → (ln ≤ 12) → (lfA tx9 tn = lfF tx9 tn (tn - p0) ln p0) → tn - p0 < fuel → xG p l e R s m args below meth c Q D A 3 [(mo, .inr (9, [.int (nI cols), .int (nI lc), .int (nI smp), .int (ky), .ref (mr 0), .ref (mr 1), .ref (mr 2), .ref (mr 3), .ref (mr 4), .ref (mr 5), .ref (mr 6), .ref (mr 7), .ref (mr 8), .ref (mr 9), .int (nI mk), .int (nI rs), .ref (mr 10), .ref (mr 11), .ref (mr 12), .ref (mr 13), .ref (mr 14), .ref (mr 15), .ref (mr 16), .ref (mr 17), .ref (mr 18), .ref (mr 19), .ref (mr 20), .int (nI nse), .int (nI npa), .int (nI nbo), .ref (mr 21), .int (nI tn), .ref (mr 22), .int (nI ik), .int (j0), .int (j1), .ref (mr 23), .int (j2), .ref (mr 24), .ref (mr 25), .int (j3), .ref (mr 26), .int (j4), .ref (mr 27), .ref (mr 28), .ref (mr 29), .ref (mr 30)])), (mr 21, .inl (cy 1, 60, .inl (fun k => nI (tx9 k))))] 0 0 4 [(0, .ref mo), (1, .int (nI ln)), (2, .int (nI p0))] [] := by
    intro fuel
    induction fuel with
    | zero =>
      intro ln p0 hp0 hl12 he hmu
      exact absurd hmu (Nat.not_lt_zero _)
    | succ fuel ih =>
      intro ln p0 hp0 hl12 he hmu
      have ih4 := ih
      clear ih
      refine x_iload_n C dX10_wrongOfLine_4 (q := 5) rfl rfl 2 rfl ?_
      refine x_aload_n C dX10_wrongOfLine_5 (q := 6) rfl rfl 0 rfl ?_
      refine x_get C (ci := 9) (v := .int (nI tn)) hw0 0 rfl rfl 31 (by decide) hw1 rfl dX10_wrongOfLine_6 (q := 9) rfl ?_
      refine x_icmp_ge C (tgt := 67) dX10_wrongOfLine_9 (by decide) (q := 12) rfl (a := ((p0 : Nat) : Int)) (b := ((tn : Nat) : Int)) (nI_toInt (by omega)) (nI_toInt (by omega)) (fun h1 => ?_) (fun h1 => ?_)
      · first
        | (exfalso; omega)
        |
          refine x_iconst C dX10_wrongOfLine_67 (q := 68) rfl (v := (-1)) (by decide) ?_
          refine x_iret C hA hQ hr dX10_wrongOfLine_68 (Nat.le_of_ble_eq_true rfl) ?_
          refine ⟨_, rfl, rfl, ?_⟩
          rw [he, show tn - p0 = 0 by omega]
          rfl
      · first
        | (exfalso; omega)
        |
          refine x_aload_n C dX10_wrongOfLine_12 (q := 13) rfl rfl 0 rfl ?_
          refine x_get C (ci := 9) (v := .ref (mr 21)) hw0 0 rfl rfl 30 (by decide) hw2 rfl dX10_wrongOfLine_13 (q := 16) rfl ?_
          refine x_iload_n C dX10_wrongOfLine_16 (q := 17) rfl rfl 2 rfl ?_
          have hb2 := htx p0
          refine x_iald C (j := p0) (v := nI (tx9 p0)) 1 rfl (nI_toInt (by omega)) (by omega) rfl dX10_wrongOfLine_17 (q := 18) rfl ?_
          refine x_bipush C dX10_wrongOfLine_18 (q := 20) rfl (v := nI 44) (by decide) ?_
          refine x_icmp_ne C (tgt := 28) dX10_wrongOfLine_20 (by decide) (q := 23) rfl (a := ((tx9 p0 : Nat) : Int)) (b := 44) (nI_toInt (by omega)) rfl (fun h3 => ?_) (fun h3 => ?_)
          · first
            | (exfalso; omega)
            |
              refine x_aload_n C dX10_wrongOfLine_28 (q := 29) rfl rfl 0 rfl ?_
              refine x_get C (ci := 9) (v := .ref (mr 21)) hw0 0 rfl rfl 30 (by decide) hw2 rfl dX10_wrongOfLine_29 (q := 32) rfl ?_
              refine x_iload_n C dX10_wrongOfLine_32 (q := 33) rfl rfl 2 rfl ?_
              have hb4 := htx p0
              refine x_iald C (j := p0) (v := nI (tx9 p0)) 1 rfl (nI_toInt (by omega)) (by omega) rfl dX10_wrongOfLine_33 (q := 34) rfl ?_
              refine x_i2l C dX10_wrongOfLine_34 (q := 35) rfl (v := lN (tx9 p0)) (nI_l (by omega)) ?_
              refine x_ldc2 C (v := lN 32) hw3 dX10_wrongOfLine_35 (q := 38) rfl ?_
              refine x_ldc2 C (v := lN 126) hw4 dX10_wrongOfLine_38 (q := 41) rfl ?_
              refine x_callS C (roW := []) (roR := []) (c_X10_in l D cy (lN (tx9 p0)) (lN 32) (lN 126) (((tx9 p0 : Nat) : Int)) 32 126 (pk_lT (by omega)) rfl rfl) (cwS 3 C.2.2.2.2.1 gX10_wrongOfLine_X10_in rfl rfl rfl (by decide +kernel) (by rw [hR]; exact ⟨Nat.le_of_ble_eq_true rfl, Nat.le_of_ble_eq_true rfl⟩)) [] [] rfl (by decide) rfl (by decide) xro_nil xT_bl (fun _ _ _ _ _ _ _ => trivial) rfl rfl dX10_wrongOfLine_41 rfl rfl (Nat.le_of_ble_eq_true rfl) (q := 44) rfl (k' := 0) rfl (n' := 0) rfl (by rw [hR]; exact ⟨Nat.le_of_ble_eq_true rfl, Nat.le_of_ble_eq_true rfl⟩) (fun v5 w5 hp5 => ?_)
              rcases hp5 with hp5 | hp5
              · skip
                obtain ⟨rfl, rfl, hc6, hc7⟩ := hp5
                refine x_ws (ws' := [(mo, .inr (9, [.int (nI cols), .int (nI lc), .int (nI smp), .int (ky), .ref (mr 0), .ref (mr 1), .ref (mr 2), .ref (mr 3), .ref (mr 4), .ref (mr 5), .ref (mr 6), .ref (mr 7), .ref (mr 8), .ref (mr 9), .int (nI mk), .int (nI rs), .ref (mr 10), .ref (mr 11), .ref (mr 12), .ref (mr 13), .ref (mr 14), .ref (mr 15), .ref (mr 16), .ref (mr 17), .ref (mr 18), .ref (mr 19), .ref (mr 20), .int (nI nse), .int (nI npa), .int (nI nbo), .ref (mr 21), .int (nI tn), .ref (mr 22), .int (nI ik), .int (j0), .int (j1), .ref (mr 23), .int (j2), .ref (mr 24), .ref (mr 25), .int (j3), .ref (mr 26), .int (j4), .ref (mr 27), .ref (mr 28), .ref (mr 29), .ref (mr 30)])), (mr 21, .inl (cy 1, 60, .inl (fun k => nI (tx9 k))))]) (List.append_nil _) ?_
                refine x_if_eq C (tgt := 59) dX10_wrongOfLine_44 (by decide) (q := 47) rfl (a := 1) rfl (fun h8 => (by omega : False).elim) (fun h8 => ?_)
                refine x_iload_n C dX10_wrongOfLine_47 (q := 48) rfl rfl 1 rfl ?_
                refine x_bipush C dX10_wrongOfLine_48 (q := 50) rfl (v := nI 12) (by decide) ?_
                refine x_icmp_ge C (tgt := 59) dX10_wrongOfLine_50 (by decide) (q := 53) rfl (a := ((ln : Nat) : Int)) (b := 12) (nI_toInt (by omega)) rfl (fun h9 => ?_) (fun h9 => ?_)
                · first
                  | (exfalso; omega)
                  |
                    refine x_iload_n C dX10_wrongOfLine_59 (q := 60) rfl rfl 2 rfl ?_
                    refine x_iret C hA hQ hr dX10_wrongOfLine_60 (Nat.le_of_ble_eq_true rfl) ?_
                    refine ⟨_, rfl, rfl, ?_⟩
                    rw [he, show tn - p0 = (tn - (p0 + 1)) + 1 by omega, lfF_x (by omega) (by omega) (by omega)]
                    exact nI_toInt (by omega)
                · first
                  | (exfalso; omega)
                  |
                    refine x_iinc C (L' := [(1, .int (nI (ln + 1))), (0, .ref mo), (2, .int (nI p0))]) dX10_wrongOfLine_53 (q := 56) rfl 1 rfl (v := nI (ln + 1)) (nI_add ln 1) (by decide) rfl ?_
                    refine x_goto C (tgt := 61) dX10_wrongOfLine_56 (by decide) ?_
                    refine x_iinc C (L' := [(2, .int (nI (p0 + 1))), (1, .int (nI (ln + 1))), (0, .ref mo)]) dX10_wrongOfLine_61 (q := 64) rfl 2 rfl (v := nI (p0 + 1)) (nI_add p0 1) (by decide) rfl ?_
                    refine x_goto C (tgt := 4) dX10_wrongOfLine_64 (by decide) ?_
                    refine x_L (L' := [(0, .ref mo), (1, .int (nI (ln + 1))), (2, .int (nI (p0 + 1)))]) [2, 1, 0] rfl ?_
                    exact ih4 (ln + 1) (p0 + 1) (by first | omega | assumption) (by first | omega | assumption) (by rw [he, show tn - p0 = (tn - (p0 + 1)) + 1 by omega]; first | exact lfF_c (by omega) (by omega) | exact lfF_n (by omega) (by omega) (by omega)) (by omega)
              · skip
                obtain ⟨rfl, rfl, hc10⟩ := hp5
                refine x_ws (ws' := [(mo, .inr (9, [.int (nI cols), .int (nI lc), .int (nI smp), .int (ky), .ref (mr 0), .ref (mr 1), .ref (mr 2), .ref (mr 3), .ref (mr 4), .ref (mr 5), .ref (mr 6), .ref (mr 7), .ref (mr 8), .ref (mr 9), .int (nI mk), .int (nI rs), .ref (mr 10), .ref (mr 11), .ref (mr 12), .ref (mr 13), .ref (mr 14), .ref (mr 15), .ref (mr 16), .ref (mr 17), .ref (mr 18), .ref (mr 19), .ref (mr 20), .int (nI nse), .int (nI npa), .int (nI nbo), .ref (mr 21), .int (nI tn), .ref (mr 22), .int (nI ik), .int (j0), .int (j1), .ref (mr 23), .int (j2), .ref (mr 24), .ref (mr 25), .int (j3), .ref (mr 26), .int (j4), .ref (mr 27), .ref (mr 28), .ref (mr 29), .ref (mr 30)])), (mr 21, .inl (cy 1, 60, .inl (fun k => nI (tx9 k))))]) (List.append_nil _) ?_
                refine x_if_eq C (tgt := 59) dX10_wrongOfLine_44 (by decide) (q := 47) rfl (a := 0) rfl (fun h11 => ?_) (fun h11 => (by omega : False).elim)
                refine x_iload_n C dX10_wrongOfLine_59 (q := 60) rfl rfl 2 rfl ?_
                refine x_iret C hA hQ hr dX10_wrongOfLine_60 (Nat.le_of_ble_eq_true rfl) ?_
                refine ⟨_, rfl, rfl, ?_⟩
                rw [he, show tn - p0 = (tn - (p0 + 1)) + 1 by omega, lfF_x (by omega) (by omega) (by omega)]
                exact nI_toInt (by omega)
          · first
            | (exfalso; omega)
            |
              refine x_iconst C dX10_wrongOfLine_23 (q := 24) rfl (v := nI 0) (by decide) ?_
              refine x_istore_n C (L' := [(1, .int (nI 0)), (0, .ref mo), (2, .int (nI p0))]) dX10_wrongOfLine_24 (q := 25) rfl rfl (by decide) rfl ?_
              refine x_goto C (tgt := 61) dX10_wrongOfLine_25 (by decide) ?_
              refine x_iinc C (L' := [(2, .int (nI (p0 + 1))), (1, .int (nI 0)), (0, .ref mo)]) dX10_wrongOfLine_61 (q := 64) rfl 2 rfl (v := nI (p0 + 1)) (nI_add p0 1) (by decide) rfl ?_
              refine x_goto C (tgt := 4) dX10_wrongOfLine_64 (by decide) ?_
              refine x_L (L' := [(0, .ref mo), (1, .int (nI 0)), (2, .int (nI (p0 + 1)))]) [2, 1, 0] rfl ?_
              exact ih4 0 (p0 + 1) (by first | omega | assumption) (by first | omega | assumption) (by rw [he, show tn - p0 = (tn - (p0 + 1)) + 1 by omega]; first | exact lfF_c (by omega) (by omega) | exact lfF_n (by omega) (by omega) (by omega)) (by omega)
  refine x_L (L' := [(0, .ref mo), (1, .int (nI 0)), (2, .int (nI 0))]) [2, 1, 0] rfl ?_
  exact cut4 (tn - 0 + 1) 0 0 (by first | omega | assumption) (by first | omega | assumption) (by rfl) (by omega)
