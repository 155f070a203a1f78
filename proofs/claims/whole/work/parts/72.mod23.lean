
theorem va_cpy_0 {α : Type} {f g : Nat → α} {sp dp : Nat} : va_cpy f g sp dp 0 = g := funext fun k => va_cpy_out (by omega)
theorem va_cpy_s {α : Type} {f g : Nat → α} {sp dp n : Nat} {x : α} (h : x = f (sp + n)) : va_up (va_cpy f g sp dp n) (dp + n) x = va_cpy f g sp dp (n + 1) := funext fun k => by
  by_cases e : k = dp + n
  · rw [e, va_up_eq, va_cpy_in (by omega), h]
  · rw [va_up_ne' e]
    unfold va_cpy
    by_cases c : dp ≤ k ∧ k < dp + n
    · rw [if_pos c, if_pos (by omega)]
    · rw [if_neg c, if_neg (by omega)]

set_option maxHeartbeats 600000 in
set_option maxRecDepth 100000 in
/-- shift -/
theorem c_X10_shift (l : Launch) (D : va_G) (cy : Nat → ClassId) (mo : Nat) (mr : Nat → Nat) (cols : Nat) (lc : Nat) (smp : Nat) (mk : Nat) (rs : Nat) (nse : Nat) (npa : Nat) (nbo : Nat) (tn : Nat) (ik : Nat) (ky : Int32) (j0 : Int32) (j1 : Int32) (j2 : Int32) (j3 : Int32) (j4 : Int32) (tso : Nat → Int32) (tsz : Nat → Nat) (tq9 : Nat → Option Nat) (ta : Nat) (f : Nat → Int64) (ta2 : Nat) (f2 : Nat → Int64) (mv : Nat → Int64) (x : Int32) (y : Int32) (z : Int32) (w : Int32) (v : Int32) (hx0 : 0 ≤ x.toInt) (hx6 : x.toInt < 6) (htq : tq9 x.toInt.toNat = some ta) (htz : ∀ k, tsz k ≤ 60) (hts : ∀ k, -1 ≤ (tso k).toInt ∧ (tso k).toInt ≤ 4) (htn : ∀ k, (tso k).toInt = -1 → tsz k = 0) (hz0 : 0 ≤ z.toInt) (hz6 : z.toInt < 6) (htq2 : tq9 z.toInt.toNat = some ta2) : xMet l D cy xT yX10_shift wsX10_shift ({ frames := 4, cells := 0, slots := 0, locals := 500 } : Room) [.ref mo, .int (x), .int (y), .int (z), .int (w), .int (v)] [(mo, .inr (9, [.int (nI cols), .int (nI lc), .int (nI smp), .int (ky), .ref (mr 0), .ref (mr 1), .ref (mr 2), .ref (mr 3), .ref (mr 4), .ref (mr 5), .ref (mr 6), .ref (mr 7), .ref (mr 8), .ref (mr 9), .int (nI mk), .int (nI rs), .ref (mr 10), .ref (mr 11), .ref (mr 12), .ref (mr 13), .ref (mr 14), .ref (mr 15), .ref (mr 16), .ref (mr 17), .ref (mr 18), .ref (mr 19), .ref (mr 20), .int (nI nse), .int (nI npa), .int (nI nbo), .ref (mr 21), .int (nI tn), .ref (mr 22), .int (nI ik), .int (j0), .int (j1), .ref (mr 23), .int (j2), .ref (mr 24), .ref (mr 25), .int (j3), .ref (mr 26), .int (j4), .ref (mr 27), .ref (mr 28), .ref (mr 29), .ref (mr 30)])), (mr 28, .inl (cy 1, 6, .inl tso)), (mr 29, .inl (cy 1, 6, .inl (fun k => nI (tsz k)))), (mr 27, .inl (cy 6, 6, .inr (.inr (.inr (.inr tq9))))), (mr 30, .inl (cy 2, 60, .inr (.inl mv))), (ta, .inl (cy 2, 60, .inr (.inl f))), (ta2, .inl (cy 2, 60, .inr (.inl f2)))] [] (fun (v9 : Option Value) (w9 : va_W) => (∃ mv2 : Nat → Int64, v9 = some (.int (shiA (tso x.toInt.toNat, tsz x.toInt.toNat, f) (tso z.toInt.toNat, tsz z.toInt.toNat, f2) y w v)) ∧ w9 = [(mo, .inr (9, [.int (nI cols), .int (nI lc), .int (nI smp), .int (ky), .ref (mr 0), .ref (mr 1), .ref (mr 2), .ref (mr 3), .ref (mr 4), .ref (mr 5), .ref (mr 6), .ref (mr 7), .ref (mr 8), .ref (mr 9), .int (nI mk), .int (nI rs), .ref (mr 10), .ref (mr 11), .ref (mr 12), .ref (mr 13), .ref (mr 14), .ref (mr 15), .ref (mr 16), .ref (mr 17), .ref (mr 18), .ref (mr 19), .ref (mr 20), .int (nI nse), .int (nI npa), .int (nI nbo), .ref (mr 21), .int (nI tn), .ref (mr 22), .int (nI ik), .int (j0), .int (j1), .ref (mr 23), .int (j2), .ref (mr 24), .ref (mr 25), .int (j3), .ref (mr 26), .int (j4), .ref (mr 27), .ref (mr 28), .ref (mr 29), .ref (mr 30)])), (mr 28, .inl (cy 1, 6, .inl tso)), (mr 29, .inl (cy 1, 6, .inl (fun k => nI (tsz k)))), (mr 27, .inl (cy 6, 6, .inr (.inr (.inr (.inr tq9))))), (mr 30, .inl (cy 2, 60, .inr (.inl mv2))), (ta, .inl (cy 2, 60, .inr (.inl f))), (ta2, .inl (cy 2, 60, .inr (.inl (shiN (tso x.toInt.toNat, tsz x.toInt.toNat, f) (tso z.toInt.toNat, tsz z.toInt.toNat, f2) y w v))))])) := by
  refine xMet_of (cc := cX10_shift) (maxL := 7) (ret := (some .int)) (by decide) rfl (Nat.le_of_ble_eq_true rfl) (fun p e s m args below meth c A R Q hA hR hQ C hr hnm hro hX => ?_)
  have hw0 : ∀ w ∈ u_ws RX10 TX10 47, w ∈ wsX10_shift := by decide +kernel
  have hw1 : Cond.fieldLink RX10 106 (TX10 44).1 (TX10 44).2.1 (TX10 44).2.2.1 ∈ wsX10_shift := by decide +kernel
  have hw2 : Cond.fieldLink RX10 109 (TX10 45).1 (TX10 45).2.1 (TX10 45).2.2.1 ∈ wsX10_shift := by decide +kernel
  have hw3 : Cond.fieldLink RX10 103 (TX10 43).1 (TX10 43).2.1 (TX10 43).2.2.1 ∈ wsX10_shift := by decide +kernel
  have hw4 : Cond.fieldLink RX10 112 (TX10 46).1 (TX10 46).2.1 (TX10 46).2.2.1 ∈ wsX10_shift := by decide +kernel
  refine x_L (L' := [(0, .ref mo), (1, .int (x)), (2, .int (y)), (3, .int (z)), (4, .int (w)), (5, .int (v))]) [0, 1, 2, 3, 4, 5] rfl ?_
  have hxs := hts x.toInt.toNat
  have hxz := htz x.toInt.toNat
  have hzs := hts z.toInt.toNat
  have hzz := htz z.toInt.toNat
  have hvl := v.toInt_lt
  have hvl2 := v.le_toInt
  refine x_iload_n C dX10_shift_0 (q := 1) rfl rfl 1 rfl ?_
  refine x_callS C (roW := []) (roR := []) (c_X10_isTape l D cy x ) (cwS 1 C.2.2.2.2.1 gX10_shift_X10_isTape rfl rfl rfl (by decide +kernel) (by rw [hR]; exact ⟨Nat.le_of_ble_eq_true rfl, Nat.le_of_ble_eq_true rfl⟩)) [] [] rfl (by decide) rfl (by decide) xro_nil xT_bl (fun _ _ _ _ _ _ _ => trivial) rfl rfl dX10_shift_1 rfl rfl (Nat.le_of_ble_eq_true rfl) (q := 4) rfl (k' := 0) rfl (n' := 0) rfl (by rw [hR]; exact ⟨Nat.le_of_ble_eq_true rfl, Nat.le_of_ble_eq_true rfl⟩) (fun v1 w1 hp1 => ?_)
  rcases hp1 with hp1 | hp1
  · skip
    obtain ⟨rfl, rfl, hc2, hc3⟩ := hp1
    refine x_ws (ws' := [(mo, .inr (9, [.int (nI cols), .int (nI lc), .int (nI smp), .int (ky), .ref (mr 0), .ref (mr 1), .ref (mr 2), .ref (mr 3), .ref (mr 4), .ref (mr 5), .ref (mr 6), .ref (mr 7), .ref (mr 8), .ref (mr 9), .int (nI mk), .int (nI rs), .ref (mr 10), .ref (mr 11), .ref (mr 12), .ref (mr 13), .ref (mr 14), .ref (mr 15), .ref (mr 16), .ref (mr 17), .ref (mr 18), .ref (mr 19), .ref (mr 20), .int (nI nse), .int (nI npa), .int (nI nbo), .ref (mr 21), .int (nI tn), .ref (mr 22), .int (nI ik), .int (j0), .int (j1), .ref (mr 23), .int (j2), .ref (mr 24), .ref (mr 25), .int (j3), .ref (mr 26), .int (j4), .ref (mr 27), .ref (mr 28), .ref (mr 29), .ref (mr 30)])), (mr 28, .inl (cy 1, 6, .inl tso)), (mr 29, .inl (cy 1, 6, .inl (fun k => nI (tsz k)))), (mr 27, .inl (cy 6, 6, .inr (.inr (.inr (.inr tq9))))), (mr 30, .inl (cy 2, 60, .inr (.inl mv))), (ta, .inl (cy 2, 60, .inr (.inl f))), (ta2, .inl (cy 2, 60, .inr (.inl f2)))]) (List.append_nil _) ?_
    refine x_if_eq C (tgt := 14) dX10_shift_4 (by decide) (q := 7) rfl (a := 1) rfl (fun h4 => (by omega : False).elim) (fun h4 => ?_)
    refine x_iload_n C dX10_shift_7 (q := 8) rfl rfl 3 rfl ?_
    refine x_callS C (roW := []) (roR := []) (c_X10_isTape l D cy z ) (cwS 1 C.2.2.2.2.1 gX10_shift_X10_isTape rfl rfl rfl (by decide +kernel) (by rw [hR]; exact ⟨Nat.le_of_ble_eq_true rfl, Nat.le_of_ble_eq_true rfl⟩)) [] [] rfl (by decide) rfl (by decide) xro_nil xT_bl (fun _ _ _ _ _ _ _ => trivial) rfl rfl dX10_shift_8 rfl rfl (Nat.le_of_ble_eq_true rfl) (q := 11) rfl (k' := 0) rfl (n' := 0) rfl (by rw [hR]; exact ⟨Nat.le_of_ble_eq_true rfl, Nat.le_of_ble_eq_true rfl⟩) (fun v5 w5 hp5 => ?_)
    rcases hp5 with hp5 | hp5
    · skip
      obtain ⟨rfl, rfl, hc6, hc7⟩ := hp5
      refine x_ws (ws' := [(mo, .inr (9, [.int (nI cols), .int (nI lc), .int (nI smp), .int (ky), .ref (mr 0), .ref (mr 1), .ref (mr 2), .ref (mr 3), .ref (mr 4), .ref (mr 5), .ref (mr 6), .ref (mr 7), .ref (mr 8), .ref (mr 9), .int (nI mk), .int (nI rs), .ref (mr 10), .ref (mr 11), .ref (mr 12), .ref (mr 13), .ref (mr 14), .ref (mr 15), .ref (mr 16), .ref (mr 17), .ref (mr 18), .ref (mr 19), .ref (mr 20), .int (nI nse), .int (nI npa), .int (nI nbo), .ref (mr 21), .int (nI tn), .ref (mr 22), .int (nI ik), .int (j0), .int (j1), .ref (mr 23), .int (j2), .ref (mr 24), .ref (mr 25), .int (j3), .ref (mr 26), .int (j4), .ref (mr 27), .ref (mr 28), .ref (mr 29), .ref (mr 30)])), (mr 28, .inl (cy 1, 6, .inl tso)), (mr 29, .inl (cy 1, 6, .inl (fun k => nI (tsz k)))), (mr 27, .inl (cy 6, 6, .inr (.inr (.inr (.inr tq9))))), (mr 30, .inl (cy 2, 60, .inr (.inl mv))), (ta, .inl (cy 2, 60, .inr (.inl f))), (ta2, .inl (cy 2, 60, .inr (.inl f2)))]) (List.append_nil _) ?_
      refine x_if_ne C (tgt := 16) dX10_shift_11 (by decide) (q := 14) rfl (a := 1) rfl (fun h8 => ?_) (fun h8 => (by omega : False).elim)
      refine x_aload_n C dX10_shift_16 (q := 17) rfl rfl 0 rfl ?_
      refine x_get C (ci := 9) (v := .ref (mr 28)) hw0 0 rfl rfl 44 (by decide) hw1 rfl dX10_shift_17 (q := 20) rfl ?_
      refine x_iload_n C dX10_shift_20 (q := 21) rfl rfl 1 rfl ?_
      refine x_iald C (j := x.toInt.toNat) (v := tso x.toInt.toNat) 1 rfl (by have h9 := (rfl : (x : Int32).toInt = x.toInt); omega) (by omega) rfl dX10_shift_21 (q := 22) rfl ?_
      refine x_if_lt C (tgt := 34) dX10_shift_22 (by decide) (q := 25) rfl (a := (tso x.toInt.toNat).toInt) rfl (fun h9 => ?_) (fun h9 => ?_)
      · first
        | (exfalso; omega)
        |
          refine x_bipush C dX10_shift_34 (q := 36) rfl (v := (-11)) (by decide) ?_
          refine x_iret C hA hQ hr dX10_shift_36 (Nat.le_of_ble_eq_true rfl) ?_
          have e1 : shiA (tso x.toInt.toNat, tsz x.toInt.toNat, f) (tso z.toInt.toNat, tsz z.toInt.toNat, f2) y w v = (-11) := by
            unfold shiA
            dsimp only
            repeat (first | rw [if_pos (by omega)] | rw [if_neg (by omega)])
          have e2 : shiN (tso x.toInt.toNat, tsz x.toInt.toNat, f) (tso z.toInt.toNat, tsz z.toInt.toNat, f2) y w v = f2 := by
            unfold shiN
            dsimp only
            repeat (first | rw [if_pos (by omega)] | rw [if_neg (by omega)])
          rw [e1, e2]
          exact ⟨_, rfl, rfl⟩
      · first
        | (exfalso; omega)
        |
          refine x_aload_n C dX10_shift_25 (q := 26) rfl rfl 0 rfl ?_
          refine x_get C (ci := 9) (v := .ref (mr 28)) hw0 0 rfl rfl 44 (by decide) hw1 rfl dX10_shift_26 (q := 29) rfl ?_
          refine x_iload_n C dX10_shift_29 (q := 30) rfl rfl 3 rfl ?_
          refine x_iald C (j := z.toInt.toNat) (v := tso z.toInt.toNat) 1 rfl (by have h9 := (rfl : (z : Int32).toInt = z.toInt); omega) (by omega) rfl dX10_shift_30 (q := 31) rfl ?_
          refine x_if_ge C (tgt := 37) dX10_shift_31 (by decide) (q := 34) rfl (a := (tso z.toInt.toNat).toInt) rfl (fun h10 => ?_) (fun h10 => ?_)
          · first
            | (exfalso; omega)
            |
              refine x_aload_n C dX10_shift_37 (q := 38) rfl rfl 0 rfl ?_
              refine x_get C (ci := 9) (v := .ref (mr 28)) hw0 0 rfl rfl 44 (by decide) hw1 rfl dX10_shift_38 (q := 41) rfl ?_
              refine x_iload_n C dX10_shift_41 (q := 42) rfl rfl 1 rfl ?_
              refine x_iald C (j := x.toInt.toNat) (v := tso x.toInt.toNat) 1 rfl (by have h9 := (rfl : (x : Int32).toInt = x.toInt); omega) (by omega) rfl dX10_shift_42 (q := 43) rfl ?_
              refine x_aload_n C dX10_shift_43 (q := 44) rfl rfl 0 rfl ?_
              refine x_get C (ci := 9) (v := .ref (mr 28)) hw0 0 rfl rfl 44 (by decide) hw1 rfl dX10_shift_44 (q := 47) rfl ?_
              refine x_iload_n C dX10_shift_47 (q := 48) rfl rfl 3 rfl ?_
              refine x_iald C (j := z.toInt.toNat) (v := tso z.toInt.toNat) 1 rfl (by have h9 := (rfl : (z : Int32).toInt = z.toInt); omega) (by omega) rfl dX10_shift_48 (q := 49) rfl ?_
              refine x_icmp_eq C (tgt := 55) dX10_shift_49 (by decide) (q := 52) rfl (a := (tso x.toInt.toNat).toInt) (b := (tso z.toInt.toNat).toInt) rfl rfl (fun h11 => ?_) (fun h11 => ?_)
              · first
                | (exfalso; omega)
                |
                  refine x_iload C dX10_shift_55 (q := 57) rfl 5 rfl ?_
                  refine x_if_lt C (tgt := 118) dX10_shift_57 (by decide) (q := 60) rfl (a := v.toInt) rfl (fun h12 => ?_) (fun h12 => ?_)
                  · first
                    | (exfalso; omega)
                    |
                      refine x_bipush C dX10_shift_118 (q := 120) rfl (v := (-13)) (by decide) ?_
                      refine x_iret C hA hQ hr dX10_shift_120 (Nat.le_of_ble_eq_true rfl) ?_
                      have e1 : shiA (tso x.toInt.toNat, tsz x.toInt.toNat, f) (tso z.toInt.toNat, tsz z.toInt.toNat, f2) y w v = (-13) := by
                        unfold shiA
                        dsimp only
                        repeat (first | rw [if_pos (by omega)] | rw [if_neg (by omega)])
                      have e2 : shiN (tso x.toInt.toNat, tsz x.toInt.toNat, f) (tso z.toInt.toNat, tsz z.toInt.toNat, f2) y w v = f2 := by
                        unfold shiN
                        dsimp only
                        repeat (first | rw [if_pos (by omega)] | rw [if_neg (by omega)])
                      rw [e1, e2]
                      exact ⟨_, rfl, rfl⟩
                  · first
                    | (exfalso; omega)
                    |
                      refine x_iload_n C dX10_shift_60 (q := 61) rfl rfl 2 rfl ?_
                      refine x_if_lt C (tgt := 118) dX10_shift_61 (by decide) (q := 64) rfl (a := y.toInt) rfl (fun h13 => ?_) (fun h13 => ?_)
                      · first
                        | (exfalso; omega)
                        |
                          refine x_bipush C dX10_shift_118 (q := 120) rfl (v := (-13)) (by decide) ?_
                          refine x_iret C hA hQ hr dX10_shift_120 (Nat.le_of_ble_eq_true rfl) ?_
                          have e1 : shiA (tso x.toInt.toNat, tsz x.toInt.toNat, f) (tso z.toInt.toNat, tsz z.toInt.toNat, f2) y w v = (-13) := by
                            unfold shiA
                            dsimp only
                            repeat (first | rw [if_pos (by omega)] | rw [if_neg (by omega)])
                          have e2 : shiN (tso x.toInt.toNat, tsz x.toInt.toNat, f) (tso z.toInt.toNat, tsz z.toInt.toNat, f2) y w v = f2 := by
                            unfold shiN
                            dsimp only
                            repeat (first | rw [if_pos (by omega)] | rw [if_neg (by omega)])
                          rw [e1, e2]
                          exact ⟨_, rfl, rfl⟩
                      · first
                        | (exfalso; omega)
                        |
                          refine x_iload C dX10_shift_64 (q := 66) rfl 4 rfl ?_
                          refine x_if_lt C (tgt := 118) dX10_shift_66 (by decide) (q := 69) rfl (a := w.toInt) rfl (fun h14 => ?_) (fun h14 => ?_)
                          · first
                            | (exfalso; omega)
                            |
                              refine x_bipush C dX10_shift_118 (q := 120) rfl (v := (-13)) (by decide) ?_
                              refine x_iret C hA hQ hr dX10_shift_120 (Nat.le_of_ble_eq_true rfl) ?_
                              have e1 : shiA (tso x.toInt.toNat, tsz x.toInt.toNat, f) (tso z.toInt.toNat, tsz z.toInt.toNat, f2) y w v = (-13) := by
                                unfold shiA
                                dsimp only
                                repeat (first | rw [if_pos (by omega)] | rw [if_neg (by omega)])
                              have e2 : shiN (tso x.toInt.toNat, tsz x.toInt.toNat, f) (tso z.toInt.toNat, tsz z.toInt.toNat, f2) y w v = f2 := by
                                unfold shiN
                                dsimp only
                                repeat (first | rw [if_pos (by omega)] | rw [if_neg (by omega)])
                              rw [e1, e2]
                              exact ⟨_, rfl, rfl⟩
                          · first
                            | (exfalso; omega)
                            |
                              refine x_iload C dX10_shift_69 (q := 71) rfl 5 rfl ?_
                              refine x_aload_n C dX10_shift_71 (q := 72) rfl rfl 0 rfl ?_
                              refine x_get C (ci := 9) (v := .ref (mr 29)) hw0 0 rfl rfl 45 (by decide) hw2 rfl dX10_shift_72 (q := 75) rfl ?_
                              refine x_iload_n C dX10_shift_75 (q := 76) rfl rfl 1 rfl ?_
                              have hb15 := htz x.toInt.toNat
                              refine x_iald C (j := x.toInt.toNat) (v := nI (tsz x.toInt.toNat)) 2 rfl (by have h9 := (rfl : (x : Int32).toInt = x.toInt); omega) (by omega) rfl dX10_shift_76 (q := 77) rfl ?_
                              refine x_icmp_gt C (tgt := 118) dX10_shift_77 (by decide) (q := 80) rfl (a := v.toInt) (b := ((tsz x.toInt.toNat : Nat) : Int)) rfl (nI_toInt (by omega)) (fun h16 => ?_) (fun h16 => ?_)
                              · first
                                | (exfalso; omega)
                                |
                                  refine x_bipush C dX10_shift_118 (q := 120) rfl (v := (-13)) (by decide) ?_
                                  refine x_iret C hA hQ hr dX10_shift_120 (Nat.le_of_ble_eq_true rfl) ?_
                                  have e1 : shiA (tso x.toInt.toNat, tsz x.toInt.toNat, f) (tso z.toInt.toNat, tsz z.toInt.toNat, f2) y w v = (-13) := by
                                    unfold shiA
                                    dsimp only
                                    repeat (first | rw [if_pos (by omega)] | rw [if_neg (by omega)])
                                  have e2 : shiN (tso x.toInt.toNat, tsz x.toInt.toNat, f) (tso z.toInt.toNat, tsz z.toInt.toNat, f2) y w v = f2 := by
                                    unfold shiN
                                    dsimp only
                                    repeat (first | rw [if_pos (by omega)] | rw [if_neg (by omega)])
                                  rw [e1, e2]
                                  exact ⟨_, rfl, rfl⟩
                              · first
                                | (exfalso; omega)
                                |
                                  refine x_iload C dX10_shift_80 (q := 82) rfl 5 rfl ?_
                                  refine x_aload_n C dX10_shift_82 (q := 83) rfl rfl 0 rfl ?_
                                  refine x_get C (ci := 9) (v := .ref (mr 29)) hw0 0 rfl rfl 45 (by decide) hw2 rfl dX10_shift_83 (q := 86) rfl ?_
                                  refine x_iload_n C dX10_shift_86 (q := 87) rfl rfl 3 rfl ?_
                                  have hb17 := htz z.toInt.toNat
                                  refine x_iald C (j := z.toInt.toNat) (v := nI (tsz z.toInt.toNat)) 2 rfl (by have h9 := (rfl : (z : Int32).toInt = z.toInt); omega) (by omega) rfl dX10_shift_87 (q := 88) rfl ?_
                                  refine x_icmp_gt C (tgt := 118) dX10_shift_88 (by decide) (q := 91) rfl (a := v.toInt) (b := ((tsz z.toInt.toNat : Nat) : Int)) rfl (nI_toInt (by omega)) (fun h18 => ?_) (fun h18 => ?_)
                                  · first
                                    | (exfalso; omega)
                                    |
                                      refine x_bipush C dX10_shift_118 (q := 120) rfl (v := (-13)) (by decide) ?_
                                      refine x_iret C hA hQ hr dX10_shift_120 (Nat.le_of_ble_eq_true rfl) ?_
                                      have e1 : shiA (tso x.toInt.toNat, tsz x.toInt.toNat, f) (tso z.toInt.toNat, tsz z.toInt.toNat, f2) y w v = (-13) := by
                                        unfold shiA
                                        dsimp only
                                        repeat (first | rw [if_pos (by omega)] | rw [if_neg (by omega)])
                                      have e2 : shiN (tso x.toInt.toNat, tsz x.toInt.toNat, f) (tso z.toInt.toNat, tsz z.toInt.toNat, f2) y w v = f2 := by
                                        unfold shiN
                                        dsimp only
                                        repeat (first | rw [if_pos (by omega)] | rw [if_neg (by omega)])
                                      rw [e1, e2]
                                      exact ⟨_, rfl, rfl⟩
                                  · first
                                    | (exfalso; omega)
                                    |
                                      refine x_iload_n C dX10_shift_91 (q := 92) rfl rfl 2 rfl ?_
                                      refine x_aload_n C dX10_shift_92 (q := 93) rfl rfl 0 rfl ?_
                                      refine x_get C (ci := 9) (v := .ref (mr 29)) hw0 0 rfl rfl 45 (by decide) hw2 rfl dX10_shift_93 (q := 96) rfl ?_
                                      refine x_iload_n C dX10_shift_96 (q := 97) rfl rfl 1 rfl ?_
                                      have hb19 := htz x.toInt.toNat
                                      refine x_iald C (j := x.toInt.toNat) (v := nI (tsz x.toInt.toNat)) 2 rfl (by have h9 := (rfl : (x : Int32).toInt = x.toInt); omega) (by omega) rfl dX10_shift_97 (q := 98) rfl ?_
                                      refine x_iload C dX10_shift_98 (q := 100) rfl 5 rfl ?_
                                      refine x_isub C dX10_shift_100 (q := 101) rfl (z := (nI (tsz x.toInt.toNat)) - v) (rfl) ?_
                                      refine x_icmp_gt C (tgt := 118) dX10_shift_101 (by decide) (q := 104) rfl (a := y.toInt) (b := ((tsz x.toInt.toNat : Nat) : Int) - v.toInt) rfl (xi_sub2 (nI_toInt (by omega)) rfl (by omega) (by omega)) (fun h20 => ?_) (fun h20 => ?_)
                                      · first
                                        | (exfalso; omega)
                                        |
                                          refine x_bipush C dX10_shift_118 (q := 120) rfl (v := (-13)) (by decide) ?_
                                          refine x_iret C hA hQ hr dX10_shift_120 (Nat.le_of_ble_eq_true rfl) ?_
                                          have e1 : shiA (tso x.toInt.toNat, tsz x.toInt.toNat, f) (tso z.toInt.toNat, tsz z.toInt.toNat, f2) y w v = (-13) := by
                                            unfold shiA
                                            dsimp only
                                            repeat (first | rw [if_pos (by omega)] | rw [if_neg (by omega)])
                                          have e2 : shiN (tso x.toInt.toNat, tsz x.toInt.toNat, f) (tso z.toInt.toNat, tsz z.toInt.toNat, f2) y w v = f2 := by
                                            unfold shiN
                                            dsimp only
                                            repeat (first | rw [if_pos (by omega)] | rw [if_neg (by omega)])
                                          rw [e1, e2]
                                          exact ⟨_, rfl, rfl⟩
                                      · first
                                        | (exfalso; omega)
                                        |
                                          refine x_iload C dX10_shift_104 (q := 106) rfl 4 rfl ?_
                                          refine x_aload_n C dX10_shift_106 (q := 107) rfl rfl 0 rfl ?_
                                          refine x_get C (ci := 9) (v := .ref (mr 29)) hw0 0 rfl rfl 45 (by decide) hw2 rfl dX10_shift_107 (q := 110) rfl ?_
                                          refine x_iload_n C dX10_shift_110 (q := 111) rfl rfl 3 rfl ?_
                                          have hb21 := htz z.toInt.toNat
                                          refine x_iald C (j := z.toInt.toNat) (v := nI (tsz z.toInt.toNat)) 2 rfl (by have h9 := (rfl : (z : Int32).toInt = z.toInt); omega) (by omega) rfl dX10_shift_111 (q := 112) rfl ?_
                                          refine x_iload C dX10_shift_112 (q := 114) rfl 5 rfl ?_
                                          refine x_isub C dX10_shift_114 (q := 115) rfl (z := (nI (tsz z.toInt.toNat)) - v) (rfl) ?_
                                          refine x_icmp_le C (tgt := 121) dX10_shift_115 (by decide) (q := 118) rfl (a := w.toInt) (b := ((tsz z.toInt.toNat : Nat) : Int) - v.toInt) rfl (xi_sub2 (nI_toInt (by omega)) rfl (by omega) (by omega)) (fun h22 => ?_) (fun h22 => ?_)
                                          · first
                                            | (exfalso; omega)
                                            |
                                              refine x_iconst C dX10_shift_121 (q := 122) rfl (v := nI 0) (by decide) ?_
                                              refine x_istore C (L' := [(6, .int (nI 0)), (0, .ref mo), (1, .int (x)), (2, .int (y)), (3, .int (z)), (4, .int (w)), (5, .int (v))]) dX10_shift_122 (q := 124) rfl (by decide) rfl ?_
                                              have cut124 : ∀ (fuel : Nat) (k9 : Nat) (mq : Nat → Int64), (k9 ≤ v.toInt.toNat) → ((0 ≤ v.toInt ∧ 0 ≤ y.toInt ∧ 0 ≤ w.toInt ∧ y.toInt + v.toInt ≤ tsz x.toInt.toNat ∧ w.toInt + v.toInt ≤ tsz z.toInt.toNat ∧ ¬ (tso x.toInt.toNat).toInt = -1 ∧ ¬ (tso z.toInt.toNat).toInt = -1 ∧ (tso x.toInt.toNat).toInt = (tso z.toInt.toNat).toInt)) → (∀ q, q < k9 → mq q = f (y.toInt.toNat + q)) → v.toInt.toNat - k9 < fuel → xG p l e R s m args below meth c Q D A 7 [(mo, .inr (9, [.int (nI cols), .int (nI lc), .int (nI smp), .int (ky), .ref (mr 0), .ref (mr 1), .ref (mr 2), .ref (mr 3), .ref (mr 4), .ref (mr 5), .ref (mr 6), .ref (mr 7), .ref (mr 8), .ref (mr 9), .int (nI mk), .int (nI rs), .ref (mr 10), .ref (mr 11), .ref (mr 12), .ref (mr 13), .ref (mr 14), .ref (mr 15), .ref (mr 16), .ref (mr 17), .ref (mr 18), .ref (mr 19), .ref (mr 20), .int (nI nse), .int (nI npa), .int (nI nbo), .ref (mr 21), .int (nI tn), .ref (mr 22), .int (nI ik), .int (j0), .int (j1), .ref (mr 23), .int (j2), .ref (mr 24), .ref (mr 25), .int (j3), .ref (mr 26), .int (j4), .ref (mr 27), .ref (mr 28), .ref (mr 29), .ref (mr 30)])), (mr 28, .inl (cy 1, 6, .inl tso)), (mr 29, .inl (cy 1, 6, .inl (fun k => nI (tsz k)))), (mr 27, .inl (cy 6, 6, .inr (.inr (.inr (.inr tq9))))), (mr 30, .inl (cy 2, 60, .inr (.inl mq))), (ta, .inl (cy 2, 60, .inr (.inl f))), (ta2, .inl (cy 2, 60, .inr (.inl f2)))] 0 0 124 [(0, .ref mo), (1, .int (x)), (2, .int (y)), (3, .int (z)), (4, .int (w)), (5, .int (v)), (6, .int (nI k9))] [] := by
                                                intro fuel
                                                induction fuel with
                                                | zero =>
                                                  intro k9 mq hk9 hok hmq hmu
                                                  exact absurd hmu (Nat.not_lt_zero _)
                                                | succ fuel ih =>
                                                  intro k9 mq hk9 hok hmq hmu
                                                  have ih124 := ih
                                                  clear ih
                                                  refine x_iload C dX10_shift_124 (q := 126) rfl 6 rfl ?_
                                                  refine x_iload C dX10_shift_126 (q := 128) rfl 5 rfl ?_
                                                  refine x_icmp_ge C (tgt := 155) dX10_shift_128 (by decide) (q := 131) rfl (a := ((k9 : Nat) : Int)) (b := v.toInt) (nI_toInt (by omega)) rfl (fun h23 => ?_) (fun h23 => ?_)
                                                  · first
                                                    | (exfalso; omega)
                                                    |
                                                      refine x_iconst C dX10_shift_155 (q := 156) rfl (v := nI 0) (by decide) ?_
                                                      refine x_istore C (L' := [(6, .int (nI 0)), (0, .ref mo), (1, .int (x)), (2, .int (y)), (3, .int (z)), (4, .int (w)), (5, .int (v))]) dX10_shift_156 (q := 158) rfl (by decide) rfl ?_
                                                      have cut158 : ∀ (fuel : Nat) (k8 : Nat) (fq : Nat → Int64), (k8 ≤ v.toInt.toNat) → (fq = va_cpy f f2 y.toInt.toNat w.toInt.toNat k8) → v.toInt.toNat - k8 < fuel → xG p l e R s m args below meth c Q D A 7 [(mo, .inr (9, [.int (nI cols), .int (nI lc), .int (nI smp), .int (ky), .ref (mr 0), .ref (mr 1), .ref (mr 2), .ref (mr 3), .ref (mr 4), .ref (mr 5), .ref (mr 6), .ref (mr 7), .ref (mr 8), .ref (mr 9), .int (nI mk), .int (nI rs), .ref (mr 10), .ref (mr 11), .ref (mr 12), .ref (mr 13), .ref (mr 14), .ref (mr 15), .ref (mr 16), .ref (mr 17), .ref (mr 18), .ref (mr 19), .ref (mr 20), .int (nI nse), .int (nI npa), .int (nI nbo), .ref (mr 21), .int (nI tn), .ref (mr 22), .int (nI ik), .int (j0), .int (j1), .ref (mr 23), .int (j2), .ref (mr 24), .ref (mr 25), .int (j3), .ref (mr 26), .int (j4), .ref (mr 27), .ref (mr 28), .ref (mr 29), .ref (mr 30)])), (mr 28, .inl (cy 1, 6, .inl tso)), (mr 29, .inl (cy 1, 6, .inl (fun k => nI (tsz k)))), (mr 27, .inl (cy 6, 6, .inr (.inr (.inr (.inr tq9))))), (mr 30, .inl (cy 2, 60, .inr (.inl mq))), (ta, .inl (cy 2, 60, .inr (.inl f))), (ta2, .inl (cy 2, 60, .inr (.inl fq)))] 0 0 158 [(0, .ref mo), (1, .int (x)), (2, .int (y)), (3, .int (z)), (4, .int (w)), (5, .int (v)), (6, .int (nI k8))] [] := by
                                                        intro fuel
                                                        induction fuel with
                                                        | zero =>
                                                          intro k8 fq hk8 hfq hmu
                                                          exact absurd hmu (Nat.not_lt_zero _)
                                                        | succ fuel ih =>
                                                          intro k8 fq hk8 hfq hmu
                                                          have ih158 := ih
                                                          clear ih
                                                          refine x_iload C dX10_shift_158 (q := 160) rfl 6 rfl ?_
                                                          refine x_iload C dX10_shift_160 (q := 162) rfl 5 rfl ?_
                                                          refine x_icmp_ge C (tgt := 190) dX10_shift_162 (by decide) (q := 165) rfl (a := ((k8 : Nat) : Int)) (b := v.toInt) (nI_toInt (by omega)) rfl (fun h24 => ?_) (fun h24 => ?_)
                                                          · first
                                                            | (exfalso; omega)
                                                            |
                                                              refine x_iload C dX10_shift_190 (q := 192) rfl 5 rfl ?_
                                                              refine x_iret C hA hQ hr dX10_shift_192 (Nat.le_of_ble_eq_true rfl) ?_
                                                              have e9 : k8 = v.toInt.toNat := by omega
                                                              have e1 : shiA (tso x.toInt.toNat, tsz x.toInt.toNat, f) (tso z.toInt.toNat, tsz z.toInt.toNat, f2) y w v = v := by
                                                                unfold shiA
                                                                dsimp only
                                                                repeat (first | rw [if_pos (by omega)] | rw [if_neg (by omega)])
                                                              have e2 : shiN (tso x.toInt.toNat, tsz x.toInt.toNat, f) (tso z.toInt.toNat, tsz z.toInt.toNat, f2) y w v = fq := by
                                                                unfold shiN
                                                                dsimp only
                                                                repeat (first | rw [if_pos (by omega)] | rw [if_neg (by omega)])
                                                                rw [hfq, e9]
                                                              rw [e1, e2]
                                                              exact ⟨_, rfl, rfl⟩
                                                          · first
                                                            | (exfalso; omega)
                                                            |
                                                              refine x_aload_n C dX10_shift_165 (q := 166) rfl rfl 0 rfl ?_
                                                              refine x_get C (ci := 9) (v := .ref (mr 27)) hw0 0 rfl rfl 43 (by decide) hw3 rfl dX10_shift_166 (q := 169) rfl ?_
                                                              refine x_iload_n C dX10_shift_169 (q := 170) rfl rfl 3 rfl ?_
                                                              refine x_aald6 C (j := z.toInt.toNat) (v := .ref ta2) 3 rfl (by have h9 := (rfl : (z : Int32).toInt = z.toInt); omega) (by omega) (by rw [htq2]; rfl) dX10_shift_170 (q := 171) rfl ?_
                                                              refine x_iload C dX10_shift_171 (q := 173) rfl 4 rfl ?_
                                                              refine x_iload C dX10_shift_173 (q := 175) rfl 6 rfl ?_
                                                              refine x_iadd C dX10_shift_175 (q := 176) rfl (z := w + (nI k8)) (rfl) ?_
                                                              refine x_aload_n C dX10_shift_176 (q := 177) rfl rfl 0 rfl ?_
                                                              refine x_get C (ci := 9) (v := .ref (mr 30)) hw0 0 rfl rfl 46 (by decide) hw4 rfl dX10_shift_177 (q := 180) rfl ?_
                                                              refine x_iload C dX10_shift_180 (q := 182) rfl 6 rfl ?_
                                                              refine x_lald C (j := k8) (v := mq k8) 4 rfl (nI_toInt (by omega)) (by omega) rfl dX10_shift_182 (q := 183) rfl ?_
                                                              refine x_last C (ws' := [(mo, .inr (9, [.int (nI cols), .int (nI lc), .int (nI smp), .int (ky), .ref (mr 0), .ref (mr 1), .ref (mr 2), .ref (mr 3), .ref (mr 4), .ref (mr 5), .ref (mr 6), .ref (mr 7), .ref (mr 8), .ref (mr 9), .int (nI mk), .int (nI rs), .ref (mr 10), .ref (mr 11), .ref (mr 12), .ref (mr 13), .ref (mr 14), .ref (mr 15), .ref (mr 16), .ref (mr 17), .ref (mr 18), .ref (mr 19), .ref (mr 20), .int (nI nse), .int (nI npa), .int (nI nbo), .ref (mr 21), .int (nI tn), .ref (mr 22), .int (nI ik), .int (j0), .int (j1), .ref (mr 23), .int (j2), .ref (mr 24), .ref (mr 25), .int (j3), .ref (mr 26), .int (j4), .ref (mr 27), .ref (mr 28), .ref (mr 29), .ref (mr 30)])), (mr 28, .inl (cy 1, 6, .inl tso)), (mr 29, .inl (cy 1, 6, .inl (fun k => nI (tsz k)))), (mr 27, .inl (cy 6, 6, .inr (.inr (.inr (.inr tq9))))), (mr 30, .inl (cy 2, 60, .inr (.inl mq))), (ta, .inl (cy 2, 60, .inr (.inl f))), (ta2, .inl (cy 2, 60, .inr (.inl (va_up fq ((w.toInt + ((k8 : Nat) : Int)).toNat) (mq k8)))))]) 6 rfl (j := (w.toInt + ((k8 : Nat) : Int)).toNat) (by have h9 := ((xi_add rfl (nI_toInt (by omega)) (by omega) (by omega)) : (w + (nI k8) : Int32).toInt = w.toInt + ((k8 : Nat) : Int)); omega) (by omega) (rfl) rfl dX10_shift_183 (q := 184) rfl ?_
                                                              refine x_iinc C (L' := [(6, .int (nI (k8 + 1))), (0, .ref mo), (1, .int (x)), (2, .int (y)), (3, .int (z)), (4, .int (w)), (5, .int (v))]) dX10_shift_184 (q := 187) rfl 6 rfl (v := nI (k8 + 1)) (nI_add k8 1) (by decide) rfl ?_
                                                              refine x_goto C (tgt := 158) dX10_shift_187 (by decide) ?_
                                                              refine x_L (L' := [(0, .ref mo), (1, .int (x)), (2, .int (y)), (3, .int (z)), (4, .int (w)), (5, .int (v)), (6, .int (nI (k8 + 1)))]) [1, 2, 3, 4, 5, 6, 0] rfl ?_
                                                              exact ih158 (k8 + 1) (va_up fq ((w.toInt + ((k8 : Nat) : Int)).toNat) (mq k8)) (by first | omega | assumption) (by rw [hfq, show (w.toInt + ((k8 : Nat) : Int)).toNat = w.toInt.toNat + k8 by omega]; exact va_cpy_s (hmq k8 (by omega))) (by omega)
                                                      refine x_L (L' := [(0, .ref mo), (1, .int (x)), (2, .int (y)), (3, .int (z)), (4, .int (w)), (5, .int (v)), (6, .int (nI 0))]) [1, 2, 3, 4, 5, 6, 0] rfl ?_
                                                      exact cut158 (v.toInt.toNat - 0 + 1) 0 f2 (by first | omega | assumption) (by exact va_cpy_0.symm) (by omega)
                                                  · first
                                                    | (exfalso; omega)
                                                    |
                                                      refine x_aload_n C dX10_shift_131 (q := 132) rfl rfl 0 rfl ?_
                                                      refine x_get C (ci := 9) (v := .ref (mr 30)) hw0 0 rfl rfl 46 (by decide) hw4 rfl dX10_shift_132 (q := 135) rfl ?_
                                                      refine x_iload C dX10_shift_135 (q := 137) rfl 6 rfl ?_
                                                      refine x_aload_n C dX10_shift_137 (q := 138) rfl rfl 0 rfl ?_
                                                      refine x_get C (ci := 9) (v := .ref (mr 27)) hw0 0 rfl rfl 43 (by decide) hw3 rfl dX10_shift_138 (q := 141) rfl ?_
                                                      refine x_iload_n C dX10_shift_141 (q := 142) rfl rfl 1 rfl ?_
                                                      refine x_aald6 C (j := x.toInt.toNat) (v := .ref ta) 3 rfl (by have h9 := (rfl : (x : Int32).toInt = x.toInt); omega) (by omega) (by rw [htq]; rfl) dX10_shift_142 (q := 143) rfl ?_
                                                      refine x_iload_n C dX10_shift_143 (q := 144) rfl rfl 2 rfl ?_
                                                      refine x_iload C dX10_shift_144 (q := 146) rfl 6 rfl ?_
                                                      refine x_iadd C dX10_shift_146 (q := 147) rfl (z := y + (nI k9)) (rfl) ?_
                                                      refine x_lald C (j := (y.toInt + ((k9 : Nat) : Int)).toNat) (v := f ((y.toInt + ((k9 : Nat) : Int)).toNat)) 5 rfl (by have h9 := ((xi_add rfl (nI_toInt (by omega)) (by omega) (by omega)) : (y + (nI k9) : Int32).toInt = y.toInt + ((k9 : Nat) : Int)); omega) (by omega) rfl dX10_shift_147 (q := 148) rfl ?_
                                                      refine x_last C (ws' := [(mo, .inr (9, [.int (nI cols), .int (nI lc), .int (nI smp), .int (ky), .ref (mr 0), .ref (mr 1), .ref (mr 2), .ref (mr 3), .ref (mr 4), .ref (mr 5), .ref (mr 6), .ref (mr 7), .ref (mr 8), .ref (mr 9), .int (nI mk), .int (nI rs), .ref (mr 10), .ref (mr 11), .ref (mr 12), .ref (mr 13), .ref (mr 14), .ref (mr 15), .ref (mr 16), .ref (mr 17), .ref (mr 18), .ref (mr 19), .ref (mr 20), .int (nI nse), .int (nI npa), .int (nI nbo), .ref (mr 21), .int (nI tn), .ref (mr 22), .int (nI ik), .int (j0), .int (j1), .ref (mr 23), .int (j2), .ref (mr 24), .ref (mr 25), .int (j3), .ref (mr 26), .int (j4), .ref (mr 27), .ref (mr 28), .ref (mr 29), .ref (mr 30)])), (mr 28, .inl (cy 1, 6, .inl tso)), (mr 29, .inl (cy 1, 6, .inl (fun k => nI (tsz k)))), (mr 27, .inl (cy 6, 6, .inr (.inr (.inr (.inr tq9))))), (mr 30, .inl (cy 2, 60, .inr (.inl (va_up mq k9 (f ((y.toInt + ((k9 : Nat) : Int)).toNat)))))), (ta, .inl (cy 2, 60, .inr (.inl f))), (ta2, .inl (cy 2, 60, .inr (.inl f2)))]) 4 rfl (j := k9) (nI_toInt (by omega)) (by omega) (rfl) rfl dX10_shift_148 (q := 149) rfl ?_
                                                      refine x_iinc C (L' := [(6, .int (nI (k9 + 1))), (0, .ref mo), (1, .int (x)), (2, .int (y)), (3, .int (z)), (4, .int (w)), (5, .int (v))]) dX10_shift_149 (q := 152) rfl 6 rfl (v := nI (k9 + 1)) (nI_add k9 1) (by decide) rfl ?_
                                                      refine x_goto C (tgt := 124) dX10_shift_152 (by decide) ?_
                                                      refine x_L (L' := [(0, .ref mo), (1, .int (x)), (2, .int (y)), (3, .int (z)), (4, .int (w)), (5, .int (v)), (6, .int (nI (k9 + 1)))]) [1, 2, 3, 4, 5, 6, 0] rfl ?_
                                                      exact ih124 (k9 + 1) (va_up mq k9 (f ((y.toInt + ((k9 : Nat) : Int)).toNat))) (by first | omega | assumption) (by first | omega | assumption) (by intro q hq; by_cases e9 : q = k9; (subst e9; rw [va_up_eq]; congr 1; omega); (rw [va_up_ne' e9]; exact hmq q (by omega))) (by omega)
                                              refine x_L (L' := [(0, .ref mo), (1, .int (x)), (2, .int (y)), (3, .int (z)), (4, .int (w)), (5, .int (v)), (6, .int (nI 0))]) [1, 2, 3, 4, 5, 6, 0] rfl ?_
                                              exact cut124 (v.toInt.toNat - 0 + 1) 0 mv (by first | omega | assumption) (by omega) (by intro q hq; omega) (by omega)
                                          · first
                                            | (exfalso; omega)
                                            |
                                              refine x_bipush C dX10_shift_118 (q := 120) rfl (v := (-13)) (by decide) ?_
                                              refine x_iret C hA hQ hr dX10_shift_120 (Nat.le_of_ble_eq_true rfl) ?_
                                              have e1 : shiA (tso x.toInt.toNat, tsz x.toInt.toNat, f) (tso z.toInt.toNat, tsz z.toInt.toNat, f2) y w v = (-13) := by
                                                unfold shiA
                                                dsimp only
                                                repeat (first | rw [if_pos (by omega)] | rw [if_neg (by omega)])
                                              have e2 : shiN (tso x.toInt.toNat, tsz x.toInt.toNat, f) (tso z.toInt.toNat, tsz z.toInt.toNat, f2) y w v = f2 := by
                                                unfold shiN
                                                dsimp only
                                                repeat (first | rw [if_pos (by omega)] | rw [if_neg (by omega)])
                                              rw [e1, e2]
                                              exact ⟨_, rfl, rfl⟩
              · first
                | (exfalso; omega)
                |
                  refine x_bipush C dX10_shift_52 (q := 54) rfl (v := (-12)) (by decide) ?_
                  refine x_iret C hA hQ hr dX10_shift_54 (Nat.le_of_ble_eq_true rfl) ?_
                  have e1 : shiA (tso x.toInt.toNat, tsz x.toInt.toNat, f) (tso z.toInt.toNat, tsz z.toInt.toNat, f2) y w v = (-12) := by
                    unfold shiA
                    dsimp only
                    repeat (first | rw [if_pos (by omega)] | rw [if_neg (by omega)])
                  have e2 : shiN (tso x.toInt.toNat, tsz x.toInt.toNat, f) (tso z.toInt.toNat, tsz z.toInt.toNat, f2) y w v = f2 := by
                    unfold shiN
                    dsimp only
                    repeat (first | rw [if_pos (by omega)] | rw [if_neg (by omega)])
                  rw [e1, e2]
                  exact ⟨_, rfl, rfl⟩
          · first
            | (exfalso; omega)
            |
              refine x_bipush C dX10_shift_34 (q := 36) rfl (v := (-11)) (by decide) ?_
              refine x_iret C hA hQ hr dX10_shift_36 (Nat.le_of_ble_eq_true rfl) ?_
              have e1 : shiA (tso x.toInt.toNat, tsz x.toInt.toNat, f) (tso z.toInt.toNat, tsz z.toInt.toNat, f2) y w v = (-11) := by
                unfold shiA
                dsimp only
                repeat (first | rw [if_pos (by omega)] | rw [if_neg (by omega)])
              have e2 : shiN (tso x.toInt.toNat, tsz x.toInt.toNat, f) (tso z.toInt.toNat, tsz z.toInt.toNat, f2) y w v = f2 := by
                unfold shiN
                dsimp only
                repeat (first | rw [if_pos (by omega)] | rw [if_neg (by omega)])
              rw [e1, e2]
              exact ⟨_, rfl, rfl⟩
    · exfalso; obtain ⟨_, _, hc25⟩ := hp5; omega
  · exfalso; obtain ⟨_, _, hc26⟩ := hp1; omega

set_option maxHeartbeats 600000 in
set_option maxRecDepth 100000 in
/-- shift -/
theorem c_X10_shift_s (l : Launch) (D : va_G) (cy : Nat → ClassId) (mo : Nat) (mr : Nat → Nat) (cols : Nat) (lc : Nat) (smp : Nat) (mk : Nat) (rs : Nat) (nse : Nat) (npa : Nat) (nbo : Nat) (tn : Nat) (ik : Nat) (ky : Int32) (j0 : Int32) (j1 : Int32) (j2 : Int32) (j3 : Int32) (j4 : Int32) (tso : Nat → Int32) (tsz : Nat → Nat) (tq9 : Nat → Option Nat) (ta : Nat) (f : Nat → Int64) (mv : Nat → Int64) (x : Int32) (y : Int32) (z : Int32) (w : Int32) (v : Int32) (hx0 : 0 ≤ x.toInt) (hx6 : x.toInt < 6) (htq : tq9 x.toInt.toNat = some ta) (htz : ∀ k, tsz k ≤ 60) (hts : ∀ k, -1 ≤ (tso k).toInt ∧ (tso k).toInt ≤ 4) (htn : ∀ k, (tso k).toInt = -1 → tsz k = 0) (hz0 : 0 ≤ z.toInt) (hz6 : z.toInt < 6) (htq2 : tq9 z.toInt.toNat = some ta) : xMet l D cy xT yX10_shift wsX10_shift ({ frames := 4, cells := 0, slots := 0, locals := 500 } : Room) [.ref mo, .int (x), .int (y), .int (z), .int (w), .int (v)] [(mo, .inr (9, [.int (nI cols), .int (nI lc), .int (nI smp), .int (ky), .ref (mr 0), .ref (mr 1), .ref (mr 2), .ref (mr 3), .ref (mr 4), .ref (mr 5), .ref (mr 6), .ref (mr 7), .ref (mr 8), .ref (mr 9), .int (nI mk), .int (nI rs), .ref (mr 10), .ref (mr 11), .ref (mr 12), .ref (mr 13), .ref (mr 14), .ref (mr 15), .ref (mr 16), .ref (mr 17), .ref (mr 18), .ref (mr 19), .ref (mr 20), .int (nI nse), .int (nI npa), .int (nI nbo), .ref (mr 21), .int (nI tn), .ref (mr 22), .int (nI ik), .int (j0), .int (j1), .ref (mr 23), .int (j2), .ref (mr 24), .ref (mr 25), .int (j3), .ref (mr 26), .int (j4), .ref (mr 27), .ref (mr 28), .ref (mr 29), .ref (mr 30)])), (mr 28, .inl (cy 1, 6, .inl tso)), (mr 29, .inl (cy 1, 6, .inl (fun k => nI (tsz k)))), (mr 27, .inl (cy 6, 6, .inr (.inr (.inr (.inr tq9))))), (mr 30, .inl (cy 2, 60, .inr (.inl mv))), (ta, .inl (cy 2, 60, .inr (.inl f)))] [] (fun (v9 : Option Value) (w9 : va_W) => (∃ mv2 : Nat → Int64, v9 = some (.int (shiA (tso x.toInt.toNat, tsz x.toInt.toNat, f) (tso z.toInt.toNat, tsz z.toInt.toNat, f) y w v)) ∧ w9 = [(mo, .inr (9, [.int (nI cols), .int (nI lc), .int (nI smp), .int (ky), .ref (mr 0), .ref (mr 1), .ref (mr 2), .ref (mr 3), .ref (mr 4), .ref (mr 5), .ref (mr 6), .ref (mr 7), .ref (mr 8), .ref (mr 9), .int (nI mk), .int (nI rs), .ref (mr 10), .ref (mr 11), .ref (mr 12), .ref (mr 13), .ref (mr 14), .ref (mr 15), .ref (mr 16), .ref (mr 17), .ref (mr 18), .ref (mr 19), .ref (mr 20), .int (nI nse), .int (nI npa), .int (nI nbo), .ref (mr 21), .int (nI tn), .ref (mr 22), .int (nI ik), .int (j0), .int (j1), .ref (mr 23), .int (j2), .ref (mr 24), .ref (mr 25), .int (j3), .ref (mr 26), .int (j4), .ref (mr 27), .ref (mr 28), .ref (mr 29), .ref (mr 30)])), (mr 28, .inl (cy 1, 6, .inl tso)), (mr 29, .inl (cy 1, 6, .inl (fun k => nI (tsz k)))), (mr 27, .inl (cy 6, 6, .inr (.inr (.inr (.inr tq9))))), (mr 30, .inl (cy 2, 60, .inr (.inl mv2))), (ta, .inl (cy 2, 60, .inr (.inl (shiN (tso x.toInt.toNat, tsz x.toInt.toNat, f) (tso z.toInt.toNat, tsz z.toInt.toNat, f) y w v))))])) := by
  refine xMet_of (cc := cX10_shift) (maxL := 7) (ret := (some .int)) (by decide) rfl (Nat.le_of_ble_eq_true rfl) (fun p e s m args below meth c A R Q hA hR hQ C hr hnm hro hX => ?_)
  have hw0 : ∀ w ∈ u_ws RX10 TX10 47, w ∈ wsX10_shift := by decide +kernel
  have hw1 : Cond.fieldLink RX10 106 (TX10 44).1 (TX10 44).2.1 (TX10 44).2.2.1 ∈ wsX10_shift := by decide +kernel
  have hw2 : Cond.fieldLink RX10 109 (TX10 45).1 (TX10 45).2.1 (TX10 45).2.2.1 ∈ wsX10_shift := by decide +kernel
  have hw3 : Cond.fieldLink RX10 103 (TX10 43).1 (TX10 43).2.1 (TX10 43).2.2.1 ∈ wsX10_shift := by decide +kernel
  have hw4 : Cond.fieldLink RX10 112 (TX10 46).1 (TX10 46).2.1 (TX10 46).2.2.1 ∈ wsX10_shift := by decide +kernel
  refine x_L (L' := [(0, .ref mo), (1, .int (x)), (2, .int (y)), (3, .int (z)), (4, .int (w)), (5, .int (v))]) [0, 1, 2, 3, 4, 5] rfl ?_
  have hxs := hts x.toInt.toNat
  have hxz := htz x.toInt.toNat
  have hzs := hts z.toInt.toNat
  have hzz := htz z.toInt.toNat
  have hvl := v.toInt_lt
  have hvl2 := v.le_toInt
  refine x_iload_n C dX10_shift_0 (q := 1) rfl rfl 1 rfl ?_
  refine x_callS C (roW := []) (roR := []) (c_X10_isTape l D cy x ) (cwS 1 C.2.2.2.2.1 gX10_shift_X10_isTape rfl rfl rfl (by decide +kernel) (by rw [hR]; exact ⟨Nat.le_of_ble_eq_true rfl, Nat.le_of_ble_eq_true rfl⟩)) [] [] rfl (by decide) rfl (by decide) xro_nil xT_bl (fun _ _ _ _ _ _ _ => trivial) rfl rfl dX10_shift_1 rfl rfl (Nat.le_of_ble_eq_true rfl) (q := 4) rfl (k' := 0) rfl (n' := 0) rfl (by rw [hR]; exact ⟨Nat.le_of_ble_eq_true rfl, Nat.le_of_ble_eq_true rfl⟩) (fun v1 w1 hp1 => ?_)
  rcases hp1 with hp1 | hp1
  · skip
    obtain ⟨rfl, rfl, hc2, hc3⟩ := hp1
    refine x_ws (ws' := [(mo, .inr (9, [.int (nI cols), .int (nI lc), .int (nI smp), .int (ky), .ref (mr 0), .ref (mr 1), .ref (mr 2), .ref (mr 3), .ref (mr 4), .ref (mr 5), .ref (mr 6), .ref (mr 7), .ref (mr 8), .ref (mr 9), .int (nI mk), .int (nI rs), .ref (mr 10), .ref (mr 11), .ref (mr 12), .ref (mr 13), .ref (mr 14), .ref (mr 15), .ref (mr 16), .ref (mr 17), .ref (mr 18), .ref (mr 19), .ref (mr 20), .int (nI nse), .int (nI npa), .int (nI nbo), .ref (mr 21), .int (nI tn), .ref (mr 22), .int (nI ik), .int (j0), .int (j1), .ref (mr 23), .int (j2), .ref (mr 24), .ref (mr 25), .int (j3), .ref (mr 26), .int (j4), .ref (mr 27), .ref (mr 28), .ref (mr 29), .ref (mr 30)])), (mr 28, .inl (cy 1, 6, .inl tso)), (mr 29, .inl (cy 1, 6, .inl (fun k => nI (tsz k)))), (mr 27, .inl (cy 6, 6, .inr (.inr (.inr (.inr tq9))))), (mr 30, .inl (cy 2, 60, .inr (.inl mv))), (ta, .inl (cy 2, 60, .inr (.inl f)))]) (List.append_nil _) ?_
    refine x_if_eq C (tgt := 14) dX10_shift_4 (by decide) (q := 7) rfl (a := 1) rfl (fun h4 => (by omega : False).elim) (fun h4 => ?_)
    refine x_iload_n C dX10_shift_7 (q := 8) rfl rfl 3 rfl ?_
    refine x_callS C (roW := []) (roR := []) (c_X10_isTape l D cy z ) (cwS 1 C.2.2.2.2.1 gX10_shift_X10_isTape rfl rfl rfl (by decide +kernel) (by rw [hR]; exact ⟨Nat.le_of_ble_eq_true rfl, Nat.le_of_ble_eq_true rfl⟩)) [] [] rfl (by decide) rfl (by decide) xro_nil xT_bl (fun _ _ _ _ _ _ _ => trivial) rfl rfl dX10_shift_8 rfl rfl (Nat.le_of_ble_eq_true rfl) (q := 11) rfl (k' := 0) rfl (n' := 0) rfl (by rw [hR]; exact ⟨Nat.le_of_ble_eq_true rfl, Nat.le_of_ble_eq_true rfl⟩) (fun v5 w5 hp5 => ?_)
    rcases hp5 with hp5 | hp5
    · skip
      obtain ⟨rfl, rfl, hc6, hc7⟩ := hp5
      refine x_ws (ws' := [(mo, .inr (9, [.int (nI cols), .int (nI lc), .int (nI smp), .int (ky), .ref (mr 0), .ref (mr 1), .ref (mr 2), .ref (mr 3), .ref (mr 4), .ref (mr 5), .ref (mr 6), .ref (mr 7), .ref (mr 8), .ref (mr 9), .int (nI mk), .int (nI rs), .ref (mr 10), .ref (mr 11), .ref (mr 12), .ref (mr 13), .ref (mr 14), .ref (mr 15), .ref (mr 16), .ref (mr 17), .ref (mr 18), .ref (mr 19), .ref (mr 20), .int (nI nse), .int (nI npa), .int (nI nbo), .ref (mr 21), .int (nI tn), .ref (mr 22), .int (nI ik), .int (j0), .int (j1), .ref (mr 23), .int (j2), .ref (mr 24), .ref (mr 25), .int (j3), .ref (mr 26), .int (j4), .ref (mr 27), .ref (mr 28), .ref (mr 29), .ref (mr 30)])), (mr 28, .inl (cy 1, 6, .inl tso)), (mr 29, .inl (cy 1, 6, .inl (fun k => nI (tsz k)))), (mr 27, .inl (cy 6, 6, .inr (.inr (.inr (.inr tq9))))), (mr 30, .inl (cy 2, 60, .inr (.inl mv))), (ta, .inl (cy 2, 60, .inr (.inl f)))]) (List.append_nil _) ?_
      refine x_if_ne C (tgt := 16) dX10_shift_11 (by decide) (q := 14) rfl (a := 1) rfl (fun h8 => ?_) (fun h8 => (by omega : False).elim)
      refine x_aload_n C dX10_shift_16 (q := 17) rfl rfl 0 rfl ?_
      refine x_get C (ci := 9) (v := .ref (mr 28)) hw0 0 rfl rfl 44 (by decide) hw1 rfl dX10_shift_17 (q := 20) rfl ?_
      refine x_iload_n C dX10_shift_20 (q := 21) rfl rfl 1 rfl ?_
      refine x_iald C (j := x.toInt.toNat) (v := tso x.toInt.toNat) 1 rfl (by have h9 := (rfl : (x : Int32).toInt = x.toInt); omega) (by omega) rfl dX10_shift_21 (q := 22) rfl ?_
      refine x_if_lt C (tgt := 34) dX10_shift_22 (by decide) (q := 25) rfl (a := (tso x.toInt.toNat).toInt) rfl (fun h9 => ?_) (fun h9 => ?_)
      · first
        | (exfalso; omega)
        |
          refine x_bipush C dX10_shift_34 (q := 36) rfl (v := (-11)) (by decide) ?_
          refine x_iret C hA hQ hr dX10_shift_36 (Nat.le_of_ble_eq_true rfl) ?_
          have e1 : shiA (tso x.toInt.toNat, tsz x.toInt.toNat, f) (tso z.toInt.toNat, tsz z.toInt.toNat, f) y w v = (-11) := by
            unfold shiA
            dsimp only
            repeat (first | rw [if_pos (by omega)] | rw [if_neg (by omega)])
          have e2 : shiN (tso x.toInt.toNat, tsz x.toInt.toNat, f) (tso z.toInt.toNat, tsz z.toInt.toNat, f) y w v = f := by
            unfold shiN
            dsimp only
            repeat (first | rw [if_pos (by omega)] | rw [if_neg (by omega)])
          rw [e1, e2]
          exact ⟨_, rfl, rfl⟩
      · first
        | (exfalso; omega)
        |
          refine x_aload_n C dX10_shift_25 (q := 26) rfl rfl 0 rfl ?_
          refine x_get C (ci := 9) (v := .ref (mr 28)) hw0 0 rfl rfl 44 (by decide) hw1 rfl dX10_shift_26 (q := 29) rfl ?_
          refine x_iload_n C dX10_shift_29 (q := 30) rfl rfl 3 rfl ?_
          refine x_iald C (j := z.toInt.toNat) (v := tso z.toInt.toNat) 1 rfl (by have h9 := (rfl : (z : Int32).toInt = z.toInt); omega) (by omega) rfl dX10_shift_30 (q := 31) rfl ?_
          refine x_if_ge C (tgt := 37) dX10_shift_31 (by decide) (q := 34) rfl (a := (tso z.toInt.toNat).toInt) rfl (fun h10 => ?_) (fun h10 => ?_)
          · first
            | (exfalso; omega)
            |
              refine x_aload_n C dX10_shift_37 (q := 38) rfl rfl 0 rfl ?_
              refine x_get C (ci := 9) (v := .ref (mr 28)) hw0 0 rfl rfl 44 (by decide) hw1 rfl dX10_shift_38 (q := 41) rfl ?_
              refine x_iload_n C dX10_shift_41 (q := 42) rfl rfl 1 rfl ?_
              refine x_iald C (j := x.toInt.toNat) (v := tso x.toInt.toNat) 1 rfl (by have h9 := (rfl : (x : Int32).toInt = x.toInt); omega) (by omega) rfl dX10_shift_42 (q := 43) rfl ?_
              refine x_aload_n C dX10_shift_43 (q := 44) rfl rfl 0 rfl ?_
              refine x_get C (ci := 9) (v := .ref (mr 28)) hw0 0 rfl rfl 44 (by decide) hw1 rfl dX10_shift_44 (q := 47) rfl ?_
              refine x_iload_n C dX10_shift_47 (q := 48) rfl rfl 3 rfl ?_
              refine x_iald C (j := z.toInt.toNat) (v := tso z.toInt.toNat) 1 rfl (by have h9 := (rfl : (z : Int32).toInt = z.toInt); omega) (by omega) rfl dX10_shift_48 (q := 49) rfl ?_
              refine x_icmp_eq C (tgt := 55) dX10_shift_49 (by decide) (q := 52) rfl (a := (tso x.toInt.toNat).toInt) (b := (tso z.toInt.toNat).toInt) rfl rfl (fun h11 => ?_) (fun h11 => ?_)
              · first
                | (exfalso; omega)
                |
                  refine x_iload C dX10_shift_55 (q := 57) rfl 5 rfl ?_
                  refine x_if_lt C (tgt := 118) dX10_shift_57 (by decide) (q := 60) rfl (a := v.toInt) rfl (fun h12 => ?_) (fun h12 => ?_)
                  · first
                    | (exfalso; omega)
                    |
                      refine x_bipush C dX10_shift_118 (q := 120) rfl (v := (-13)) (by decide) ?_
                      refine x_iret C hA hQ hr dX10_shift_120 (Nat.le_of_ble_eq_true rfl) ?_
                      have e1 : shiA (tso x.toInt.toNat, tsz x.toInt.toNat, f) (tso z.toInt.toNat, tsz z.toInt.toNat, f) y w v = (-13) := by
                        unfold shiA
                        dsimp only
                        repeat (first | rw [if_pos (by omega)] | rw [if_neg (by omega)])
                      have e2 : shiN (tso x.toInt.toNat, tsz x.toInt.toNat, f) (tso z.toInt.toNat, tsz z.toInt.toNat, f) y w v = f := by
                        unfold shiN
                        dsimp only
                        repeat (first | rw [if_pos (by omega)] | rw [if_neg (by omega)])
                      rw [e1, e2]
                      exact ⟨_, rfl, rfl⟩
                  · first
                    | (exfalso; omega)
                    |
                      refine x_iload_n C dX10_shift_60 (q := 61) rfl rfl 2 rfl ?_
                      refine x_if_lt C (tgt := 118) dX10_shift_61 (by decide) (q := 64) rfl (a := y.toInt) rfl (fun h13 => ?_) (fun h13 => ?_)
                      · first
                        | (exfalso; omega)
                        |
                          refine x_bipush C dX10_shift_118 (q := 120) rfl (v := (-13)) (by decide) ?_
                          refine x_iret C hA hQ hr dX10_shift_120 (Nat.le_of_ble_eq_true rfl) ?_
                          have e1 : shiA (tso x.toInt.toNat, tsz x.toInt.toNat, f) (tso z.toInt.toNat, tsz z.toInt.toNat, f) y w v = (-13) := by
                            unfold shiA
                            dsimp only
                            repeat (first | rw [if_pos (by omega)] | rw [if_neg (by omega)])
                          have e2 : shiN (tso x.toInt.toNat, tsz x.toInt.toNat, f) (tso z.toInt.toNat, tsz z.toInt.toNat, f) y w v = f := by
                            unfold shiN
                            dsimp only
                            repeat (first | rw [if_pos (by omega)] | rw [if_neg (by omega)])
                          rw [e1, e2]
                          exact ⟨_, rfl, rfl⟩
                      · first
                        | (exfalso; omega)
                        |
                          refine x_iload C dX10_shift_64 (q := 66) rfl 4 rfl ?_
                          refine x_if_lt C (tgt := 118) dX10_shift_66 (by decide) (q := 69) rfl (a := w.toInt) rfl (fun h14 => ?_) (fun h14 => ?_)
                          · first
                            | (exfalso; omega)
                            |
                              refine x_bipush C dX10_shift_118 (q := 120) rfl (v := (-13)) (by decide) ?_
                              refine x_iret C hA hQ hr dX10_shift_120 (Nat.le_of_ble_eq_true rfl) ?_
                              have e1 : shiA (tso x.toInt.toNat, tsz x.toInt.toNat, f) (tso z.toInt.toNat, tsz z.toInt.toNat, f) y w v = (-13) := by
                                unfold shiA
                                dsimp only
                                repeat (first | rw [if_pos (by omega)] | rw [if_neg (by omega)])
                              have e2 : shiN (tso x.toInt.toNat, tsz x.toInt.toNat, f) (tso z.toInt.toNat, tsz z.toInt.toNat, f) y w v = f := by
                                unfold shiN
                                dsimp only
                                repeat (first | rw [if_pos (by omega)] | rw [if_neg (by omega)])
                              rw [e1, e2]
                              exact ⟨_, rfl, rfl⟩
                          · first
                            | (exfalso; omega)
                            |
                              refine x_iload C dX10_shift_69 (q := 71) rfl 5 rfl ?_
                              refine x_aload_n C dX10_shift_71 (q := 72) rfl rfl 0 rfl ?_
                              refine x_get C (ci := 9) (v := .ref (mr 29)) hw0 0 rfl rfl 45 (by decide) hw2 rfl dX10_shift_72 (q := 75) rfl ?_
                              refine x_iload_n C dX10_shift_75 (q := 76) rfl rfl 1 rfl ?_
                              have hb15 := htz x.toInt.toNat
                              refine x_iald C (j := x.toInt.toNat) (v := nI (tsz x.toInt.toNat)) 2 rfl (by have h9 := (rfl : (x : Int32).toInt = x.toInt); omega) (by omega) rfl dX10_shift_76 (q := 77) rfl ?_
                              refine x_icmp_gt C (tgt := 118) dX10_shift_77 (by decide) (q := 80) rfl (a := v.toInt) (b := ((tsz x.toInt.toNat : Nat) : Int)) rfl (nI_toInt (by omega)) (fun h16 => ?_) (fun h16 => ?_)
                              · first
                                | (exfalso; omega)
                                |
                                  refine x_bipush C dX10_shift_118 (q := 120) rfl (v := (-13)) (by decide) ?_
                                  refine x_iret C hA hQ hr dX10_shift_120 (Nat.le_of_ble_eq_true rfl) ?_
                                  have e1 : shiA (tso x.toInt.toNat, tsz x.toInt.toNat, f) (tso z.toInt.toNat, tsz z.toInt.toNat, f) y w v = (-13) := by
                                    unfold shiA
                                    dsimp only
                                    repeat (first | rw [if_pos (by omega)] | rw [if_neg (by omega)])
                                  have e2 : shiN (tso x.toInt.toNat, tsz x.toInt.toNat, f) (tso z.toInt.toNat, tsz z.toInt.toNat, f) y w v = f := by
                                    unfold shiN
                                    dsimp only
                                    repeat (first | rw [if_pos (by omega)] | rw [if_neg (by omega)])
                                  rw [e1, e2]
                                  exact ⟨_, rfl, rfl⟩
                              · first
                                | (exfalso; omega)
                                |
                                  refine x_iload C dX10_shift_80 (q := 82) rfl 5 rfl ?_
                                  refine x_aload_n C dX10_shift_82 (q := 83) rfl rfl 0 rfl ?_
                                  refine x_get C (ci := 9) (v := .ref (mr 29)) hw0 0 rfl rfl 45 (by decide) hw2 rfl dX10_shift_83 (q := 86) rfl ?_
                                  refine x_iload_n C dX10_shift_86 (q := 87) rfl rfl 3 rfl ?_
                                  have hb17 := htz z.toInt.toNat
                                  refine x_iald C (j := z.toInt.toNat) (v := nI (tsz z.toInt.toNat)) 2 rfl (by have h9 := (rfl : (z : Int32).toInt = z.toInt); omega) (by omega) rfl dX10_shift_87 (q := 88) rfl ?_
                                  refine x_icmp_gt C (tgt := 118) dX10_shift_88 (by decide) (q := 91) rfl (a := v.toInt) (b := ((tsz z.toInt.toNat : Nat) : Int)) rfl (nI_toInt (by omega)) (fun h18 => ?_) (fun h18 => ?_)
                                  · first
                                    | (exfalso; omega)
                                    |
                                      refine x_bipush C dX10_shift_118 (q := 120) rfl (v := (-13)) (by decide) ?_
                                      refine x_iret C hA hQ hr dX10_shift_120 (Nat.le_of_ble_eq_true rfl) ?_
                                      have e1 : shiA (tso x.toInt.toNat, tsz x.toInt.toNat, f) (tso z.toInt.toNat, tsz z.toInt.toNat, f) y w v = (-13) := by
                                        unfold shiA
                                        dsimp only
                                        repeat (first | rw [if_pos (by omega)] | rw [if_neg (by omega)])
                                      have e2 : shiN (tso x.toInt.toNat, tsz x.toInt.toNat, f) (tso z.toInt.toNat, tsz z.toInt.toNat, f) y w v = f := by
                                        unfold shiN
                                        dsimp only
                                        repeat (first | rw [if_pos (by omega)] | rw [if_neg (by omega)])
                                      rw [e1, e2]
                                      exact ⟨_, rfl, rfl⟩
                                  · first
                                    | (exfalso; omega)
                                    |
                                      refine x_iload_n C dX10_shift_91 (q := 92) rfl rfl 2 rfl ?_
                                      refine x_aload_n C dX10_shift_92 (q := 93) rfl rfl 0 rfl ?_
                                      refine x_get C (ci := 9) (v := .ref (mr 29)) hw0 0 rfl rfl 45 (by decide) hw2 rfl dX10_shift_93 (q := 96) rfl ?_
                                      refine x_iload_n C dX10_shift_96 (q := 97) rfl rfl 1 rfl ?_
                                      have hb19 := htz x.toInt.toNat
                                      refine x_iald C (j := x.toInt.toNat) (v := nI (tsz x.toInt.toNat)) 2 rfl (by have h9 := (rfl : (x : Int32).toInt = x.toInt); omega) (by omega) rfl dX10_shift_97 (q := 98) rfl ?_
                                      refine x_iload C dX10_shift_98 (q := 100) rfl 5 rfl ?_
                                      refine x_isub C dX10_shift_100 (q := 101) rfl (z := (nI (tsz x.toInt.toNat)) - v) (rfl) ?_
                                      refine x_icmp_gt C (tgt := 118) dX10_shift_101 (by decide) (q := 104) rfl (a := y.toInt) (b := ((tsz x.toInt.toNat : Nat) : Int) - v.toInt) rfl (xi_sub2 (nI_toInt (by omega)) rfl (by omega) (by omega)) (fun h20 => ?_) (fun h20 => ?_)
                                      · first
                                        | (exfalso; omega)
                                        |
                                          refine x_bipush C dX10_shift_118 (q := 120) rfl (v := (-13)) (by decide) ?_
                                          refine x_iret C hA hQ hr dX10_shift_120 (Nat.le_of_ble_eq_true rfl) ?_
                                          have e1 : shiA (tso x.toInt.toNat, tsz x.toInt.toNat, f) (tso z.toInt.toNat, tsz z.toInt.toNat, f) y w v = (-13) := by
                                            unfold shiA
                                            dsimp only
                                            repeat (first | rw [if_pos (by omega)] | rw [if_neg (by omega)])
                                          have e2 : shiN (tso x.toInt.toNat, tsz x.toInt.toNat, f) (tso z.toInt.toNat, tsz z.toInt.toNat, f) y w v = f := by
                                            unfold shiN
                                            dsimp only
                                            repeat (first | rw [if_pos (by omega)] | rw [if_neg (by omega)])
                                          rw [e1, e2]
                                          exact ⟨_, rfl, rfl⟩
                                      · first
                                        | (exfalso; omega)
                                        |
                                          refine x_iload C dX10_shift_104 (q := 106) rfl 4 rfl ?_
                                          refine x_aload_n C dX10_shift_106 (q := 107) rfl rfl 0 rfl ?_
                                          refine x_get C (ci := 9) (v := .ref (mr 29)) hw0 0 rfl rfl 45 (by decide) hw2 rfl dX10_shift_107 (q := 110) rfl ?_
                                          refine x_iload_n C dX10_shift_110 (q := 111) rfl rfl 3 rfl ?_
                                          have hb21 := htz z.toInt.toNat
                                          refine x_iald C (j := z.toInt.toNat) (v := nI (tsz z.toInt.toNat)) 2 rfl (by have h9 := (rfl : (z : Int32).toInt = z.toInt); omega) (by omega) rfl dX10_shift_111 (q := 112) rfl ?_
                                          refine x_iload C dX10_shift_112 (q := 114) rfl 5 rfl ?_
                                          refine x_isub C dX10_shift_114 (q := 115) rfl (z := (nI (tsz z.toInt.toNat)) - v) (rfl) ?_
                                          refine x_icmp_le C (tgt := 121) dX10_shift_115 (by decide) (q := 118) rfl (a := w.toInt) (b := ((tsz z.toInt.toNat : Nat) : Int) - v.toInt) rfl (xi_sub2 (nI_toInt (by omega)) rfl (by omega) (by omega)) (fun h22 => ?_) (fun h22 => ?_)
                                          · first
                                            | (exfalso; omega)
                                            |
                                              refine x_iconst C dX10_shift_121 (q := 122) rfl (v := nI 0) (by decide) ?_
                                              refine x_istore C (L' := [(6, .int (nI 0)), (0, .ref mo), (1, .int (x)), (2, .int (y)), (3, .int (z)), (4, .int (w)), (5, .int (v))]) dX10_shift_122 (q := 124) rfl (by decide) rfl ?_
                                              have cut124 : ∀ (fuel : Nat) (k9 : Nat) (mq : Nat → Int64), (k9 ≤ v.toInt.toNat) → ((0 ≤ v.toInt ∧ 0 ≤ y.toInt ∧ 0 ≤ w.toInt ∧ y.toInt + v.toInt ≤ tsz x.toInt.toNat ∧ w.toInt + v.toInt ≤ tsz z.toInt.toNat ∧ ¬ (tso x.toInt.toNat).toInt = -1 ∧ ¬ (tso z.toInt.toNat).toInt = -1 ∧ (tso x.toInt.toNat).toInt = (tso z.toInt.toNat).toInt)) → (∀ q, q < k9 → mq q = f (y.toInt.toNat + q)) → v.toInt.toNat - k9 < fuel → xG p l e R s m args below meth c Q D A 7 [(mo, .inr (9, [.int (nI cols), .int (nI lc), .int (nI smp), .int (ky), .ref (mr 0), .ref (mr 1), .ref (mr 2), .ref (mr 3), .ref (mr 4), .ref (mr 5), .ref (mr 6), .ref (mr 7), .ref (mr 8), .ref (mr 9), .int (nI mk), .int (nI rs), .ref (mr 10), .ref (mr 11), .ref (mr 12), .ref (mr 13), .ref (mr 14), .ref (mr 15), .ref (mr 16), .ref (mr 17), .ref (mr 18), .ref (mr 19), .ref (mr 20), .int (nI nse), .int (nI npa), .int (nI nbo), .ref (mr 21), .int (nI tn), .ref (mr 22), .int (nI ik), .int (j0), .int (j1), .ref (mr 23), .int (j2), .ref (mr 24), .ref (mr 25), .int (j3), .ref (mr 26), .int (j4), .ref (mr 27), .ref (mr 28), .ref (mr 29), .ref (mr 30)])), (mr 28, .inl (cy 1, 6, .inl tso)), (mr 29, .inl (cy 1, 6, .inl (fun k => nI (tsz k)))), (mr 27, .inl (cy 6, 6, .inr (.inr (.inr (.inr tq9))))), (mr 30, .inl (cy 2, 60, .inr (.inl mq))), (ta, .inl (cy 2, 60, .inr (.inl f)))] 0 0 124 [(0, .ref mo), (1, .int (x)), (2, .int (y)), (3, .int (z)), (4, .int (w)), (5, .int (v)), (6, .int (nI k9))] [] := by
                                                intro fuel
                                                induction fuel with
                                                | zero =>
                                                  intro k9 mq hk9 hok hmq hmu
                                                  exact absurd hmu (Nat.not_lt_zero _)
                                                | succ fuel ih =>
                                                  intro k9 mq hk9 hok hmq hmu
                                                  have ih124 := ih
                                                  clear ih
                                                  refine x_iload C dX10_shift_124 (q := 126) rfl 6 rfl ?_
                                                  refine x_iload C dX10_shift_126 (q := 128) rfl 5 rfl ?_
                                                  refine x_icmp_ge C (tgt := 155) dX10_shift_128 (by decide) (q := 131) rfl (a := ((k9 : Nat) : Int)) (b := v.toInt) (nI_toInt (by omega)) rfl (fun h23 => ?_) (fun h23 => ?_)
                                                  · first
                                                    | (exfalso; omega)
                                                    |
                                                      refine x_iconst C dX10_shift_155 (q := 156) rfl (v := nI 0) (by decide) ?_
                                                      refine x_istore C (L' := [(6, .int (nI 0)), (0, .ref mo), (1, .int (x)), (2, .int (y)), (3, .int (z)), (4, .int (w)), (5, .int (v))]) dX10_shift_156 (q := 158) rfl (by decide) rfl ?_
                                                      have cut158 : ∀ (fuel : Nat) (k8 : Nat) (fq : Nat → Int64), (k8 ≤ v.toInt.toNat) → (fq = va_cpy f f y.toInt.toNat w.toInt.toNat k8) → v.toInt.toNat - k8 < fuel → xG p l e R s m args below meth c Q D A 7 [(mo, .inr (9, [.int (nI cols), .int (nI lc), .int (nI smp), .int (ky), .ref (mr 0), .ref (mr 1), .ref (mr 2), .ref (mr 3), .ref (mr 4), .ref (mr 5), .ref (mr 6), .ref (mr 7), .ref (mr 8), .ref (mr 9), .int (nI mk), .int (nI rs), .ref (mr 10), .ref (mr 11), .ref (mr 12), .ref (mr 13), .ref (mr 14), .ref (mr 15), .ref (mr 16), .ref (mr 17), .ref (mr 18), .ref (mr 19), .ref (mr 20), .int (nI nse), .int (nI npa), .int (nI nbo), .ref (mr 21), .int (nI tn), .ref (mr 22), .int (nI ik), .int (j0), .int (j1), .ref (mr 23), .int (j2), .ref (mr 24), .ref (mr 25), .int (j3), .ref (mr 26), .int (j4), .ref (mr 27), .ref (mr 28), .ref (mr 29), .ref (mr 30)])), (mr 28, .inl (cy 1, 6, .inl tso)), (mr 29, .inl (cy 1, 6, .inl (fun k => nI (tsz k)))), (mr 27, .inl (cy 6, 6, .inr (.inr (.inr (.inr tq9))))), (mr 30, .inl (cy 2, 60, .inr (.inl mq))), (ta, .inl (cy 2, 60, .inr (.inl fq)))] 0 0 158 [(0, .ref mo), (1, .int (x)), (2, .int (y)), (3, .int (z)), (4, .int (w)), (5, .int (v)), (6, .int (nI k8))] [] := by
                                                        intro fuel
                                                        induction fuel with
                                                        | zero =>
                                                          intro k8 fq hk8 hfq hmu
                                                          exact absurd hmu (Nat.not_lt_zero _)
                                                        | succ fuel ih =>
                                                          intro k8 fq hk8 hfq hmu
                                                          have ih158 := ih
                                                          clear ih
                                                          refine x_iload C dX10_shift_158 (q := 160) rfl 6 rfl ?_
                                                          refine x_iload C dX10_shift_160 (q := 162) rfl 5 rfl ?_
                                                          refine x_icmp_ge C (tgt := 190) dX10_shift_162 (by decide) (q := 165) rfl (a := ((k8 : Nat) : Int)) (b := v.toInt) (nI_toInt (by omega)) rfl (fun h24 => ?_) (fun h24 => ?_)
                                                          · first
                                                            | (exfalso; omega)
                                                            |
                                                              refine x_iload C dX10_shift_190 (q := 192) rfl 5 rfl ?_
                                                              refine x_iret C hA hQ hr dX10_shift_192 (Nat.le_of_ble_eq_true rfl) ?_
                                                              have e9 : k8 = v.toInt.toNat := by omega
                                                              have e1 : shiA (tso x.toInt.toNat, tsz x.toInt.toNat, f) (tso z.toInt.toNat, tsz z.toInt.toNat, f) y w v = v := by
                                                                unfold shiA
                                                                dsimp only
                                                                repeat (first | rw [if_pos (by omega)] | rw [if_neg (by omega)])
                                                              have e2 : shiN (tso x.toInt.toNat, tsz x.toInt.toNat, f) (tso z.toInt.toNat, tsz z.toInt.toNat, f) y w v = fq := by
                                                                unfold shiN
                                                                dsimp only
                                                                repeat (first | rw [if_pos (by omega)] | rw [if_neg (by omega)])
                                                                rw [hfq, e9]
                                                              rw [e1, e2]
                                                              exact ⟨_, rfl, rfl⟩
                                                          · first
                                                            | (exfalso; omega)
                                                            |
                                                              refine x_aload_n C dX10_shift_165 (q := 166) rfl rfl 0 rfl ?_
                                                              refine x_get C (ci := 9) (v := .ref (mr 27)) hw0 0 rfl rfl 43 (by decide) hw3 rfl dX10_shift_166 (q := 169) rfl ?_
                                                              refine x_iload_n C dX10_shift_169 (q := 170) rfl rfl 3 rfl ?_
                                                              refine x_aald6 C (j := z.toInt.toNat) (v := .ref ta) 3 rfl (by have h9 := (rfl : (z : Int32).toInt = z.toInt); omega) (by omega) (by rw [htq2]; rfl) dX10_shift_170 (q := 171) rfl ?_
                                                              refine x_iload C dX10_shift_171 (q := 173) rfl 4 rfl ?_
                                                              refine x_iload C dX10_shift_173 (q := 175) rfl 6 rfl ?_
                                                              refine x_iadd C dX10_shift_175 (q := 176) rfl (z := w + (nI k8)) (rfl) ?_
                                                              refine x_aload_n C dX10_shift_176 (q := 177) rfl rfl 0 rfl ?_
                                                              refine x_get C (ci := 9) (v := .ref (mr 30)) hw0 0 rfl rfl 46 (by decide) hw4 rfl dX10_shift_177 (q := 180) rfl ?_
                                                              refine x_iload C dX10_shift_180 (q := 182) rfl 6 rfl ?_
                                                              refine x_lald C (j := k8) (v := mq k8) 4 rfl (nI_toInt (by omega)) (by omega) rfl dX10_shift_182 (q := 183) rfl ?_
                                                              refine x_last C (ws' := [(mo, .inr (9, [.int (nI cols), .int (nI lc), .int (nI smp), .int (ky), .ref (mr 0), .ref (mr 1), .ref (mr 2), .ref (mr 3), .ref (mr 4), .ref (mr 5), .ref (mr 6), .ref (mr 7), .ref (mr 8), .ref (mr 9), .int (nI mk), .int (nI rs), .ref (mr 10), .ref (mr 11), .ref (mr 12), .ref (mr 13), .ref (mr 14), .ref (mr 15), .ref (mr 16), .ref (mr 17), .ref (mr 18), .ref (mr 19), .ref (mr 20), .int (nI nse), .int (nI npa), .int (nI nbo), .ref (mr 21), .int (nI tn), .ref (mr 22), .int (nI ik), .int (j0), .int (j1), .ref (mr 23), .int (j2), .ref (mr 24), .ref (mr 25), .int (j3), .ref (mr 26), .int (j4), .ref (mr 27), .ref (mr 28), .ref (mr 29), .ref (mr 30)])), (mr 28, .inl (cy 1, 6, .inl tso)), (mr 29, .inl (cy 1, 6, .inl (fun k => nI (tsz k)))), (mr 27, .inl (cy 6, 6, .inr (.inr (.inr (.inr tq9))))), (mr 30, .inl (cy 2, 60, .inr (.inl mq))), (ta, .inl (cy 2, 60, .inr (.inl (va_up fq ((w.toInt + ((k8 : Nat) : Int)).toNat) (mq k8)))))]) 5 rfl (j := (w.toInt + ((k8 : Nat) : Int)).toNat) (by have h9 := ((xi_add rfl (nI_toInt (by omega)) (by omega) (by omega)) : (w + (nI k8) : Int32).toInt = w.toInt + ((k8 : Nat) : Int)); omega) (by omega) (rfl) rfl dX10_shift_183 (q := 184) rfl ?_
                                                              refine x_iinc C (L' := [(6, .int (nI (k8 + 1))), (0, .ref mo), (1, .int (x)), (2, .int (y)), (3, .int (z)), (4, .int (w)), (5, .int (v))]) dX10_shift_184 (q := 187) rfl 6 rfl (v := nI (k8 + 1)) (nI_add k8 1) (by decide) rfl ?_
                                                              refine x_goto C (tgt := 158) dX10_shift_187 (by decide) ?_
                                                              refine x_L (L' := [(0, .ref mo), (1, .int (x)), (2, .int (y)), (3, .int (z)), (4, .int (w)), (5, .int (v)), (6, .int (nI (k8 + 1)))]) [1, 2, 3, 4, 5, 6, 0] rfl ?_
                                                              exact ih158 (k8 + 1) (va_up fq ((w.toInt + ((k8 : Nat) : Int)).toNat) (mq k8)) (by first | omega | assumption) (by rw [hfq, show (w.toInt + ((k8 : Nat) : Int)).toNat = w.toInt.toNat + k8 by omega]; exact va_cpy_s (hmq k8 (by omega))) (by omega)
                                                      refine x_L (L' := [(0, .ref mo), (1, .int (x)), (2, .int (y)), (3, .int (z)), (4, .int (w)), (5, .int (v)), (6, .int (nI 0))]) [1, 2, 3, 4, 5, 6, 0] rfl ?_
                                                      exact cut158 (v.toInt.toNat - 0 + 1) 0 f (by first | omega | assumption) (by exact va_cpy_0.symm) (by omega)
                                                  · first
                                                    | (exfalso; omega)
                                                    |
                                                      refine x_aload_n C dX10_shift_131 (q := 132) rfl rfl 0 rfl ?_
                                                      refine x_get C (ci := 9) (v := .ref (mr 30)) hw0 0 rfl rfl 46 (by decide) hw4 rfl dX10_shift_132 (q := 135) rfl ?_
                                                      refine x_iload C dX10_shift_135 (q := 137) rfl 6 rfl ?_
                                                      refine x_aload_n C dX10_shift_137 (q := 138) rfl rfl 0 rfl ?_
                                                      refine x_get C (ci := 9) (v := .ref (mr 27)) hw0 0 rfl rfl 43 (by decide) hw3 rfl dX10_shift_138 (q := 141) rfl ?_
                                                      refine x_iload_n C dX10_shift_141 (q := 142) rfl rfl 1 rfl ?_
                                                      refine x_aald6 C (j := x.toInt.toNat) (v := .ref ta) 3 rfl (by have h9 := (rfl : (x : Int32).toInt = x.toInt); omega) (by omega) (by rw [htq]; rfl) dX10_shift_142 (q := 143) rfl ?_
                                                      refine x_iload_n C dX10_shift_143 (q := 144) rfl rfl 2 rfl ?_
                                                      refine x_iload C dX10_shift_144 (q := 146) rfl 6 rfl ?_
                                                      refine x_iadd C dX10_shift_146 (q := 147) rfl (z := y + (nI k9)) (rfl) ?_
                                                      refine x_lald C (j := (y.toInt + ((k9 : Nat) : Int)).toNat) (v := f ((y.toInt + ((k9 : Nat) : Int)).toNat)) 5 rfl (by have h9 := ((xi_add rfl (nI_toInt (by omega)) (by omega) (by omega)) : (y + (nI k9) : Int32).toInt = y.toInt + ((k9 : Nat) : Int)); omega) (by omega) rfl dX10_shift_147 (q := 148) rfl ?_
                                                      refine x_last C (ws' := [(mo, .inr (9, [.int (nI cols), .int (nI lc), .int (nI smp), .int (ky), .ref (mr 0), .ref (mr 1), .ref (mr 2), .ref (mr 3), .ref (mr 4), .ref (mr 5), .ref (mr 6), .ref (mr 7), .ref (mr 8), .ref (mr 9), .int (nI mk), .int (nI rs), .ref (mr 10), .ref (mr 11), .ref (mr 12), .ref (mr 13), .ref (mr 14), .ref (mr 15), .ref (mr 16), .ref (mr 17), .ref (mr 18), .ref (mr 19), .ref (mr 20), .int (nI nse), .int (nI npa), .int (nI nbo), .ref (mr 21), .int (nI tn), .ref (mr 22), .int (nI ik), .int (j0), .int (j1), .ref (mr 23), .int (j2), .ref (mr 24), .ref (mr 25), .int (j3), .ref (mr 26), .int (j4), .ref (mr 27), .ref (mr 28), .ref (mr 29), .ref (mr 30)])), (mr 28, .inl (cy 1, 6, .inl tso)), (mr 29, .inl (cy 1, 6, .inl (fun k => nI (tsz k)))), (mr 27, .inl (cy 6, 6, .inr (.inr (.inr (.inr tq9))))), (mr 30, .inl (cy 2, 60, .inr (.inl (va_up mq k9 (f ((y.toInt + ((k9 : Nat) : Int)).toNat)))))), (ta, .inl (cy 2, 60, .inr (.inl f)))]) 4 rfl (j := k9) (nI_toInt (by omega)) (by omega) (rfl) rfl dX10_shift_148 (q := 149) rfl ?_
                                                      refine x_iinc C (L' := [(6, .int (nI (k9 + 1))), (0, .ref mo), (1, .int (x)), (2, .int (y)), (3, .int (z)), (4, .int (w)), (5, .int (v))]) dX10_shift_149 (q := 152) rfl 6 rfl (v := nI (k9 + 1)) (nI_add k9 1) (by decide) rfl ?_
                                                      refine x_goto C (tgt := 124) dX10_shift_152 (by decide) ?_
                                                      refine x_L (L' := [(0, .ref mo), (1, .int (x)), (2, .int (y)), (3, .int (z)), (4, .int (w)), (5, .int (v)), (6, .int (nI (k9 + 1)))]) [1, 2, 3, 4, 5, 6, 0] rfl ?_
                                                      exact ih124 (k9 + 1) (va_up mq k9 (f ((y.toInt + ((k9 : Nat) : Int)).toNat))) (by first | omega | assumption) (by first | omega | assumption) (by intro q hq; by_cases e9 : q = k9; (subst e9; rw [va_up_eq]; congr 1; omega); (rw [va_up_ne' e9]; exact hmq q (by omega))) (by omega)
                                              refine x_L (L' := [(0, .ref mo), (1, .int (x)), (2, .int (y)), (3, .int (z)), (4, .int (w)), (5, .int (v)), (6, .int (nI 0))]) [1, 2, 3, 4, 5, 6, 0] rfl ?_
                                              exact cut124 (v.toInt.toNat - 0 + 1) 0 mv (by first | omega | assumption) (by omega) (by intro q hq; omega) (by omega)
                                          · first
                                            | (exfalso; omega)
                                            |
                                              refine x_bipush C dX10_shift_118 (q := 120) rfl (v := (-13)) (by decide) ?_
                                              refine x_iret C hA hQ hr dX10_shift_120 (Nat.le_of_ble_eq_true rfl) ?_
                                              have e1 : shiA (tso x.toInt.toNat, tsz x.toInt.toNat, f) (tso z.toInt.toNat, tsz z.toInt.toNat, f) y w v = (-13) := by
                                                unfold shiA
                                                dsimp only
                                                repeat (first | rw [if_pos (by omega)] | rw [if_neg (by omega)])
                                              have e2 : shiN (tso x.toInt.toNat, tsz x.toInt.toNat, f) (tso z.toInt.toNat, tsz z.toInt.toNat, f) y w v = f := by
                                                unfold shiN
                                                dsimp only
                                                repeat (first | rw [if_pos (by omega)] | rw [if_neg (by omega)])
                                              rw [e1, e2]
                                              exact ⟨_, rfl, rfl⟩
              · first
                | (exfalso; omega)
                |
                  refine x_bipush C dX10_shift_52 (q := 54) rfl (v := (-12)) (by decide) ?_
                  refine x_iret C hA hQ hr dX10_shift_54 (Nat.le_of_ble_eq_true rfl) ?_
                  have e1 : shiA (tso x.toInt.toNat, tsz x.toInt.toNat, f) (tso z.toInt.toNat, tsz z.toInt.toNat, f) y w v = (-12) := by
                    unfold shiA
                    dsimp only
                    repeat (first | rw [if_pos (by omega)] | rw [if_neg (by omega)])
                  have e2 : shiN (tso x.toInt.toNat, tsz x.toInt.toNat, f) (tso z.toInt.toNat, tsz z.toInt.toNat, f) y w v = f := by
                    unfold shiN
                    dsimp only
                    repeat (first | rw [if_pos (by omega)] | rw [if_neg (by omega)])
                  rw [e1, e2]
                  exact ⟨_, rfl, rfl⟩
          · first
            | (exfalso; omega)
            |
              refine x_bipush C dX10_shift_34 (q := 36) rfl (v := (-11)) (by decide) ?_
              refine x_iret C hA hQ hr dX10_shift_36 (Nat.le_of_ble_eq_true rfl) ?_
              have e1 : shiA (tso x.toInt.toNat, tsz x.toInt.toNat, f) (tso z.toInt.toNat, tsz z.toInt.toNat, f) y w v = (-11) := by
                unfold shiA
                dsimp only
                repeat (first | rw [if_pos (by omega)] | rw [if_neg (by omega)])
              have e2 : shiN (tso x.toInt.toNat, tsz x.toInt.toNat, f) (tso z.toInt.toNat, tsz z.toInt.toNat, f) y w v = f := by
                unfold shiN
                dsimp only
                repeat (first | rw [if_pos (by omega)] | rw [if_neg (by omega)])
              rw [e1, e2]
              exact ⟨_, rfl, rfl⟩
    · exfalso; obtain ⟨_, _, hc25⟩ := hp5; omega
  · exfalso; obtain ⟨_, _, hc26⟩ := hp1; omega

set_option maxHeartbeats 600000 in
set_option maxRecDepth 100000 in
/-- shift, by none -/
theorem c_X10_shift_o (l : Launch) (D : va_G) (cy : Nat → ClassId) (mo : Nat) (mr : Nat → Nat) (cols : Nat) (lc : Nat) (smp : Nat) (mk : Nat) (rs : Nat) (nse : Nat) (npa : Nat) (nbo : Nat) (tn : Nat) (ik : Nat) (ky : Int32) (j0 : Int32) (j1 : Int32) (j2 : Int32) (j3 : Int32) (j4 : Int32) (x : Int32) (y : Int32) (z : Int32) (w : Int32) (v : Int32) (hx : (x.toInt < 0 ∨ 6 ≤ x.toInt) ∨ (z.toInt < 0 ∨ 6 ≤ z.toInt)) : xMet l D cy xT yX10_shift wsX10_shift ({ frames := 4, cells := 0, slots := 0, locals := 500 } : Room) [.ref mo, .int (x), .int (y), .int (z), .int (w), .int (v)] [(mo, .inr (9, [.int (nI cols), .int (nI lc), .int (nI smp), .int (ky), .ref (mr 0), .ref (mr 1), .ref (mr 2), .ref (mr 3), .ref (mr 4), .ref (mr 5), .ref (mr 6), .ref (mr 7), .ref (mr 8), .ref (mr 9), .int (nI mk), .int (nI rs), .ref (mr 10), .ref (mr 11), .ref (mr 12), .ref (mr 13), .ref (mr 14), .ref (mr 15), .ref (mr 16), .ref (mr 17), .ref (mr 18), .ref (mr 19), .ref (mr 20), .int (nI nse), .int (nI npa), .int (nI nbo), .ref (mr 21), .int (nI tn), .ref (mr 22), .int (nI ik), .int (j0), .int (j1), .ref (mr 23), .int (j2), .ref (mr 24), .ref (mr 25), .int (j3), .ref (mr 26), .int (j4), .ref (mr 27), .ref (mr 28), .ref (mr 29), .ref (mr 30)]))] [] (fun (v9 : Option Value) (w9 : va_W) => (v9 = some (.int ((-1))) ∧ w9 = [(mo, .inr (9, [.int (nI cols), .int (nI lc), .int (nI smp), .int (ky), .ref (mr 0), .ref (mr 1), .ref (mr 2), .ref (mr 3), .ref (mr 4), .ref (mr 5), .ref (mr 6), .ref (mr 7), .ref (mr 8), .ref (mr 9), .int (nI mk), .int (nI rs), .ref (mr 10), .ref (mr 11), .ref (mr 12), .ref (mr 13), .ref (mr 14), .ref (mr 15), .ref (mr 16), .ref (mr 17), .ref (mr 18), .ref (mr 19), .ref (mr 20), .int (nI nse), .int (nI npa), .int (nI nbo), .ref (mr 21), .int (nI tn), .ref (mr 22), .int (nI ik), .int (j0), .int (j1), .ref (mr 23), .int (j2), .ref (mr 24), .ref (mr 25), .int (j3), .ref (mr 26), .int (j4), .ref (mr 27), .ref (mr 28), .ref (mr 29), .ref (mr 30)]))])) := by
  refine xMet_of (cc := cX10_shift) (maxL := 7) (ret := (some .int)) (by decide) rfl (Nat.le_of_ble_eq_true rfl) (fun p e s m args below meth c A R Q hA hR hQ C hr hnm hro hX => ?_)
  refine x_L (L' := [(0, .ref mo), (1, .int (x)), (2, .int (y)), (3, .int (z)), (4, .int (w)), (5, .int (v))]) [0, 1, 2, 3, 4, 5] rfl ?_
  refine x_iload_n C dX10_shift_0 (q := 1) rfl rfl 1 rfl ?_
  refine x_callS C (roW := []) (roR := []) (c_X10_isTape l D cy x ) (cwS 1 C.2.2.2.2.1 gX10_shift_X10_isTape rfl rfl rfl (by decide +kernel) (by rw [hR]; exact ⟨Nat.le_of_ble_eq_true rfl, Nat.le_of_ble_eq_true rfl⟩)) [] [] rfl (by decide) rfl (by decide) xro_nil xT_bl (fun _ _ _ _ _ _ _ => trivial) rfl rfl dX10_shift_1 rfl rfl (Nat.le_of_ble_eq_true rfl) (q := 4) rfl (k' := 0) rfl (n' := 0) rfl (by rw [hR]; exact ⟨Nat.le_of_ble_eq_true rfl, Nat.le_of_ble_eq_true rfl⟩) (fun v1 w1 hp1 => ?_)
  rcases hp1 with hp1 | hp1
  · skip
    obtain ⟨rfl, rfl, hc2, hc3⟩ := hp1
    refine x_ws (ws' := [(mo, .inr (9, [.int (nI cols), .int (nI lc), .int (nI smp), .int (ky), .ref (mr 0), .ref (mr 1), .ref (mr 2), .ref (mr 3), .ref (mr 4), .ref (mr 5), .ref (mr 6), .ref (mr 7), .ref (mr 8), .ref (mr 9), .int (nI mk), .int (nI rs), .ref (mr 10), .ref (mr 11), .ref (mr 12), .ref (mr 13), .ref (mr 14), .ref (mr 15), .ref (mr 16), .ref (mr 17), .ref (mr 18), .ref (mr 19), .ref (mr 20), .int (nI nse), .int (nI npa), .int (nI nbo), .ref (mr 21), .int (nI tn), .ref (mr 22), .int (nI ik), .int (j0), .int (j1), .ref (mr 23), .int (j2), .ref (mr 24), .ref (mr 25), .int (j3), .ref (mr 26), .int (j4), .ref (mr 27), .ref (mr 28), .ref (mr 29), .ref (mr 30)]))]) (List.append_nil _) ?_
    refine x_if_eq C (tgt := 14) dX10_shift_4 (by decide) (q := 7) rfl (a := 1) rfl (fun h4 => (by omega : False).elim) (fun h4 => ?_)
    refine x_iload_n C dX10_shift_7 (q := 8) rfl rfl 3 rfl ?_
    refine x_callS C (roW := []) (roR := []) (c_X10_isTape l D cy z ) (cwS 1 C.2.2.2.2.1 gX10_shift_X10_isTape rfl rfl rfl (by decide +kernel) (by rw [hR]; exact ⟨Nat.le_of_ble_eq_true rfl, Nat.le_of_ble_eq_true rfl⟩)) [] [] rfl (by decide) rfl (by decide) xro_nil xT_bl (fun _ _ _ _ _ _ _ => trivial) rfl rfl dX10_shift_8 rfl rfl (Nat.le_of_ble_eq_true rfl) (q := 11) rfl (k' := 0) rfl (n' := 0) rfl (by rw [hR]; exact ⟨Nat.le_of_ble_eq_true rfl, Nat.le_of_ble_eq_true rfl⟩) (fun v5 w5 hp5 => ?_)
    rcases hp5 with hp5 | hp5
    · skip
      obtain ⟨rfl, rfl, hc6, hc7⟩ := hp5
      refine x_ws (ws' := [(mo, .inr (9, [.int (nI cols), .int (nI lc), .int (nI smp), .int (ky), .ref (mr 0), .ref (mr 1), .ref (mr 2), .ref (mr 3), .ref (mr 4), .ref (mr 5), .ref (mr 6), .ref (mr 7), .ref (mr 8), .ref (mr 9), .int (nI mk), .int (nI rs), .ref (mr 10), .ref (mr 11), .ref (mr 12), .ref (mr 13), .ref (mr 14), .ref (mr 15), .ref (mr 16), .ref (mr 17), .ref (mr 18), .ref (mr 19), .ref (mr 20), .int (nI nse), .int (nI npa), .int (nI nbo), .ref (mr 21), .int (nI tn), .ref (mr 22), .int (nI ik), .int (j0), .int (j1), .ref (mr 23), .int (j2), .ref (mr 24), .ref (mr 25), .int (j3), .ref (mr 26), .int (j4), .ref (mr 27), .ref (mr 28), .ref (mr 29), .ref (mr 30)]))]) (List.append_nil _) ?_
      exfalso; omega
    · skip
      obtain ⟨rfl, rfl, hc8⟩ := hp5
      refine x_ws (ws' := [(mo, .inr (9, [.int (nI cols), .int (nI lc), .int (nI smp), .int (ky), .ref (mr 0), .ref (mr 1), .ref (mr 2), .ref (mr 3), .ref (mr 4), .ref (mr 5), .ref (mr 6), .ref (mr 7), .ref (mr 8), .ref (mr 9), .int (nI mk), .int (nI rs), .ref (mr 10), .ref (mr 11), .ref (mr 12), .ref (mr 13), .ref (mr 14), .ref (mr 15), .ref (mr 16), .ref (mr 17), .ref (mr 18), .ref (mr 19), .ref (mr 20), .int (nI nse), .int (nI npa), .int (nI nbo), .ref (mr 21), .int (nI tn), .ref (mr 22), .int (nI ik), .int (j0), .int (j1), .ref (mr 23), .int (j2), .ref (mr 24), .ref (mr 25), .int (j3), .ref (mr 26), .int (j4), .ref (mr 27), .ref (mr 28), .ref (mr 29), .ref (mr 30)]))]) (List.append_nil _) ?_
      refine x_if_ne C (tgt := 16) dX10_shift_11 (by decide) (q := 14) rfl (a := 0) rfl (fun h9 => (by omega : False).elim) (fun h9 => ?_)
      refine x_iconst C dX10_shift_14 (q := 15) rfl (v := (-1)) (by decide) ?_
      refine x_iret C hA hQ hr dX10_shift_15 (Nat.le_of_ble_eq_true rfl) ?_
      first | exact ⟨rfl, rfl⟩ | exact ⟨_, rfl, rfl, by first | rfl | omega | assumption⟩ | (refine ⟨_, rfl, rfl, ?_⟩; (first | rfl | omega | (simp only []; omega)))
  · skip
    obtain ⟨rfl, rfl, hc10⟩ := hp1
    refine x_ws (ws' := [(mo, .inr (9, [.int (nI cols), .int (nI lc), .int (nI smp), .int (ky), .ref (mr 0), .ref (mr 1), .ref (mr 2), .ref (mr 3), .ref (mr 4), .ref (mr 5), .ref (mr 6), .ref (mr 7), .ref (mr 8), .ref (mr 9), .int (nI mk), .int (nI rs), .ref (mr 10), .ref (mr 11), .ref (mr 12), .ref (mr 13), .ref (mr 14), .ref (mr 15), .ref (mr 16), .ref (mr 17), .ref (mr 18), .ref (mr 19), .ref (mr 20), .int (nI nse), .int (nI npa), .int (nI nbo), .ref (mr 21), .int (nI tn), .ref (mr 22), .int (nI ik), .int (j0), .int (j1), .ref (mr 23), .int (j2), .ref (mr 24), .ref (mr 25), .int (j3), .ref (mr 26), .int (j4), .ref (mr 27), .ref (mr 28), .ref (mr 29), .ref (mr 30)]))]) (List.append_nil _) ?_
    refine x_if_eq C (tgt := 14) dX10_shift_4 (by decide) (q := 7) rfl (a := 0) rfl (fun h11 => ?_) (fun h11 => (by omega : False).elim)
    refine x_iconst C dX10_shift_14 (q := 15) rfl (v := (-1)) (by decide) ?_
    refine x_iret C hA hQ hr dX10_shift_15 (Nat.le_of_ble_eq_true rfl) ?_
    first | exact ⟨rfl, rfl⟩ | exact ⟨_, rfl, rfl, by first | rfl | omega | assumption⟩ | (refine ⟨_, rfl, rfl, ?_⟩; (first | rfl | omega | (simp only []; omega)))
