set_option maxHeartbeats 4000000 in
set_option maxRecDepth 100000 in
/-- sample -/
theorem c_X10_sample (l : Launch) (D : va_G) (cy : Nat → ClassId) (mo : Nat) (mr : Nat → Nat) (cols : Nat) (lc : Nat) (smp : Nat) (mk : Nat) (rs : Nat) (nse : Nat) (npa : Nat) (nbo : Nat) (tn : Nat) (ik : Nat) (ky : Int32) (j0 : Int32) (j1 : Int32) (j2 : Int32) (j3 : Int32) (j4 : Int32) (x : Int32) (hsmp : smp ≤ 24) : xMet l D cy xT yX10_sample wsX10_sample ({ frames := 2, cells := 0, slots := 0, locals := 200 } : Room) [.ref mo, .int (x)] [(mo, .inr (9, [.int (nI cols), .int (nI lc), .int (nI smp), .int (ky), .ref (mr 0), .ref (mr 1), .ref (mr 2), .ref (mr 3), .ref (mr 4), .ref (mr 5), .ref (mr 6), .ref (mr 7), .ref (mr 8), .ref (mr 9), .int (nI mk), .int (nI rs), .ref (mr 10), .ref (mr 11), .ref (mr 12), .ref (mr 13), .ref (mr 14), .ref (mr 15), .ref (mr 16), .ref (mr 17), .ref (mr 18), .ref (mr 19), .ref (mr 20), .int (nI nse), .int (nI npa), .int (nI nbo), .ref (mr 21), .int (nI tn), .ref (mr 22), .int (nI ik), .int (j0), .int (j1), .ref (mr 23), .int (j2), .ref (mr 24), .ref (mr 25), .int (j3), .ref (mr 26), .int (j4), .ref (mr 27), .ref (mr 28), .ref (mr 29), .ref (mr 30)]))] [] (fun (v9 : Option Value) (w9 : va_W) => (v9 = some (.int (saA smp x)) ∧ w9 = [(mo, .inr (9, [.int (nI cols), .int (nI lc), .int (nI (saN smp x)), .int (ky), .ref (mr 0), .ref (mr 1), .ref (mr 2), .ref (mr 3), .ref (mr 4), .ref (mr 5), .ref (mr 6), .ref (mr 7), .ref (mr 8), .ref (mr 9), .int (nI mk), .int (nI rs), .ref (mr 10), .ref (mr 11), .ref (mr 12), .ref (mr 13), .ref (mr 14), .ref (mr 15), .ref (mr 16), .ref (mr 17), .ref (mr 18), .ref (mr 19), .ref (mr 20), .int (nI nse), .int (nI npa), .int (nI nbo), .ref (mr 21), .int (nI tn), .ref (mr 22), .int (nI ik), .int (j0), .int (j1), .ref (mr 23), .int (j2), .ref (mr 24), .ref (mr 25), .int (j3), .ref (mr 26), .int (j4), .ref (mr 27), .ref (mr 28), .ref (mr 29), .ref (mr 30)]))])) := by
  refine xMet_of (cc := cX10_sample) (maxL := 3) (ret := (some .int)) (by decide) rfl (Nat.le_of_ble_eq_true rfl) (fun p e s m args below meth c A R Q hA hR hQ C hr hnm hro hX => ?_)
  have hw0 : Jvm.Cond.constantLong RX10 277 (24) ∈ wsX10_sample := by decide +kernel
  have hw1 : ∀ w ∈ u_ws RX10 TX10 47, w ∈ wsX10_sample := by decide +kernel
  have hw2 : Cond.fieldLink RX10 9 (TX10 2).1 (TX10 2).2.1 (TX10 2).2.2.1 ∈ wsX10_sample := by decide +kernel
  refine x_L (L' := [(0, .ref mo), (1, .int (x))]) [0, 1] rfl ?_
  refine x_iload_n C dX10_sample_0 (q := 1) rfl rfl 1 rfl ?_
  refine x_i2l C dX10_sample_1 (q := 2) rfl (v := x.toInt64) (rfl) ?_
  refine x_lconst C dX10_sample_2 (q := 3) rfl (v := lN 1) rfl ?_
  refine x_ldc2 C (v := lN 24) hw0 dX10_sample_3 (q := 6) rfl ?_
  refine x_callS C (roW := []) (roR := []) (c_X10_in l D cy x.toInt64 (lN 1) (lN 24) x.toInt 1 24 (xl_wide rfl) rfl rfl) (cwS 3 C.2.2.2.2.1 gX10_sample_X10_in rfl rfl rfl (by decide +kernel) (by rw [hR]; exact ⟨Nat.le_of_ble_eq_true rfl, Nat.le_of_ble_eq_true rfl⟩)) [] [] rfl (by decide) rfl (by decide) xro_nil xT_bl (fun _ _ _ _ _ _ _ => trivial) rfl rfl dX10_sample_6 rfl rfl (Nat.le_of_ble_eq_true rfl) (q := 9) rfl (k' := 0) rfl (n' := 0) rfl (by rw [hR]; exact ⟨Nat.le_of_ble_eq_true rfl, Nat.le_of_ble_eq_true rfl⟩) (fun v1 w1 hp1 => ?_)
  rcases hp1 with hp1 | hp1
  · skip
    obtain ⟨rfl, rfl, hc2, hc3⟩ := hp1
    refine x_ws (ws' := [(mo, .inr (9, [.int (nI cols), .int (nI lc), .int (nI smp), .int (ky), .ref (mr 0), .ref (mr 1), .ref (mr 2), .ref (mr 3), .ref (mr 4), .ref (mr 5), .ref (mr 6), .ref (mr 7), .ref (mr 8), .ref (mr 9), .int (nI mk), .int (nI rs), .ref (mr 10), .ref (mr 11), .ref (mr 12), .ref (mr 13), .ref (mr 14), .ref (mr 15), .ref (mr 16), .ref (mr 17), .ref (mr 18), .ref (mr 19), .ref (mr 20), .int (nI nse), .int (nI npa), .int (nI nbo), .ref (mr 21), .int (nI tn), .ref (mr 22), .int (nI ik), .int (j0), .int (j1), .ref (mr 23), .int (j2), .ref (mr 24), .ref (mr 25), .int (j3), .ref (mr 26), .int (j4), .ref (mr 27), .ref (mr 28), .ref (mr 29), .ref (mr 30)]))]) (List.append_nil _) ?_
    refine x_if_ne C (tgt := 15) dX10_sample_9 (by decide) (q := 12) rfl (a := 1) rfl (fun h4 => ?_) (fun h4 => (by omega : False).elim)
    refine x_aload_n C dX10_sample_15 (q := 16) rfl rfl 0 rfl ?_
    refine x_get C (ci := 9) (v := .int (nI smp)) hw1 0 rfl rfl 2 (by decide) hw2 rfl dX10_sample_16 (q := 19) rfl ?_
    refine x_istore_n C (L' := [(2, .int (nI smp)), (0, .ref mo), (1, .int (x))]) dX10_sample_19 (q := 20) rfl rfl (by decide) rfl ?_
    refine x_aload_n C dX10_sample_20 (q := 21) rfl rfl 1 rfl ?_
    refine x_iload_n C dX10_sample_21 (q := 22) rfl rfl 2 rfl ?_
    refine x_topi (y := nI x.toInt.toNat) (xi_nat (by omega)) ?_
    refine x_put C (ci := 9) (ty := .int) (ws' := [(mo, .inr (9, [.int (nI cols), .int (nI lc), .int (nI x.toInt.toNat), .int (ky), .ref (mr 0), .ref (mr 1), .ref (mr 2), .ref (mr 3), .ref (mr 4), .ref (mr 5), .ref (mr 6), .ref (mr 7), .ref (mr 8), .ref (mr 9), .int (nI mk), .int (nI rs), .ref (mr 10), .ref (mr 11), .ref (mr 12), .ref (mr 13), .ref (mr 14), .ref (mr 15), .ref (mr 16), .ref (mr 17), .ref (mr 18), .ref (mr 19), .ref (mr 20), .int (nI nse), .int (nI npa), .int (nI nbo), .ref (mr 21), .int (nI tn), .ref (mr 22), .int (nI ik), .int (j0), .int (j1), .ref (mr 23), .int (j2), .ref (mr 24), .ref (mr 25), .int (j3), .ref (mr 26), .int (j4), .ref (mr 27), .ref (mr 28), .ref (mr 29), .ref (mr 30)]))]) hw1 tyX10 tyX10_ok nmX10 0 rfl rfl 2 (by decide) hw2 rfl (by decide +kernel) rfl rfl (Nat.le_of_ble_eq_true rfl) rfl dX10_sample_22 (q := 25) rfl ?_
    refine x_iload_n C dX10_sample_25 (q := 26) rfl rfl 0 rfl ?_
    refine x_iret C hA hQ hr dX10_sample_26 (Nat.le_of_ble_eq_true rfl) ?_
    unfold saA saN
    repeat (first | rw [if_pos (by omega)] | rw [if_neg (by omega)])
    exact ⟨rfl, rfl⟩
  · skip
    obtain ⟨rfl, rfl, hc5⟩ := hp1
    refine x_ws (ws' := [(mo, .inr (9, [.int (nI cols), .int (nI lc), .int (nI smp), .int (ky), .ref (mr 0), .ref (mr 1), .ref (mr 2), .ref (mr 3), .ref (mr 4), .ref (mr 5), .ref (mr 6), .ref (mr 7), .ref (mr 8), .ref (mr 9), .int (nI mk), .int (nI rs), .ref (mr 10), .ref (mr 11), .ref (mr 12), .ref (mr 13), .ref (mr 14), .ref (mr 15), .ref (mr 16), .ref (mr 17), .ref (mr 18), .ref (mr 19), .ref (mr 20), .int (nI nse), .int (nI npa), .int (nI nbo), .ref (mr 21), .int (nI tn), .ref (mr 22), .int (nI ik), .int (j0), .int (j1), .ref (mr 23), .int (j2), .ref (mr 24), .ref (mr 25), .int (j3), .ref (mr 26), .int (j4), .ref (mr 27), .ref (mr 28), .ref (mr 29), .ref (mr 30)]))]) (List.append_nil _) ?_
    refine x_if_ne C (tgt := 15) dX10_sample_9 (by decide) (q := 12) rfl (a := 0) rfl (fun h6 => (by omega : False).elim) (fun h6 => ?_)
    refine x_bipush C dX10_sample_12 (q := 14) rfl (v := (-2)) (by decide) ?_
    refine x_iret C hA hQ hr dX10_sample_14 (Nat.le_of_ble_eq_true rfl) ?_
    unfold saA saN
    repeat (first | rw [if_pos (by omega)] | rw [if_neg (by omega)])
    exact ⟨rfl, rfl⟩

set_option maxHeartbeats 4000000 in
set_option maxRecDepth 100000 in
/-- type -/
theorem c_X10_type_ (l : Launch) (D : va_G) (cy : Nat → ClassId) (mo : Nat) (mr : Nat → Nat) (cols : Nat) (lc : Nat) (smp : Nat) (mk : Nat) (rs : Nat) (nse : Nat) (npa : Nat) (nbo : Nat) (tn : Nat) (ik : Nat) (ky : Int32) (j0 : Int32) (j1 : Int32) (j2 : Int32) (j3 : Int32) (j4 : Int32) (tl9 : Nat → Nat) (x : Int32) (y : Int32) (hcols : cols ≤ 5) (htl9 : ∀ k, tl9 k ≤ 4) : xMet l D cy xT yX10_type_ wsX10_type_ ({ frames := 3, cells := 0, slots := 0, locals := 300 } : Room) [.ref mo, .int (x), .int (y)] [(mo, .inr (9, [.int (nI cols), .int (nI lc), .int (nI smp), .int (ky), .ref (mr 0), .ref (mr 1), .ref (mr 2), .ref (mr 3), .ref (mr 4), .ref (mr 5), .ref (mr 6), .ref (mr 7), .ref (mr 8), .ref (mr 9), .int (nI mk), .int (nI rs), .ref (mr 10), .ref (mr 11), .ref (mr 12), .ref (mr 13), .ref (mr 14), .ref (mr 15), .ref (mr 16), .ref (mr 17), .ref (mr 18), .ref (mr 19), .ref (mr 20), .int (nI nse), .int (nI npa), .int (nI nbo), .ref (mr 21), .int (nI tn), .ref (mr 22), .int (nI ik), .int (j0), .int (j1), .ref (mr 23), .int (j2), .ref (mr 24), .ref (mr 25), .int (j3), .ref (mr 26), .int (j4), .ref (mr 27), .ref (mr 28), .ref (mr 29), .ref (mr 30)])), (mr 2, .inl (cy 1, 5, .inl (fun k => nI (tl9 k))))] [] (fun (v9 : Option Value) (w9 : va_W) => (v9 = some (.int (typA cols tl9 x y)) ∧ w9 = [(mo, .inr (9, [.int (nI cols), .int (nI lc), .int (nI smp), .int (ky), .ref (mr 0), .ref (mr 1), .ref (mr 2), .ref (mr 3), .ref (mr 4), .ref (mr 5), .ref (mr 6), .ref (mr 7), .ref (mr 8), .ref (mr 9), .int (nI mk), .int (nI rs), .ref (mr 10), .ref (mr 11), .ref (mr 12), .ref (mr 13), .ref (mr 14), .ref (mr 15), .ref (mr 16), .ref (mr 17), .ref (mr 18), .ref (mr 19), .ref (mr 20), .int (nI nse), .int (nI npa), .int (nI nbo), .ref (mr 21), .int (nI tn), .ref (mr 22), .int (nI ik), .int (j0), .int (j1), .ref (mr 23), .int (j2), .ref (mr 24), .ref (mr 25), .int (j3), .ref (mr 26), .int (j4), .ref (mr 27), .ref (mr 28), .ref (mr 29), .ref (mr 30)])), (mr 2, .inl (cy 1, 5, .inl (fun k => nI ((typN cols tl9 x y) k))))])) := by
  refine xMet_of (cc := cX10_type_) (maxL := 4) (ret := (some .int)) (by decide) rfl (Nat.le_of_ble_eq_true rfl) (fun p e s m args below meth c A R Q hA hR hQ C hr hnm hro hX => ?_)
  have hw0 : Jvm.Cond.constantLong RX10 282 (4) ∈ wsX10_type_ := by decide +kernel
  have hw1 : ∀ w ∈ u_ws RX10 TX10 47, w ∈ wsX10_type_ := by decide +kernel
  have hw2 : Cond.fieldLink RX10 25 (TX10 6).1 (TX10 6).2.1 (TX10 6).2.2.1 ∈ wsX10_type_ := by decide +kernel
  refine x_L (L' := [(0, .ref mo), (1, .int (x)), (2, .int (y))]) [0, 1, 2] rfl ?_
  refine x_aload_n C dX10_type__0 (q := 1) rfl rfl 0 rfl ?_
  refine x_iload_n C dX10_type__1 (q := 2) rfl rfl 1 rfl ?_
  refine x_callV C (roW := []) (roR := []) (c_X10_isColumn l D cy mo mr cols lc smp mk rs nse npa nbo tn ik ky j0 j1 j2 j3 j4 x (by first | assumption | omega | (simp only []; omega))) (cwV 1 C.2.2.2.2.1 gX10_type__X10_isColumn rfl rfl rfl (by decide +kernel) (by rw [hR]; exact ⟨Nat.le_of_ble_eq_true rfl, Nat.le_of_ble_eq_true rfl⟩)) [0] [] rfl (by decide) rfl (by decide) xro_nil (List.mem_of_getElem? (i := 0) rfl) (ci := 9) rfl xT_bl (fun _ _ _ _ _ _ _ => trivial) rfl rfl dX10_type__2 rfl rfl (Nat.le_of_ble_eq_true rfl) (q := 5) rfl (k' := 0) rfl (n' := 0) rfl (by rw [hR]; exact ⟨Nat.le_of_ble_eq_true rfl, Nat.le_of_ble_eq_true rfl⟩) (fun v1 w1 hp1 => ?_)
  rcases hp1 with hp1 | hp1
  · skip
    obtain ⟨rfl, rfl, hc2, hc3⟩ := hp1
    refine x_ws (ws' := [(mo, .inr (9, [.int (nI cols), .int (nI lc), .int (nI smp), .int (ky), .ref (mr 0), .ref (mr 1), .ref (mr 2), .ref (mr 3), .ref (mr 4), .ref (mr 5), .ref (mr 6), .ref (mr 7), .ref (mr 8), .ref (mr 9), .int (nI mk), .int (nI rs), .ref (mr 10), .ref (mr 11), .ref (mr 12), .ref (mr 13), .ref (mr 14), .ref (mr 15), .ref (mr 16), .ref (mr 17), .ref (mr 18), .ref (mr 19), .ref (mr 20), .int (nI nse), .int (nI npa), .int (nI nbo), .ref (mr 21), .int (nI tn), .ref (mr 22), .int (nI ik), .int (j0), .int (j1), .ref (mr 23), .int (j2), .ref (mr 24), .ref (mr 25), .int (j3), .ref (mr 26), .int (j4), .ref (mr 27), .ref (mr 28), .ref (mr 29), .ref (mr 30)])), (mr 2, .inl (cy 1, 5, .inl (fun k => nI (tl9 k))))]) rfl ?_
    refine x_if_ne C (tgt := 10) dX10_type__5 (by decide) (q := 8) rfl (a := 1) rfl (fun h4 => ?_) (fun h4 => (by omega : False).elim)
    refine x_iload_n C dX10_type__10 (q := 11) rfl rfl 2 rfl ?_
    refine x_i2l C dX10_type__11 (q := 12) rfl (v := y.toInt64) (rfl) ?_
    refine x_lconst C dX10_type__12 (q := 13) rfl (v := lN 0) rfl ?_
    refine x_ldc2 C (v := lN 4) hw0 dX10_type__13 (q := 16) rfl ?_
    refine x_callS C (roW := []) (roR := []) (c_X10_in l D cy y.toInt64 (lN 0) (lN 4) y.toInt 0 4 (xl_wide rfl) rfl rfl) (cwS 3 C.2.2.2.2.1 gX10_type__X10_in rfl rfl rfl (by decide +kernel) (by rw [hR]; exact ⟨Nat.le_of_ble_eq_true rfl, Nat.le_of_ble_eq_true rfl⟩)) [] [] rfl (by decide) rfl (by decide) xro_nil xT_bl (fun _ _ _ _ _ _ _ => trivial) rfl rfl dX10_type__16 rfl rfl (Nat.le_of_ble_eq_true rfl) (q := 19) rfl (k' := 0) rfl (n' := 0) rfl (by rw [hR]; exact ⟨Nat.le_of_ble_eq_true rfl, Nat.le_of_ble_eq_true rfl⟩) (fun v5 w5 hp5 => ?_)
    rcases hp5 with hp5 | hp5
    · skip
      obtain ⟨rfl, rfl, hc6, hc7⟩ := hp5
      refine x_ws (ws' := [(mo, .inr (9, [.int (nI cols), .int (nI lc), .int (nI smp), .int (ky), .ref (mr 0), .ref (mr 1), .ref (mr 2), .ref (mr 3), .ref (mr 4), .ref (mr 5), .ref (mr 6), .ref (mr 7), .ref (mr 8), .ref (mr 9), .int (nI mk), .int (nI rs), .ref (mr 10), .ref (mr 11), .ref (mr 12), .ref (mr 13), .ref (mr 14), .ref (mr 15), .ref (mr 16), .ref (mr 17), .ref (mr 18), .ref (mr 19), .ref (mr 20), .int (nI nse), .int (nI npa), .int (nI nbo), .ref (mr 21), .int (nI tn), .ref (mr 22), .int (nI ik), .int (j0), .int (j1), .ref (mr 23), .int (j2), .ref (mr 24), .ref (mr 25), .int (j3), .ref (mr 26), .int (j4), .ref (mr 27), .ref (mr 28), .ref (mr 29), .ref (mr 30)])), (mr 2, .inl (cy 1, 5, .inl (fun k => nI (tl9 k))))]) (List.append_nil _) ?_
      refine x_if_ne C (tgt := 25) dX10_type__19 (by decide) (q := 22) rfl (a := 1) rfl (fun h8 => ?_) (fun h8 => (by omega : False).elim)
      refine x_aload_n C dX10_type__25 (q := 26) rfl rfl 0 rfl ?_
      refine x_get C (ci := 9) (v := .ref (mr 2)) hw1 0 rfl rfl 6 (by decide) hw2 rfl dX10_type__26 (q := 29) rfl ?_
      refine x_iload_n C dX10_type__29 (q := 30) rfl rfl 1 rfl ?_
      have hb9 := htl9 x.toInt.toNat
      refine x_iald C (j := x.toInt.toNat) (v := nI (tl9 x.toInt.toNat)) 1 rfl (by have h9 := (rfl : (x : Int32).toInt = x.toInt); omega) (by omega) rfl dX10_type__30 (q := 31) rfl ?_
      refine x_istore_n C (L' := [(3, .int (nI (tl9 x.toInt.toNat))), (0, .ref mo), (1, .int (x)), (2, .int (y))]) dX10_type__31 (q := 32) rfl rfl (by decide) rfl ?_
      refine x_aload_n C dX10_type__32 (q := 33) rfl rfl 1 rfl ?_
      refine x_get C (ci := 9) (v := .ref (mr 2)) hw1 0 rfl rfl 6 (by decide) hw2 rfl dX10_type__33 (q := 36) rfl ?_
      refine x_iload_n C dX10_type__36 (q := 37) rfl rfl 2 rfl ?_
      refine x_iload_n C dX10_type__37 (q := 38) rfl rfl 3 rfl ?_
      refine x_topi (y := nI y.toInt.toNat) (xi_nat (by omega)) ?_
      refine x_iast C (ws' := [(mo, .inr (9, [.int (nI cols), .int (nI lc), .int (nI smp), .int (ky), .ref (mr 0), .ref (mr 1), .ref (mr 2), .ref (mr 3), .ref (mr 4), .ref (mr 5), .ref (mr 6), .ref (mr 7), .ref (mr 8), .ref (mr 9), .int (nI mk), .int (nI rs), .ref (mr 10), .ref (mr 11), .ref (mr 12), .ref (mr 13), .ref (mr 14), .ref (mr 15), .ref (mr 16), .ref (mr 17), .ref (mr 18), .ref (mr 19), .ref (mr 20), .int (nI nse), .int (nI npa), .int (nI nbo), .ref (mr 21), .int (nI tn), .ref (mr 22), .int (nI ik), .int (j0), .int (j1), .ref (mr 23), .int (j2), .ref (mr 24), .ref (mr 25), .int (j3), .ref (mr 26), .int (j4), .ref (mr 27), .ref (mr 28), .ref (mr 29), .ref (mr 30)])), (mr 2, .inl (cy 1, 5, .inl (fun k => nI ((va_up tl9 x.toInt.toNat y.toInt.toNat) k))))]) 1 rfl (j := x.toInt.toNat) (by have h9 := (rfl : (x : Int32).toInt = x.toInt); omega) (by omega) (xup_n tl9 x.toInt.toNat y.toInt.toNat) rfl dX10_type__38 (q := 39) rfl ?_
      refine x_iload_n C dX10_type__39 (q := 40) rfl rfl 0 rfl ?_
      refine x_iret C hA hQ hr dX10_type__40 (Nat.le_of_ble_eq_true rfl) ?_
      unfold typA typN
      repeat (first | rw [if_pos (by omega)] | rw [if_neg (by omega)])
      exact ⟨rfl, rfl⟩
    · skip
      obtain ⟨rfl, rfl, hc10⟩ := hp5
      refine x_ws (ws' := [(mo, .inr (9, [.int (nI cols), .int (nI lc), .int (nI smp), .int (ky), .ref (mr 0), .ref (mr 1), .ref (mr 2), .ref (mr 3), .ref (mr 4), .ref (mr 5), .ref (mr 6), .ref (mr 7), .ref (mr 8), .ref (mr 9), .int (nI mk), .int (nI rs), .ref (mr 10), .ref (mr 11), .ref (mr 12), .ref (mr 13), .ref (mr 14), .ref (mr 15), .ref (mr 16), .ref (mr 17), .ref (mr 18), .ref (mr 19), .ref (mr 20), .int (nI nse), .int (nI npa), .int (nI nbo), .ref (mr 21), .int (nI tn), .ref (mr 22), .int (nI ik), .int (j0), .int (j1), .ref (mr 23), .int (j2), .ref (mr 24), .ref (mr 25), .int (j3), .ref (mr 26), .int (j4), .ref (mr 27), .ref (mr 28), .ref (mr 29), .ref (mr 30)])), (mr 2, .inl (cy 1, 5, .inl (fun k => nI (tl9 k))))]) (List.append_nil _) ?_
      refine x_if_ne C (tgt := 25) dX10_type__19 (by decide) (q := 22) rfl (a := 0) rfl (fun h11 => (by omega : False).elim) (fun h11 => ?_)
      refine x_bipush C dX10_type__22 (q := 24) rfl (v := (-2)) (by decide) ?_
      refine x_iret C hA hQ hr dX10_type__24 (Nat.le_of_ble_eq_true rfl) ?_
      unfold typA typN
      repeat (first | rw [if_pos (by omega)] | rw [if_neg (by omega)])
      exact ⟨rfl, rfl⟩
  · skip
    obtain ⟨rfl, rfl, hc12⟩ := hp1
    refine x_ws (ws' := [(mo, .inr (9, [.int (nI cols), .int (nI lc), .int (nI smp), .int (ky), .ref (mr 0), .ref (mr 1), .ref (mr 2), .ref (mr 3), .ref (mr 4), .ref (mr 5), .ref (mr 6), .ref (mr 7), .ref (mr 8), .ref (mr 9), .int (nI mk), .int (nI rs), .ref (mr 10), .ref (mr 11), .ref (mr 12), .ref (mr 13), .ref (mr 14), .ref (mr 15), .ref (mr 16), .ref (mr 17), .ref (mr 18), .ref (mr 19), .ref (mr 20), .int (nI nse), .int (nI npa), .int (nI nbo), .ref (mr 21), .int (nI tn), .ref (mr 22), .int (nI ik), .int (j0), .int (j1), .ref (mr 23), .int (j2), .ref (mr 24), .ref (mr 25), .int (j3), .ref (mr 26), .int (j4), .ref (mr 27), .ref (mr 28), .ref (mr 29), .ref (mr 30)])), (mr 2, .inl (cy 1, 5, .inl (fun k => nI (tl9 k))))]) rfl ?_
    refine x_if_ne C (tgt := 10) dX10_type__5 (by decide) (q := 8) rfl (a := 0) rfl (fun h13 => (by omega : False).elim) (fun h13 => ?_)
    refine x_iconst C dX10_type__8 (q := 9) rfl (v := (-1)) (by decide) ?_
    refine x_iret C hA hQ hr dX10_type__9 (Nat.le_of_ble_eq_true rfl) ?_
    unfold typA typN
    repeat (first | rw [if_pos (by omega)] | rw [if_neg (by omega)])
    exact ⟨rfl, rfl⟩

set_option maxHeartbeats 4000000 in
set_option maxRecDepth 100000 in
/-- key -/
theorem c_X10_key (l : Launch) (D : va_G) (cy : Nat → ClassId) (mo : Nat) (mr : Nat → Nat) (cols : Nat) (lc : Nat) (smp : Nat) (mk : Nat) (rs : Nat) (nse : Nat) (npa : Nat) (nbo : Nat) (tn : Nat) (ik : Nat) (ky : Int32) (j0 : Int32) (j1 : Int32) (j2 : Int32) (j3 : Int32) (j4 : Int32) (x : Int32) (hcols : cols ≤ 5) (hmk : mk ≤ 24) (hky : -1 ≤ ky.toInt ∧ ky.toInt < cols) : xMet l D cy xT yX10_key wsX10_key ({ frames := 3, cells := 0, slots := 0, locals := 300 } : Room) [.ref mo, .int (x)] [(mo, .inr (9, [.int (nI cols), .int (nI lc), .int (nI smp), .int (ky), .ref (mr 0), .ref (mr 1), .ref (mr 2), .ref (mr 3), .ref (mr 4), .ref (mr 5), .ref (mr 6), .ref (mr 7), .ref (mr 8), .ref (mr 9), .int (nI mk), .int (nI rs), .ref (mr 10), .ref (mr 11), .ref (mr 12), .ref (mr 13), .ref (mr 14), .ref (mr 15), .ref (mr 16), .ref (mr 17), .ref (mr 18), .ref (mr 19), .ref (mr 20), .int (nI nse), .int (nI npa), .int (nI nbo), .ref (mr 21), .int (nI tn), .ref (mr 22), .int (nI ik), .int (j0), .int (j1), .ref (mr 23), .int (j2), .ref (mr 24), .ref (mr 25), .int (j3), .ref (mr 26), .int (j4), .ref (mr 27), .ref (mr 28), .ref (mr 29), .ref (mr 30)]))] [] (fun (v9 : Option Value) (w9 : va_W) => (v9 = some (.int (keA cols mk ky x)) ∧ w9 = [(mo, .inr (9, [.int (nI cols), .int (nI lc), .int (nI smp), .int (keN cols mk ky x), .ref (mr 0), .ref (mr 1), .ref (mr 2), .ref (mr 3), .ref (mr 4), .ref (mr 5), .ref (mr 6), .ref (mr 7), .ref (mr 8), .ref (mr 9), .int (nI mk), .int (nI rs), .ref (mr 10), .ref (mr 11), .ref (mr 12), .ref (mr 13), .ref (mr 14), .ref (mr 15), .ref (mr 16), .ref (mr 17), .ref (mr 18), .ref (mr 19), .ref (mr 20), .int (nI nse), .int (nI npa), .int (nI nbo), .ref (mr 21), .int (nI tn), .ref (mr 22), .int (nI ik), .int (j0), .int (j1), .ref (mr 23), .int (j2), .ref (mr 24), .ref (mr 25), .int (j3), .ref (mr 26), .int (j4), .ref (mr 27), .ref (mr 28), .ref (mr 29), .ref (mr 30)]))])) := by
  refine xMet_of (cc := cX10_key) (maxL := 3) (ret := (some .int)) (by decide) rfl (Nat.le_of_ble_eq_true rfl) (fun p e s m args below meth c A R Q hA hR hQ C hr hnm hro hX => ?_)
  have hw0 : ∀ w ∈ u_ws RX10 TX10 47, w ∈ wsX10_key := by decide +kernel
  have hw1 : Cond.fieldLink RX10 142 (TX10 14).1 (TX10 14).2.1 (TX10 14).2.2.1 ∈ wsX10_key := by decide +kernel
  have hw2 : Cond.fieldLink RX10 15 (TX10 3).1 (TX10 3).2.1 (TX10 3).2.2.1 ∈ wsX10_key := by decide +kernel
  refine x_L (L' := [(0, .ref mo), (1, .int (x))]) [0, 1] rfl ?_
  refine x_iload_n C dX10_key_0 (q := 1) rfl rfl 1 rfl ?_
  refine x_iconst C dX10_key_1 (q := 2) rfl (v := (-1)) (by decide) ?_
  refine x_icmp_eq C (tgt := 15) dX10_key_2 (by decide) (q := 5) rfl (a := x.toInt) (b := (-1)) rfl rfl (fun h1 => ?_) (fun h1 => ?_)
  · first
    | (exfalso; omega)
    |
      refine x_aload_n C dX10_key_15 (q := 16) rfl rfl 0 rfl ?_
      refine x_get C (ci := 9) (v := .int (nI mk)) hw0 0 rfl rfl 14 (by decide) hw1 rfl dX10_key_16 (q := 19) rfl ?_
      refine x_if_le C (tgt := 25) dX10_key_19 (by decide) (q := 22) rfl (a := ((mk : Nat) : Int)) (nI_toInt (by omega)) (fun h2 => ?_) (fun h2 => ?_)
      · first
        | (exfalso; omega)
        |
          refine x_aload_n C dX10_key_25 (q := 26) rfl rfl 0 rfl ?_
          refine x_get C (ci := 9) (v := .int (ky)) hw0 0 rfl rfl 3 (by decide) hw2 rfl dX10_key_26 (q := 29) rfl ?_
          refine x_istore_n C (L' := [(2, .int (ky)), (0, .ref mo), (1, .int (x))]) dX10_key_29 (q := 30) rfl rfl (by decide) rfl ?_
          refine x_aload_n C dX10_key_30 (q := 31) rfl rfl 1 rfl ?_
          refine x_iload_n C dX10_key_31 (q := 32) rfl rfl 2 rfl ?_
          refine x_put C (ci := 9) (ty := .int) (ws' := [(mo, .inr (9, [.int (nI cols), .int (nI lc), .int (nI smp), .int (x), .ref (mr 0), .ref (mr 1), .ref (mr 2), .ref (mr 3), .ref (mr 4), .ref (mr 5), .ref (mr 6), .ref (mr 7), .ref (mr 8), .ref (mr 9), .int (nI mk), .int (nI rs), .ref (mr 10), .ref (mr 11), .ref (mr 12), .ref (mr 13), .ref (mr 14), .ref (mr 15), .ref (mr 16), .ref (mr 17), .ref (mr 18), .ref (mr 19), .ref (mr 20), .int (nI nse), .int (nI npa), .int (nI nbo), .ref (mr 21), .int (nI tn), .ref (mr 22), .int (nI ik), .int (j0), .int (j1), .ref (mr 23), .int (j2), .ref (mr 24), .ref (mr 25), .int (j3), .ref (mr 26), .int (j4), .ref (mr 27), .ref (mr 28), .ref (mr 29), .ref (mr 30)]))]) hw0 tyX10 tyX10_ok nmX10 0 rfl rfl 3 (by decide) hw2 rfl (by decide +kernel) rfl rfl (Nat.le_of_ble_eq_true rfl) rfl dX10_key_32 (q := 35) rfl ?_
          refine x_iload_n C dX10_key_35 (q := 36) rfl rfl 0 rfl ?_
          refine x_if_ge C (tgt := 44) dX10_key_36 (by decide) (q := 39) rfl (a := ky.toInt) rfl (fun h3 => ?_) (fun h3 => ?_)
          · first
            | (exfalso; omega)
            |
              refine x_iload_n C dX10_key_44 (q := 45) rfl rfl 0 rfl ?_
              refine x_iret C hA hQ hr dX10_key_45 (Nat.le_of_ble_eq_true rfl) ?_
              unfold keA keN kaA
              repeat (first | rw [if_pos (by omega)] | rw [if_neg (by omega)])
              exact ⟨rfl, rfl⟩
          · first
            | (exfalso; omega)
            |
              refine x_bipush C dX10_key_39 (q := 41) rfl (v := (-5)) (by decide) ?_
              refine x_goto C (tgt := 45) dX10_key_41 (by decide) ?_
              refine x_iret C hA hQ hr dX10_key_45 (Nat.le_of_ble_eq_true rfl) ?_
              unfold keA keN kaA
              repeat (first | rw [if_pos (by omega)] | rw [if_neg (by omega)])
              exact ⟨rfl, rfl⟩
      · first
        | (exfalso; omega)
        |
          refine x_bipush C dX10_key_22 (q := 24) rfl (v := (-3)) (by decide) ?_
          refine x_iret C hA hQ hr dX10_key_24 (Nat.le_of_ble_eq_true rfl) ?_
          unfold keA keN kaA
          repeat (first | rw [if_pos (by omega)] | rw [if_neg (by omega)])
          exact ⟨rfl, rfl⟩
  · first
    | (exfalso; omega)
    |
      refine x_aload_n C dX10_key_5 (q := 6) rfl rfl 0 rfl ?_
      refine x_iload_n C dX10_key_6 (q := 7) rfl rfl 1 rfl ?_
      refine x_callV C (roW := []) (roR := []) (c_X10_isColumn l D cy mo mr cols lc smp mk rs nse npa nbo tn ik ky j0 j1 j2 j3 j4 x (by first | assumption | omega | (simp only []; omega))) (cwV 1 C.2.2.2.2.1 gX10_key_X10_isColumn rfl rfl rfl (by decide +kernel) (by rw [hR]; exact ⟨Nat.le_of_ble_eq_true rfl, Nat.le_of_ble_eq_true rfl⟩)) [0] [] rfl (by decide) rfl (by decide) xro_nil (List.mem_of_getElem? (i := 0) rfl) (ci := 9) rfl xT_bl (fun _ _ _ _ _ _ _ => trivial) rfl rfl dX10_key_7 rfl rfl (Nat.le_of_ble_eq_true rfl) (q := 10) rfl (k' := 0) rfl (n' := 0) rfl (by rw [hR]; exact ⟨Nat.le_of_ble_eq_true rfl, Nat.le_of_ble_eq_true rfl⟩) (fun v4 w4 hp4 => ?_)
      rcases hp4 with hp4 | hp4
      · skip
        obtain ⟨rfl, rfl, hc5, hc6⟩ := hp4
        refine x_ws (ws' := [(mo, .inr (9, [.int (nI cols), .int (nI lc), .int (nI smp), .int (ky), .ref (mr 0), .ref (mr 1), .ref (mr 2), .ref (mr 3), .ref (mr 4), .ref (mr 5), .ref (mr 6), .ref (mr 7), .ref (mr 8), .ref (mr 9), .int (nI mk), .int (nI rs), .ref (mr 10), .ref (mr 11), .ref (mr 12), .ref (mr 13), .ref (mr 14), .ref (mr 15), .ref (mr 16), .ref (mr 17), .ref (mr 18), .ref (mr 19), .ref (mr 20), .int (nI nse), .int (nI npa), .int (nI nbo), .ref (mr 21), .int (nI tn), .ref (mr 22), .int (nI ik), .int (j0), .int (j1), .ref (mr 23), .int (j2), .ref (mr 24), .ref (mr 25), .int (j3), .ref (mr 26), .int (j4), .ref (mr 27), .ref (mr 28), .ref (mr 29), .ref (mr 30)]))]) rfl ?_
        refine x_if_ne C (tgt := 15) dX10_key_10 (by decide) (q := 13) rfl (a := 1) rfl (fun h7 => ?_) (fun h7 => (by omega : False).elim)
        refine x_aload_n C dX10_key_15 (q := 16) rfl rfl 0 rfl ?_
        refine x_get C (ci := 9) (v := .int (nI mk)) hw0 0 rfl rfl 14 (by decide) hw1 rfl dX10_key_16 (q := 19) rfl ?_
        refine x_if_le C (tgt := 25) dX10_key_19 (by decide) (q := 22) rfl (a := ((mk : Nat) : Int)) (nI_toInt (by omega)) (fun h8 => ?_) (fun h8 => ?_)
        · first
          | (exfalso; omega)
          |
            refine x_aload_n C dX10_key_25 (q := 26) rfl rfl 0 rfl ?_
            refine x_get C (ci := 9) (v := .int (ky)) hw0 0 rfl rfl 3 (by decide) hw2 rfl dX10_key_26 (q := 29) rfl ?_
            refine x_istore_n C (L' := [(2, .int (ky)), (0, .ref mo), (1, .int (x))]) dX10_key_29 (q := 30) rfl rfl (by decide) rfl ?_
            refine x_aload_n C dX10_key_30 (q := 31) rfl rfl 1 rfl ?_
            refine x_iload_n C dX10_key_31 (q := 32) rfl rfl 2 rfl ?_
            refine x_put C (ci := 9) (ty := .int) (ws' := [(mo, .inr (9, [.int (nI cols), .int (nI lc), .int (nI smp), .int (x), .ref (mr 0), .ref (mr 1), .ref (mr 2), .ref (mr 3), .ref (mr 4), .ref (mr 5), .ref (mr 6), .ref (mr 7), .ref (mr 8), .ref (mr 9), .int (nI mk), .int (nI rs), .ref (mr 10), .ref (mr 11), .ref (mr 12), .ref (mr 13), .ref (mr 14), .ref (mr 15), .ref (mr 16), .ref (mr 17), .ref (mr 18), .ref (mr 19), .ref (mr 20), .int (nI nse), .int (nI npa), .int (nI nbo), .ref (mr 21), .int (nI tn), .ref (mr 22), .int (nI ik), .int (j0), .int (j1), .ref (mr 23), .int (j2), .ref (mr 24), .ref (mr 25), .int (j3), .ref (mr 26), .int (j4), .ref (mr 27), .ref (mr 28), .ref (mr 29), .ref (mr 30)]))]) hw0 tyX10 tyX10_ok nmX10 0 rfl rfl 3 (by decide) hw2 rfl (by decide +kernel) rfl rfl (Nat.le_of_ble_eq_true rfl) rfl dX10_key_32 (q := 35) rfl ?_
            refine x_iload_n C dX10_key_35 (q := 36) rfl rfl 0 rfl ?_
            refine x_if_ge C (tgt := 44) dX10_key_36 (by decide) (q := 39) rfl (a := ky.toInt) rfl (fun h9 => ?_) (fun h9 => ?_)
            · first
              | (exfalso; omega)
              |
                refine x_iload_n C dX10_key_44 (q := 45) rfl rfl 0 rfl ?_
                refine x_iret C hA hQ hr dX10_key_45 (Nat.le_of_ble_eq_true rfl) ?_
                unfold keA keN kaA
                repeat (first | rw [if_pos (by omega)] | rw [if_neg (by omega)])
                exact ⟨rfl, rfl⟩
            · first
              | (exfalso; omega)
              |
                refine x_bipush C dX10_key_39 (q := 41) rfl (v := (-5)) (by decide) ?_
                refine x_goto C (tgt := 45) dX10_key_41 (by decide) ?_
                refine x_iret C hA hQ hr dX10_key_45 (Nat.le_of_ble_eq_true rfl) ?_
                unfold keA keN kaA
                repeat (first | rw [if_pos (by omega)] | rw [if_neg (by omega)])
                exact ⟨rfl, rfl⟩
        · first
          | (exfalso; omega)
          |
            refine x_bipush C dX10_key_22 (q := 24) rfl (v := (-3)) (by decide) ?_
            refine x_iret C hA hQ hr dX10_key_24 (Nat.le_of_ble_eq_true rfl) ?_
            unfold keA keN kaA
            repeat (first | rw [if_pos (by omega)] | rw [if_neg (by omega)])
            exact ⟨rfl, rfl⟩
      · skip
        obtain ⟨rfl, rfl, hc10⟩ := hp4
        refine x_ws (ws' := [(mo, .inr (9, [.int (nI cols), .int (nI lc), .int (nI smp), .int (ky), .ref (mr 0), .ref (mr 1), .ref (mr 2), .ref (mr 3), .ref (mr 4), .ref (mr 5), .ref (mr 6), .ref (mr 7), .ref (mr 8), .ref (mr 9), .int (nI mk), .int (nI rs), .ref (mr 10), .ref (mr 11), .ref (mr 12), .ref (mr 13), .ref (mr 14), .ref (mr 15), .ref (mr 16), .ref (mr 17), .ref (mr 18), .ref (mr 19), .ref (mr 20), .int (nI nse), .int (nI npa), .int (nI nbo), .ref (mr 21), .int (nI tn), .ref (mr 22), .int (nI ik), .int (j0), .int (j1), .ref (mr 23), .int (j2), .ref (mr 24), .ref (mr 25), .int (j3), .ref (mr 26), .int (j4), .ref (mr 27), .ref (mr 28), .ref (mr 29), .ref (mr 30)]))]) rfl ?_
        refine x_if_ne C (tgt := 15) dX10_key_10 (by decide) (q := 13) rfl (a := 0) rfl (fun h11 => (by omega : False).elim) (fun h11 => ?_)
        refine x_iconst C dX10_key_13 (q := 14) rfl (v := (-1)) (by decide) ?_
        refine x_iret C hA hQ hr dX10_key_14 (Nat.le_of_ble_eq_true rfl) ?_
        unfold keA keN kaA
        repeat (first | rw [if_pos (by omega)] | rw [if_neg (by omega)])
        exact ⟨rfl, rfl⟩

set_option maxHeartbeats 4000000 in
set_option maxRecDepth 100000 in
/-- column -/
theorem c_X10_column (l : Launch) (D : va_G) (cy : Nat → ClassId) (mo : Nat) (mr : Nat → Nat) (cols : Nat) (lc : Nat) (smp : Nat) (mk : Nat) (rs : Nat) (nse : Nat) (npa : Nat) (nbo : Nat) (tn : Nat) (ik : Nat) (ky : Int32) (j0 : Int32) (j1 : Int32) (j2 : Int32) (j3 : Int32) (j4 : Int32) (fn : Nat → Nat) (fo : Nat → Nat) (ex : Nat → Int64) (wo : Nat → Int64) (tl9 : Nat → Nat) (st9 : Nat → Nat) (ns9 : Nat → Nat) (ld : LD) (P : PS) (nzf : Nat → Nat) (x : Int32) (y : Int32) (hml : MdL ld lc fn fo ex wo) (hfo4 : ∀ q, fo q ≤ 4) (hfn : ∀ q, fn q ≤ 61) (hlc : lc ≤ 24) (htl9 : ∀ k, tl9 k ≤ 4) (hst9 : ∀ k, st9 k ≤ 4) (hcols : cols ≤ 5) (hsmp : smp ≤ 24) (hmq : ∀ c, c < cols → st9 c = pSt P c) (hns : ∀ c, c < cols → ns9 c = nzf c) (hnb : ∀ c, c < cols → ns9 c ≤ 4) : xMet l D cy xT yX10_column wsX10_column ({ frames := 6, cells := 0, slots := 0, locals := 900 } : Room) [.ref mo, .int (x), .int (y)] [(mo, .inr (9, [.int (nI cols), .int (nI lc), .int (nI smp), .int (ky), .ref (mr 0), .ref (mr 1), .ref (mr 2), .ref (mr 3), .ref (mr 4), .ref (mr 5), .ref (mr 6), .ref (mr 7), .ref (mr 8), .ref (mr 9), .int (nI mk), .int (nI rs), .ref (mr 10), .ref (mr 11), .ref (mr 12), .ref (mr 13), .ref (mr 14), .ref (mr 15), .ref (mr 16), .ref (mr 17), .ref (mr 18), .ref (mr 19), .ref (mr 20), .int (nI nse), .int (nI npa), .int (nI nbo), .ref (mr 21), .int (nI tn), .ref (mr 22), .int (nI ik), .int (j0), .int (j1), .ref (mr 23), .int (j2), .ref (mr 24), .ref (mr 25), .int (j3), .ref (mr 26), .int (j4), .ref (mr 27), .ref (mr 28), .ref (mr 29), .ref (mr 30)])), (mr 6, .inl (cy 1, 24, .inl (fun k => nI (fn k)))), (mr 7, .inl (cy 1, 120, .inl (fun k => nI (fo k)))), (mr 8, .inl (cy 2, 120, .inr (.inl ex))), (mr 9, .inl (cy 2, 120, .inr (.inl wo))), (mr 2, .inl (cy 1, 5, .inl (fun k => nI (tl9 k)))), (mr 3, .inl (cy 1, 5, .inl (fun k => nI (st9 k)))), (mr 1, .inl (cy 1, 5, .inl (fun k => nI (ns9 k))))] [] (fun (v9 : Option Value) (w9 : va_W) => (v9 = some (.int (coA (pSt P) tl9 ld nzf cols (min smp lc) x y)) ∧ w9 = [(mo, .inr (9, [.int (nI cols), .int (nI lc), .int (nI smp), .int (ky), .ref (mr 0), .ref (mr 1), .ref (mr 2), .ref (mr 3), .ref (mr 4), .ref (mr 5), .ref (mr 6), .ref (mr 7), .ref (mr 8), .ref (mr 9), .int (nI mk), .int (nI rs), .ref (mr 10), .ref (mr 11), .ref (mr 12), .ref (mr 13), .ref (mr 14), .ref (mr 15), .ref (mr 16), .ref (mr 17), .ref (mr 18), .ref (mr 19), .ref (mr 20), .int (nI nse), .int (nI npa), .int (nI nbo), .ref (mr 21), .int (nI tn), .ref (mr 22), .int (nI ik), .int (j0), .int (j1), .ref (mr 23), .int (j2), .ref (mr 24), .ref (mr 25), .int (j3), .ref (mr 26), .int (j4), .ref (mr 27), .ref (mr 28), .ref (mr 29), .ref (mr 30)])), (mr 6, .inl (cy 1, 24, .inl (fun k => nI (fn k)))), (mr 7, .inl (cy 1, 120, .inl (fun k => nI (fo k)))), (mr 8, .inl (cy 2, 120, .inr (.inl ex))), (mr 9, .inl (cy 2, 120, .inr (.inl wo))), (mr 2, .inl (cy 1, 5, .inl (fun k => nI (tl9 k)))), (mr 3, .inl (cy 1, 5, .inl (fun k => nI (st9 k)))), (mr 1, .inl (cy 1, 5, .inl (fun k => nI (ns9 k))))])) := by
  refine xMet_of (cc := cX10_column) (maxL := 3) (ret := (some .int)) (by decide) rfl (Nat.le_of_ble_eq_true rfl) (fun p e s m args below meth c A R Q hA hR hQ C hr hnm hro hX => ?_)
  have hw0 : ∀ w ∈ u_ws RX10 TX10 47, w ∈ wsX10_column := by decide +kernel
  have hw1 : Cond.fieldLink RX10 9 (TX10 2).1 (TX10 2).2.1 (TX10 2).2.2.1 ∈ wsX10_column := by decide +kernel
  have hw2 : Cond.fieldLink RX10 25 (TX10 6).1 (TX10 6).2.1 (TX10 6).2.2.1 ∈ wsX10_column := by decide +kernel
  have hw3 : Cond.fieldLink RX10 28 (TX10 7).1 (TX10 7).2.1 (TX10 7).2.2.1 ∈ wsX10_column := by decide +kernel
  have hw4 : Cond.fieldLink RX10 22 (TX10 5).1 (TX10 5).2.1 (TX10 5).2.2.1 ∈ wsX10_column := by decide +kernel
  refine x_L (L' := [(0, .ref mo), (1, .int (x)), (2, .int (y))]) [0, 1, 2] rfl ?_
  have hnbx : ∀ k, ns9 k ≤ 4 ∨ cols ≤ k := fun k => (Nat.lt_or_ge k cols).imp (hnb k) id
  refine x_aload_n C dX10_column_0 (q := 1) rfl rfl 0 rfl ?_
  refine x_iload_n C dX10_column_1 (q := 2) rfl rfl 1 rfl ?_
  refine x_callV C (roW := []) (roR := []) (c_X10_isColumn l D cy mo mr cols lc smp mk rs nse npa nbo tn ik ky j0 j1 j2 j3 j4 x (by first | assumption | omega | (simp only []; omega))) (cwV 1 C.2.2.2.2.1 gX10_column_X10_isColumn rfl rfl rfl (by decide +kernel) (by rw [hR]; exact ⟨Nat.le_of_ble_eq_true rfl, Nat.le_of_ble_eq_true rfl⟩)) [0] [] rfl (by decide) rfl (by decide) xro_nil (List.mem_of_getElem? (i := 0) rfl) (ci := 9) rfl xT_bl (fun _ _ _ _ _ _ _ => trivial) rfl rfl dX10_column_2 rfl rfl (Nat.le_of_ble_eq_true rfl) (q := 5) rfl (k' := 0) rfl (n' := 0) rfl (by rw [hR]; exact ⟨Nat.le_of_ble_eq_true rfl, Nat.le_of_ble_eq_true rfl⟩) (fun v1 w1 hp1 => ?_)
  rcases hp1 with hp1 | hp1
  · skip
    obtain ⟨rfl, rfl, hc2, hc3⟩ := hp1
    refine x_ws (ws' := [(mo, .inr (9, [.int (nI cols), .int (nI lc), .int (nI smp), .int (ky), .ref (mr 0), .ref (mr 1), .ref (mr 2), .ref (mr 3), .ref (mr 4), .ref (mr 5), .ref (mr 6), .ref (mr 7), .ref (mr 8), .ref (mr 9), .int (nI mk), .int (nI rs), .ref (mr 10), .ref (mr 11), .ref (mr 12), .ref (mr 13), .ref (mr 14), .ref (mr 15), .ref (mr 16), .ref (mr 17), .ref (mr 18), .ref (mr 19), .ref (mr 20), .int (nI nse), .int (nI npa), .int (nI nbo), .ref (mr 21), .int (nI tn), .ref (mr 22), .int (nI ik), .int (j0), .int (j1), .ref (mr 23), .int (j2), .ref (mr 24), .ref (mr 25), .int (j3), .ref (mr 26), .int (j4), .ref (mr 27), .ref (mr 28), .ref (mr 29), .ref (mr 30)])), (mr 6, .inl (cy 1, 24, .inl (fun k => nI (fn k)))), (mr 7, .inl (cy 1, 120, .inl (fun k => nI (fo k)))), (mr 8, .inl (cy 2, 120, .inr (.inl ex))), (mr 9, .inl (cy 2, 120, .inr (.inl wo))), (mr 2, .inl (cy 1, 5, .inl (fun k => nI (tl9 k)))), (mr 3, .inl (cy 1, 5, .inl (fun k => nI (st9 k)))), (mr 1, .inl (cy 1, 5, .inl (fun k => nI (ns9 k))))]) rfl ?_
    refine x_if_ne C (tgt := 10) dX10_column_5 (by decide) (q := 8) rfl (a := 1) rfl (fun h4 => ?_) (fun h4 => (by omega : False).elim)
    refine x_iload_n C dX10_column_10 (q := 11) rfl rfl 2 rfl ?_
    by_cases hs5 : y.toInt < 0 ∨ 4 < y.toInt
    · refine x_tableOut C (tgt := 81) dX10_column_11 hs5 (by decide) ?_
      refine x_iconst C dX10_column_81 (q := 82) rfl (v := (-1)) (by decide) ?_
      refine x_iret C hA hQ hr dX10_column_82 (Nat.le_of_ble_eq_true rfl) ?_
      refine ⟨?_, rfl⟩
      unfold coA
      first | rw [if_pos (by omega)] | (rw [if_neg (by omega)]; have e1 := hmq x.toInt.toNat (by omega); have e2 := hns x.toInt.toNat (by omega); rw [← tyS_congr (st := st9) (st' := pSt P) e1, ← e1, ← e2]; repeat (first | rw [if_pos (by omega)] | rw [if_neg (by omega)]))
    · have hs5' : y.toInt = 0 ∨ y.toInt = 1 ∨ y.toInt = 2 ∨ y.toInt = 3 ∨ y.toInt = 4 := by omega
      rcases hs5' with hs5e | hs5e | hs5e | hs5e | hs5e
      · refine x_tableIn C (tgt := 44) (0 : Int) ((rfl : (y : Int32).toInt = y.toInt).trans hs5e) dX10_column_11 (by decide) (by decide) rfl (by decide) ?_
        refine x_aload_n C dX10_column_44 (q := 45) rfl rfl 0 rfl ?_
        refine x_iload_n C dX10_column_45 (q := 46) rfl rfl 1 rfl ?_
        refine x_st (st' := [.int (nI x.toInt.toNat), .ref mo]) (congrArg (fun z9 => ([.int z9, .ref mo] : List Value)) (xi_nat (by omega))) ?_
        refine x_callV C (roW := []) (roR := []) (c_X10_type l D cy mo mr cols lc smp mk rs nse npa nbo tn ik ky j0 j1 j2 j3 j4 fn fo ex wo tl9 st9 ld x.toInt.toNat (by assumption) (by assumption) (by assumption) (by first | assumption | omega | (simp only []; omega)) (by first | assumption | omega | (simp only []; omega)) (by first | assumption | omega | (simp only []; omega)) (by assumption) (by assumption)) (cwV 1 C.2.2.2.2.1 gX10_column_X10_type rfl rfl rfl (by decide +kernel) (by rw [hR]; exact ⟨Nat.le_of_ble_eq_true rfl, Nat.le_of_ble_eq_true rfl⟩)) [0, 1, 2, 3, 4, 5, 6] [] rfl (by decide) rfl (by decide) xro_nil (List.mem_of_getElem? (i := 0) rfl) (ci := 9) rfl xT_bl (fun _ _ _ _ _ _ _ => trivial) rfl rfl dX10_column_46 rfl rfl (Nat.le_of_ble_eq_true rfl) (q := 49) rfl (k' := 0) rfl (n' := 0) rfl (by rw [hR]; exact ⟨Nat.le_of_ble_eq_true rfl, Nat.le_of_ble_eq_true rfl⟩) (fun v6 w6 hp6 => ?_)
        obtain ⟨rfl, rfl⟩ := hp6
        refine x_ws (ws' := [(mo, .inr (9, [.int (nI cols), .int (nI lc), .int (nI smp), .int (ky), .ref (mr 0), .ref (mr 1), .ref (mr 2), .ref (mr 3), .ref (mr 4), .ref (mr 5), .ref (mr 6), .ref (mr 7), .ref (mr 8), .ref (mr 9), .int (nI mk), .int (nI rs), .ref (mr 10), .ref (mr 11), .ref (mr 12), .ref (mr 13), .ref (mr 14), .ref (mr 15), .ref (mr 16), .ref (mr 17), .ref (mr 18), .ref (mr 19), .ref (mr 20), .int (nI nse), .int (nI npa), .int (nI nbo), .ref (mr 21), .int (nI tn), .ref (mr 22), .int (nI ik), .int (j0), .int (j1), .ref (mr 23), .int (j2), .ref (mr 24), .ref (mr 25), .int (j3), .ref (mr 26), .int (j4), .ref (mr 27), .ref (mr 28), .ref (mr 29), .ref (mr 30)])), (mr 6, .inl (cy 1, 24, .inl (fun k => nI (fn k)))), (mr 7, .inl (cy 1, 120, .inl (fun k => nI (fo k)))), (mr 8, .inl (cy 2, 120, .inr (.inl ex))), (mr 9, .inl (cy 2, 120, .inr (.inl wo))), (mr 2, .inl (cy 1, 5, .inl (fun k => nI (tl9 k)))), (mr 3, .inl (cy 1, 5, .inl (fun k => nI (st9 k)))), (mr 1, .inl (cy 1, 5, .inl (fun k => nI (ns9 k))))]) rfl ?_
        refine x_iret C hA hQ hr dX10_column_49 (Nat.le_of_ble_eq_true rfl) ?_
        refine ⟨?_, rfl⟩
        unfold coA
        first | rw [if_pos (by omega)] | (rw [if_neg (by omega)]; have e1 := hmq x.toInt.toNat (by omega); have e2 := hns x.toInt.toNat (by omega); rw [← tyS_congr (st := st9) (st' := pSt P) e1, ← e1, ← e2]; repeat (first | rw [if_pos (by omega)] | rw [if_neg (by omega)]))
      · refine x_tableIn C (tgt := 50) (1 : Int) ((rfl : (y : Int32).toInt = y.toInt).trans hs5e) dX10_column_11 (by decide) (by decide) rfl (by decide) ?_
        refine x_aload_n C dX10_column_50 (q := 51) rfl rfl 0 rfl ?_
        refine x_iload_n C dX10_column_51 (q := 52) rfl rfl 1 rfl ?_
        refine x_aload_n C dX10_column_52 (q := 53) rfl rfl 0 rfl ?_
        refine x_get C (ci := 9) (v := .int (nI smp)) hw0 0 rfl rfl 2 (by decide) hw1 rfl dX10_column_53 (q := 56) rfl ?_
        refine x_st (st' := [.int (nI smp), .int (nI x.toInt.toNat), .ref mo]) (congrArg (fun z9 => ([.int (nI smp), .int z9, .ref mo] : List Value)) (xi_nat (by omega))) ?_
        refine x_callV C (roW := []) (roR := []) (c_X10_guess l D cy mo mr cols lc smp mk rs nse npa nbo tn ik ky j0 j1 j2 j3 j4 fn fo ex wo ld x.toInt.toNat smp (by assumption) (by assumption) (by assumption) (by first | assumption | omega | (simp only []; omega)) (by first | assumption | omega | (simp only []; omega)) (by first | assumption | omega | (simp only []; omega))) (cwV 2 C.2.2.2.2.1 gX10_column_X10_guess rfl rfl rfl (by decide +kernel) (by rw [hR]; exact ⟨Nat.le_of_ble_eq_true rfl, Nat.le_of_ble_eq_true rfl⟩)) [0, 1, 2, 3, 4] [] rfl (by decide) rfl (by decide) xro_nil (List.mem_of_getElem? (i := 0) rfl) (ci := 9) rfl xT_bl (fun _ _ _ _ _ _ _ => trivial) rfl rfl dX10_column_56 rfl rfl (Nat.le_of_ble_eq_true rfl) (q := 59) rfl (k' := 0) rfl (n' := 0) rfl (by rw [hR]; exact ⟨Nat.le_of_ble_eq_true rfl, Nat.le_of_ble_eq_true rfl⟩) (fun v7 w7 hp7 => ?_)
        obtain ⟨rfl, rfl⟩ := hp7
        refine x_ws (ws' := [(mo, .inr (9, [.int (nI cols), .int (nI lc), .int (nI smp), .int (ky), .ref (mr 0), .ref (mr 1), .ref (mr 2), .ref (mr 3), .ref (mr 4), .ref (mr 5), .ref (mr 6), .ref (mr 7), .ref (mr 8), .ref (mr 9), .int (nI mk), .int (nI rs), .ref (mr 10), .ref (mr 11), .ref (mr 12), .ref (mr 13), .ref (mr 14), .ref (mr 15), .ref (mr 16), .ref (mr 17), .ref (mr 18), .ref (mr 19), .ref (mr 20), .int (nI nse), .int (nI npa), .int (nI nbo), .ref (mr 21), .int (nI tn), .ref (mr 22), .int (nI ik), .int (j0), .int (j1), .ref (mr 23), .int (j2), .ref (mr 24), .ref (mr 25), .int (j3), .ref (mr 26), .int (j4), .ref (mr 27), .ref (mr 28), .ref (mr 29), .ref (mr 30)])), (mr 6, .inl (cy 1, 24, .inl (fun k => nI (fn k)))), (mr 7, .inl (cy 1, 120, .inl (fun k => nI (fo k)))), (mr 8, .inl (cy 2, 120, .inr (.inl ex))), (mr 9, .inl (cy 2, 120, .inr (.inl wo))), (mr 2, .inl (cy 1, 5, .inl (fun k => nI (tl9 k)))), (mr 3, .inl (cy 1, 5, .inl (fun k => nI (st9 k)))), (mr 1, .inl (cy 1, 5, .inl (fun k => nI (ns9 k))))]) rfl ?_
        refine x_iret C hA hQ hr dX10_column_59 (Nat.le_of_ble_eq_true rfl) ?_
        refine ⟨?_, rfl⟩
        unfold coA
        first | rw [if_pos (by omega)] | (rw [if_neg (by omega)]; have e1 := hmq x.toInt.toNat (by omega); have e2 := hns x.toInt.toNat (by omega); rw [← tyS_congr (st := st9) (st' := pSt P) e1, ← e1, ← e2]; repeat (first | rw [if_pos (by omega)] | rw [if_neg (by omega)]))
      · refine x_tableIn C (tgt := 60) (2 : Int) ((rfl : (y : Int32).toInt = y.toInt).trans hs5e) dX10_column_11 (by decide) (by decide) rfl (by decide) ?_
        refine x_aload_n C dX10_column_60 (q := 61) rfl rfl 0 rfl ?_
        refine x_get C (ci := 9) (v := .ref (mr 2)) hw0 0 rfl rfl 6 (by decide) hw2 rfl dX10_column_61 (q := 64) rfl ?_
        refine x_iload_n C dX10_column_64 (q := 65) rfl rfl 1 rfl ?_
        have hb8 := htl9 x.toInt.toNat
        refine x_iald C (j := x.toInt.toNat) (v := nI (tl9 x.toInt.toNat)) 5 rfl (by have h9 := (rfl : (x : Int32).toInt = x.toInt); omega) (by omega) rfl dX10_column_65 (q := 66) rfl ?_
        refine x_iret C hA hQ hr dX10_column_66 (Nat.le_of_ble_eq_true rfl) ?_
        refine ⟨?_, rfl⟩
        unfold coA
        first | rw [if_pos (by omega)] | (rw [if_neg (by omega)]; have e1 := hmq x.toInt.toNat (by omega); have e2 := hns x.toInt.toNat (by omega); rw [← tyS_congr (st := st9) (st' := pSt P) e1, ← e1, ← e2]; repeat (first | rw [if_pos (by omega)] | rw [if_neg (by omega)]))
      · refine x_tableIn C (tgt := 67) (3 : Int) ((rfl : (y : Int32).toInt = y.toInt).trans hs5e) dX10_column_11 (by decide) (by decide) rfl (by decide) ?_
        refine x_aload_n C dX10_column_67 (q := 68) rfl rfl 0 rfl ?_
        refine x_get C (ci := 9) (v := .ref (mr 3)) hw0 0 rfl rfl 7 (by decide) hw3 rfl dX10_column_68 (q := 71) rfl ?_
        refine x_iload_n C dX10_column_71 (q := 72) rfl rfl 1 rfl ?_
        have hb9 := hst9 x.toInt.toNat
        refine x_iald C (j := x.toInt.toNat) (v := nI (st9 x.toInt.toNat)) 6 rfl (by have h9 := (rfl : (x : Int32).toInt = x.toInt); omega) (by omega) rfl dX10_column_72 (q := 73) rfl ?_
        refine x_iret C hA hQ hr dX10_column_73 (Nat.le_of_ble_eq_true rfl) ?_
        refine ⟨?_, rfl⟩
        unfold coA
        first | rw [if_pos (by omega)] | (rw [if_neg (by omega)]; have e1 := hmq x.toInt.toNat (by omega); have e2 := hns x.toInt.toNat (by omega); rw [← tyS_congr (st := st9) (st' := pSt P) e1, ← e1, ← e2]; repeat (first | rw [if_pos (by omega)] | rw [if_neg (by omega)]))
      · refine x_tableIn C (tgt := 74) (4 : Int) ((rfl : (y : Int32).toInt = y.toInt).trans hs5e) dX10_column_11 (by decide) (by decide) rfl (by decide) ?_
        refine x_aload_n C dX10_column_74 (q := 75) rfl rfl 0 rfl ?_
        refine x_get C (ci := 9) (v := .ref (mr 1)) hw0 0 rfl rfl 5 (by decide) hw4 rfl dX10_column_75 (q := 78) rfl ?_
        refine x_iload_n C dX10_column_78 (q := 79) rfl rfl 1 rfl ?_
        have hb10 := hnbx x.toInt.toNat
        refine x_iald C (j := x.toInt.toNat) (v := nI (ns9 x.toInt.toNat)) 7 rfl (by have h9 := (rfl : (x : Int32).toInt = x.toInt); omega) (by omega) rfl dX10_column_79 (q := 80) rfl ?_
        refine x_iret C hA hQ hr dX10_column_80 (Nat.le_of_ble_eq_true rfl) ?_
        refine ⟨?_, rfl⟩
        unfold coA
        first | rw [if_pos (by omega)] | (rw [if_neg (by omega)]; have e1 := hmq x.toInt.toNat (by omega); have e2 := hns x.toInt.toNat (by omega); rw [← tyS_congr (st := st9) (st' := pSt P) e1, ← e1, ← e2]; repeat (first | rw [if_pos (by omega)] | rw [if_neg (by omega)]))
  · skip
    obtain ⟨rfl, rfl, hc11⟩ := hp1
    refine x_ws (ws' := [(mo, .inr (9, [.int (nI cols), .int (nI lc), .int (nI smp), .int (ky), .ref (mr 0), .ref (mr 1), .ref (mr 2), .ref (mr 3), .ref (mr 4), .ref (mr 5), .ref (mr 6), .ref (mr 7), .ref (mr 8), .ref (mr 9), .int (nI mk), .int (nI rs), .ref (mr 10), .ref (mr 11), .ref (mr 12), .ref (mr 13), .ref (mr 14), .ref (mr 15), .ref (mr 16), .ref (mr 17), .ref (mr 18), .ref (mr 19), .ref (mr 20), .int (nI nse), .int (nI npa), .int (nI nbo), .ref (mr 21), .int (nI tn), .ref (mr 22), .int (nI ik), .int (j0), .int (j1), .ref (mr 23), .int (j2), .ref (mr 24), .ref (mr 25), .int (j3), .ref (mr 26), .int (j4), .ref (mr 27), .ref (mr 28), .ref (mr 29), .ref (mr 30)])), (mr 6, .inl (cy 1, 24, .inl (fun k => nI (fn k)))), (mr 7, .inl (cy 1, 120, .inl (fun k => nI (fo k)))), (mr 8, .inl (cy 2, 120, .inr (.inl ex))), (mr 9, .inl (cy 2, 120, .inr (.inl wo))), (mr 2, .inl (cy 1, 5, .inl (fun k => nI (tl9 k)))), (mr 3, .inl (cy 1, 5, .inl (fun k => nI (st9 k)))), (mr 1, .inl (cy 1, 5, .inl (fun k => nI (ns9 k))))]) rfl ?_
    refine x_if_ne C (tgt := 10) dX10_column_5 (by decide) (q := 8) rfl (a := 0) rfl (fun h12 => (by omega : False).elim) (fun h12 => ?_)
    refine x_iconst C dX10_column_8 (q := 9) rfl (v := (-1)) (by decide) ?_
    refine x_iret C hA hQ hr dX10_column_9 (Nat.le_of_ble_eq_true rfl) ?_
    refine ⟨?_, rfl⟩
    unfold coA
    first | rw [if_pos (by omega)] | (rw [if_neg (by omega)]; have e1 := hmq x.toInt.toNat (by omega); have e2 := hns x.toInt.toNat (by omega); rw [← tyS_congr (st := st9) (st' := pSt P) e1, ← e1, ← e2]; repeat (first | rw [if_pos (by omega)] | rw [if_neg (by omega)]))

set_option maxHeartbeats 4000000 in
set_option maxRecDepth 100000 in
/-- votes -/
theorem c_X10_votes (l : Launch) (D : va_G) (cy : Nat → ClassId) (mo : Nat) (mr : Nat → Nat) (cols : Nat) (lc : Nat) (smp : Nat) (mk : Nat) (rs : Nat) (nse : Nat) (npa : Nat) (nbo : Nat) (tn : Nat) (ik : Nat) (ky : Int32) (j0 : Int32) (j1 : Int32) (j2 : Int32) (j3 : Int32) (j4 : Int32) (fn : Nat → Nat) (fo : Nat → Nat) (ex : Nat → Int64) (wo : Nat → Int64) (ld : LD) (x : Int32) (y : Int32) (hml : MdL ld lc fn fo ex wo) (hfo4 : ∀ q, fo q ≤ 4) (hfn : ∀ q, fn q ≤ 61) (hlc : lc ≤ 24) (hcols : cols ≤ 5) (hsmp : smp ≤ 24) : xMet l D cy xT yX10_votes wsX10_votes ({ frames := 4, cells := 0, slots := 0, locals := 500 } : Room) [.ref mo, .int (x), .int (y)] [(mo, .inr (9, [.int (nI cols), .int (nI lc), .int (nI smp), .int (ky), .ref (mr 0), .ref (mr 1), .ref (mr 2), .ref (mr 3), .ref (mr 4), .ref (mr 5), .ref (mr 6), .ref (mr 7), .ref (mr 8), .ref (mr 9), .int (nI mk), .int (nI rs), .ref (mr 10), .ref (mr 11), .ref (mr 12), .ref (mr 13), .ref (mr 14), .ref (mr 15), .ref (mr 16), .ref (mr 17), .ref (mr 18), .ref (mr 19), .ref (mr 20), .int (nI nse), .int (nI npa), .int (nI nbo), .ref (mr 21), .int (nI tn), .ref (mr 22), .int (nI ik), .int (j0), .int (j1), .ref (mr 23), .int (j2), .ref (mr 24), .ref (mr 25), .int (j3), .ref (mr 26), .int (j4), .ref (mr 27), .ref (mr 28), .ref (mr 29), .ref (mr 30)])), (mr 6, .inl (cy 1, 24, .inl (fun k => nI (fn k)))), (mr 7, .inl (cy 1, 120, .inl (fun k => nI (fo k)))), (mr 8, .inl (cy 2, 120, .inr (.inl ex))), (mr 9, .inl (cy 2, 120, .inr (.inl wo)))] [] (fun (v9 : Option Value) (w9 : va_W) => (v9 = some (.int (voA ld cols (min smp lc) x y)) ∧ w9 = [(mo, .inr (9, [.int (nI cols), .int (nI lc), .int (nI smp), .int (ky), .ref (mr 0), .ref (mr 1), .ref (mr 2), .ref (mr 3), .ref (mr 4), .ref (mr 5), .ref (mr 6), .ref (mr 7), .ref (mr 8), .ref (mr 9), .int (nI mk), .int (nI rs), .ref (mr 10), .ref (mr 11), .ref (mr 12), .ref (mr 13), .ref (mr 14), .ref (mr 15), .ref (mr 16), .ref (mr 17), .ref (mr 18), .ref (mr 19), .ref (mr 20), .int (nI nse), .int (nI npa), .int (nI nbo), .ref (mr 21), .int (nI tn), .ref (mr 22), .int (nI ik), .int (j0), .int (j1), .ref (mr 23), .int (j2), .ref (mr 24), .ref (mr 25), .int (j3), .ref (mr 26), .int (j4), .ref (mr 27), .ref (mr 28), .ref (mr 29), .ref (mr 30)])), (mr 6, .inl (cy 1, 24, .inl (fun k => nI (fn k)))), (mr 7, .inl (cy 1, 120, .inl (fun k => nI (fo k)))), (mr 8, .inl (cy 2, 120, .inr (.inl ex))), (mr 9, .inl (cy 2, 120, .inr (.inl wo)))])) := by
  refine xMet_of (cc := cX10_votes) (maxL := 3) (ret := (some .int)) (by decide) rfl (Nat.le_of_ble_eq_true rfl) (fun p e s m args below meth c A R Q hA hR hQ C hr hnm hro hX => ?_)
  have hw0 : Jvm.Cond.constantLong RX10 282 (4) ∈ wsX10_votes := by decide +kernel
  have hw1 : ∀ w ∈ u_ws RX10 TX10 47, w ∈ wsX10_votes := by decide +kernel
  have hw2 : Cond.fieldLink RX10 9 (TX10 2).1 (TX10 2).2.1 (TX10 2).2.2.1 ∈ wsX10_votes := by decide +kernel
  refine x_L (L' := [(0, .ref mo), (1, .int (x)), (2, .int (y))]) [0, 1, 2] rfl ?_
  refine x_aload_n C dX10_votes_0 (q := 1) rfl rfl 0 rfl ?_
  refine x_iload_n C dX10_votes_1 (q := 2) rfl rfl 1 rfl ?_
  refine x_callV C (roW := []) (roR := []) (c_X10_isColumn l D cy mo mr cols lc smp mk rs nse npa nbo tn ik ky j0 j1 j2 j3 j4 x (by first | assumption | omega | (simp only []; omega))) (cwV 1 C.2.2.2.2.1 gX10_votes_X10_isColumn rfl rfl rfl (by decide +kernel) (by rw [hR]; exact ⟨Nat.le_of_ble_eq_true rfl, Nat.le_of_ble_eq_true rfl⟩)) [0] [] rfl (by decide) rfl (by decide) xro_nil (List.mem_of_getElem? (i := 0) rfl) (ci := 9) rfl xT_bl (fun _ _ _ _ _ _ _ => trivial) rfl rfl dX10_votes_2 rfl rfl (Nat.le_of_ble_eq_true rfl) (q := 5) rfl (k' := 0) rfl (n' := 0) rfl (by rw [hR]; exact ⟨Nat.le_of_ble_eq_true rfl, Nat.le_of_ble_eq_true rfl⟩) (fun v1 w1 hp1 => ?_)
  rcases hp1 with hp1 | hp1
  · skip
    obtain ⟨rfl, rfl, hc2, hc3⟩ := hp1
    refine x_ws (ws' := [(mo, .inr (9, [.int (nI cols), .int (nI lc), .int (nI smp), .int (ky), .ref (mr 0), .ref (mr 1), .ref (mr 2), .ref (mr 3), .ref (mr 4), .ref (mr 5), .ref (mr 6), .ref (mr 7), .ref (mr 8), .ref (mr 9), .int (nI mk), .int (nI rs), .ref (mr 10), .ref (mr 11), .ref (mr 12), .ref (mr 13), .ref (mr 14), .ref (mr 15), .ref (mr 16), .ref (mr 17), .ref (mr 18), .ref (mr 19), .ref (mr 20), .int (nI nse), .int (nI npa), .int (nI nbo), .ref (mr 21), .int (nI tn), .ref (mr 22), .int (nI ik), .int (j0), .int (j1), .ref (mr 23), .int (j2), .ref (mr 24), .ref (mr 25), .int (j3), .ref (mr 26), .int (j4), .ref (mr 27), .ref (mr 28), .ref (mr 29), .ref (mr 30)])), (mr 6, .inl (cy 1, 24, .inl (fun k => nI (fn k)))), (mr 7, .inl (cy 1, 120, .inl (fun k => nI (fo k)))), (mr 8, .inl (cy 2, 120, .inr (.inl ex))), (mr 9, .inl (cy 2, 120, .inr (.inl wo)))]) rfl ?_
    refine x_if_eq C (tgt := 33) dX10_votes_5 (by decide) (q := 8) rfl (a := 1) rfl (fun h4 => (by omega : False).elim) (fun h4 => ?_)
    refine x_iload_n C dX10_votes_8 (q := 9) rfl rfl 2 rfl ?_
    refine x_i2l C dX10_votes_9 (q := 10) rfl (v := y.toInt64) (rfl) ?_
    refine x_lconst C dX10_votes_10 (q := 11) rfl (v := lN 0) rfl ?_
    refine x_ldc2 C (v := lN 4) hw0 dX10_votes_11 (q := 14) rfl ?_
    refine x_callS C (roW := []) (roR := []) (c_X10_in l D cy y.toInt64 (lN 0) (lN 4) y.toInt 0 4 (xl_wide rfl) rfl rfl) (cwS 3 C.2.2.2.2.1 gX10_votes_X10_in rfl rfl rfl (by decide +kernel) (by rw [hR]; exact ⟨Nat.le_of_ble_eq_true rfl, Nat.le_of_ble_eq_true rfl⟩)) [] [] rfl (by decide) rfl (by decide) xro_nil xT_bl (fun _ _ _ _ _ _ _ => trivial) rfl rfl dX10_votes_14 rfl rfl (Nat.le_of_ble_eq_true rfl) (q := 17) rfl (k' := 0) rfl (n' := 0) rfl (by rw [hR]; exact ⟨Nat.le_of_ble_eq_true rfl, Nat.le_of_ble_eq_true rfl⟩) (fun v5 w5 hp5 => ?_)
    rcases hp5 with hp5 | hp5
    · skip
      obtain ⟨rfl, rfl, hc6, hc7⟩ := hp5
      refine x_ws (ws' := [(mo, .inr (9, [.int (nI cols), .int (nI lc), .int (nI smp), .int (ky), .ref (mr 0), .ref (mr 1), .ref (mr 2), .ref (mr 3), .ref (mr 4), .ref (mr 5), .ref (mr 6), .ref (mr 7), .ref (mr 8), .ref (mr 9), .int (nI mk), .int (nI rs), .ref (mr 10), .ref (mr 11), .ref (mr 12), .ref (mr 13), .ref (mr 14), .ref (mr 15), .ref (mr 16), .ref (mr 17), .ref (mr 18), .ref (mr 19), .ref (mr 20), .int (nI nse), .int (nI npa), .int (nI nbo), .ref (mr 21), .int (nI tn), .ref (mr 22), .int (nI ik), .int (j0), .int (j1), .ref (mr 23), .int (j2), .ref (mr 24), .ref (mr 25), .int (j3), .ref (mr 26), .int (j4), .ref (mr 27), .ref (mr 28), .ref (mr 29), .ref (mr 30)])), (mr 6, .inl (cy 1, 24, .inl (fun k => nI (fn k)))), (mr 7, .inl (cy 1, 120, .inl (fun k => nI (fo k)))), (mr 8, .inl (cy 2, 120, .inr (.inl ex))), (mr 9, .inl (cy 2, 120, .inr (.inl wo)))]) (List.append_nil _) ?_
      refine x_if_eq C (tgt := 33) dX10_votes_17 (by decide) (q := 20) rfl (a := 1) rfl (fun h8 => (by omega : False).elim) (fun h8 => ?_)
      refine x_aload_n C dX10_votes_20 (q := 21) rfl rfl 0 rfl ?_
      refine x_iload_n C dX10_votes_21 (q := 22) rfl rfl 1 rfl ?_
      refine x_iload_n C dX10_votes_22 (q := 23) rfl rfl 2 rfl ?_
      refine x_aload_n C dX10_votes_23 (q := 24) rfl rfl 0 rfl ?_
      refine x_get C (ci := 9) (v := .int (nI smp)) hw1 0 rfl rfl 2 (by decide) hw2 rfl dX10_votes_24 (q := 27) rfl ?_
      refine x_st (st' := [.int (nI smp), .int (y), .int (nI x.toInt.toNat), .ref mo]) (congrArg (fun z9 => ([.int (nI smp), .int (y), .int z9, .ref mo] : List Value)) (xi_nat (by omega))) ?_
      refine x_st (st' := [.int (nI smp), .int (nI y.toInt.toNat), .int (nI x.toInt.toNat), .ref mo]) (congrArg (fun z9 => ([.int (nI smp), .int z9, .int (nI x.toInt.toNat), .ref mo] : List Value)) (xi_nat (by omega))) ?_
      refine x_callV C (roW := []) (roR := []) (c_X10_voters l D cy mo mr cols lc smp mk rs nse npa nbo tn ik ky j0 j1 j2 j3 j4 fn fo ex wo ld x.toInt.toNat y.toInt.toNat smp (by assumption) (by assumption) (by assumption) (by first | assumption | omega | (simp only []; omega)) (by first | assumption | omega | (simp only []; omega)) (by first | assumption | omega | (simp only []; omega)) (by first | assumption | omega | (simp only []; omega))) (cwV 3 C.2.2.2.2.1 gX10_votes_X10_voters rfl rfl rfl (by decide +kernel) (by rw [hR]; exact ⟨Nat.le_of_ble_eq_true rfl, Nat.le_of_ble_eq_true rfl⟩)) [0, 1, 2, 3, 4] [] rfl (by decide) rfl (by decide) xro_nil (List.mem_of_getElem? (i := 0) rfl) (ci := 9) rfl xT_bl (fun _ _ _ _ _ _ _ => trivial) rfl rfl dX10_votes_27 rfl rfl (Nat.le_of_ble_eq_true rfl) (q := 30) rfl (k' := 0) rfl (n' := 0) rfl (by rw [hR]; exact ⟨Nat.le_of_ble_eq_true rfl, Nat.le_of_ble_eq_true rfl⟩) (fun v9 w9 hp9 => ?_)
      obtain ⟨rfl, rfl⟩ := hp9
      refine x_ws (ws' := [(mo, .inr (9, [.int (nI cols), .int (nI lc), .int (nI smp), .int (ky), .ref (mr 0), .ref (mr 1), .ref (mr 2), .ref (mr 3), .ref (mr 4), .ref (mr 5), .ref (mr 6), .ref (mr 7), .ref (mr 8), .ref (mr 9), .int (nI mk), .int (nI rs), .ref (mr 10), .ref (mr 11), .ref (mr 12), .ref (mr 13), .ref (mr 14), .ref (mr 15), .ref (mr 16), .ref (mr 17), .ref (mr 18), .ref (mr 19), .ref (mr 20), .int (nI nse), .int (nI npa), .int (nI nbo), .ref (mr 21), .int (nI tn), .ref (mr 22), .int (nI ik), .int (j0), .int (j1), .ref (mr 23), .int (j2), .ref (mr 24), .ref (mr 25), .int (j3), .ref (mr 26), .int (j4), .ref (mr 27), .ref (mr 28), .ref (mr 29), .ref (mr 30)])), (mr 6, .inl (cy 1, 24, .inl (fun k => nI (fn k)))), (mr 7, .inl (cy 1, 120, .inl (fun k => nI (fo k)))), (mr 8, .inl (cy 2, 120, .inr (.inl ex))), (mr 9, .inl (cy 2, 120, .inr (.inl wo)))]) rfl ?_
      refine x_goto C (tgt := 34) dX10_votes_30 (by decide) ?_
      refine x_iret C hA hQ hr dX10_votes_34 (Nat.le_of_ble_eq_true rfl) ?_
      refine ⟨?_, rfl⟩
      unfold voA
      repeat (first | rw [if_pos (by omega)] | rw [if_neg (by omega)])
      try rfl
    · skip
      obtain ⟨rfl, rfl, hc10⟩ := hp5
      refine x_ws (ws' := [(mo, .inr (9, [.int (nI cols), .int (nI lc), .int (nI smp), .int (ky), .ref (mr 0), .ref (mr 1), .ref (mr 2), .ref (mr 3), .ref (mr 4), .ref (mr 5), .ref (mr 6), .ref (mr 7), .ref (mr 8), .ref (mr 9), .int (nI mk), .int (nI rs), .ref (mr 10), .ref (mr 11), .ref (mr 12), .ref (mr 13), .ref (mr 14), .ref (mr 15), .ref (mr 16), .ref (mr 17), .ref (mr 18), .ref (mr 19), .ref (mr 20), .int (nI nse), .int (nI npa), .int (nI nbo), .ref (mr 21), .int (nI tn), .ref (mr 22), .int (nI ik), .int (j0), .int (j1), .ref (mr 23), .int (j2), .ref (mr 24), .ref (mr 25), .int (j3), .ref (mr 26), .int (j4), .ref (mr 27), .ref (mr 28), .ref (mr 29), .ref (mr 30)])), (mr 6, .inl (cy 1, 24, .inl (fun k => nI (fn k)))), (mr 7, .inl (cy 1, 120, .inl (fun k => nI (fo k)))), (mr 8, .inl (cy 2, 120, .inr (.inl ex))), (mr 9, .inl (cy 2, 120, .inr (.inl wo)))]) (List.append_nil _) ?_
      refine x_if_eq C (tgt := 33) dX10_votes_17 (by decide) (q := 20) rfl (a := 0) rfl (fun h11 => ?_) (fun h11 => (by omega : False).elim)
      refine x_iconst C dX10_votes_33 (q := 34) rfl (v := (-1)) (by decide) ?_
      refine x_iret C hA hQ hr dX10_votes_34 (Nat.le_of_ble_eq_true rfl) ?_
      refine ⟨?_, rfl⟩
      unfold voA
      repeat (first | rw [if_pos (by omega)] | rw [if_neg (by omega)])
      try rfl
  · skip
    obtain ⟨rfl, rfl, hc12⟩ := hp1
    refine x_ws (ws' := [(mo, .inr (9, [.int (nI cols), .int (nI lc), .int (nI smp), .int (ky), .ref (mr 0), .ref (mr 1), .ref (mr 2), .ref (mr 3), .ref (mr 4), .ref (mr 5), .ref (mr 6), .ref (mr 7), .ref (mr 8), .ref (mr 9), .int (nI mk), .int (nI rs), .ref (mr 10), .ref (mr 11), .ref (mr 12), .ref (mr 13), .ref (mr 14), .ref (mr 15), .ref (mr 16), .ref (mr 17), .ref (mr 18), .ref (mr 19), .ref (mr 20), .int (nI nse), .int (nI npa), .int (nI nbo), .ref (mr 21), .int (nI tn), .ref (mr 22), .int (nI ik), .int (j0), .int (j1), .ref (mr 23), .int (j2), .ref (mr 24), .ref (mr 25), .int (j3), .ref (mr 26), .int (j4), .ref (mr 27), .ref (mr 28), .ref (mr 29), .ref (mr 30)])), (mr 6, .inl (cy 1, 24, .inl (fun k => nI (fn k)))), (mr 7, .inl (cy 1, 120, .inl (fun k => nI (fo k)))), (mr 8, .inl (cy 2, 120, .inr (.inl ex))), (mr 9, .inl (cy 2, 120, .inr (.inl wo)))]) rfl ?_
    refine x_if_eq C (tgt := 33) dX10_votes_5 (by decide) (q := 8) rfl (a := 0) rfl (fun h13 => ?_) (fun h13 => (by omega : False).elim)
    refine x_iconst C dX10_votes_33 (q := 34) rfl (v := (-1)) (by decide) ?_
    refine x_iret C hA hQ hr dX10_votes_34 (Nat.le_of_ble_eq_true rfl) ?_
    refine ⟨?_, rfl⟩
    unfold voA
    repeat (first | rw [if_pos (by omega)] | rw [if_neg (by omega)])
    try rfl

set_option maxHeartbeats 4000000 in
set_option maxRecDepth 100000 in
/-- of -/
theorem c_X10_of (l : Launch) (D : va_G) (cy : Nat → ClassId) (mo : Nat) (mr : Nat → Nat) (cols : Nat) (lc : Nat) (smp : Nat) (nse : Nat) (npa : Nat) (nbo : Nat) (tn : Nat) (ik : Nat) (ky : Int32) (j0 : Int32) (j1 : Int32) (j2 : Int32) (j3 : Int32) (j4 : Int32) (P : PS) (fn : Nat → Nat) (by9 : Nat → Nat) (lz : Nat → Nat) (rl9 : Nat → Int32) (ld : LD) (lt : Nat → Nat → Nat) (ln : Nat → Nat) (x : Int32) (y : Int32) (hby : ∀ k, by9 k < 128) (hmb : MdB ld lc by9 lz lt ln) (hfn9 : ∀ k, k < lc → fn k = dNf ld k) (hfn : ∀ q, fn q ≤ 61) (hlzb : ∀ q, lz q ≤ 60) (hrl : ∀ k, k < 24 → rl9 k = roA P k) (hlc : lc ≤ 24) (hmk : pMk P ≤ lc) : xMet l D cy xT yX10_of wsX10_of ({ frames := 5, cells := 0, slots := 0, locals := 900 } : Room) [.ref mo, .int (x), .int (y)] [(mo, .inr (9, [.int (nI cols), .int (nI lc), .int (nI smp), .int (ky), .ref (mr 0), .ref (mr 1), .ref (mr 2), .ref (mr 3), .ref (mr 4), .ref (mr 5), .ref (mr 6), .ref (mr 7), .ref (mr 8), .ref (mr 9), .int (nI (pMk P)), .int (nI (pRs P)), .ref (mr 10), .ref (mr 11), .ref (mr 12), .ref (mr 13), .ref (mr 14), .ref (mr 15), .ref (mr 16), .ref (mr 17), .ref (mr 18), .ref (mr 19), .ref (mr 20), .int (nI nse), .int (nI npa), .int (nI nbo), .ref (mr 21), .int (nI tn), .ref (mr 22), .int (nI ik), .int (j0), .int (j1), .ref (mr 23), .int (j2), .ref (mr 24), .ref (mr 25), .int (j3), .ref (mr 26), .int (j4), .ref (mr 27), .ref (mr 28), .ref (mr 29), .ref (mr 30)])), (mr 6, .inl (cy 1, 24, .inl (fun k => nI (fn k)))), (mr 4, .inl (cy 1, 1440, .inl (fun k => nI (by9 k)))), (mr 5, .inl (cy 1, 24, .inl (fun k => nI (lz k)))), (mr 11, .inl (cy 1, 24, .inl rl9))] [] (fun (v9 : Option Value) (w9 : va_W) => (v9 = some (.int (ofA ld lc P x y)) ∧ w9 = [(mo, .inr (9, [.int (nI cols), .int (nI lc), .int (nI smp), .int (ky), .ref (mr 0), .ref (mr 1), .ref (mr 2), .ref (mr 3), .ref (mr 4), .ref (mr 5), .ref (mr 6), .ref (mr 7), .ref (mr 8), .ref (mr 9), .int (nI (pMk P)), .int (nI (pRs P)), .ref (mr 10), .ref (mr 11), .ref (mr 12), .ref (mr 13), .ref (mr 14), .ref (mr 15), .ref (mr 16), .ref (mr 17), .ref (mr 18), .ref (mr 19), .ref (mr 20), .int (nI nse), .int (nI npa), .int (nI nbo), .ref (mr 21), .int (nI tn), .ref (mr 22), .int (nI ik), .int (j0), .int (j1), .ref (mr 23), .int (j2), .ref (mr 24), .ref (mr 25), .int (j3), .ref (mr 26), .int (j4), .ref (mr 27), .ref (mr 28), .ref (mr 29), .ref (mr 30)])), (mr 6, .inl (cy 1, 24, .inl (fun k => nI (fn k)))), (mr 4, .inl (cy 1, 1440, .inl (fun k => nI (by9 k)))), (mr 5, .inl (cy 1, 24, .inl (fun k => nI (lz k)))), (mr 11, .inl (cy 1, 24, .inl rl9))])) := by
  refine xMet_of (cc := cX10_of) (maxL := 4) (ret := (some .int)) (by decide) rfl (Nat.le_of_ble_eq_true rfl) (fun p e s m args below meth c A R Q hA hR hQ C hr hnm hro hX => ?_)
  have hw0 : ∀ w ∈ u_ws RX10 TX10 47, w ∈ wsX10_of := by decide +kernel
  have hw1 : Cond.fieldLink RX10 37 (TX10 10).1 (TX10 10).2.1 (TX10 10).2.2.1 ∈ wsX10_of := by decide +kernel
  have hw2 : Cond.fieldLink RX10 53 (TX10 17).1 (TX10 17).2.1 (TX10 17).2.2.1 ∈ wsX10_of := by decide +kernel
  have hw3 : Cond.fieldLink RX10 142 (TX10 14).1 (TX10 14).2.1 (TX10 14).2.2.1 ∈ wsX10_of := by decide +kernel
  refine x_L (L' := [(0, .ref mo), (1, .int (x)), (2, .int (y))]) [0, 1, 2] rfl ?_
  have hyl := y.toInt_lt
  refine x_aload_n C dX10_of_0 (q := 1) rfl rfl 0 rfl ?_
  refine x_iload_n C dX10_of_1 (q := 2) rfl rfl 1 rfl ?_
  refine x_callV C (roW := []) (roR := []) (c_X10_isLine l D cy mo mr cols lc smp (pMk P) (pRs P) nse npa nbo tn ik ky j0 j1 j2 j3 j4 x (by first | assumption | omega | (simp only []; omega))) (cwV 1 C.2.2.2.2.1 gX10_of_X10_isLine rfl rfl rfl (by decide +kernel) (by rw [hR]; exact ⟨Nat.le_of_ble_eq_true rfl, Nat.le_of_ble_eq_true rfl⟩)) [0] [] rfl (by decide) rfl (by decide) xro_nil (List.mem_of_getElem? (i := 0) rfl) (ci := 9) rfl xT_bl (fun _ _ _ _ _ _ _ => trivial) rfl rfl dX10_of_2 rfl rfl (Nat.le_of_ble_eq_true rfl) (q := 5) rfl (k' := 0) rfl (n' := 0) rfl (by rw [hR]; exact ⟨Nat.le_of_ble_eq_true rfl, Nat.le_of_ble_eq_true rfl⟩) (fun v1 w1 hp1 => ?_)
  rcases hp1 with hp1 | hp1
  · skip
    obtain ⟨rfl, rfl, hc2, hc3⟩ := hp1
    refine x_ws (ws' := [(mo, .inr (9, [.int (nI cols), .int (nI lc), .int (nI smp), .int (ky), .ref (mr 0), .ref (mr 1), .ref (mr 2), .ref (mr 3), .ref (mr 4), .ref (mr 5), .ref (mr 6), .ref (mr 7), .ref (mr 8), .ref (mr 9), .int (nI (pMk P)), .int (nI (pRs P)), .ref (mr 10), .ref (mr 11), .ref (mr 12), .ref (mr 13), .ref (mr 14), .ref (mr 15), .ref (mr 16), .ref (mr 17), .ref (mr 18), .ref (mr 19), .ref (mr 20), .int (nI nse), .int (nI npa), .int (nI nbo), .ref (mr 21), .int (nI tn), .ref (mr 22), .int (nI ik), .int (j0), .int (j1), .ref (mr 23), .int (j2), .ref (mr 24), .ref (mr 25), .int (j3), .ref (mr 26), .int (j4), .ref (mr 27), .ref (mr 28), .ref (mr 29), .ref (mr 30)])), (mr 6, .inl (cy 1, 24, .inl (fun k => nI (fn k)))), (mr 4, .inl (cy 1, 1440, .inl (fun k => nI (by9 k)))), (mr 5, .inl (cy 1, 24, .inl (fun k => nI (lz k)))), (mr 11, .inl (cy 1, 24, .inl rl9))]) rfl ?_
    refine x_if_eq C (tgt := 12) dX10_of_5 (by decide) (q := 8) rfl (a := 1) rfl (fun h4 => (by omega : False).elim) (fun h4 => ?_)
    refine x_iload_n C dX10_of_8 (q := 9) rfl rfl 2 rfl ?_
    refine x_if_ge C (tgt := 14) dX10_of_9 (by decide) (q := 12) rfl (a := y.toInt) rfl (fun h5 => ?_) (fun h5 => ?_)
    · first
      | (exfalso; omega)
      |
        refine x_iload_n C dX10_of_14 (q := 15) rfl rfl 2 rfl ?_
        refine x_if_ne C (tgt := 25) dX10_of_15 (by decide) (q := 18) rfl (a := y.toInt) rfl (fun h6 => ?_) (fun h6 => ?_)
        · first
          | (exfalso; omega)
          |
            refine x_iload_n C dX10_of_25 (q := 26) rfl rfl 2 rfl ?_
            refine x_iconst C dX10_of_26 (q := 27) rfl (v := nI 1) (by decide) ?_
            refine x_icmp_ne C (tgt := 44) dX10_of_27 (by decide) (q := 30) rfl (a := y.toInt) (b := 1) rfl rfl (fun h7 => ?_) (fun h7 => ?_)
            · first
              | (exfalso; omega)
              |
                refine x_iload_n C dX10_of_44 (q := 45) rfl rfl 2 rfl ?_
                refine x_iconst C dX10_of_45 (q := 46) rfl (v := nI 2) (by decide) ?_
                refine x_icmp_ne C (tgt := 56) dX10_of_46 (by decide) (q := 49) rfl (a := y.toInt) (b := 2) rfl rfl (fun h8 => ?_) (fun h8 => ?_)
                · first
                  | (exfalso; omega)
                  |
                    have hfx := hfn9 x.toInt.toNat (by omega)
                    refine x_iload_n C dX10_of_56 (q := 57) rfl rfl 2 rfl ?_
                    refine x_iconst C dX10_of_57 (q := 58) rfl (v := nI 3) (by decide) ?_
                    refine x_isub C dX10_of_58 (q := 59) rfl (z := y - (nI 3)) (rfl) ?_
                    refine x_aload_n C dX10_of_59 (q := 60) rfl rfl 0 rfl ?_
                    refine x_get C (ci := 9) (v := .ref (mr 6)) hw0 0 rfl rfl 10 (by decide) hw1 rfl dX10_of_60 (q := 63) rfl ?_
                    refine x_iload_n C dX10_of_63 (q := 64) rfl rfl 1 rfl ?_
                    have hb9 := hfn x.toInt.toNat
                    refine x_iald C (j := x.toInt.toNat) (v := nI (fn x.toInt.toNat)) 1 rfl (by have h9 := (rfl : (x : Int32).toInt = x.toInt); omega) (by omega) rfl dX10_of_64 (q := 65) rfl ?_
                    refine x_icmp_lt C (tgt := 71) dX10_of_65 (by decide) (q := 68) rfl (a := y.toInt - 3) (b := ((fn x.toInt.toNat : Nat) : Int)) (xi_sub2 rfl rfl (by omega) (by omega)) (nI_toInt (by omega)) (fun h10 => ?_) (fun h10 => ?_)
                    · first
                      | (exfalso; omega)
                      |
                        have h30 := xi_sub3 (y := y) (by omega)
                        have hmx := hmb x.toInt.toNat (by omega)
                        have hmf := hmx.2.2.2.2.2 (y - nI 3).toInt.toNat (by omega)
                        have hst := fSt_le (tx := (lt x.toInt.toNat)) (n := (ln x.toInt.toNat)) (i := (y - nI 3).toInt.toNat) (by have z := hmx.2.2.2.2.1; omega)
                        have hen := fEnd_le (lt x.toInt.toNat) (ln x.toInt.toNat) (fSt (lt x.toInt.toNat) (ln x.toInt.toNat) (y - nI 3).toInt.toNat) hst
                        have hge := fEnd_ge (lt x.toInt.toNat) (ln x.toInt.toNat) (fSt (lt x.toInt.toNat) (ln x.toInt.toNat) (y - nI 3).toInt.toNat)
                        have hle : fLen (lt x.toInt.toNat) (ln x.toInt.toNat) ((y - nI 3).toInt.toNat) = _ - _ := rfl
                        have hnx := hmx.2.2.2.2.1
                        have hn60 := hmx.2.1
                        have hf4 := formS_le (fBy (lt x.toInt.toNat) (ln x.toInt.toNat) ((y - nI 3).toInt.toNat)) (fLen (lt x.toInt.toNat) (ln x.toInt.toNat) ((y - nI 3).toInt.toNat))
                        refine x_aload_n C dX10_of_71 (q := 72) rfl rfl 0 rfl ?_
                        refine x_iload_n C dX10_of_72 (q := 73) rfl rfl 1 rfl ?_
                        refine x_iload_n C dX10_of_73 (q := 74) rfl rfl 2 rfl ?_
                        refine x_iconst C dX10_of_74 (q := 75) rfl (v := nI 3) (by decide) ?_
                        refine x_isub C dX10_of_75 (q := 76) rfl (z := y - (nI 3)) (rfl) ?_
                        refine x_st (st' := [.int (y - (nI 3)), .int (nI x.toInt.toNat), .ref mo]) (congrArg (fun z9 => ([.int (y - (nI 3)), .int z9, .ref mo] : List Value)) (xi_nat (by omega))) ?_
                        refine x_st (st' := [.int (nI ((y - (nI 3)).toInt.toNat)), .int (nI x.toInt.toNat), .ref mo]) (congrArg (fun z9 => ([.int z9, .int (nI x.toInt.toNat), .ref mo] : List Value)) (xi_nat (by omega))) ?_
                        refine x_callV C (roW := []) (roR := []) (c_X10_begins l D cy mo mr cols lc smp (pMk P) (pRs P) nse npa nbo tn ik ky j0 j1 j2 j3 j4 by9 x.toInt.toNat ((ln x.toInt.toNat)) ((lt x.toInt.toNat)) ((y - (nI 3)).toInt.toNat) (by assumption) (by first | assumption | omega | (simp only []; omega)) (by exact hmx.2.1) (by exact hmx.2.2.1) (by omega)) (cwV 2 C.2.2.2.2.1 gX10_of_X10_begins rfl rfl rfl (by decide +kernel) (by rw [hR]; exact ⟨Nat.le_of_ble_eq_true rfl, Nat.le_of_ble_eq_true rfl⟩)) [0, 2] [] rfl (by decide) rfl (by decide) xro_nil (List.mem_of_getElem? (i := 0) rfl) (ci := 9) rfl xT_bl (fun _ _ _ _ _ _ _ => trivial) rfl rfl dX10_of_76 rfl rfl (Nat.le_of_ble_eq_true rfl) (q := 79) rfl (k' := 0) rfl (n' := 0) rfl (by rw [hR]; exact ⟨Nat.le_of_ble_eq_true rfl, Nat.le_of_ble_eq_true rfl⟩) (fun v11 w11 hp11 => ?_)
                        obtain ⟨rfl, rfl⟩ := hp11
                        refine x_ws (ws' := [(mo, .inr (9, [.int (nI cols), .int (nI lc), .int (nI smp), .int (ky), .ref (mr 0), .ref (mr 1), .ref (mr 2), .ref (mr 3), .ref (mr 4), .ref (mr 5), .ref (mr 6), .ref (mr 7), .ref (mr 8), .ref (mr 9), .int (nI (pMk P)), .int (nI (pRs P)), .ref (mr 10), .ref (mr 11), .ref (mr 12), .ref (mr 13), .ref (mr 14), .ref (mr 15), .ref (mr 16), .ref (mr 17), .ref (mr 18), .ref (mr 19), .ref (mr 20), .int (nI nse), .int (nI npa), .int (nI nbo), .ref (mr 21), .int (nI tn), .ref (mr 22), .int (nI ik), .int (j0), .int (j1), .ref (mr 23), .int (j2), .ref (mr 24), .ref (mr 25), .int (j3), .ref (mr 26), .int (j4), .ref (mr 27), .ref (mr 28), .ref (mr 29), .ref (mr 30)])), (mr 6, .inl (cy 1, 24, .inl (fun k => nI (fn k)))), (mr 4, .inl (cy 1, 1440, .inl (fun k => nI (by9 k)))), (mr 5, .inl (cy 1, 24, .inl (fun k => nI (lz k)))), (mr 11, .inl (cy 1, 24, .inl rl9))]) rfl ?_
                        refine x_istore_n C (L' := [(3, .int (nI (60 * x.toInt.toNat + fSt ((lt x.toInt.toNat)) ((ln x.toInt.toNat)) ((y - (nI 3)).toInt.toNat)))), (0, .ref mo), (1, .int (x)), (2, .int (y))]) dX10_of_79 (q := 80) rfl rfl (by decide) rfl ?_
                        refine x_aload_n C dX10_of_80 (q := 81) rfl rfl 1 rfl ?_
                        refine x_iload_n C dX10_of_81 (q := 82) rfl rfl 0 rfl ?_
                        refine x_aload_n C dX10_of_82 (q := 83) rfl rfl 1 rfl ?_
                        refine x_iload_n C dX10_of_83 (q := 84) rfl rfl 2 rfl ?_
                        refine x_iload_n C dX10_of_84 (q := 85) rfl rfl 0 rfl ?_
                        refine x_st (st' := [.int (nI (60 * x.toInt.toNat + fSt ((lt x.toInt.toNat)) ((ln x.toInt.toNat)) ((y - (nI 3)).toInt.toNat))), .int (nI x.toInt.toNat), .ref mo, .int (nI (60 * x.toInt.toNat + fSt ((lt x.toInt.toNat)) ((ln x.toInt.toNat)) ((y - (nI 3)).toInt.toNat))), .ref mo]) (congrArg (fun z9 => ([.int (nI (60 * x.toInt.toNat + fSt ((lt x.toInt.toNat)) ((ln x.toInt.toNat)) ((y - (nI 3)).toInt.toNat))), .int z9, .ref mo, .int (nI (60 * x.toInt.toNat + fSt ((lt x.toInt.toNat)) ((ln x.toInt.toNat)) ((y - (nI 3)).toInt.toNat))), .ref mo] : List Value)) (xi_nat (by omega))) ?_
                        refine x_callV C (roW := []) (roR := []) (c_X10_ends l D cy mo mr cols lc smp (pMk P) (pRs P) nse npa nbo tn ik ky j0 j1 j2 j3 j4 by9 lz x.toInt.toNat ((ln x.toInt.toNat)) ((lt x.toInt.toNat)) (60 * x.toInt.toNat + fSt ((lt x.toInt.toNat)) ((ln x.toInt.toNat)) ((y - (nI 3)).toInt.toNat)) (fSt (lt x.toInt.toNat) (ln x.toInt.toNat) (y - nI 3).toInt.toNat) (by assumption) (by first | assumption | omega | (simp only []; omega)) (by exact hmx.1) (by exact hmx.2.1) (by exact hmx.2.2.1) (by first | assumption | omega | (simp only []; omega)) (by first | assumption | omega | (simp only []; omega))) (cwV 2 C.2.2.2.2.1 gX10_of_X10_ends rfl rfl rfl (by decide +kernel) (by rw [hR]; exact ⟨Nat.le_of_ble_eq_true rfl, Nat.le_of_ble_eq_true rfl⟩)) [0, 2, 3] [] rfl (by decide) rfl (by decide) xro_nil (List.mem_of_getElem? (i := 0) rfl) (ci := 9) rfl xT_bl (fun _ _ _ _ _ _ _ => trivial) rfl rfl dX10_of_85 rfl rfl (Nat.le_of_ble_eq_true rfl) (q := 88) rfl (k' := 0) rfl (n' := 0) rfl (by rw [hR]; exact ⟨Nat.le_of_ble_eq_true rfl, Nat.le_of_ble_eq_true rfl⟩) (fun v12 w12 hp12 => ?_)
                        obtain ⟨rfl, rfl⟩ := hp12
                        refine x_ws (ws' := [(mo, .inr (9, [.int (nI cols), .int (nI lc), .int (nI smp), .int (ky), .ref (mr 0), .ref (mr 1), .ref (mr 2), .ref (mr 3), .ref (mr 4), .ref (mr 5), .ref (mr 6), .ref (mr 7), .ref (mr 8), .ref (mr 9), .int (nI (pMk P)), .int (nI (pRs P)), .ref (mr 10), .ref (mr 11), .ref (mr 12), .ref (mr 13), .ref (mr 14), .ref (mr 15), .ref (mr 16), .ref (mr 17), .ref (mr 18), .ref (mr 19), .ref (mr 20), .int (nI nse), .int (nI npa), .int (nI nbo), .ref (mr 21), .int (nI tn), .ref (mr 22), .int (nI ik), .int (j0), .int (j1), .ref (mr 23), .int (j2), .ref (mr 24), .ref (mr 25), .int (j3), .ref (mr 26), .int (j4), .ref (mr 27), .ref (mr 28), .ref (mr 29), .ref (mr 30)])), (mr 6, .inl (cy 1, 24, .inl (fun k => nI (fn k)))), (mr 4, .inl (cy 1, 1440, .inl (fun k => nI (by9 k)))), (mr 5, .inl (cy 1, 24, .inl (fun k => nI (lz k)))), (mr 11, .inl (cy 1, 24, .inl rl9))]) rfl ?_
                        refine x_callV C (roW := []) (roR := []) (c_X10_form l D cy mo mr cols lc smp (pMk P) (pRs P) nse npa nbo tn ik ky j0 j1 j2 j3 j4 by9 (60 * x.toInt.toNat + fSt ((lt x.toInt.toNat)) ((ln x.toInt.toNat)) ((y - (nI 3)).toInt.toNat)) (60 * x.toInt.toNat + fEnd ((lt x.toInt.toNat)) ((ln x.toInt.toNat)) (fSt (lt x.toInt.toNat) (ln x.toInt.toNat) (y - nI 3).toInt.toNat)) (fLen (lt x.toInt.toNat) (ln x.toInt.toNat) ((y - nI 3).toInt.toNat)) (fBy (lt x.toInt.toNat) (ln x.toInt.toNat) ((y - nI 3).toInt.toNat)) (by assumption) (by first | assumption | omega | (simp only []; omega)) (by first | assumption | omega | (simp only []; omega)) (by intro j hj; rw [Nat.add_assoc]; exact hmx.2.2.1 _ (by omega))) (cwV 2 C.2.2.2.2.1 gX10_of_X10_form rfl rfl rfl (by decide +kernel) (by rw [hR]; exact ⟨Nat.le_of_ble_eq_true rfl, Nat.le_of_ble_eq_true rfl⟩)) [0, 2] [] rfl (by decide) rfl (by decide) xro_nil (List.mem_of_getElem? (i := 0) rfl) (ci := 9) rfl xT_bl (fun _ _ _ _ _ _ _ => trivial) rfl rfl dX10_of_88 rfl rfl (Nat.le_of_ble_eq_true rfl) (q := 91) rfl (k' := 0) rfl (n' := 0) rfl (by rw [hR]; exact ⟨Nat.le_of_ble_eq_true rfl, Nat.le_of_ble_eq_true rfl⟩) (fun v13 w13 hp13 => ?_)
                        obtain ⟨rfl, rfl⟩ := hp13
                        refine x_ws (ws' := [(mo, .inr (9, [.int (nI cols), .int (nI lc), .int (nI smp), .int (ky), .ref (mr 0), .ref (mr 1), .ref (mr 2), .ref (mr 3), .ref (mr 4), .ref (mr 5), .ref (mr 6), .ref (mr 7), .ref (mr 8), .ref (mr 9), .int (nI (pMk P)), .int (nI (pRs P)), .ref (mr 10), .ref (mr 11), .ref (mr 12), .ref (mr 13), .ref (mr 14), .ref (mr 15), .ref (mr 16), .ref (mr 17), .ref (mr 18), .ref (mr 19), .ref (mr 20), .int (nI nse), .int (nI npa), .int (nI nbo), .ref (mr 21), .int (nI tn), .ref (mr 22), .int (nI ik), .int (j0), .int (j1), .ref (mr 23), .int (j2), .ref (mr 24), .ref (mr 25), .int (j3), .ref (mr 26), .int (j4), .ref (mr 27), .ref (mr 28), .ref (mr 29), .ref (mr 30)])), (mr 6, .inl (cy 1, 24, .inl (fun k => nI (fn k)))), (mr 4, .inl (cy 1, 1440, .inl (fun k => nI (by9 k)))), (mr 5, .inl (cy 1, 24, .inl (fun k => nI (lz k)))), (mr 11, .inl (cy 1, 24, .inl rl9))]) rfl ?_
                        refine x_iret C hA hQ hr dX10_of_91 (Nat.le_of_ble_eq_true rfl) ?_
                        refine ⟨?_, rfl⟩
                        unfold ofA
                        rw [if_neg (by omega), if_neg (by omega), if_neg (by omega), if_neg (by omega), if_pos (by omega), show (y.toInt - 3).toNat = (y - nI 3).toInt.toNat by rw [h30]]
                        rw [hmf.2.1]
                        rfl
                    · first
                      | (exfalso; omega)
                      |
                        refine x_bipush C dX10_of_68 (q := 70) rfl (v := (-5)) (by decide) ?_
                        refine x_iret C hA hQ hr dX10_of_70 (Nat.le_of_ble_eq_true rfl) ?_
                        refine ⟨?_, rfl⟩
                        unfold ofA
                        rw [if_neg (by omega), if_neg (by omega), if_neg (by omega), if_neg (by omega), if_neg (by have z := xi_sub3 (y := y) (by omega); omega)]
                · first
                  | (exfalso; omega)
                  |
                    refine x_aload_n C dX10_of_49 (q := 50) rfl rfl 0 rfl ?_
                    refine x_get C (ci := 9) (v := .ref (mr 11)) hw0 0 rfl rfl 17 (by decide) hw2 rfl dX10_of_50 (q := 53) rfl ?_
                    refine x_iload_n C dX10_of_53 (q := 54) rfl rfl 1 rfl ?_
                    refine x_iald C (j := x.toInt.toNat) (v := rl9 x.toInt.toNat) 4 rfl (by have h9 := (rfl : (x : Int32).toInt = x.toInt); omega) (by omega) rfl dX10_of_54 (q := 55) rfl ?_
                    refine x_iret C hA hQ hr dX10_of_55 (Nat.le_of_ble_eq_true rfl) ?_
                    refine ⟨?_, rfl⟩
                    unfold ofA
                    rw [if_neg (by omega), if_neg (by omega), if_neg (by omega), if_pos (by omega), hrl _ (by omega), show ((x.toInt.toNat : Nat) : Int) = x.toInt by omega]
            · first
              | (exfalso; omega)
              |
                refine x_iload_n C dX10_of_30 (q := 31) rfl rfl 1 rfl ?_
                refine x_aload_n C dX10_of_31 (q := 32) rfl rfl 0 rfl ?_
                refine x_get C (ci := 9) (v := .int (nI (pMk P))) hw0 0 rfl rfl 14 (by decide) hw3 rfl dX10_of_32 (q := 35) rfl ?_
                refine x_icmp_ge C (tgt := 42) dX10_of_35 (by decide) (q := 38) rfl (a := x.toInt) (b := ((pMk P : Nat) : Int)) rfl (nI_toInt (by omega)) (fun h14 => ?_) (fun h14 => ?_)
                · first
                  | (exfalso; omega)
                  |
                    refine x_iconst C dX10_of_42 (q := 43) rfl (v := nI 0) (by decide) ?_
                    refine x_iret C hA hQ hr dX10_of_43 (Nat.le_of_ble_eq_true rfl) ?_
                    refine ⟨?_, rfl⟩
                    unfold ofA
                    rw [if_neg (by omega), if_neg (by omega), if_pos (by omega)]
                    repeat (first | rw [if_pos (by omega)] | rw [if_neg (by omega)])
                · first
                  | (exfalso; omega)
                  |
                    refine x_iconst C dX10_of_38 (q := 39) rfl (v := nI 1) (by decide) ?_
                    refine x_goto C (tgt := 43) dX10_of_39 (by decide) ?_
                    refine x_iret C hA hQ hr dX10_of_43 (Nat.le_of_ble_eq_true rfl) ?_
                    refine ⟨?_, rfl⟩
                    unfold ofA
                    rw [if_neg (by omega), if_neg (by omega), if_pos (by omega)]
                    repeat (first | rw [if_pos (by omega)] | rw [if_neg (by omega)])
        · first
          | (exfalso; omega)
          |
            have hfx := hfn9 x.toInt.toNat (by omega)
            refine x_aload_n C dX10_of_18 (q := 19) rfl rfl 0 rfl ?_
            refine x_get C (ci := 9) (v := .ref (mr 6)) hw0 0 rfl rfl 10 (by decide) hw1 rfl dX10_of_19 (q := 22) rfl ?_
            refine x_iload_n C dX10_of_22 (q := 23) rfl rfl 1 rfl ?_
            have hb15 := hfn x.toInt.toNat
            refine x_iald C (j := x.toInt.toNat) (v := nI (fn x.toInt.toNat)) 1 rfl (by have h9 := (rfl : (x : Int32).toInt = x.toInt); omega) (by omega) rfl dX10_of_23 (q := 24) rfl ?_
            refine x_iret C hA hQ hr dX10_of_24 (Nat.le_of_ble_eq_true rfl) ?_
            refine ⟨?_, rfl⟩
            unfold ofA
            rw [if_neg (by omega), if_pos (by omega), hfx]
    · first
      | (exfalso; omega)
      |
        refine x_iconst C dX10_of_12 (q := 13) rfl (v := (-1)) (by decide) ?_
        refine x_iret C hA hQ hr dX10_of_13 (Nat.le_of_ble_eq_true rfl) ?_
        refine ⟨?_, rfl⟩
        unfold ofA
        rw [if_pos (by omega)]
  · skip
    obtain ⟨rfl, rfl, hc16⟩ := hp1
    refine x_ws (ws' := [(mo, .inr (9, [.int (nI cols), .int (nI lc), .int (nI smp), .int (ky), .ref (mr 0), .ref (mr 1), .ref (mr 2), .ref (mr 3), .ref (mr 4), .ref (mr 5), .ref (mr 6), .ref (mr 7), .ref (mr 8), .ref (mr 9), .int (nI (pMk P)), .int (nI (pRs P)), .ref (mr 10), .ref (mr 11), .ref (mr 12), .ref (mr 13), .ref (mr 14), .ref (mr 15), .ref (mr 16), .ref (mr 17), .ref (mr 18), .ref (mr 19), .ref (mr 20), .int (nI nse), .int (nI npa), .int (nI nbo), .ref (mr 21), .int (nI tn), .ref (mr 22), .int (nI ik), .int (j0), .int (j1), .ref (mr 23), .int (j2), .ref (mr 24), .ref (mr 25), .int (j3), .ref (mr 26), .int (j4), .ref (mr 27), .ref (mr 28), .ref (mr 29), .ref (mr 30)])), (mr 6, .inl (cy 1, 24, .inl (fun k => nI (fn k)))), (mr 4, .inl (cy 1, 1440, .inl (fun k => nI (by9 k)))), (mr 5, .inl (cy 1, 24, .inl (fun k => nI (lz k)))), (mr 11, .inl (cy 1, 24, .inl rl9))]) rfl ?_
    refine x_if_eq C (tgt := 12) dX10_of_5 (by decide) (q := 8) rfl (a := 0) rfl (fun h17 => ?_) (fun h17 => (by omega : False).elim)
    refine x_iconst C dX10_of_12 (q := 13) rfl (v := (-1)) (by decide) ?_
    refine x_iret C hA hQ hr dX10_of_13 (Nat.le_of_ble_eq_true rfl) ?_
    refine ⟨?_, rfl⟩
    unfold ofA
    rw [if_pos (by omega)]

set_option maxHeartbeats 4000000 in
set_option maxRecDepth 100000 in
/-- need -/
theorem c_X10_need (l : Launch) (D : va_G) (cy : Nat → ClassId) (mo : Nat) (mr : Nat → Nat) (cols : Nat) (lc : Nat) (smp : Nat) (mk : Nat) (rs : Nat) (nse : Nat) (npa : Nat) (nbo : Nat) (tn : Nat) (ik : Nat) (ky : Int32) (j0 : Int32) (j1 : Int32) (j2 : Int32) (j3 : Int32) (j4 : Int32) (fn : Nat → Nat) (fo : Nat → Nat) (ex : Nat → Int64) (wo : Nat → Int64) (ld : LD) (x : Int32) (y : Int32) (hml : MdL ld lc fn fo ex wo) (hfo4 : ∀ q, fo q ≤ 4) (hfn : ∀ q, fn q ≤ 61) (hlc : lc ≤ 24) (hcols : cols ≤ 5) : xMet l D cy xT yX10_need wsX10_need ({ frames := 5, cells := 0, slots := 0, locals := 700 } : Room) [.ref mo, .int (x), .int (y)] [(mo, .inr (9, [.int (nI cols), .int (nI lc), .int (nI smp), .int (ky), .ref (mr 0), .ref (mr 1), .ref (mr 2), .ref (mr 3), .ref (mr 4), .ref (mr 5), .ref (mr 6), .ref (mr 7), .ref (mr 8), .ref (mr 9), .int (nI mk), .int (nI rs), .ref (mr 10), .ref (mr 11), .ref (mr 12), .ref (mr 13), .ref (mr 14), .ref (mr 15), .ref (mr 16), .ref (mr 17), .ref (mr 18), .ref (mr 19), .ref (mr 20), .int (nI nse), .int (nI npa), .int (nI nbo), .ref (mr 21), .int (nI tn), .ref (mr 22), .int (nI ik), .int (j0), .int (j1), .ref (mr 23), .int (j2), .ref (mr 24), .ref (mr 25), .int (j3), .ref (mr 26), .int (j4), .ref (mr 27), .ref (mr 28), .ref (mr 29), .ref (mr 30)])), (mr 6, .inl (cy 1, 24, .inl (fun k => nI (fn k)))), (mr 7, .inl (cy 1, 120, .inl (fun k => nI (fo k)))), (mr 8, .inl (cy 2, 120, .inr (.inl ex))), (mr 9, .inl (cy 2, 120, .inr (.inl wo)))] [] (fun (v9 : Option Value) (w9 : va_W) => (v9 = some (.int (needA ld cols lc x y)) ∧ w9 = [(mo, .inr (9, [.int (nI cols), .int (nI lc), .int (nI smp), .int (ky), .ref (mr 0), .ref (mr 1), .ref (mr 2), .ref (mr 3), .ref (mr 4), .ref (mr 5), .ref (mr 6), .ref (mr 7), .ref (mr 8), .ref (mr 9), .int (nI mk), .int (nI rs), .ref (mr 10), .ref (mr 11), .ref (mr 12), .ref (mr 13), .ref (mr 14), .ref (mr 15), .ref (mr 16), .ref (mr 17), .ref (mr 18), .ref (mr 19), .ref (mr 20), .int (nI nse), .int (nI npa), .int (nI nbo), .ref (mr 21), .int (nI tn), .ref (mr 22), .int (nI ik), .int (j0), .int (j1), .ref (mr 23), .int (j2), .ref (mr 24), .ref (mr 25), .int (j3), .ref (mr 26), .int (j4), .ref (mr 27), .ref (mr 28), .ref (mr 29), .ref (mr 30)])), (mr 6, .inl (cy 1, 24, .inl (fun k => nI (fn k)))), (mr 7, .inl (cy 1, 120, .inl (fun k => nI (fo k)))), (mr 8, .inl (cy 2, 120, .inr (.inl ex))), (mr 9, .inl (cy 2, 120, .inr (.inl wo)))])) := by
  refine xMet_of (cc := cX10_need) (maxL := 4) (ret := (some .int)) (by decide) rfl (Nat.le_of_ble_eq_true rfl) (fun p e s m args below meth c A R Q hA hR hQ C hr hnm hro hX => ?_)
  have hw0 : Jvm.Cond.constantLong RX10 282 (4) ∈ wsX10_need := by decide +kernel
  refine x_L (L' := [(0, .ref mo), (1, .int (x)), (2, .int (y))]) [0, 1, 2] rfl ?_
  refine x_aload_n C dX10_need_0 (q := 1) rfl rfl 0 rfl ?_
  refine x_iload_n C dX10_need_1 (q := 2) rfl rfl 1 rfl ?_
  refine x_callV C (roW := []) (roR := []) (c_X10_isColumn l D cy mo mr cols lc smp mk rs nse npa nbo tn ik ky j0 j1 j2 j3 j4 x (by first | assumption | omega | (simp only []; omega))) (cwV 1 C.2.2.2.2.1 gX10_need_X10_isColumn rfl rfl rfl (by decide +kernel) (by rw [hR]; exact ⟨Nat.le_of_ble_eq_true rfl, Nat.le_of_ble_eq_true rfl⟩)) [0] [] rfl (by decide) rfl (by decide) xro_nil (List.mem_of_getElem? (i := 0) rfl) (ci := 9) rfl xT_bl (fun _ _ _ _ _ _ _ => trivial) rfl rfl dX10_need_2 rfl rfl (Nat.le_of_ble_eq_true rfl) (q := 5) rfl (k' := 0) rfl (n' := 0) rfl (by rw [hR]; exact ⟨Nat.le_of_ble_eq_true rfl, Nat.le_of_ble_eq_true rfl⟩) (fun v1 w1 hp1 => ?_)
  rcases hp1 with hp1 | hp1
  · skip
    obtain ⟨rfl, rfl, hc2, hc3⟩ := hp1
    refine x_ws (ws' := [(mo, .inr (9, [.int (nI cols), .int (nI lc), .int (nI smp), .int (ky), .ref (mr 0), .ref (mr 1), .ref (mr 2), .ref (mr 3), .ref (mr 4), .ref (mr 5), .ref (mr 6), .ref (mr 7), .ref (mr 8), .ref (mr 9), .int (nI mk), .int (nI rs), .ref (mr 10), .ref (mr 11), .ref (mr 12), .ref (mr 13), .ref (mr 14), .ref (mr 15), .ref (mr 16), .ref (mr 17), .ref (mr 18), .ref (mr 19), .ref (mr 20), .int (nI nse), .int (nI npa), .int (nI nbo), .ref (mr 21), .int (nI tn), .ref (mr 22), .int (nI ik), .int (j0), .int (j1), .ref (mr 23), .int (j2), .ref (mr 24), .ref (mr 25), .int (j3), .ref (mr 26), .int (j4), .ref (mr 27), .ref (mr 28), .ref (mr 29), .ref (mr 30)])), (mr 6, .inl (cy 1, 24, .inl (fun k => nI (fn k)))), (mr 7, .inl (cy 1, 120, .inl (fun k => nI (fo k)))), (mr 8, .inl (cy 2, 120, .inr (.inl ex))), (mr 9, .inl (cy 2, 120, .inr (.inl wo)))]) rfl ?_
    refine x_if_ne C (tgt := 10) dX10_need_5 (by decide) (q := 8) rfl (a := 1) rfl (fun h4 => ?_) (fun h4 => (by omega : False).elim)
    refine x_iload_n C dX10_need_10 (q := 11) rfl rfl 2 rfl ?_
    refine x_i2l C dX10_need_11 (q := 12) rfl (v := y.toInt64) (rfl) ?_
    refine x_lconst C dX10_need_12 (q := 13) rfl (v := lN 1) rfl ?_
    refine x_ldc2 C (v := lN 4) hw0 dX10_need_13 (q := 16) rfl ?_
    refine x_callS C (roW := []) (roR := []) (c_X10_in l D cy y.toInt64 (lN 1) (lN 4) y.toInt 1 4 (xl_wide rfl) rfl rfl) (cwS 3 C.2.2.2.2.1 gX10_need_X10_in rfl rfl rfl (by decide +kernel) (by rw [hR]; exact ⟨Nat.le_of_ble_eq_true rfl, Nat.le_of_ble_eq_true rfl⟩)) [] [] rfl (by decide) rfl (by decide) xro_nil xT_bl (fun _ _ _ _ _ _ _ => trivial) rfl rfl dX10_need_16 rfl rfl (Nat.le_of_ble_eq_true rfl) (q := 19) rfl (k' := 0) rfl (n' := 0) rfl (by rw [hR]; exact ⟨Nat.le_of_ble_eq_true rfl, Nat.le_of_ble_eq_true rfl⟩) (fun v5 w5 hp5 => ?_)
    rcases hp5 with hp5 | hp5
    · skip
      obtain ⟨rfl, rfl, hc6, hc7⟩ := hp5
      refine x_ws (ws' := [(mo, .inr (9, [.int (nI cols), .int (nI lc), .int (nI smp), .int (ky), .ref (mr 0), .ref (mr 1), .ref (mr 2), .ref (mr 3), .ref (mr 4), .ref (mr 5), .ref (mr 6), .ref (mr 7), .ref (mr 8), .ref (mr 9), .int (nI mk), .int (nI rs), .ref (mr 10), .ref (mr 11), .ref (mr 12), .ref (mr 13), .ref (mr 14), .ref (mr 15), .ref (mr 16), .ref (mr 17), .ref (mr 18), .ref (mr 19), .ref (mr 20), .int (nI nse), .int (nI npa), .int (nI nbo), .ref (mr 21), .int (nI tn), .ref (mr 22), .int (nI ik), .int (j0), .int (j1), .ref (mr 23), .int (j2), .ref (mr 24), .ref (mr 25), .int (j3), .ref (mr 26), .int (j4), .ref (mr 27), .ref (mr 28), .ref (mr 29), .ref (mr 30)])), (mr 6, .inl (cy 1, 24, .inl (fun k => nI (fn k)))), (mr 7, .inl (cy 1, 120, .inl (fun k => nI (fo k)))), (mr 8, .inl (cy 2, 120, .inr (.inl ex))), (mr 9, .inl (cy 2, 120, .inr (.inl wo)))]) (List.append_nil _) ?_
      refine x_if_ne C (tgt := 25) dX10_need_19 (by decide) (q := 22) rfl (a := 1) rfl (fun h8 => ?_) (fun h8 => (by omega : False).elim)
      refine x_iconst C dX10_need_25 (q := 26) rfl (v := nI 1) (by decide) ?_
      refine x_istore_n C (L' := [(3, .int (nI 1)), (0, .ref mo), (1, .int (x)), (2, .int (y))]) dX10_need_26 (q := 27) rfl rfl (by decide) rfl ?_
      have cut27 : ∀ (fuel : Nat) (k : Nat) (i : Nat), (i = k + 1) → (k ≤ 24) → (neeS ld x.toInt.toNat lc y.toInt.toNat = k + runLen (neeB ld x.toInt.toNat lc y.toInt.toNat) 24 (24 - k) k) → 24 - k < fuel → xG p l e R s m args below meth c Q D A 4 [(mo, .inr (9, [.int (nI cols), .int (nI lc), .int (nI smp), .int (ky), .ref (mr 0), .ref (mr 1), .ref (mr 2), .ref (mr 3), .ref (mr 4), .ref (mr 5), .ref (mr 6), .ref (mr 7), .ref (mr 8), .ref (mr 9), .int (nI mk), .int (nI rs), .ref (mr 10), .ref (mr 11), .ref (mr 12), .ref (mr 13), .ref (mr 14), .ref (mr 15), .ref (mr 16), .ref (mr 17), .ref (mr 18), .ref (mr 19), .ref (mr 20), .int (nI nse), .int (nI npa), .int (nI nbo), .ref (mr 21), .int (nI tn), .ref (mr 22), .int (nI ik), .int (j0), .int (j1), .ref (mr 23), .int (j2), .ref (mr 24), .ref (mr 25), .int (j3), .ref (mr 26), .int (j4), .ref (mr 27), .ref (mr 28), .ref (mr 29), .ref (mr 30)])), (mr 6, .inl (cy 1, 24, .inl (fun k => nI (fn k)))), (mr 7, .inl (cy 1, 120, .inl (fun k => nI (fo k)))), (mr 8, .inl (cy 2, 120, .inr (.inl ex))), (mr 9, .inl (cy 2, 120, .inr (.inl wo)))] 0 0 27 [(0, .ref mo), (1, .int (x)), (2, .int (y)), (3, .int (nI i))] [] := by
        intro fuel
        induction fuel with
        | zero =>
          intro k i hk hk24 hne hmu
          exact absurd hmu (Nat.not_lt_zero _)
        | succ fuel ih =>
          intro k i hk hk24 hne hmu
          have ih27 := ih
          clear ih
          refine x_iload_n C dX10_need_27 (q := 28) rfl rfl 3 rfl ?_
          refine x_bipush C dX10_need_28 (q := 30) rfl (v := nI 24) (by decide) ?_
          refine x_icmp_gt C (tgt := 51) dX10_need_30 (by decide) (q := 33) rfl (a := ((i : Nat) : Int)) (b := 24) (nI_toInt (by omega)) rfl (fun h9 => ?_) (fun h9 => ?_)
          · first
            | (exfalso; omega)
            |
              refine x_bipush C dX10_need_51 (q := 53) rfl (v := (-5)) (by decide) ?_
              refine x_iret C hA hQ hr dX10_need_53 (Nat.le_of_ble_eq_true rfl) ?_
              refine ⟨?_, rfl⟩
              unfold needA
              have h8 : 24 - k = 0 := by omega
              rw [h8] at hne
              have h7 : runLen (neeB ld x.toInt.toNat lc y.toInt.toNat) 24 0 k = 0 := rfl
              rw [if_neg (by omega), if_neg (by omega), if_pos (by omega)]
          · first
            | (exfalso; omega)
            |
              refine x_aload_n C dX10_need_33 (q := 34) rfl rfl 0 rfl ?_
              refine x_iload_n C dX10_need_34 (q := 35) rfl rfl 1 rfl ?_
              refine x_iload_n C dX10_need_35 (q := 36) rfl rfl 3 rfl ?_
              refine x_st (st' := [.int (nI i), .int (nI x.toInt.toNat), .ref mo]) (congrArg (fun z9 => ([.int (nI i), .int z9, .ref mo] : List Value)) (xi_nat (by omega))) ?_
              refine x_callV C (roW := []) (roR := []) (c_X10_guess l D cy mo mr cols lc smp mk rs nse npa nbo tn ik ky j0 j1 j2 j3 j4 fn fo ex wo ld x.toInt.toNat i (by assumption) (by assumption) (by assumption) (by first | assumption | omega | (simp only []; omega)) (by first | assumption | omega | (simp only []; omega)) (by first | assumption | omega | (simp only []; omega))) (cwV 2 C.2.2.2.2.1 gX10_need_X10_guess rfl rfl rfl (by decide +kernel) (by rw [hR]; exact ⟨Nat.le_of_ble_eq_true rfl, Nat.le_of_ble_eq_true rfl⟩)) [0, 1, 2, 3, 4] [] rfl (by decide) rfl (by decide) xro_nil (List.mem_of_getElem? (i := 0) rfl) (ci := 9) rfl xT_bl (fun _ _ _ _ _ _ _ => trivial) rfl rfl dX10_need_36 rfl rfl (Nat.le_of_ble_eq_true rfl) (q := 39) rfl (k' := 0) rfl (n' := 0) rfl (by rw [hR]; exact ⟨Nat.le_of_ble_eq_true rfl, Nat.le_of_ble_eq_true rfl⟩) (fun v10 w10 hp10 => ?_)
              obtain ⟨rfl, rfl⟩ := hp10
              refine x_ws (ws' := [(mo, .inr (9, [.int (nI cols), .int (nI lc), .int (nI smp), .int (ky), .ref (mr 0), .ref (mr 1), .ref (mr 2), .ref (mr 3), .ref (mr 4), .ref (mr 5), .ref (mr 6), .ref (mr 7), .ref (mr 8), .ref (mr 9), .int (nI mk), .int (nI rs), .ref (mr 10), .ref (mr 11), .ref (mr 12), .ref (mr 13), .ref (mr 14), .ref (mr 15), .ref (mr 16), .ref (mr 17), .ref (mr 18), .ref (mr 19), .ref (mr 20), .int (nI nse), .int (nI npa), .int (nI nbo), .ref (mr 21), .int (nI tn), .ref (mr 22), .int (nI ik), .int (j0), .int (j1), .ref (mr 23), .int (j2), .ref (mr 24), .ref (mr 25), .int (j3), .ref (mr 26), .int (j4), .ref (mr 27), .ref (mr 28), .ref (mr 29), .ref (mr 30)])), (mr 6, .inl (cy 1, 24, .inl (fun k => nI (fn k)))), (mr 7, .inl (cy 1, 120, .inl (fun k => nI (fo k)))), (mr 8, .inl (cy 2, 120, .inr (.inl ex))), (mr 9, .inl (cy 2, 120, .inr (.inl wo)))]) rfl ?_
              have hgs := gsS_in (vtF ld x.toInt.toNat (min i lc))
              refine x_iload_n C dX10_need_39 (q := 40) rfl rfl 2 rfl ?_
              refine x_icmp_ne C (tgt := 45) dX10_need_40 (by decide) (q := 43) rfl (a := ((gsS (vtF ld x.toInt.toNat (min i lc)) : Nat) : Int)) (b := y.toInt) (nI_toInt (by omega)) rfl (fun h11 => ?_) (fun h11 => ?_)
              · first
                | (exfalso; omega)
                |
                  refine x_iinc C (L' := [(3, .int (nI (i + 1))), (0, .ref mo), (1, .int (x)), (2, .int (y))]) dX10_need_45 (q := 48) rfl 3 rfl (v := nI (i + 1)) (nI_add i 1) (by decide) rfl ?_
                  refine x_goto C (tgt := 27) dX10_need_48 (by decide) ?_
                  refine x_L (L' := [(0, .ref mo), (1, .int (x)), (2, .int (y)), (3, .int (nI (i + 1)))]) [1, 2, 3, 0] rfl ?_
                  exact ih27 (k + 1) (i + 1) (by first | omega | assumption) (by first | omega | assumption) (by have h8 := runLen_step (P := neeB ld x.toInt.toNat lc y.toInt.toNat) (to := 24) (k := k) (by omega) (decide_eq_true (by rw [← hk]; omega)); omega) (by omega)
              · first
                | (exfalso; omega)
                |
                  refine x_iload_n C dX10_need_43 (q := 44) rfl rfl 3 rfl ?_
                  refine x_iret C hA hQ hr dX10_need_44 (Nat.le_of_ble_eq_true rfl) ?_
                  refine ⟨?_, rfl⟩
                  unfold needA
                  have h8 : runLen (neeB ld x.toInt.toNat lc y.toInt.toNat) 24 (24 - k) k = 0 := runLen_stop _ (fun z => absurd (of_decide_eq_true z.2) (by rw [← hk]; omega))
                  rw [if_neg (by omega), if_neg (by omega), if_neg (by omega), show neeS ld x.toInt.toNat lc y.toInt.toNat + 1 = i by omega]
      refine x_L (L' := [(0, .ref mo), (1, .int (x)), (2, .int (y)), (3, .int (nI 1))]) [1, 2, 3, 0] rfl ?_
      exact cut27 (24 - 0 + 1) 0 1 (by first | omega | assumption) (by first | omega | assumption) (by rw [Nat.zero_add]; rfl) (by omega)
    · skip
      obtain ⟨rfl, rfl, hc12⟩ := hp5
      refine x_ws (ws' := [(mo, .inr (9, [.int (nI cols), .int (nI lc), .int (nI smp), .int (ky), .ref (mr 0), .ref (mr 1), .ref (mr 2), .ref (mr 3), .ref (mr 4), .ref (mr 5), .ref (mr 6), .ref (mr 7), .ref (mr 8), .ref (mr 9), .int (nI mk), .int (nI rs), .ref (mr 10), .ref (mr 11), .ref (mr 12), .ref (mr 13), .ref (mr 14), .ref (mr 15), .ref (mr 16), .ref (mr 17), .ref (mr 18), .ref (mr 19), .ref (mr 20), .int (nI nse), .int (nI npa), .int (nI nbo), .ref (mr 21), .int (nI tn), .ref (mr 22), .int (nI ik), .int (j0), .int (j1), .ref (mr 23), .int (j2), .ref (mr 24), .ref (mr 25), .int (j3), .ref (mr 26), .int (j4), .ref (mr 27), .ref (mr 28), .ref (mr 29), .ref (mr 30)])), (mr 6, .inl (cy 1, 24, .inl (fun k => nI (fn k)))), (mr 7, .inl (cy 1, 120, .inl (fun k => nI (fo k)))), (mr 8, .inl (cy 2, 120, .inr (.inl ex))), (mr 9, .inl (cy 2, 120, .inr (.inl wo)))]) (List.append_nil _) ?_
      refine x_if_ne C (tgt := 25) dX10_need_19 (by decide) (q := 22) rfl (a := 0) rfl (fun h13 => (by omega : False).elim) (fun h13 => ?_)
      refine x_bipush C dX10_need_22 (q := 24) rfl (v := (-2)) (by decide) ?_
      refine x_iret C hA hQ hr dX10_need_24 (Nat.le_of_ble_eq_true rfl) ?_
      refine ⟨?_, rfl⟩
      unfold needA
      rw [if_neg (by omega), if_pos (by omega)]
  · skip
    obtain ⟨rfl, rfl, hc14⟩ := hp1
    refine x_ws (ws' := [(mo, .inr (9, [.int (nI cols), .int (nI lc), .int (nI smp), .int (ky), .ref (mr 0), .ref (mr 1), .ref (mr 2), .ref (mr 3), .ref (mr 4), .ref (mr 5), .ref (mr 6), .ref (mr 7), .ref (mr 8), .ref (mr 9), .int (nI mk), .int (nI rs), .ref (mr 10), .ref (mr 11), .ref (mr 12), .ref (mr 13), .ref (mr 14), .ref (mr 15), .ref (mr 16), .ref (mr 17), .ref (mr 18), .ref (mr 19), .ref (mr 20), .int (nI nse), .int (nI npa), .int (nI nbo), .ref (mr 21), .int (nI tn), .ref (mr 22), .int (nI ik), .int (j0), .int (j1), .ref (mr 23), .int (j2), .ref (mr 24), .ref (mr 25), .int (j3), .ref (mr 26), .int (j4), .ref (mr 27), .ref (mr 28), .ref (mr 29), .ref (mr 30)])), (mr 6, .inl (cy 1, 24, .inl (fun k => nI (fn k)))), (mr 7, .inl (cy 1, 120, .inl (fun k => nI (fo k)))), (mr 8, .inl (cy 2, 120, .inr (.inl ex))), (mr 9, .inl (cy 2, 120, .inr (.inl wo)))]) rfl ?_
    refine x_if_ne C (tgt := 10) dX10_need_5 (by decide) (q := 8) rfl (a := 0) rfl (fun h15 => (by omega : False).elim) (fun h15 => ?_)
    refine x_iconst C dX10_need_8 (q := 9) rfl (v := (-1)) (by decide) ?_
    refine x_iret C hA hQ hr dX10_need_9 (Nat.le_of_ble_eq_true rfl) ?_
    refine ⟨?_, rfl⟩
    unfold needA
    rw [if_pos (by omega)]

set_option maxHeartbeats 4000000 in
set_option maxRecDepth 100000 in
/-- see -/
theorem c_X10_see (l : Launch) (D : va_G) (cy : Nat → ClassId) (mo : Nat) (mr : Nat → Nat) (cols : Nat) (lc : Nat) (smp : Nat) (mk : Nat) (rs : Nat) (nse : Nat) (npa : Nat) (nbo : Nat) (tn : Nat) (ik : Nat) (ky : Int32) (j0 : Int32) (j1 : Int32) (j2 : Int32) (j3 : Int32) (j4 : Int32) (fs9 : Nat → Int32) (gs9 : Nat → Int32) (x : Int32) (y : Int32) (hnse : nse ≤ 6) (hlc : lc ≤ 24) : xMet l D cy xT yX10_see wsX10_see ({ frames := 3, cells := 0, slots := 0, locals := 300 } : Room) [.ref mo, .int (x), .int (y)] [(mo, .inr (9, [.int (nI cols), .int (nI lc), .int (nI smp), .int (ky), .ref (mr 0), .ref (mr 1), .ref (mr 2), .ref (mr 3), .ref (mr 4), .ref (mr 5), .ref (mr 6), .ref (mr 7), .ref (mr 8), .ref (mr 9), .int (nI mk), .int (nI rs), .ref (mr 10), .ref (mr 11), .ref (mr 12), .ref (mr 13), .ref (mr 14), .ref (mr 15), .ref (mr 16), .ref (mr 17), .ref (mr 18), .ref (mr 19), .ref (mr 20), .int (nI nse), .int (nI npa), .int (nI nbo), .ref (mr 21), .int (nI tn), .ref (mr 22), .int (nI ik), .int (j0), .int (j1), .ref (mr 23), .int (j2), .ref (mr 24), .ref (mr 25), .int (j3), .ref (mr 26), .int (j4), .ref (mr 27), .ref (mr 28), .ref (mr 29), .ref (mr 30)])), (mr 15, .inl (cy 1, 6, .inl fs9)), (mr 16, .inl (cy 1, 6, .inl gs9))] [] (fun (v9 : Option Value) (w9 : va_W) => (v9 = some (.int (seeA lc (nse, fs9, gs9) x)) ∧ w9 = [(mo, .inr (9, [.int (nI cols), .int (nI lc), .int (nI smp), .int (ky), .ref (mr 0), .ref (mr 1), .ref (mr 2), .ref (mr 3), .ref (mr 4), .ref (mr 5), .ref (mr 6), .ref (mr 7), .ref (mr 8), .ref (mr 9), .int (nI mk), .int (nI rs), .ref (mr 10), .ref (mr 11), .ref (mr 12), .ref (mr 13), .ref (mr 14), .ref (mr 15), .ref (mr 16), .ref (mr 17), .ref (mr 18), .ref (mr 19), .ref (mr 20), .int (nI ((seeN lc (nse, fs9, gs9) x y).1)), .int (nI npa), .int (nI nbo), .ref (mr 21), .int (nI tn), .ref (mr 22), .int (nI ik), .int (j0), .int (j1), .ref (mr 23), .int (j2), .ref (mr 24), .ref (mr 25), .int (j3), .ref (mr 26), .int (j4), .ref (mr 27), .ref (mr 28), .ref (mr 29), .ref (mr 30)])), (mr 15, .inl (cy 1, 6, .inl ((seeN lc (nse, fs9, gs9) x y).2.1))), (mr 16, .inl (cy 1, 6, .inl ((seeN lc (nse, fs9, gs9) x y).2.2)))])) := by
  refine xMet_of (cc := cX10_see) (maxL := 3) (ret := (some .int)) (by decide) rfl (Nat.le_of_ble_eq_true rfl) (fun p e s m args below meth c A R Q hA hR hQ C hr hnm hro hX => ?_)
  have hw0 : ∀ w ∈ u_ws RX10 TX10 47, w ∈ wsX10_see := by decide +kernel
  have hw1 : Cond.fieldLink RX10 145 (TX10 27).1 (TX10 27).2.1 (TX10 27).2.2.1 ∈ wsX10_see := by decide +kernel
  have hw2 : Cond.fieldLink RX10 65 (TX10 21).1 (TX10 21).2.1 (TX10 21).2.2.1 ∈ wsX10_see := by decide +kernel
  have hw3 : Cond.fieldLink RX10 68 (TX10 22).1 (TX10 22).2.1 (TX10 22).2.2.1 ∈ wsX10_see := by decide +kernel
  refine x_L (L' := [(0, .ref mo), (1, .int (x)), (2, .int (y))]) [0, 1, 2] rfl ?_
  refine x_iload_n C dX10_see_0 (q := 1) rfl rfl 1 rfl ?_
  refine x_iconst C dX10_see_1 (q := 2) rfl (v := (-1)) (by decide) ?_
  refine x_icmp_ne C (tgt := 12) dX10_see_2 (by decide) (q := 5) rfl (a := x.toInt) (b := (-1)) rfl rfl (fun h1 => ?_) (fun h1 => ?_)
  · first
    | (exfalso; omega)
    |
      refine x_aload_n C dX10_see_12 (q := 13) rfl rfl 0 rfl ?_
      refine x_iload_n C dX10_see_13 (q := 14) rfl rfl 1 rfl ?_
      refine x_callV C (roW := []) (roR := []) (c_X10_isLine l D cy mo mr cols lc smp mk rs nse npa nbo tn ik ky j0 j1 j2 j3 j4 x (by first | assumption | omega | (simp only []; omega))) (cwV 1 C.2.2.2.2.1 gX10_see_X10_isLine rfl rfl rfl (by decide +kernel) (by rw [hR]; exact ⟨Nat.le_of_ble_eq_true rfl, Nat.le_of_ble_eq_true rfl⟩)) [0] [] rfl (by decide) rfl (by decide) xro_nil (List.mem_of_getElem? (i := 0) rfl) (ci := 9) rfl xT_bl (fun _ _ _ _ _ _ _ => trivial) rfl rfl dX10_see_14 rfl rfl (Nat.le_of_ble_eq_true rfl) (q := 17) rfl (k' := 0) rfl (n' := 0) rfl (by rw [hR]; exact ⟨Nat.le_of_ble_eq_true rfl, Nat.le_of_ble_eq_true rfl⟩) (fun v2 w2 hp2 => ?_)
      rcases hp2 with hp2 | hp2
      · skip
        obtain ⟨rfl, rfl, hc3, hc4⟩ := hp2
        refine x_ws (ws' := [(mo, .inr (9, [.int (nI cols), .int (nI lc), .int (nI smp), .int (ky), .ref (mr 0), .ref (mr 1), .ref (mr 2), .ref (mr 3), .ref (mr 4), .ref (mr 5), .ref (mr 6), .ref (mr 7), .ref (mr 8), .ref (mr 9), .int (nI mk), .int (nI rs), .ref (mr 10), .ref (mr 11), .ref (mr 12), .ref (mr 13), .ref (mr 14), .ref (mr 15), .ref (mr 16), .ref (mr 17), .ref (mr 18), .ref (mr 19), .ref (mr 20), .int (nI nse), .int (nI npa), .int (nI nbo), .ref (mr 21), .int (nI tn), .ref (mr 22), .int (nI ik), .int (j0), .int (j1), .ref (mr 23), .int (j2), .ref (mr 24), .ref (mr 25), .int (j3), .ref (mr 26), .int (j4), .ref (mr 27), .ref (mr 28), .ref (mr 29), .ref (mr 30)])), (mr 15, .inl (cy 1, 6, .inl fs9)), (mr 16, .inl (cy 1, 6, .inl gs9))]) rfl ?_
        refine x_if_ne C (tgt := 22) dX10_see_17 (by decide) (q := 20) rfl (a := 1) rfl (fun h5 => ?_) (fun h5 => (by omega : False).elim)
        refine x_aload_n C dX10_see_22 (q := 23) rfl rfl 0 rfl ?_
        refine x_get C (ci := 9) (v := .int (nI nse)) hw0 0 rfl rfl 27 (by decide) hw1 rfl dX10_see_23 (q := 26) rfl ?_
        refine x_bipush C dX10_see_26 (q := 28) rfl (v := nI 6) (by decide) ?_
        refine x_icmp_ne C (tgt := 34) dX10_see_28 (by decide) (q := 31) rfl (a := ((nse : Nat) : Int)) (b := 6) (nI_toInt (by omega)) rfl (fun h6 => ?_) (fun h6 => ?_)
        · first
          | (exfalso; omega)
          |
            refine x_aload_n C dX10_see_34 (q := 35) rfl rfl 0 rfl ?_
            refine x_get C (ci := 9) (v := .ref (mr 15)) hw0 0 rfl rfl 21 (by decide) hw2 rfl dX10_see_35 (q := 38) rfl ?_
            refine x_aload_n C dX10_see_38 (q := 39) rfl rfl 0 rfl ?_
            refine x_get C (ci := 9) (v := .int (nI nse)) hw0 0 rfl rfl 27 (by decide) hw1 rfl dX10_see_39 (q := 42) rfl ?_
            refine x_iload_n C dX10_see_42 (q := 43) rfl rfl 1 rfl ?_
            refine x_iast C (ws' := [(mo, .inr (9, [.int (nI cols), .int (nI lc), .int (nI smp), .int (ky), .ref (mr 0), .ref (mr 1), .ref (mr 2), .ref (mr 3), .ref (mr 4), .ref (mr 5), .ref (mr 6), .ref (mr 7), .ref (mr 8), .ref (mr 9), .int (nI mk), .int (nI rs), .ref (mr 10), .ref (mr 11), .ref (mr 12), .ref (mr 13), .ref (mr 14), .ref (mr 15), .ref (mr 16), .ref (mr 17), .ref (mr 18), .ref (mr 19), .ref (mr 20), .int (nI nse), .int (nI npa), .int (nI nbo), .ref (mr 21), .int (nI tn), .ref (mr 22), .int (nI ik), .int (j0), .int (j1), .ref (mr 23), .int (j2), .ref (mr 24), .ref (mr 25), .int (j3), .ref (mr 26), .int (j4), .ref (mr 27), .ref (mr 28), .ref (mr 29), .ref (mr 30)])), (mr 15, .inl (cy 1, 6, .inl (va_up fs9 nse x))), (mr 16, .inl (cy 1, 6, .inl gs9))]) 1 rfl (j := nse) (nI_toInt (by omega)) (by omega) (rfl) rfl dX10_see_43 (q := 44) rfl ?_
            refine x_aload_n C dX10_see_44 (q := 45) rfl rfl 0 rfl ?_
            refine x_get C (ci := 9) (v := .ref (mr 16)) hw0 0 rfl rfl 22 (by decide) hw3 rfl dX10_see_45 (q := 48) rfl ?_
            refine x_aload_n C dX10_see_48 (q := 49) rfl rfl 0 rfl ?_
            refine x_get C (ci := 9) (v := .int (nI nse)) hw0 0 rfl rfl 27 (by decide) hw1 rfl dX10_see_49 (q := 52) rfl ?_
            refine x_iload_n C dX10_see_52 (q := 53) rfl rfl 2 rfl ?_
            refine x_if_eq C (tgt := 60) dX10_see_53 (by decide) (q := 56) rfl (a := y.toInt) rfl (fun h7 => ?_) (fun h7 => ?_)
            · first
              | (exfalso; omega)
              |
                refine x_iconst C dX10_see_60 (q := 61) rfl (v := nI 0) (by decide) ?_
                refine x_iast C (ws' := [(mo, .inr (9, [.int (nI cols), .int (nI lc), .int (nI smp), .int (ky), .ref (mr 0), .ref (mr 1), .ref (mr 2), .ref (mr 3), .ref (mr 4), .ref (mr 5), .ref (mr 6), .ref (mr 7), .ref (mr 8), .ref (mr 9), .int (nI mk), .int (nI rs), .ref (mr 10), .ref (mr 11), .ref (mr 12), .ref (mr 13), .ref (mr 14), .ref (mr 15), .ref (mr 16), .ref (mr 17), .ref (mr 18), .ref (mr 19), .ref (mr 20), .int (nI nse), .int (nI npa), .int (nI nbo), .ref (mr 21), .int (nI tn), .ref (mr 22), .int (nI ik), .int (j0), .int (j1), .ref (mr 23), .int (j2), .ref (mr 24), .ref (mr 25), .int (j3), .ref (mr 26), .int (j4), .ref (mr 27), .ref (mr 28), .ref (mr 29), .ref (mr 30)])), (mr 15, .inl (cy 1, 6, .inl (va_up fs9 nse x))), (mr 16, .inl (cy 1, 6, .inl (va_up gs9 nse (nI 0))))]) 2 rfl (j := nse) (nI_toInt (by omega)) (by omega) (rfl) rfl dX10_see_61 (q := 62) rfl ?_
                refine x_aload_n C dX10_see_62 (q := 63) rfl rfl 0 rfl ?_
                refine x_dup C dX10_see_63 (q := 64) rfl rfl ?_
                refine x_get C (ci := 9) (v := .int (nI nse)) hw0 0 rfl rfl 27 (by decide) hw1 rfl dX10_see_64 (q := 67) rfl ?_
                refine x_iconst C dX10_see_67 (q := 68) rfl (v := nI 1) (by decide) ?_
                refine x_iadd C dX10_see_68 (q := 69) rfl (z := nI (nse + 1)) (nI_add nse 1) ?_
                refine x_put C (ci := 9) (ty := .int) (ws' := [(mo, .inr (9, [.int (nI cols), .int (nI lc), .int (nI smp), .int (ky), .ref (mr 0), .ref (mr 1), .ref (mr 2), .ref (mr 3), .ref (mr 4), .ref (mr 5), .ref (mr 6), .ref (mr 7), .ref (mr 8), .ref (mr 9), .int (nI mk), .int (nI rs), .ref (mr 10), .ref (mr 11), .ref (mr 12), .ref (mr 13), .ref (mr 14), .ref (mr 15), .ref (mr 16), .ref (mr 17), .ref (mr 18), .ref (mr 19), .ref (mr 20), .int (nI (nse + 1)), .int (nI npa), .int (nI nbo), .ref (mr 21), .int (nI tn), .ref (mr 22), .int (nI ik), .int (j0), .int (j1), .ref (mr 23), .int (j2), .ref (mr 24), .ref (mr 25), .int (j3), .ref (mr 26), .int (j4), .ref (mr 27), .ref (mr 28), .ref (mr 29), .ref (mr 30)])), (mr 15, .inl (cy 1, 6, .inl (va_up fs9 nse x))), (mr 16, .inl (cy 1, 6, .inl (va_up gs9 nse (nI 0))))]) hw0 tyX10 tyX10_ok nmX10 0 rfl rfl 27 (by decide) hw1 rfl (by decide +kernel) rfl rfl (Nat.le_of_ble_eq_true rfl) rfl dX10_see_69 (q := 72) rfl ?_
                refine x_aload_n C dX10_see_72 (q := 73) rfl rfl 0 rfl ?_
                refine x_get C (ci := 9) (v := .int (nI (nse + 1))) hw0 0 rfl rfl 27 (by decide) hw1 rfl dX10_see_73 (q := 76) rfl ?_
                refine x_iret C hA hQ hr dX10_see_76 (Nat.le_of_ble_eq_true rfl) ?_
                unfold seeA seeN enA enN
                dsimp only
                repeat (first | rw [if_pos (by omega)] | rw [if_neg (by omega)])
                exact ⟨rfl, rfl⟩
            · first
              | (exfalso; omega)
              |
                refine x_iconst C dX10_see_56 (q := 57) rfl (v := nI 1) (by decide) ?_
                refine x_goto C (tgt := 61) dX10_see_57 (by decide) ?_
                refine x_iast C (ws' := [(mo, .inr (9, [.int (nI cols), .int (nI lc), .int (nI smp), .int (ky), .ref (mr 0), .ref (mr 1), .ref (mr 2), .ref (mr 3), .ref (mr 4), .ref (mr 5), .ref (mr 6), .ref (mr 7), .ref (mr 8), .ref (mr 9), .int (nI mk), .int (nI rs), .ref (mr 10), .ref (mr 11), .ref (mr 12), .ref (mr 13), .ref (mr 14), .ref (mr 15), .ref (mr 16), .ref (mr 17), .ref (mr 18), .ref (mr 19), .ref (mr 20), .int (nI nse), .int (nI npa), .int (nI nbo), .ref (mr 21), .int (nI tn), .ref (mr 22), .int (nI ik), .int (j0), .int (j1), .ref (mr 23), .int (j2), .ref (mr 24), .ref (mr 25), .int (j3), .ref (mr 26), .int (j4), .ref (mr 27), .ref (mr 28), .ref (mr 29), .ref (mr 30)])), (mr 15, .inl (cy 1, 6, .inl (va_up fs9 nse x))), (mr 16, .inl (cy 1, 6, .inl (va_up gs9 nse (nI 1))))]) 2 rfl (j := nse) (nI_toInt (by omega)) (by omega) (rfl) rfl dX10_see_61 (q := 62) rfl ?_
                refine x_aload_n C dX10_see_62 (q := 63) rfl rfl 0 rfl ?_
                refine x_dup C dX10_see_63 (q := 64) rfl rfl ?_
                refine x_get C (ci := 9) (v := .int (nI nse)) hw0 0 rfl rfl 27 (by decide) hw1 rfl dX10_see_64 (q := 67) rfl ?_
                refine x_iconst C dX10_see_67 (q := 68) rfl (v := nI 1) (by decide) ?_
                refine x_iadd C dX10_see_68 (q := 69) rfl (z := nI (nse + 1)) (nI_add nse 1) ?_
                refine x_put C (ci := 9) (ty := .int) (ws' := [(mo, .inr (9, [.int (nI cols), .int (nI lc), .int (nI smp), .int (ky), .ref (mr 0), .ref (mr 1), .ref (mr 2), .ref (mr 3), .ref (mr 4), .ref (mr 5), .ref (mr 6), .ref (mr 7), .ref (mr 8), .ref (mr 9), .int (nI mk), .int (nI rs), .ref (mr 10), .ref (mr 11), .ref (mr 12), .ref (mr 13), .ref (mr 14), .ref (mr 15), .ref (mr 16), .ref (mr 17), .ref (mr 18), .ref (mr 19), .ref (mr 20), .int (nI (nse + 1)), .int (nI npa), .int (nI nbo), .ref (mr 21), .int (nI tn), .ref (mr 22), .int (nI ik), .int (j0), .int (j1), .ref (mr 23), .int (j2), .ref (mr 24), .ref (mr 25), .int (j3), .ref (mr 26), .int (j4), .ref (mr 27), .ref (mr 28), .ref (mr 29), .ref (mr 30)])), (mr 15, .inl (cy 1, 6, .inl (va_up fs9 nse x))), (mr 16, .inl (cy 1, 6, .inl (va_up gs9 nse (nI 1))))]) hw0 tyX10 tyX10_ok nmX10 0 rfl rfl 27 (by decide) hw1 rfl (by decide +kernel) rfl rfl (Nat.le_of_ble_eq_true rfl) rfl dX10_see_69 (q := 72) rfl ?_
                refine x_aload_n C dX10_see_72 (q := 73) rfl rfl 0 rfl ?_
                refine x_get C (ci := 9) (v := .int (nI (nse + 1))) hw0 0 rfl rfl 27 (by decide) hw1 rfl dX10_see_73 (q := 76) rfl ?_
                refine x_iret C hA hQ hr dX10_see_76 (Nat.le_of_ble_eq_true rfl) ?_
                unfold seeA seeN enA enN
                dsimp only
                repeat (first | rw [if_pos (by omega)] | rw [if_neg (by omega)])
                exact ⟨rfl, rfl⟩
        · first
          | (exfalso; omega)
          |
            refine x_bipush C dX10_see_31 (q := 33) rfl (v := (-4)) (by decide) ?_
            refine x_iret C hA hQ hr dX10_see_33 (Nat.le_of_ble_eq_true rfl) ?_
            unfold seeA seeN enA enN
            dsimp only
            repeat (first | rw [if_pos (by omega)] | rw [if_neg (by omega)])
            exact ⟨rfl, rfl⟩
      · skip
        obtain ⟨rfl, rfl, hc8⟩ := hp2
        refine x_ws (ws' := [(mo, .inr (9, [.int (nI cols), .int (nI lc), .int (nI smp), .int (ky), .ref (mr 0), .ref (mr 1), .ref (mr 2), .ref (mr 3), .ref (mr 4), .ref (mr 5), .ref (mr 6), .ref (mr 7), .ref (mr 8), .ref (mr 9), .int (nI mk), .int (nI rs), .ref (mr 10), .ref (mr 11), .ref (mr 12), .ref (mr 13), .ref (mr 14), .ref (mr 15), .ref (mr 16), .ref (mr 17), .ref (mr 18), .ref (mr 19), .ref (mr 20), .int (nI nse), .int (nI npa), .int (nI nbo), .ref (mr 21), .int (nI tn), .ref (mr 22), .int (nI ik), .int (j0), .int (j1), .ref (mr 23), .int (j2), .ref (mr 24), .ref (mr 25), .int (j3), .ref (mr 26), .int (j4), .ref (mr 27), .ref (mr 28), .ref (mr 29), .ref (mr 30)])), (mr 15, .inl (cy 1, 6, .inl fs9)), (mr 16, .inl (cy 1, 6, .inl gs9))]) rfl ?_
        refine x_if_ne C (tgt := 22) dX10_see_17 (by decide) (q := 20) rfl (a := 0) rfl (fun h9 => (by omega : False).elim) (fun h9 => ?_)
        refine x_iconst C dX10_see_20 (q := 21) rfl (v := (-1)) (by decide) ?_
        refine x_iret C hA hQ hr dX10_see_21 (Nat.le_of_ble_eq_true rfl) ?_
        unfold seeA seeN enA enN
        dsimp only
        repeat (first | rw [if_pos (by omega)] | rw [if_neg (by omega)])
        exact ⟨rfl, rfl⟩
  · first
    | (exfalso; omega)
    |
      refine x_aload_n C dX10_see_5 (q := 6) rfl rfl 0 rfl ?_
      refine x_iconst C dX10_see_6 (q := 7) rfl (v := nI 0) (by decide) ?_
      refine x_put C (ci := 9) (ty := .int) (ws' := [(mo, .inr (9, [.int (nI cols), .int (nI lc), .int (nI smp), .int (ky), .ref (mr 0), .ref (mr 1), .ref (mr 2), .ref (mr 3), .ref (mr 4), .ref (mr 5), .ref (mr 6), .ref (mr 7), .ref (mr 8), .ref (mr 9), .int (nI mk), .int (nI rs), .ref (mr 10), .ref (mr 11), .ref (mr 12), .ref (mr 13), .ref (mr 14), .ref (mr 15), .ref (mr 16), .ref (mr 17), .ref (mr 18), .ref (mr 19), .ref (mr 20), .int (nI 0), .int (nI npa), .int (nI nbo), .ref (mr 21), .int (nI tn), .ref (mr 22), .int (nI ik), .int (j0), .int (j1), .ref (mr 23), .int (j2), .ref (mr 24), .ref (mr 25), .int (j3), .ref (mr 26), .int (j4), .ref (mr 27), .ref (mr 28), .ref (mr 29), .ref (mr 30)])), (mr 15, .inl (cy 1, 6, .inl fs9)), (mr 16, .inl (cy 1, 6, .inl gs9))]) hw0 tyX10 tyX10_ok nmX10 0 rfl rfl 27 (by decide) hw1 rfl (by decide +kernel) rfl rfl (Nat.le_of_ble_eq_true rfl) rfl dX10_see_7 (q := 10) rfl ?_
      refine x_iconst C dX10_see_10 (q := 11) rfl (v := nI 0) (by decide) ?_
      refine x_iret C hA hQ hr dX10_see_11 (Nat.le_of_ble_eq_true rfl) ?_
      unfold seeA seeN enA enN
      dsimp only
      repeat (first | rw [if_pos (by omega)] | rw [if_neg (by omega)])
      exact ⟨rfl, rfl⟩

set_option maxHeartbeats 4000000 in
set_option maxRecDepth 100000 in
/-- isAllSeen -/
theorem c_X10_isAllSeen (l : Launch) (D : va_G) (cy : Nat → ClassId) (mo : Nat) (mr : Nat → Nat) (cols : Nat) (lc : Nat) (smp : Nat) (nse : Nat) (npa : Nat) (nbo : Nat) (tn : Nat) (ik : Nat) (ky : Int32) (j0 : Int32) (j1 : Int32) (j2 : Int32) (j3 : Int32) (j4 : Int32) (P : PS) (fs9 : Nat → Int32) (gs9 : Nat → Int32) (st9 : Nat → Nat) (lr9 : Nat → Nat) (rl9 : Nat → Int32) (fa9 : Nat → Int32) (ca9 : Nat → Int32) (dc9 : Nat → Int32) (ld : LD) (hmp : MdP cols P st9 lr9 rl9 fa9 ca9 dc9) (hF : InvF ld cols lc P) (hlc : lc ≤ 24) (hmkl : pMk P = lc) (hnse : nse ≤ 6) (hsl : ∀ i, i < nse → 0 ≤ (fs9 i).toInt ∧ (fs9 i).toInt < lc) : xMet l D cy xT yX10_isAllSeen wsX10_isAllSeen ({ frames := 1, cells := 0, slots := 0, locals := 0 } : Room) [.ref mo] [(mo, .inr (9, [.int (nI cols), .int (nI lc), .int (nI smp), .int (ky), .ref (mr 0), .ref (mr 1), .ref (mr 2), .ref (mr 3), .ref (mr 4), .ref (mr 5), .ref (mr 6), .ref (mr 7), .ref (mr 8), .ref (mr 9), .int (nI (pMk P)), .int (nI (pRs P)), .ref (mr 10), .ref (mr 11), .ref (mr 12), .ref (mr 13), .ref (mr 14), .ref (mr 15), .ref (mr 16), .ref (mr 17), .ref (mr 18), .ref (mr 19), .ref (mr 20), .int (nI nse), .int (nI npa), .int (nI nbo), .ref (mr 21), .int (nI tn), .ref (mr 22), .int (nI ik), .int (j0), .int (j1), .ref (mr 23), .int (j2), .ref (mr 24), .ref (mr 25), .int (j3), .ref (mr 26), .int (j4), .ref (mr 27), .ref (mr 28), .ref (mr 29), .ref (mr 30)])), (mr 11, .inl (cy 1, 24, .inl rl9)), (mr 15, .inl (cy 1, 6, .inl fs9)), (mr 16, .inl (cy 1, 6, .inl gs9))] [] (fun (v9 : Option Value) (w9 : va_W) => (v9 = some (.int (nI 1)) ∧ w9 = [(mo, .inr (9, [.int (nI cols), .int (nI lc), .int (nI smp), .int (ky), .ref (mr 0), .ref (mr 1), .ref (mr 2), .ref (mr 3), .ref (mr 4), .ref (mr 5), .ref (mr 6), .ref (mr 7), .ref (mr 8), .ref (mr 9), .int (nI (pMk P)), .int (nI (pRs P)), .ref (mr 10), .ref (mr 11), .ref (mr 12), .ref (mr 13), .ref (mr 14), .ref (mr 15), .ref (mr 16), .ref (mr 17), .ref (mr 18), .ref (mr 19), .ref (mr 20), .int (nI nse), .int (nI npa), .int (nI nbo), .ref (mr 21), .int (nI tn), .ref (mr 22), .int (nI ik), .int (j0), .int (j1), .ref (mr 23), .int (j2), .ref (mr 24), .ref (mr 25), .int (j3), .ref (mr 26), .int (j4), .ref (mr 27), .ref (mr 28), .ref (mr 29), .ref (mr 30)])), (mr 11, .inl (cy 1, 24, .inl rl9)), (mr 15, .inl (cy 1, 6, .inl fs9)), (mr 16, .inl (cy 1, 6, .inl gs9))] ∧ ssS P (nse, fs9, gs9) = nse) ∨ (v9 = some (.int (nI 0)) ∧ w9 = [(mo, .inr (9, [.int (nI cols), .int (nI lc), .int (nI smp), .int (ky), .ref (mr 0), .ref (mr 1), .ref (mr 2), .ref (mr 3), .ref (mr 4), .ref (mr 5), .ref (mr 6), .ref (mr 7), .ref (mr 8), .ref (mr 9), .int (nI (pMk P)), .int (nI (pRs P)), .ref (mr 10), .ref (mr 11), .ref (mr 12), .ref (mr 13), .ref (mr 14), .ref (mr 15), .ref (mr 16), .ref (mr 17), .ref (mr 18), .ref (mr 19), .ref (mr 20), .int (nI nse), .int (nI npa), .int (nI nbo), .ref (mr 21), .int (nI tn), .ref (mr 22), .int (nI ik), .int (j0), .int (j1), .ref (mr 23), .int (j2), .ref (mr 24), .ref (mr 25), .int (j3), .ref (mr 26), .int (j4), .ref (mr 27), .ref (mr 28), .ref (mr 29), .ref (mr 30)])), (mr 11, .inl (cy 1, 24, .inl rl9)), (mr 15, .inl (cy 1, 6, .inl fs9)), (mr 16, .inl (cy 1, 6, .inl gs9))] ∧ ssS P (nse, fs9, gs9) < nse)) := by
  refine xMet_of (cc := cX10_isAllSeen) (maxL := 2) (ret := (some .boolean)) (by decide) rfl (Nat.le_of_ble_eq_true rfl) (fun p e s m args below meth c A R Q hA hR hQ C hr hnm hro hX => ?_)
  have hw0 : ∀ w ∈ u_ws RX10 TX10 47, w ∈ wsX10_isAllSeen := by decide +kernel
  have hw1 : Cond.fieldLink RX10 145 (TX10 27).1 (TX10 27).2.1 (TX10 27).2.2.1 ∈ wsX10_isAllSeen := by decide +kernel
  have hw2 : Cond.fieldLink RX10 68 (TX10 22).1 (TX10 22).2.1 (TX10 22).2.2.1 ∈ wsX10_isAllSeen := by decide +kernel
  have hw3 : Cond.fieldLink RX10 53 (TX10 17).1 (TX10 17).2.1 (TX10 17).2.2.1 ∈ wsX10_isAllSeen := by decide +kernel
  have hw4 : Cond.fieldLink RX10 65 (TX10 21).1 (TX10 21).2.1 (TX10 21).2.2.1 ∈ wsX10_isAllSeen := by decide +kernel
  refine x_L (L' := [(0, .ref mo)]) [0] rfl ?_
  have z5 : (-5 : Int32).toInt = -5 := rfl
  refine x_iconst C dX10_isAllSeen_0 (q := 1) rfl (v := nI 0) (by decide) ?_
  refine x_istore_n C (L' := [(1, .int (nI 0)), (0, .ref mo)]) dX10_isAllSeen_1 (q := 2) rfl rfl (by decide) rfl ?_
  have cut2 : ∀ (fuel : Nat) (i : Nat), (i ≤ nse) → (ssS P (nse, fs9, gs9) = i + runLen (ssB P fs9 gs9) nse (nse - i) i) → nse - i < fuel → xG p l e R s m args below meth c Q D A 2 [(mo, .inr (9, [.int (nI cols), .int (nI lc), .int (nI smp), .int (ky), .ref (mr 0), .ref (mr 1), .ref (mr 2), .ref (mr 3), .ref (mr 4), .ref (mr 5), .ref (mr 6), .ref (mr 7), .ref (mr 8), .ref (mr 9), .int (nI (pMk P)), .int (nI (pRs P)), .ref (mr 10), .ref (mr 11), .ref (mr 12), .ref (mr 13), .ref (mr 14), .ref (mr 15), .ref (mr 16), .ref (mr 17), .ref (mr 18), .ref (mr 19), .ref (mr 20), .int (nI nse), .int (nI npa), .int (nI nbo), .ref (mr 21), .int (nI tn), .ref (mr 22), .int (nI ik), .int (j0), .int (j1), .ref (mr 23), .int (j2), .ref (mr 24), .ref (mr 25), .int (j3), .ref (mr 26), .int (j4), .ref (mr 27), .ref (mr 28), .ref (mr 29), .ref (mr 30)])), (mr 11, .inl (cy 1, 24, .inl rl9)), (mr 15, .inl (cy 1, 6, .inl fs9)), (mr 16, .inl (cy 1, 6, .inl gs9))] 0 0 2 [(0, .ref mo), (1, .int (nI i))] [] := by
    intro fuel
    induction fuel with
    | zero =>
      intro i hi he hmu
      exact absurd hmu (Nat.not_lt_zero _)
    | succ fuel ih =>
      intro i hi he hmu
      have ih2 := ih
      clear ih
      refine x_iload_n C dX10_isAllSeen_2 (q := 3) rfl rfl 1 rfl ?_
      refine x_aload_n C dX10_isAllSeen_3 (q := 4) rfl rfl 0 rfl ?_
      refine x_get C (ci := 9) (v := .int (nI nse)) hw0 0 rfl rfl 27 (by decide) hw1 rfl dX10_isAllSeen_4 (q := 7) rfl ?_
      refine x_icmp_ge C (tgt := 55) dX10_isAllSeen_7 (by decide) (q := 10) rfl (a := ((i : Nat) : Int)) (b := ((nse : Nat) : Int)) (nI_toInt (by omega)) (nI_toInt (by omega)) (fun h1 => ?_) (fun h1 => ?_)
      · first
        | (exfalso; omega)
        |
          refine x_iconst C dX10_isAllSeen_55 (q := 56) rfl (v := nI 1) (by decide) ?_
          refine x_zret C hA hQ hr (ty := .boolean) (by first | rfl | assumption | exact xz_nar _) dX10_isAllSeen_56 (Nat.le_of_ble_eq_true rfl) ?_
          exact Or.inl ⟨rfl, rfl, by rw [he, show nse - i = 0 by omega]; show i + 0 = nse; omega⟩
      · first
        | (exfalso; omega)
        |
          have hsi := hsl i (by omega)
          have cut29 : ∀ (t : Nat), (t ≤ 1 ∧ (t = 1 ↔ (¬ (fpA P (fs9 i).toInt 0).toInt = -5))) → xG p l e R s m args below meth c Q D A 2 [(mo, .inr (9, [.int (nI cols), .int (nI lc), .int (nI smp), .int (ky), .ref (mr 0), .ref (mr 1), .ref (mr 2), .ref (mr 3), .ref (mr 4), .ref (mr 5), .ref (mr 6), .ref (mr 7), .ref (mr 8), .ref (mr 9), .int (nI (pMk P)), .int (nI (pRs P)), .ref (mr 10), .ref (mr 11), .ref (mr 12), .ref (mr 13), .ref (mr 14), .ref (mr 15), .ref (mr 16), .ref (mr 17), .ref (mr 18), .ref (mr 19), .ref (mr 20), .int (nI nse), .int (nI npa), .int (nI nbo), .ref (mr 21), .int (nI tn), .ref (mr 22), .int (nI ik), .int (j0), .int (j1), .ref (mr 23), .int (j2), .ref (mr 24), .ref (mr 25), .int (j3), .ref (mr 26), .int (j4), .ref (mr 27), .ref (mr 28), .ref (mr 29), .ref (mr 30)])), (mr 11, .inl (cy 1, 24, .inl rl9)), (mr 15, .inl (cy 1, 6, .inl fs9)), (mr 16, .inl (cy 1, 6, .inl gs9))] 0 0 29 [(0, .ref mo), (1, .int (nI i))] [.int (nI t)] := by
            intro t ht
            refine x_aload_n C dX10_isAllSeen_29 (q := 30) rfl rfl 0 rfl ?_
            have cut44 : ∀ (u : Nat), (u ≤ 1 ∧ (u = 1 ↔ (gs9 i).toInt = 1)) → xG p l e R s m args below meth c Q D A 2 [(mo, .inr (9, [.int (nI cols), .int (nI lc), .int (nI smp), .int (ky), .ref (mr 0), .ref (mr 1), .ref (mr 2), .ref (mr 3), .ref (mr 4), .ref (mr 5), .ref (mr 6), .ref (mr 7), .ref (mr 8), .ref (mr 9), .int (nI (pMk P)), .int (nI (pRs P)), .ref (mr 10), .ref (mr 11), .ref (mr 12), .ref (mr 13), .ref (mr 14), .ref (mr 15), .ref (mr 16), .ref (mr 17), .ref (mr 18), .ref (mr 19), .ref (mr 20), .int (nI nse), .int (nI npa), .int (nI nbo), .ref (mr 21), .int (nI tn), .ref (mr 22), .int (nI ik), .int (j0), .int (j1), .ref (mr 23), .int (j2), .ref (mr 24), .ref (mr 25), .int (j3), .ref (mr 26), .int (j4), .ref (mr 27), .ref (mr 28), .ref (mr 29), .ref (mr 30)])), (mr 11, .inl (cy 1, 24, .inl rl9)), (mr 15, .inl (cy 1, 6, .inl fs9)), (mr 16, .inl (cy 1, 6, .inl gs9))] 0 0 44 [(0, .ref mo), (1, .int (nI i))] [.int (nI u), .int (nI t)] := by
              intro u hu
              refine x_icmp_eq C (tgt := 49) dX10_isAllSeen_44 (by decide) (q := 47) rfl (a := ((t : Nat) : Int)) (b := ((u : Nat) : Int)) (nI_toInt (by omega)) (nI_toInt (by omega)) (fun h2 => ?_) (fun h2 => ?_)
              · first
                | (exfalso; omega)
                |
                  refine x_iinc C (L' := [(1, .int (nI (i + 1))), (0, .ref mo)]) dX10_isAllSeen_49 (q := 52) rfl 1 rfl (v := nI (i + 1)) (nI_add i 1) (by decide) rfl ?_
                  refine x_goto C (tgt := 2) dX10_isAllSeen_52 (by decide) ?_
                  refine x_L (L' := [(0, .ref mo), (1, .int (nI (i + 1)))]) [1, 0] rfl ?_
                  exact ih2 (i + 1) (by first | omega | assumption) (by have h8 := runLen_step (P := ssB P fs9 gs9) (to := nse) (k := i) (by omega) (decide_eq_true (by omega)); omega) (by omega)
              · first
                | (exfalso; omega)
                |
                  refine x_iconst C dX10_isAllSeen_47 (q := 48) rfl (v := nI 0) (by decide) ?_
                  refine x_zret C hA hQ hr (ty := .boolean) (by first | rfl | assumption | exact xz_nar _) dX10_isAllSeen_48 (Nat.le_of_ble_eq_true rfl) ?_
                  have e7 : runLen (ssB P fs9 gs9) nse (nse - i) i = 0 := runLen_stop _ (fun z => absurd (of_decide_eq_true (show decide ((¬ (fpA P (fs9 i).toInt 0).toInt = -5) ↔ (gs9 i).toInt = 1) = true from z.2)) (by omega))
                  exact Or.inr ⟨rfl, rfl, by rw [he, e7]; omega⟩
            refine x_get C (ci := 9) (v := .ref (mr 16)) hw0 0 rfl rfl 22 (by decide) hw2 rfl dX10_isAllSeen_30 (q := 33) rfl ?_
            refine x_iload_n C dX10_isAllSeen_33 (q := 34) rfl rfl 1 rfl ?_
            refine x_iald C (j := i) (v := gs9 i) 3 rfl (nI_toInt (by omega)) (by omega) rfl dX10_isAllSeen_34 (q := 35) rfl ?_
            refine x_iconst C dX10_isAllSeen_35 (q := 36) rfl (v := nI 1) (by decide) ?_
            refine x_icmp_ne C (tgt := 43) dX10_isAllSeen_36 (by decide) (q := 39) rfl (a := (gs9 i).toInt) (b := 1) rfl rfl (fun h3 => ?_) (fun h3 => ?_)
            · first
              | (exfalso; omega)
              |
                refine x_iconst C dX10_isAllSeen_43 (q := 44) rfl (v := nI 0) (by decide) ?_
                exact cut44 0 (by omega)
            · first
              | (exfalso; omega)
              |
                refine x_iconst C dX10_isAllSeen_39 (q := 40) rfl (v := nI 1) (by decide) ?_
                refine x_goto C (tgt := 44) dX10_isAllSeen_40 (by decide) ?_
                exact cut44 1 (by omega)
          refine x_aload_n C dX10_isAllSeen_10 (q := 11) rfl rfl 0 rfl ?_
          refine x_get C (ci := 9) (v := .ref (mr 11)) hw0 0 rfl rfl 17 (by decide) hw3 rfl dX10_isAllSeen_11 (q := 14) rfl ?_
          refine x_aload_n C dX10_isAllSeen_14 (q := 15) rfl rfl 0 rfl ?_
          refine x_get C (ci := 9) (v := .ref (mr 15)) hw0 0 rfl rfl 21 (by decide) hw4 rfl dX10_isAllSeen_15 (q := 18) rfl ?_
          refine x_iload_n C dX10_isAllSeen_18 (q := 19) rfl rfl 1 rfl ?_
          refine x_iald C (j := i) (v := fs9 i) 2 rfl (nI_toInt (by omega)) (by omega) rfl dX10_isAllSeen_19 (q := 20) rfl ?_
          refine x_iald C (j := ((fs9 i).toInt).toNat) (v := rl9 (((fs9 i).toInt).toNat)) 1 rfl (by have h9 := (rfl : (fs9 i : Int32).toInt = (fs9 i).toInt); omega) (by omega) rfl dX10_isAllSeen_20 (q := 21) rfl ?_
          refine x_if_ge C (tgt := 28) dX10_isAllSeen_21 (by decide) (q := 24) rfl (a := (rl9 (((fs9 i).toInt).toNat)).toInt) rfl (fun h4 => ?_) (fun h4 => ?_)
          · first
            | (exfalso; omega)
            |
              refine x_iconst C dX10_isAllSeen_28 (q := 29) rfl (v := nI 0) (by decide) ?_
              exact cut29 0 (by have e9 : fpA P (fs9 i).toInt 0 = pFa P (fs9 i).toInt.toNat := (by unfold fpA; (repeat (first | rw [if_pos (by omega)] | rw [if_neg (by omega)]))); have e8 := hmp.1.2.2.1 (fs9 i).toInt.toNat (by omega); have e7 := hF.2.2.2.1 (fs9 i).toInt.toNat (by omega); have e6 := e8.1; have e5 : (pFa P (fs9 i).toInt.toNat = -5) ↔ (pFa P (fs9 i).toInt.toNat).toInt = -5 := ⟨fun z => by rw [z]; rfl, fun z => Int32.toInt_inj.mp z⟩; have e4 := congrArg Int32.toInt e6; rw [e9]; (rcases e7 with ⟨a1, b1⟩ | ⟨a1, b1⟩; (have a2 := e5.mp a1; omega); (have a2 : ¬ (pFa P (fs9 i).toInt.toNat).toInt = -5 := (fun z => a1 (e5.mpr z)); omega)))
          · first
            | (exfalso; omega)
            |
              refine x_iconst C dX10_isAllSeen_24 (q := 25) rfl (v := nI 1) (by decide) ?_
              refine x_goto C (tgt := 29) dX10_isAllSeen_25 (by decide) ?_
              exact cut29 1 (by have e9 : fpA P (fs9 i).toInt 0 = pFa P (fs9 i).toInt.toNat := (by unfold fpA; (repeat (first | rw [if_pos (by omega)] | rw [if_neg (by omega)]))); have e8 := hmp.1.2.2.1 (fs9 i).toInt.toNat (by omega); have e7 := hF.2.2.2.1 (fs9 i).toInt.toNat (by omega); have e6 := e8.1; have e5 : (pFa P (fs9 i).toInt.toNat = -5) ↔ (pFa P (fs9 i).toInt.toNat).toInt = -5 := ⟨fun z => by rw [z]; rfl, fun z => Int32.toInt_inj.mp z⟩; have e4 := congrArg Int32.toInt e6; rw [e9]; (rcases e7 with ⟨a1, b1⟩ | ⟨a1, b1⟩; (have a2 := e5.mp a1; omega); (have a2 : ¬ (pFa P (fs9 i).toInt.toNat).toInt = -5 := (fun z => a1 (e5.mpr z)); omega)))
  refine x_L (L' := [(0, .ref mo), (1, .int (nI 0))]) [1, 0] rfl ?_
  exact cut2 (nse - 0 + 1) 0 (by first | omega | assumption) (by rw [Nat.zero_add]; rfl) (by omega)
