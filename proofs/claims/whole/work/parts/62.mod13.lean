set_option maxHeartbeats 4000000 in
set_option maxRecDepth 100000 in
/-- faulty -/
theorem c_X10_faulty (l : Launch) (D : va_G) (cy : Nat → ClassId) (mo : Nat) (mr : Nat → Nat) (cols : Nat) (lc : Nat) (smp : Nat) (mk : Nat) (rs : Nat) (nse : Nat) (npa : Nat) (nbo : Nat) (tn : Nat) (ik : Nat) (ky : Int32) (j0 : Int32) (j1 : Int32) (j2 : Int32) (j3 : Int32) (j4 : Int32) (fa9 : Nat → Int32) (ca9 : Nat → Int32) (dc9 : Nat → Int32) (k9 : Nat) (x : Int32) (y : Int32) (z : Int32) (hk9 : k9 < 24) : xMet l D cy xT yX10_faulty wsX10_faulty ({ frames := 1, cells := 0, slots := 0, locals := 0 } : Room) [.ref mo, .int (nI k9), .int (x), .int (y), .int (z)] [(mo, .inr (9, [.int (nI cols), .int (nI lc), .int (nI smp), .int (ky), .ref (mr 0), .ref (mr 1), .ref (mr 2), .ref (mr 3), .ref (mr 4), .ref (mr 5), .ref (mr 6), .ref (mr 7), .ref (mr 8), .ref (mr 9), .int (nI mk), .int (nI rs), .ref (mr 10), .ref (mr 11), .ref (mr 12), .ref (mr 13), .ref (mr 14), .ref (mr 15), .ref (mr 16), .ref (mr 17), .ref (mr 18), .ref (mr 19), .ref (mr 20), .int (nI nse), .int (nI npa), .int (nI nbo), .ref (mr 21), .int (nI tn), .ref (mr 22), .int (nI ik), .int (j0), .int (j1), .ref (mr 23), .int (j2), .ref (mr 24), .ref (mr 25), .int (j3), .ref (mr 26), .int (j4), .ref (mr 27), .ref (mr 28), .ref (mr 29), .ref (mr 30)])), (mr 12, .inl (cy 1, 24, .inl fa9)), (mr 13, .inl (cy 1, 24, .inl ca9)), (mr 14, .inl (cy 1, 24, .inl dc9))] [] (fun (v9 : Option Value) (w9 : va_W) => (v9 = none ∧ w9 = [(mo, .inr (9, [.int (nI cols), .int (nI lc), .int (nI smp), .int (ky), .ref (mr 0), .ref (mr 1), .ref (mr 2), .ref (mr 3), .ref (mr 4), .ref (mr 5), .ref (mr 6), .ref (mr 7), .ref (mr 8), .ref (mr 9), .int (nI mk), .int (nI rs), .ref (mr 10), .ref (mr 11), .ref (mr 12), .ref (mr 13), .ref (mr 14), .ref (mr 15), .ref (mr 16), .ref (mr 17), .ref (mr 18), .ref (mr 19), .ref (mr 20), .int (nI nse), .int (nI npa), .int (nI nbo), .ref (mr 21), .int (nI tn), .ref (mr 22), .int (nI ik), .int (j0), .int (j1), .ref (mr 23), .int (j2), .ref (mr 24), .ref (mr 25), .int (j3), .ref (mr 26), .int (j4), .ref (mr 27), .ref (mr 28), .ref (mr 29), .ref (mr 30)])), (mr 12, .inl (cy 1, 24, .inl (va_up fa9 k9 x))), (mr 13, .inl (cy 1, 24, .inl (va_up ca9 k9 y))), (mr 14, .inl (cy 1, 24, .inl (va_up dc9 k9 z)))])) := by
  refine xMet_of (cc := cX10_faulty) (maxL := 5) (ret := none) (by decide) rfl (Nat.le_of_ble_eq_true rfl) (fun p e s m args below meth c A R Q hA hR hQ C hr hnm hro hX => ?_)
  have hw0 : ∀ w ∈ u_ws RX10 TX10 47, w ∈ wsX10_faulty := by decide +kernel
  have hw1 : Cond.fieldLink RX10 56 (TX10 18).1 (TX10 18).2.1 (TX10 18).2.2.1 ∈ wsX10_faulty := by decide +kernel
  have hw2 : Cond.fieldLink RX10 59 (TX10 19).1 (TX10 19).2.1 (TX10 19).2.2.1 ∈ wsX10_faulty := by decide +kernel
  have hw3 : Cond.fieldLink RX10 62 (TX10 20).1 (TX10 20).2.1 (TX10 20).2.2.1 ∈ wsX10_faulty := by decide +kernel
  refine x_L (L' := [(0, .ref mo), (1, .int (nI k9)), (2, .int (x)), (3, .int (y)), (4, .int (z))]) [0, 1, 2, 3, 4] rfl ?_
  refine x_aload_n C dX10_faulty_0 (q := 1) rfl rfl 0 rfl ?_
  refine x_get C (ci := 9) (v := .ref (mr 12)) hw0 0 rfl rfl 18 (by decide) hw1 rfl dX10_faulty_1 (q := 4) rfl ?_
  refine x_iload_n C dX10_faulty_4 (q := 5) rfl rfl 1 rfl ?_
  refine x_iload_n C dX10_faulty_5 (q := 6) rfl rfl 2 rfl ?_
  refine x_iast C (ws' := [(mo, .inr (9, [.int (nI cols), .int (nI lc), .int (nI smp), .int (ky), .ref (mr 0), .ref (mr 1), .ref (mr 2), .ref (mr 3), .ref (mr 4), .ref (mr 5), .ref (mr 6), .ref (mr 7), .ref (mr 8), .ref (mr 9), .int (nI mk), .int (nI rs), .ref (mr 10), .ref (mr 11), .ref (mr 12), .ref (mr 13), .ref (mr 14), .ref (mr 15), .ref (mr 16), .ref (mr 17), .ref (mr 18), .ref (mr 19), .ref (mr 20), .int (nI nse), .int (nI npa), .int (nI nbo), .ref (mr 21), .int (nI tn), .ref (mr 22), .int (nI ik), .int (j0), .int (j1), .ref (mr 23), .int (j2), .ref (mr 24), .ref (mr 25), .int (j3), .ref (mr 26), .int (j4), .ref (mr 27), .ref (mr 28), .ref (mr 29), .ref (mr 30)])), (mr 12, .inl (cy 1, 24, .inl (va_up fa9 k9 x))), (mr 13, .inl (cy 1, 24, .inl ca9)), (mr 14, .inl (cy 1, 24, .inl dc9))]) 1 rfl (j := k9) (nI_toInt (by omega)) (by omega) (rfl) rfl dX10_faulty_6 (q := 7) rfl ?_
  refine x_aload_n C dX10_faulty_7 (q := 8) rfl rfl 0 rfl ?_
  refine x_get C (ci := 9) (v := .ref (mr 13)) hw0 0 rfl rfl 19 (by decide) hw2 rfl dX10_faulty_8 (q := 11) rfl ?_
  refine x_iload_n C dX10_faulty_11 (q := 12) rfl rfl 1 rfl ?_
  refine x_iload_n C dX10_faulty_12 (q := 13) rfl rfl 3 rfl ?_
  refine x_iast C (ws' := [(mo, .inr (9, [.int (nI cols), .int (nI lc), .int (nI smp), .int (ky), .ref (mr 0), .ref (mr 1), .ref (mr 2), .ref (mr 3), .ref (mr 4), .ref (mr 5), .ref (mr 6), .ref (mr 7), .ref (mr 8), .ref (mr 9), .int (nI mk), .int (nI rs), .ref (mr 10), .ref (mr 11), .ref (mr 12), .ref (mr 13), .ref (mr 14), .ref (mr 15), .ref (mr 16), .ref (mr 17), .ref (mr 18), .ref (mr 19), .ref (mr 20), .int (nI nse), .int (nI npa), .int (nI nbo), .ref (mr 21), .int (nI tn), .ref (mr 22), .int (nI ik), .int (j0), .int (j1), .ref (mr 23), .int (j2), .ref (mr 24), .ref (mr 25), .int (j3), .ref (mr 26), .int (j4), .ref (mr 27), .ref (mr 28), .ref (mr 29), .ref (mr 30)])), (mr 12, .inl (cy 1, 24, .inl (va_up fa9 k9 x))), (mr 13, .inl (cy 1, 24, .inl (va_up ca9 k9 y))), (mr 14, .inl (cy 1, 24, .inl dc9))]) 2 rfl (j := k9) (nI_toInt (by omega)) (by omega) (rfl) rfl dX10_faulty_13 (q := 14) rfl ?_
  refine x_aload_n C dX10_faulty_14 (q := 15) rfl rfl 0 rfl ?_
  refine x_get C (ci := 9) (v := .ref (mr 14)) hw0 0 rfl rfl 20 (by decide) hw3 rfl dX10_faulty_15 (q := 18) rfl ?_
  refine x_iload_n C dX10_faulty_18 (q := 19) rfl rfl 1 rfl ?_
  refine x_iload C dX10_faulty_19 (q := 21) rfl 4 rfl ?_
  refine x_iast C (ws' := [(mo, .inr (9, [.int (nI cols), .int (nI lc), .int (nI smp), .int (ky), .ref (mr 0), .ref (mr 1), .ref (mr 2), .ref (mr 3), .ref (mr 4), .ref (mr 5), .ref (mr 6), .ref (mr 7), .ref (mr 8), .ref (mr 9), .int (nI mk), .int (nI rs), .ref (mr 10), .ref (mr 11), .ref (mr 12), .ref (mr 13), .ref (mr 14), .ref (mr 15), .ref (mr 16), .ref (mr 17), .ref (mr 18), .ref (mr 19), .ref (mr 20), .int (nI nse), .int (nI npa), .int (nI nbo), .ref (mr 21), .int (nI tn), .ref (mr 22), .int (nI ik), .int (j0), .int (j1), .ref (mr 23), .int (j2), .ref (mr 24), .ref (mr 25), .int (j3), .ref (mr 26), .int (j4), .ref (mr 27), .ref (mr 28), .ref (mr 29), .ref (mr 30)])), (mr 12, .inl (cy 1, 24, .inl (va_up fa9 k9 x))), (mr 13, .inl (cy 1, 24, .inl (va_up ca9 k9 y))), (mr 14, .inl (cy 1, 24, .inl (va_up dc9 k9 z)))]) 3 rfl (j := k9) (nI_toInt (by omega)) (by omega) (rfl) rfl dX10_faulty_21 (q := 22) rfl ?_
  refine x_vret C hA hQ hr dX10_faulty_22 (Nat.le_of_ble_eq_true rfl) ?_
  first | exact ⟨rfl, rfl⟩ | exact ⟨_, rfl, rfl, by first | rfl | omega | assumption⟩ | (refine ⟨_, rfl, rfl, ?_⟩; (first | rfl | omega | (simp only []; omega)))

set_option maxHeartbeats 4000000 in
set_option maxRecDepth 100000 in
/-- isSameKey -/
theorem c_X10_isSameKey (l : Launch) (D : va_G) (cy : Nat → ClassId) (mo : Nat) (mr : Nat → Nat) (cols : Nat) (lc : Nat) (smp : Nat) (mk : Nat) (rs : Nat) (nse : Nat) (npa : Nat) (nbo : Nat) (tn : Nat) (ik : Nat) (j0 : Int32) (j1 : Int32) (j2 : Int32) (j3 : Int32) (j4 : Int32) (fn : Nat → Nat) (fo : Nat → Nat) (ex : Nat → Int64) (wo : Nat → Int64) (st9 : Nat → Nat) (ld : LD) (e9 : Nat) (k9 : Nat) (q9 : Nat) (hml : MdL ld lc fn fo ex wo) (hfo4 : ∀ q, fo q ≤ 4) (hlc : lc ≤ 24) (he9 : e9 < lc) (hk9 : k9 < lc) (hq5 : q9 < 5) (hqe : q9 < dNf ld e9) (hqk : q9 < dNf ld k9) (hst9 : ∀ k, st9 k ≤ 4) (hs1 : 1 ≤ st9 q9) (hce : canS (dFm ld e9 q9) (st9 q9)) (hck : canS (dFm ld k9 q9) (st9 q9)) (hne : ¬ dFm ld k9 q9 = 0) : xMet l D cy xT yX10_isSameKey wsX10_isSameKey ({ frames := 2, cells := 0, slots := 0, locals := 300 } : Room) [.ref mo, .int (nI e9), .int (nI k9)] [(mo, .inr (9, [.int (nI cols), .int (nI lc), .int (nI smp), .int (nI q9), .ref (mr 0), .ref (mr 1), .ref (mr 2), .ref (mr 3), .ref (mr 4), .ref (mr 5), .ref (mr 6), .ref (mr 7), .ref (mr 8), .ref (mr 9), .int (nI mk), .int (nI rs), .ref (mr 10), .ref (mr 11), .ref (mr 12), .ref (mr 13), .ref (mr 14), .ref (mr 15), .ref (mr 16), .ref (mr 17), .ref (mr 18), .ref (mr 19), .ref (mr 20), .int (nI nse), .int (nI npa), .int (nI nbo), .ref (mr 21), .int (nI tn), .ref (mr 22), .int (nI ik), .int (j0), .int (j1), .ref (mr 23), .int (j2), .ref (mr 24), .ref (mr 25), .int (j3), .ref (mr 26), .int (j4), .ref (mr 27), .ref (mr 28), .ref (mr 29), .ref (mr 30)])), (mr 7, .inl (cy 1, 120, .inl (fun k => nI (fo k)))), (mr 8, .inl (cy 2, 120, .inr (.inl ex))), (mr 9, .inl (cy 2, 120, .inr (.inl wo))), (mr 3, .inl (cy 1, 5, .inl (fun k => nI (st9 k))))] [] (fun (v9 : Option Value) (w9 : va_W) => (v9 = some (.int (nI 1)) ∧ w9 = [(mo, .inr (9, [.int (nI cols), .int (nI lc), .int (nI smp), .int (nI q9), .ref (mr 0), .ref (mr 1), .ref (mr 2), .ref (mr 3), .ref (mr 4), .ref (mr 5), .ref (mr 6), .ref (mr 7), .ref (mr 8), .ref (mr 9), .int (nI mk), .int (nI rs), .ref (mr 10), .ref (mr 11), .ref (mr 12), .ref (mr 13), .ref (mr 14), .ref (mr 15), .ref (mr 16), .ref (mr 17), .ref (mr 18), .ref (mr 19), .ref (mr 20), .int (nI nse), .int (nI npa), .int (nI nbo), .ref (mr 21), .int (nI tn), .ref (mr 22), .int (nI ik), .int (j0), .int (j1), .ref (mr 23), .int (j2), .ref (mr 24), .ref (mr 25), .int (j3), .ref (mr 26), .int (j4), .ref (mr 27), .ref (mr 28), .ref (mr 29), .ref (mr 30)])), (mr 7, .inl (cy 1, 120, .inl (fun k => nI (fo k)))), (mr 8, .inl (cy 2, 120, .inr (.inl ex))), (mr 9, .inl (cy 2, 120, .inr (.inl wo))), (mr 3, .inl (cy 1, 5, .inl (fun k => nI (st9 k))))] ∧ ¬ dFm ld e9 q9 = 0 ∧ valS (dFm ld e9 q9) (dNm ld e9 q9) (dWd ld e9 q9) (st9 q9) = valS (dFm ld k9 q9) (dNm ld k9 q9) (dWd ld k9 q9) (st9 q9)) ∨ (v9 = some (.int (nI 0)) ∧ w9 = [(mo, .inr (9, [.int (nI cols), .int (nI lc), .int (nI smp), .int (nI q9), .ref (mr 0), .ref (mr 1), .ref (mr 2), .ref (mr 3), .ref (mr 4), .ref (mr 5), .ref (mr 6), .ref (mr 7), .ref (mr 8), .ref (mr 9), .int (nI mk), .int (nI rs), .ref (mr 10), .ref (mr 11), .ref (mr 12), .ref (mr 13), .ref (mr 14), .ref (mr 15), .ref (mr 16), .ref (mr 17), .ref (mr 18), .ref (mr 19), .ref (mr 20), .int (nI nse), .int (nI npa), .int (nI nbo), .ref (mr 21), .int (nI tn), .ref (mr 22), .int (nI ik), .int (j0), .int (j1), .ref (mr 23), .int (j2), .ref (mr 24), .ref (mr 25), .int (j3), .ref (mr 26), .int (j4), .ref (mr 27), .ref (mr 28), .ref (mr 29), .ref (mr 30)])), (mr 7, .inl (cy 1, 120, .inl (fun k => nI (fo k)))), (mr 8, .inl (cy 2, 120, .inr (.inl ex))), (mr 9, .inl (cy 2, 120, .inr (.inl wo))), (mr 3, .inl (cy 1, 5, .inl (fun k => nI (st9 k))))] ∧ (dFm ld e9 q9 = 0 ∨ ¬ valS (dFm ld e9 q9) (dNm ld e9 q9) (dWd ld e9 q9) (st9 q9) = valS (dFm ld k9 q9) (dNm ld k9 q9) (dWd ld k9 q9) (st9 q9)))) := by
  refine xMet_of (cc := cX10_isSameKey) (maxL := 3) (ret := (some .boolean)) (by decide) rfl (Nat.le_of_ble_eq_true rfl) (fun p e s m args below meth c A R Q hA hR hQ C hr hnm hro hX => ?_)
  have hw0 : ∀ w ∈ u_ws RX10 TX10 47, w ∈ wsX10_isSameKey := by decide +kernel
  have hw1 : Cond.fieldLink RX10 15 (TX10 3).1 (TX10 3).2.1 (TX10 3).2.2.1 ∈ wsX10_isSameKey := by decide +kernel
  have hw2 : Cond.fieldLink RX10 28 (TX10 7).1 (TX10 7).2.1 (TX10 7).2.2.1 ∈ wsX10_isSameKey := by decide +kernel
  refine x_L (L' := [(0, .ref mo), (1, .int (nI e9)), (2, .int (nI k9))]) [0, 1, 2] rfl ?_
  have hme := ((hml e9 he9).2.2 q9 hq5 hqe).1
  have hmk := ((hml k9 hk9).2.2 q9 hq5 hqk).1
  refine x_aload_n C dX10_isSameKey_0 (q := 1) rfl rfl 0 rfl ?_
  refine x_iload_n C dX10_isSameKey_1 (q := 2) rfl rfl 1 rfl ?_
  refine x_aload_n C dX10_isSameKey_2 (q := 3) rfl rfl 0 rfl ?_
  refine x_get C (ci := 9) (v := .int (nI q9)) hw0 0 rfl rfl 3 (by decide) hw1 rfl dX10_isSameKey_3 (q := 6) rfl ?_
  refine x_callV C (roW := []) (roR := []) (c_X10_formOf l D cy mo mr cols lc smp mk rs nse npa nbo tn ik (nI q9) j0 j1 j2 j3 j4 fo e9 q9 (by first | assumption | omega | (simp only []; omega)) (by first | assumption | omega | (simp only []; omega))) (cwV 2 C.2.2.2.2.1 gX10_isSameKey_X10_formOf rfl rfl rfl (by decide +kernel) (by rw [hR]; exact ⟨Nat.le_of_ble_eq_true rfl, Nat.le_of_ble_eq_true rfl⟩)) [0, 1] [] rfl (by decide) rfl (by decide) xro_nil (List.mem_of_getElem? (i := 0) rfl) (ci := 9) rfl xT_bl (fun _ _ _ _ _ _ _ => trivial) rfl rfl dX10_isSameKey_6 rfl rfl (Nat.le_of_ble_eq_true rfl) (q := 9) rfl (k' := 0) rfl (n' := 0) rfl (by rw [hR]; exact ⟨Nat.le_of_ble_eq_true rfl, Nat.le_of_ble_eq_true rfl⟩) (fun v1 w1 hp1 => ?_)
  obtain ⟨rfl, rfl⟩ := hp1
  refine x_ws (ws' := [(mo, .inr (9, [.int (nI cols), .int (nI lc), .int (nI smp), .int (nI q9), .ref (mr 0), .ref (mr 1), .ref (mr 2), .ref (mr 3), .ref (mr 4), .ref (mr 5), .ref (mr 6), .ref (mr 7), .ref (mr 8), .ref (mr 9), .int (nI mk), .int (nI rs), .ref (mr 10), .ref (mr 11), .ref (mr 12), .ref (mr 13), .ref (mr 14), .ref (mr 15), .ref (mr 16), .ref (mr 17), .ref (mr 18), .ref (mr 19), .ref (mr 20), .int (nI nse), .int (nI npa), .int (nI nbo), .ref (mr 21), .int (nI tn), .ref (mr 22), .int (nI ik), .int (j0), .int (j1), .ref (mr 23), .int (j2), .ref (mr 24), .ref (mr 25), .int (j3), .ref (mr 26), .int (j4), .ref (mr 27), .ref (mr 28), .ref (mr 29), .ref (mr 30)])), (mr 7, .inl (cy 1, 120, .inl (fun k => nI (fo k)))), (mr 8, .inl (cy 2, 120, .inr (.inl ex))), (mr 9, .inl (cy 2, 120, .inr (.inl wo))), (mr 3, .inl (cy 1, 5, .inl (fun k => nI (st9 k))))]) rfl ?_
  have hf49 := hfo4 (5 * e9 + q9)
  refine x_if_eq C (tgt := 56) dX10_isSameKey_9 (by decide) (q := 12) rfl (a := ((fo (5 * e9 + q9) : Nat) : Int)) (nI_toInt (by omega)) (fun h2 => ?_) (fun h2 => ?_)
  · first
    | (exfalso; omega)
    |
      refine x_iconst C dX10_isSameKey_56 (q := 57) rfl (v := nI 0) (by decide) ?_
      refine x_zret C hA hQ hr (ty := .boolean) (by first | rfl | assumption | exact xz_nar _) dX10_isSameKey_57 (Nat.le_of_ble_eq_true rfl) ?_
      first | exact Or.inl ⟨rfl, rfl, by omega, Int64.toInt_inj.mp (by assumption)⟩ | exact Or.inr ⟨rfl, rfl, Or.inl (by omega)⟩ | exact Or.inr ⟨rfl, rfl, Or.inr (fun z => by have z2 := congrArg Int64.toInt z; omega)⟩
  · first
    | (exfalso; omega)
    |
      refine x_aload_n C dX10_isSameKey_12 (q := 13) rfl rfl 0 rfl ?_
      refine x_iload_n C dX10_isSameKey_13 (q := 14) rfl rfl 1 rfl ?_
      refine x_aload_n C dX10_isSameKey_14 (q := 15) rfl rfl 0 rfl ?_
      refine x_get C (ci := 9) (v := .int (nI q9)) hw0 0 rfl rfl 3 (by decide) hw1 rfl dX10_isSameKey_15 (q := 18) rfl ?_
      refine x_aload_n C dX10_isSameKey_18 (q := 19) rfl rfl 0 rfl ?_
      refine x_get C (ci := 9) (v := .ref (mr 3)) hw0 0 rfl rfl 7 (by decide) hw2 rfl dX10_isSameKey_19 (q := 22) rfl ?_
      refine x_aload_n C dX10_isSameKey_22 (q := 23) rfl rfl 0 rfl ?_
      refine x_get C (ci := 9) (v := .int (nI q9)) hw0 0 rfl rfl 3 (by decide) hw1 rfl dX10_isSameKey_23 (q := 26) rfl ?_
      have hb3 := hst9 q9
      refine x_iald C (j := q9) (v := nI (st9 q9)) 4 rfl (nI_toInt (by omega)) (by omega) rfl dX10_isSameKey_26 (q := 27) rfl ?_
      refine x_callV C (roW := []) (roR := []) (c_X10_valueOf l D cy mo mr cols lc smp mk rs nse npa nbo tn ik (nI q9) j0 j1 j2 j3 j4 fn fo ex wo ld e9 q9 (st9 q9) (by assumption) (by first | assumption | omega | (simp only []; omega)) (by first | assumption | omega | (simp only []; omega)) (by first | assumption | omega | (simp only []; omega)) (by first | assumption | omega | (simp only []; omega)) (by first | assumption | omega | (simp only []; omega)) (by assumption) (by first | assumption | omega | (simp only []; omega))) (cwV 3 C.2.2.2.2.1 gX10_isSameKey_X10_valueOf rfl rfl rfl (by decide +kernel) (by rw [hR]; exact ⟨Nat.le_of_ble_eq_true rfl, Nat.le_of_ble_eq_true rfl⟩)) [0, 2, 3] [] rfl (by decide) rfl (by decide) xro_nil (List.mem_of_getElem? (i := 0) rfl) (ci := 9) rfl xT_bl (fun _ _ _ _ _ _ _ => trivial) rfl rfl dX10_isSameKey_27 rfl rfl (Nat.le_of_ble_eq_true rfl) (q := 30) rfl (k' := 0) rfl (n' := 0) rfl (by rw [hR]; exact ⟨Nat.le_of_ble_eq_true rfl, Nat.le_of_ble_eq_true rfl⟩) (fun v4 w4 hp4 => ?_)
      obtain ⟨rfl, rfl⟩ := hp4
      refine x_ws (ws' := [(mo, .inr (9, [.int (nI cols), .int (nI lc), .int (nI smp), .int (nI q9), .ref (mr 0), .ref (mr 1), .ref (mr 2), .ref (mr 3), .ref (mr 4), .ref (mr 5), .ref (mr 6), .ref (mr 7), .ref (mr 8), .ref (mr 9), .int (nI mk), .int (nI rs), .ref (mr 10), .ref (mr 11), .ref (mr 12), .ref (mr 13), .ref (mr 14), .ref (mr 15), .ref (mr 16), .ref (mr 17), .ref (mr 18), .ref (mr 19), .ref (mr 20), .int (nI nse), .int (nI npa), .int (nI nbo), .ref (mr 21), .int (nI tn), .ref (mr 22), .int (nI ik), .int (j0), .int (j1), .ref (mr 23), .int (j2), .ref (mr 24), .ref (mr 25), .int (j3), .ref (mr 26), .int (j4), .ref (mr 27), .ref (mr 28), .ref (mr 29), .ref (mr 30)])), (mr 7, .inl (cy 1, 120, .inl (fun k => nI (fo k)))), (mr 8, .inl (cy 2, 120, .inr (.inl ex))), (mr 9, .inl (cy 2, 120, .inr (.inl wo))), (mr 3, .inl (cy 1, 5, .inl (fun k => nI (st9 k))))]) rfl ?_
      refine x_aload_n C dX10_isSameKey_30 (q := 31) rfl rfl 0 rfl ?_
      refine x_iload_n C dX10_isSameKey_31 (q := 32) rfl rfl 2 rfl ?_
      refine x_aload_n C dX10_isSameKey_32 (q := 33) rfl rfl 0 rfl ?_
      refine x_get C (ci := 9) (v := .int (nI q9)) hw0 0 rfl rfl 3 (by decide) hw1 rfl dX10_isSameKey_33 (q := 36) rfl ?_
      refine x_aload_n C dX10_isSameKey_36 (q := 37) rfl rfl 0 rfl ?_
      refine x_get C (ci := 9) (v := .ref (mr 3)) hw0 0 rfl rfl 7 (by decide) hw2 rfl dX10_isSameKey_37 (q := 40) rfl ?_
      refine x_aload_n C dX10_isSameKey_40 (q := 41) rfl rfl 0 rfl ?_
      refine x_get C (ci := 9) (v := .int (nI q9)) hw0 0 rfl rfl 3 (by decide) hw1 rfl dX10_isSameKey_41 (q := 44) rfl ?_
      have hb5 := hst9 q9
      refine x_iald C (j := q9) (v := nI (st9 q9)) 4 rfl (nI_toInt (by omega)) (by omega) rfl dX10_isSameKey_44 (q := 45) rfl ?_
      refine x_callV C (roW := []) (roR := []) (c_X10_valueOf l D cy mo mr cols lc smp mk rs nse npa nbo tn ik (nI q9) j0 j1 j2 j3 j4 fn fo ex wo ld k9 q9 (st9 q9) (by assumption) (by first | assumption | omega | (simp only []; omega)) (by first | assumption | omega | (simp only []; omega)) (by first | assumption | omega | (simp only []; omega)) (by first | assumption | omega | (simp only []; omega)) (by first | assumption | omega | (simp only []; omega)) (by assumption) (by first | assumption | omega | (simp only []; omega))) (cwV 3 C.2.2.2.2.1 gX10_isSameKey_X10_valueOf rfl rfl rfl (by decide +kernel) (by rw [hR]; exact ⟨Nat.le_of_ble_eq_true rfl, Nat.le_of_ble_eq_true rfl⟩)) [0, 2, 3] [] rfl (by decide) rfl (by decide) xro_nil (List.mem_of_getElem? (i := 0) rfl) (ci := 9) rfl xT_bl (fun _ _ _ _ _ _ _ => trivial) rfl rfl dX10_isSameKey_45 rfl rfl (Nat.le_of_ble_eq_true rfl) (q := 48) rfl (k' := 0) rfl (n' := 0) rfl (by rw [hR]; exact ⟨Nat.le_of_ble_eq_true rfl, Nat.le_of_ble_eq_true rfl⟩) (fun v6 w6 hp6 => ?_)
      obtain ⟨rfl, rfl⟩ := hp6
      refine x_ws (ws' := [(mo, .inr (9, [.int (nI cols), .int (nI lc), .int (nI smp), .int (nI q9), .ref (mr 0), .ref (mr 1), .ref (mr 2), .ref (mr 3), .ref (mr 4), .ref (mr 5), .ref (mr 6), .ref (mr 7), .ref (mr 8), .ref (mr 9), .int (nI mk), .int (nI rs), .ref (mr 10), .ref (mr 11), .ref (mr 12), .ref (mr 13), .ref (mr 14), .ref (mr 15), .ref (mr 16), .ref (mr 17), .ref (mr 18), .ref (mr 19), .ref (mr 20), .int (nI nse), .int (nI npa), .int (nI nbo), .ref (mr 21), .int (nI tn), .ref (mr 22), .int (nI ik), .int (j0), .int (j1), .ref (mr 23), .int (j2), .ref (mr 24), .ref (mr 25), .int (j3), .ref (mr 26), .int (j4), .ref (mr 27), .ref (mr 28), .ref (mr 29), .ref (mr 30)])), (mr 7, .inl (cy 1, 120, .inl (fun k => nI (fo k)))), (mr 8, .inl (cy 2, 120, .inr (.inl ex))), (mr 9, .inl (cy 2, 120, .inr (.inl wo))), (mr 3, .inl (cy 1, 5, .inl (fun k => nI (st9 k))))]) rfl ?_
      refine x_lcmp_ne C (tgt := 56) dX10_isSameKey_48 dX10_isSameKey_49 (by decide) (q := 52) rfl (a := (valS (dFm ld e9 q9) (dNm ld e9 q9) (dWd ld e9 q9) (st9 q9)).toInt) (b := (valS (dFm ld k9 q9) (dNm ld k9 q9) (dWd ld k9 q9) (st9 q9)).toInt) rfl rfl (fun h7 => ?_) (fun h7 => ?_)
      · first
        | (exfalso; omega)
        |
          refine x_iconst C dX10_isSameKey_56 (q := 57) rfl (v := nI 0) (by decide) ?_
          refine x_zret C hA hQ hr (ty := .boolean) (by first | rfl | assumption | exact xz_nar _) dX10_isSameKey_57 (Nat.le_of_ble_eq_true rfl) ?_
          first | exact Or.inl ⟨rfl, rfl, by omega, Int64.toInt_inj.mp (by assumption)⟩ | exact Or.inr ⟨rfl, rfl, Or.inl (by omega)⟩ | exact Or.inr ⟨rfl, rfl, Or.inr (fun z => by have z2 := congrArg Int64.toInt z; omega)⟩
      · first
        | (exfalso; omega)
        |
          refine x_iconst C dX10_isSameKey_52 (q := 53) rfl (v := nI 1) (by decide) ?_
          refine x_goto C (tgt := 57) dX10_isSameKey_53 (by decide) ?_
          refine x_zret C hA hQ hr (ty := .boolean) (by first | rfl | assumption | exact xz_nar _) dX10_isSameKey_57 (Nat.le_of_ble_eq_true rfl) ?_
          first | exact Or.inl ⟨rfl, rfl, by omega, Int64.toInt_inj.mp (by assumption)⟩ | exact Or.inr ⟨rfl, rfl, Or.inl (by omega)⟩ | exact Or.inr ⟨rfl, rfl, Or.inr (fun z => by have z2 := congrArg Int64.toInt z; omega)⟩

set_option maxHeartbeats 4000000 in
set_option maxRecDepth 100000 in
/-- the next line comes -/
theorem c_X10_comes (l : Launch) (D : va_G) (cy : Nat → ClassId) (mo : Nat) (mr : Nat → Nat) (cols : Nat) (lc : Nat) (smp : Nat) (nse : Nat) (npa : Nat) (nbo : Nat) (tn : Nat) (ik : Nat) (ky : Int32) (j0 : Int32) (j1 : Int32) (j2 : Int32) (j3 : Int32) (j4 : Int32) (P : PS) (fn : Nat → Nat) (fo : Nat → Nat) (ex : Nat → Int64) (wo : Nat → Int64) (tl9 : Nat → Nat) (st9 : Nat → Nat) (lr9 : Nat → Nat) (rl9 : Nat → Int32) (fa9 : Nat → Int32) (ca9 : Nat → Int32) (dc9 : Nat → Int32) (ld : LD) (hml : MdL ld lc fn fo ex wo) (hfo4 : ∀ q, fo q ≤ 4) (hfn : ∀ q, fn q ≤ 61) (hlc : lc ≤ 24) (hF : InvF ld cols lc P) (htl9 : ∀ k, tl9 k ≤ 4) (hst9 : ∀ k, st9 k ≤ 4) (hcols : cols ≤ 5) (hky : -1 ≤ ky.toInt ∧ ky.toInt < cols) (hsmp : smp ≤ 24) (hlr9 : ∀ k, lr9 k < 24) (hmp : MdP cols P st9 lr9 rl9 fa9 ca9 dc9) (hmk : pMk P < lc) : xMet l D cy xT yX10_comes wsX10_comes ({ frames := 6, cells := 0, slots := 0, locals := 1000 } : Room) [.ref mo] [(mo, .inr (9, [.int (nI cols), .int (nI lc), .int (nI smp), .int (ky), .ref (mr 0), .ref (mr 1), .ref (mr 2), .ref (mr 3), .ref (mr 4), .ref (mr 5), .ref (mr 6), .ref (mr 7), .ref (mr 8), .ref (mr 9), .int (nI (pMk P)), .int (nI (pRs P)), .ref (mr 10), .ref (mr 11), .ref (mr 12), .ref (mr 13), .ref (mr 14), .ref (mr 15), .ref (mr 16), .ref (mr 17), .ref (mr 18), .ref (mr 19), .ref (mr 20), .int (nI nse), .int (nI npa), .int (nI nbo), .ref (mr 21), .int (nI tn), .ref (mr 22), .int (nI ik), .int (j0), .int (j1), .ref (mr 23), .int (j2), .ref (mr 24), .ref (mr 25), .int (j3), .ref (mr 26), .int (j4), .ref (mr 27), .ref (mr 28), .ref (mr 29), .ref (mr 30)])), (mr 6, .inl (cy 1, 24, .inl (fun k => nI (fn k)))), (mr 7, .inl (cy 1, 120, .inl (fun k => nI (fo k)))), (mr 8, .inl (cy 2, 120, .inr (.inl ex))), (mr 9, .inl (cy 2, 120, .inr (.inl wo))), (mr 2, .inl (cy 1, 5, .inl (fun k => nI (tl9 k)))), (mr 3, .inl (cy 1, 5, .inl (fun k => nI (st9 k)))), (mr 10, .inl (cy 1, 24, .inl (fun k => nI (lr9 k)))), (mr 11, .inl (cy 1, 24, .inl rl9)), (mr 12, .inl (cy 1, 24, .inl fa9)), (mr 13, .inl (cy 1, 24, .inl ca9)), (mr 14, .inl (cy 1, 24, .inl dc9))] [] (fun (v9 : Option Value) (w9 : va_W) => (∃ st2 : Nat → Nat, ∃ lr2 : Nat → Nat, ∃ rl2 : Nat → Int32, ∃ fa2 : Nat → Int32, ∃ ca2 : Nat → Int32, ∃ dc2 : Nat → Int32, v9 = none ∧ w9 = [(mo, .inr (9, [.int (nI cols), .int (nI lc), .int (nI smp), .int (ky), .ref (mr 0), .ref (mr 1), .ref (mr 2), .ref (mr 3), .ref (mr 4), .ref (mr 5), .ref (mr 6), .ref (mr 7), .ref (mr 8), .ref (mr 9), .int (nI (pMk (cmS ld cols tl9 (min smp lc) ky.toInt P))), .int (nI (pRs (cmS ld cols tl9 (min smp lc) ky.toInt P))), .ref (mr 10), .ref (mr 11), .ref (mr 12), .ref (mr 13), .ref (mr 14), .ref (mr 15), .ref (mr 16), .ref (mr 17), .ref (mr 18), .ref (mr 19), .ref (mr 20), .int (nI nse), .int (nI npa), .int (nI nbo), .ref (mr 21), .int (nI tn), .ref (mr 22), .int (nI ik), .int (j0), .int (j1), .ref (mr 23), .int (j2), .ref (mr 24), .ref (mr 25), .int (j3), .ref (mr 26), .int (j4), .ref (mr 27), .ref (mr 28), .ref (mr 29), .ref (mr 30)])), (mr 6, .inl (cy 1, 24, .inl (fun k => nI (fn k)))), (mr 7, .inl (cy 1, 120, .inl (fun k => nI (fo k)))), (mr 8, .inl (cy 2, 120, .inr (.inl ex))), (mr 9, .inl (cy 2, 120, .inr (.inl wo))), (mr 2, .inl (cy 1, 5, .inl (fun k => nI (tl9 k)))), (mr 3, .inl (cy 1, 5, .inl (fun k => nI (st2 k)))), (mr 10, .inl (cy 1, 24, .inl (fun k => nI (lr2 k)))), (mr 11, .inl (cy 1, 24, .inl rl2)), (mr 12, .inl (cy 1, 24, .inl fa2)), (mr 13, .inl (cy 1, 24, .inl ca2)), (mr 14, .inl (cy 1, 24, .inl dc2))] ∧ MdP cols (cmS ld cols tl9 (min smp lc) ky.toInt P) st2 lr2 rl2 fa2 ca2 dc2 ∧ (∀ k, st2 k ≤ 4) ∧ (∀ k, lr2 k < 24))) := by
  refine xMet_of (cc := cX10_comes) (maxL := 3) (ret := none) (by decide) rfl (Nat.le_of_ble_eq_true rfl) (fun p e s m args below meth c A R Q hA hR hQ C hr hnm hro hX => ?_)
  have hw0 : ∀ w ∈ u_ws RX10 TX10 47, w ∈ wsX10_comes := by decide +kernel
  have hw1 : Cond.fieldLink RX10 142 (TX10 14).1 (TX10 14).2.1 (TX10 14).2.2.1 ∈ wsX10_comes := by decide +kernel
  have hw2 : Cond.fieldLink RX10 37 (TX10 10).1 (TX10 10).2.1 (TX10 10).2.2.1 ∈ wsX10_comes := by decide +kernel
  have hw3 : Cond.fieldLink RX10 118 (TX10 0).1 (TX10 0).2.1 (TX10 0).2.2.1 ∈ wsX10_comes := by decide +kernel
  have hw4 : Cond.fieldLink RX10 50 (TX10 16).1 (TX10 16).2.1 (TX10 16).2.2.1 ∈ wsX10_comes := by decide +kernel
  have hw5 : Cond.fieldLink RX10 128 (TX10 15).1 (TX10 15).2.1 (TX10 15).2.2.1 ∈ wsX10_comes := by decide +kernel
  have hw6 : Cond.fieldLink RX10 53 (TX10 17).1 (TX10 17).2.1 (TX10 17).2.2.1 ∈ wsX10_comes := by decide +kernel
  have hw7 : Cond.fieldLink RX10 15 (TX10 3).1 (TX10 3).2.1 (TX10 3).2.2.1 ∈ wsX10_comes := by decide +kernel
  have hw8 : Cond.fieldLink RX10 28 (TX10 7).1 (TX10 7).2.1 (TX10 7).2.2.1 ∈ wsX10_comes := by decide +kernel
  refine x_L (L' := [(0, .ref mo)]) [0] rfl ?_
  obtain ⟨hmq, hm0⟩ := hmp
  have hIP := hF.1
  have hP1 := hIP.1
  have hP2 := hIP.2.1
  have hFQ := InvF_st (z := min smp lc) hF htl9
  have hQ2 : (stS ld cols tl9 (min smp lc) P).2 = P.2 := stS_2
  have hmlk := hml (pMk P) hmk
  have hfnk := hfn (pMk P)
  have cut34 : ∀ (s2 : Nat → Nat), (∀ c, c < cols → s2 c = pSt (stS ld cols tl9 (min smp lc) P) c) → (∀ k, s2 k ≤ 4) → xG p l e R s m args below meth c Q D A 3 [(mo, .inr (9, [.int (nI cols), .int (nI lc), .int (nI smp), .int (ky), .ref (mr 0), .ref (mr 1), .ref (mr 2), .ref (mr 3), .ref (mr 4), .ref (mr 5), .ref (mr 6), .ref (mr 7), .ref (mr 8), .ref (mr 9), .int (nI (pMk P)), .int (nI (pRs P)), .ref (mr 10), .ref (mr 11), .ref (mr 12), .ref (mr 13), .ref (mr 14), .ref (mr 15), .ref (mr 16), .ref (mr 17), .ref (mr 18), .ref (mr 19), .ref (mr 20), .int (nI nse), .int (nI npa), .int (nI nbo), .ref (mr 21), .int (nI tn), .ref (mr 22), .int (nI ik), .int (j0), .int (j1), .ref (mr 23), .int (j2), .ref (mr 24), .ref (mr 25), .int (j3), .ref (mr 26), .int (j4), .ref (mr 27), .ref (mr 28), .ref (mr 29), .ref (mr 30)])), (mr 6, .inl (cy 1, 24, .inl (fun k => nI (fn k)))), (mr 7, .inl (cy 1, 120, .inl (fun k => nI (fo k)))), (mr 8, .inl (cy 2, 120, .inr (.inl ex))), (mr 9, .inl (cy 2, 120, .inr (.inl wo))), (mr 2, .inl (cy 1, 5, .inl (fun k => nI (tl9 k)))), (mr 3, .inl (cy 1, 5, .inl (fun k => nI (s2 k)))), (mr 10, .inl (cy 1, 24, .inl (fun k => nI (lr9 k)))), (mr 11, .inl (cy 1, 24, .inl rl9)), (mr 12, .inl (cy 1, 24, .inl fa9)), (mr 13, .inl (cy 1, 24, .inl ca9)), (mr 14, .inl (cy 1, 24, .inl dc9))] 0 0 34 [(0, .ref mo)] [] := by
    intro s2 hs2 hs4
    obtain ⟨Q9, hQ9⟩ : ∃ Q9, Q9 = (stS ld cols tl9 (min smp lc) P) := ⟨_, rfl⟩
    rw [← hQ9] at hs2 hFQ hQ2
    have hmkQ : pMk Q9 = pMk P := (by show Q9.2.2.2.2.2.2.1 = _; rw [hQ2])
    have hrsQ : pRs Q9 = pRs P := (by show Q9.2.2.2.2.2.2.2 = _; rw [hQ2])
    have hlrQ : pLr Q9 = pLr P := (by show Q9.2.2.2.2.2.1 = _; rw [hQ2])
    have hmqQ : MdQ cols Q9 s2 lr9 rl9 fa9 ca9 dc9 := (by refine ⟨hs2, ?_, ?_, ?_⟩; (rw [hrsQ, hlrQ]; exact hmq.2.1); (rw [hmkQ]; show ∀ x, x < pMk P → rl9 x = Q9.2.2.2.2.1 x ∧ fa9 x = Q9.2.1 x ∧ ca9 x = Q9.2.2.1 x ∧ dc9 x = Q9.2.2.2.1 x; rw [hQ2]; exact hmq.2.2.1); (rw [hmkQ]; exact hmq.2.2.2))
    refine x_aload_n C dX10_comes_34 (q := 35) rfl rfl 0 rfl ?_
    refine x_get C (ci := 9) (v := .int (nI (pMk P))) hw0 0 rfl rfl 14 (by decide) hw1 rfl dX10_comes_35 (q := 38) rfl ?_
    refine x_istore_n C (L' := [(1, .int (nI (pMk P))), (0, .ref mo)]) dX10_comes_38 (q := 39) rfl rfl (by decide) rfl ?_
    refine x_aload_n C dX10_comes_39 (q := 40) rfl rfl 1 rfl ?_
    refine x_dup C dX10_comes_40 (q := 41) rfl rfl ?_
    refine x_get C (ci := 9) (v := .int (nI (pMk P))) hw0 0 rfl rfl 14 (by decide) hw1 rfl dX10_comes_41 (q := 44) rfl ?_
    refine x_iconst C dX10_comes_44 (q := 45) rfl (v := nI 1) (by decide) ?_
    refine x_iadd C dX10_comes_45 (q := 46) rfl (z := nI (pMk P + 1)) (nI_add (pMk P) 1) ?_
    refine x_put C (ci := 9) (ty := .int) (ws' := [(mo, .inr (9, [.int (nI cols), .int (nI lc), .int (nI smp), .int (ky), .ref (mr 0), .ref (mr 1), .ref (mr 2), .ref (mr 3), .ref (mr 4), .ref (mr 5), .ref (mr 6), .ref (mr 7), .ref (mr 8), .ref (mr 9), .int (nI (pMk P + 1)), .int (nI (pRs P)), .ref (mr 10), .ref (mr 11), .ref (mr 12), .ref (mr 13), .ref (mr 14), .ref (mr 15), .ref (mr 16), .ref (mr 17), .ref (mr 18), .ref (mr 19), .ref (mr 20), .int (nI nse), .int (nI npa), .int (nI nbo), .ref (mr 21), .int (nI tn), .ref (mr 22), .int (nI ik), .int (j0), .int (j1), .ref (mr 23), .int (j2), .ref (mr 24), .ref (mr 25), .int (j3), .ref (mr 26), .int (j4), .ref (mr 27), .ref (mr 28), .ref (mr 29), .ref (mr 30)])), (mr 6, .inl (cy 1, 24, .inl (fun k => nI (fn k)))), (mr 7, .inl (cy 1, 120, .inl (fun k => nI (fo k)))), (mr 8, .inl (cy 2, 120, .inr (.inl ex))), (mr 9, .inl (cy 2, 120, .inr (.inl wo))), (mr 2, .inl (cy 1, 5, .inl (fun k => nI (tl9 k)))), (mr 3, .inl (cy 1, 5, .inl (fun k => nI (s2 k)))), (mr 10, .inl (cy 1, 24, .inl (fun k => nI (lr9 k)))), (mr 11, .inl (cy 1, 24, .inl rl9)), (mr 12, .inl (cy 1, 24, .inl fa9)), (mr 13, .inl (cy 1, 24, .inl ca9)), (mr 14, .inl (cy 1, 24, .inl dc9))]) hw0 tyX10 tyX10_ok nmX10 0 rfl rfl 14 (by decide) hw1 rfl (by decide +kernel) rfl rfl (Nat.le_of_ble_eq_true rfl) rfl dX10_comes_46 (q := 49) rfl ?_
    refine x_aload_n C dX10_comes_49 (q := 50) rfl rfl 1 rfl ?_
    refine x_get C (ci := 9) (v := .ref (mr 6)) hw0 0 rfl rfl 10 (by decide) hw2 rfl dX10_comes_50 (q := 53) rfl ?_
    refine x_iload_n C dX10_comes_53 (q := 54) rfl rfl 0 rfl ?_
    have hb1 := hfn (pMk P)
    refine x_iald C (j := pMk P) (v := nI (fn (pMk P))) 1 rfl (nI_toInt (by omega)) (by omega) rfl dX10_comes_54 (q := 55) rfl ?_
    refine x_aload_n C dX10_comes_55 (q := 56) rfl rfl 1 rfl ?_
    refine x_get C (ci := 9) (v := .int (nI cols)) hw0 0 rfl rfl 0 (by decide) hw3 rfl dX10_comes_56 (q := 59) rfl ?_
    refine x_icmp_eq C (tgt := 90) dX10_comes_59 (by decide) (q := 62) rfl (a := ((fn (pMk P) : Nat) : Int)) (b := ((cols : Nat) : Int)) (nI_toInt (by omega)) (nI_toInt (by omega)) (fun h2 => ?_) (fun h2 => ?_)
    · first
      | (exfalso; omega)
      |
        refine x_iconst C dX10_comes_90 (q := 91) rfl (v := nI 0) (by decide) ?_
        refine x_istore_n C (L' := [(2, .int (nI 0)), (1, .int (nI (pMk P))), (0, .ref mo)]) dX10_comes_91 (q := 92) rfl rfl (by decide) rfl ?_
        have cut92 : ∀ (fuel : Nat) (cq : Nat), (cq ≤ cols) → (ufS ld (pSt Q9) cols (pMk P) = cq + runLen (fun c => decide (canS (dFm ld (pMk P) c) (pSt Q9 c))) cols (cols - cq) cq) → cols - cq < fuel → xG p l e R s m args below meth c Q D A 3 [(mo, .inr (9, [.int (nI cols), .int (nI lc), .int (nI smp), .int (ky), .ref (mr 0), .ref (mr 1), .ref (mr 2), .ref (mr 3), .ref (mr 4), .ref (mr 5), .ref (mr 6), .ref (mr 7), .ref (mr 8), .ref (mr 9), .int (nI (pMk P + 1)), .int (nI (pRs P)), .ref (mr 10), .ref (mr 11), .ref (mr 12), .ref (mr 13), .ref (mr 14), .ref (mr 15), .ref (mr 16), .ref (mr 17), .ref (mr 18), .ref (mr 19), .ref (mr 20), .int (nI nse), .int (nI npa), .int (nI nbo), .ref (mr 21), .int (nI tn), .ref (mr 22), .int (nI ik), .int (j0), .int (j1), .ref (mr 23), .int (j2), .ref (mr 24), .ref (mr 25), .int (j3), .ref (mr 26), .int (j4), .ref (mr 27), .ref (mr 28), .ref (mr 29), .ref (mr 30)])), (mr 6, .inl (cy 1, 24, .inl (fun k => nI (fn k)))), (mr 7, .inl (cy 1, 120, .inl (fun k => nI (fo k)))), (mr 8, .inl (cy 2, 120, .inr (.inl ex))), (mr 9, .inl (cy 2, 120, .inr (.inl wo))), (mr 2, .inl (cy 1, 5, .inl (fun k => nI (tl9 k)))), (mr 3, .inl (cy 1, 5, .inl (fun k => nI (s2 k)))), (mr 10, .inl (cy 1, 24, .inl (fun k => nI (lr9 k)))), (mr 11, .inl (cy 1, 24, .inl rl9)), (mr 12, .inl (cy 1, 24, .inl fa9)), (mr 13, .inl (cy 1, 24, .inl ca9)), (mr 14, .inl (cy 1, 24, .inl dc9))] 0 0 92 [(0, .ref mo), (1, .int (nI (pMk P))), (2, .int (nI cq))] [] := by
          intro fuel
          induction fuel with
          | zero =>
            intro cq hcq huf hmu
            exact absurd hmu (Nat.not_lt_zero _)
          | succ fuel ih =>
            intro cq hcq huf hmu
            have ih92 := ih
            clear ih
            refine x_iload_n C dX10_comes_92 (q := 93) rfl rfl 2 rfl ?_
            refine x_aload_n C dX10_comes_93 (q := 94) rfl rfl 0 rfl ?_
            refine x_get C (ci := 9) (v := .int (nI cols)) hw0 0 rfl rfl 0 (by decide) hw3 rfl dX10_comes_94 (q := 97) rfl ?_
            refine x_icmp_ge C (tgt := 144) dX10_comes_97 (by decide) (q := 100) rfl (a := ((cq : Nat) : Int)) (b := ((cols : Nat) : Int)) (nI_toInt (by omega)) (nI_toInt (by omega)) (fun h3 => ?_) (fun h3 => ?_)
            · first
              | (exfalso; omega)
              |
                have huA : ufS ld (pSt Q9) cols (pMk P) = cols := (by have h8 : cols - cq = 0 := (by omega); rw [huf, h8]; show cq + 0 = _; omega)
                have cut174 : (0 ≤ ky.toInt → ¬ dFm ld (pMk P) ky.toInt.toNat = 0) → xG p l e R s m args below meth c Q D A 3 [(mo, .inr (9, [.int (nI cols), .int (nI lc), .int (nI smp), .int (ky), .ref (mr 0), .ref (mr 1), .ref (mr 2), .ref (mr 3), .ref (mr 4), .ref (mr 5), .ref (mr 6), .ref (mr 7), .ref (mr 8), .ref (mr 9), .int (nI (pMk P + 1)), .int (nI (pRs P)), .ref (mr 10), .ref (mr 11), .ref (mr 12), .ref (mr 13), .ref (mr 14), .ref (mr 15), .ref (mr 16), .ref (mr 17), .ref (mr 18), .ref (mr 19), .ref (mr 20), .int (nI nse), .int (nI npa), .int (nI nbo), .ref (mr 21), .int (nI tn), .ref (mr 22), .int (nI ik), .int (j0), .int (j1), .ref (mr 23), .int (j2), .ref (mr 24), .ref (mr 25), .int (j3), .ref (mr 26), .int (j4), .ref (mr 27), .ref (mr 28), .ref (mr 29), .ref (mr 30)])), (mr 6, .inl (cy 1, 24, .inl (fun k => nI (fn k)))), (mr 7, .inl (cy 1, 120, .inl (fun k => nI (fo k)))), (mr 8, .inl (cy 2, 120, .inr (.inl ex))), (mr 9, .inl (cy 2, 120, .inr (.inl wo))), (mr 2, .inl (cy 1, 5, .inl (fun k => nI (tl9 k)))), (mr 3, .inl (cy 1, 5, .inl (fun k => nI (s2 k)))), (mr 10, .inl (cy 1, 24, .inl (fun k => nI (lr9 k)))), (mr 11, .inl (cy 1, 24, .inl rl9)), (mr 12, .inl (cy 1, 24, .inl fa9)), (mr 13, .inl (cy 1, 24, .inl ca9)), (mr 14, .inl (cy 1, 24, .inl dc9))] 0 0 174 [(0, .ref mo), (1, .int (nI (pMk P)))] [] := by
                  intro  hk0
                  refine x_iconst C dX10_comes_174 (q := 175) rfl (v := nI 0) (by decide) ?_
                  have cut229 : (0 ≤ ky.toInt → dpS ld (pSt Q9) (pLr P) ky.toInt.toNat (pMk P) (pRs P) = pRs P) → xG p l e R s m args below meth c Q D A 3 [(mo, .inr (9, [.int (nI cols), .int (nI lc), .int (nI smp), .int (ky), .ref (mr 0), .ref (mr 1), .ref (mr 2), .ref (mr 3), .ref (mr 4), .ref (mr 5), .ref (mr 6), .ref (mr 7), .ref (mr 8), .ref (mr 9), .int (nI (pMk P + 1)), .int (nI (pRs P)), .ref (mr 10), .ref (mr 11), .ref (mr 12), .ref (mr 13), .ref (mr 14), .ref (mr 15), .ref (mr 16), .ref (mr 17), .ref (mr 18), .ref (mr 19), .ref (mr 20), .int (nI nse), .int (nI npa), .int (nI nbo), .ref (mr 21), .int (nI tn), .ref (mr 22), .int (nI ik), .int (j0), .int (j1), .ref (mr 23), .int (j2), .ref (mr 24), .ref (mr 25), .int (j3), .ref (mr 26), .int (j4), .ref (mr 27), .ref (mr 28), .ref (mr 29), .ref (mr 30)])), (mr 6, .inl (cy 1, 24, .inl (fun k => nI (fn k)))), (mr 7, .inl (cy 1, 120, .inl (fun k => nI (fo k)))), (mr 8, .inl (cy 2, 120, .inr (.inl ex))), (mr 9, .inl (cy 2, 120, .inr (.inl wo))), (mr 2, .inl (cy 1, 5, .inl (fun k => nI (tl9 k)))), (mr 3, .inl (cy 1, 5, .inl (fun k => nI (s2 k)))), (mr 10, .inl (cy 1, 24, .inl (fun k => nI (lr9 k)))), (mr 11, .inl (cy 1, 24, .inl rl9)), (mr 12, .inl (cy 1, 24, .inl fa9)), (mr 13, .inl (cy 1, 24, .inl ca9)), (mr 14, .inl (cy 1, 24, .inl dc9))] 0 0 229 [(0, .ref mo), (1, .int (nI (pMk P)))] [] := by
                    intro  hdp
                    refine x_aload_n C dX10_comes_229 (q := 230) rfl rfl 0 rfl ?_
                    refine x_get C (ci := 9) (v := .ref (mr 10)) hw0 0 rfl rfl 16 (by decide) hw4 rfl dX10_comes_230 (q := 233) rfl ?_
                    refine x_aload_n C dX10_comes_233 (q := 234) rfl rfl 0 rfl ?_
                    refine x_get C (ci := 9) (v := .int (nI (pRs P))) hw0 0 rfl rfl 15 (by decide) hw5 rfl dX10_comes_234 (q := 237) rfl ?_
                    refine x_iload_n C dX10_comes_237 (q := 238) rfl rfl 1 rfl ?_
                    refine x_iast C (ws' := [(mo, .inr (9, [.int (nI cols), .int (nI lc), .int (nI smp), .int (ky), .ref (mr 0), .ref (mr 1), .ref (mr 2), .ref (mr 3), .ref (mr 4), .ref (mr 5), .ref (mr 6), .ref (mr 7), .ref (mr 8), .ref (mr 9), .int (nI (pMk P + 1)), .int (nI (pRs P)), .ref (mr 10), .ref (mr 11), .ref (mr 12), .ref (mr 13), .ref (mr 14), .ref (mr 15), .ref (mr 16), .ref (mr 17), .ref (mr 18), .ref (mr 19), .ref (mr 20), .int (nI nse), .int (nI npa), .int (nI nbo), .ref (mr 21), .int (nI tn), .ref (mr 22), .int (nI ik), .int (j0), .int (j1), .ref (mr 23), .int (j2), .ref (mr 24), .ref (mr 25), .int (j3), .ref (mr 26), .int (j4), .ref (mr 27), .ref (mr 28), .ref (mr 29), .ref (mr 30)])), (mr 6, .inl (cy 1, 24, .inl (fun k => nI (fn k)))), (mr 7, .inl (cy 1, 120, .inl (fun k => nI (fo k)))), (mr 8, .inl (cy 2, 120, .inr (.inl ex))), (mr 9, .inl (cy 2, 120, .inr (.inl wo))), (mr 2, .inl (cy 1, 5, .inl (fun k => nI (tl9 k)))), (mr 3, .inl (cy 1, 5, .inl (fun k => nI (s2 k)))), (mr 10, .inl (cy 1, 24, .inl (fun k => nI ((va_up lr9 (pRs P) (pMk P)) k)))), (mr 11, .inl (cy 1, 24, .inl rl9)), (mr 12, .inl (cy 1, 24, .inl fa9)), (mr 13, .inl (cy 1, 24, .inl ca9)), (mr 14, .inl (cy 1, 24, .inl dc9))]) 7 rfl (j := pRs P) (nI_toInt (by omega)) (by omega) (xup_n lr9 (pRs P) (pMk P)) rfl dX10_comes_238 (q := 239) rfl ?_
                    refine x_aload_n C dX10_comes_239 (q := 240) rfl rfl 0 rfl ?_
                    refine x_get C (ci := 9) (v := .ref (mr 11)) hw0 0 rfl rfl 17 (by decide) hw6 rfl dX10_comes_240 (q := 243) rfl ?_
                    refine x_iload_n C dX10_comes_243 (q := 244) rfl rfl 1 rfl ?_
                    refine x_aload_n C dX10_comes_244 (q := 245) rfl rfl 0 rfl ?_
                    refine x_get C (ci := 9) (v := .int (nI (pRs P))) hw0 0 rfl rfl 15 (by decide) hw5 rfl dX10_comes_245 (q := 248) rfl ?_
                    refine x_iast C (ws' := [(mo, .inr (9, [.int (nI cols), .int (nI lc), .int (nI smp), .int (ky), .ref (mr 0), .ref (mr 1), .ref (mr 2), .ref (mr 3), .ref (mr 4), .ref (mr 5), .ref (mr 6), .ref (mr 7), .ref (mr 8), .ref (mr 9), .int (nI (pMk P + 1)), .int (nI (pRs P)), .ref (mr 10), .ref (mr 11), .ref (mr 12), .ref (mr 13), .ref (mr 14), .ref (mr 15), .ref (mr 16), .ref (mr 17), .ref (mr 18), .ref (mr 19), .ref (mr 20), .int (nI nse), .int (nI npa), .int (nI nbo), .ref (mr 21), .int (nI tn), .ref (mr 22), .int (nI ik), .int (j0), .int (j1), .ref (mr 23), .int (j2), .ref (mr 24), .ref (mr 25), .int (j3), .ref (mr 26), .int (j4), .ref (mr 27), .ref (mr 28), .ref (mr 29), .ref (mr 30)])), (mr 6, .inl (cy 1, 24, .inl (fun k => nI (fn k)))), (mr 7, .inl (cy 1, 120, .inl (fun k => nI (fo k)))), (mr 8, .inl (cy 2, 120, .inr (.inl ex))), (mr 9, .inl (cy 2, 120, .inr (.inl wo))), (mr 2, .inl (cy 1, 5, .inl (fun k => nI (tl9 k)))), (mr 3, .inl (cy 1, 5, .inl (fun k => nI (s2 k)))), (mr 10, .inl (cy 1, 24, .inl (fun k => nI ((va_up lr9 (pRs P) (pMk P)) k)))), (mr 11, .inl (cy 1, 24, .inl (va_up rl9 (pMk P) (nI (pRs P))))), (mr 12, .inl (cy 1, 24, .inl fa9)), (mr 13, .inl (cy 1, 24, .inl ca9)), (mr 14, .inl (cy 1, 24, .inl dc9))]) 8 rfl (j := pMk P) (nI_toInt (by omega)) (by omega) (rfl) rfl dX10_comes_248 (q := 249) rfl ?_
                    refine x_aload_n C dX10_comes_249 (q := 250) rfl rfl 0 rfl ?_
                    refine x_dup C dX10_comes_250 (q := 251) rfl rfl ?_
                    refine x_get C (ci := 9) (v := .int (nI (pRs P))) hw0 0 rfl rfl 15 (by decide) hw5 rfl dX10_comes_251 (q := 254) rfl ?_
                    refine x_iconst C dX10_comes_254 (q := 255) rfl (v := nI 1) (by decide) ?_
                    refine x_iadd C dX10_comes_255 (q := 256) rfl (z := nI (pRs P + 1)) (nI_add (pRs P) 1) ?_
                    refine x_put C (ci := 9) (ty := .int) (ws' := [(mo, .inr (9, [.int (nI cols), .int (nI lc), .int (nI smp), .int (ky), .ref (mr 0), .ref (mr 1), .ref (mr 2), .ref (mr 3), .ref (mr 4), .ref (mr 5), .ref (mr 6), .ref (mr 7), .ref (mr 8), .ref (mr 9), .int (nI (pMk P + 1)), .int (nI (pRs P + 1)), .ref (mr 10), .ref (mr 11), .ref (mr 12), .ref (mr 13), .ref (mr 14), .ref (mr 15), .ref (mr 16), .ref (mr 17), .ref (mr 18), .ref (mr 19), .ref (mr 20), .int (nI nse), .int (nI npa), .int (nI nbo), .ref (mr 21), .int (nI tn), .ref (mr 22), .int (nI ik), .int (j0), .int (j1), .ref (mr 23), .int (j2), .ref (mr 24), .ref (mr 25), .int (j3), .ref (mr 26), .int (j4), .ref (mr 27), .ref (mr 28), .ref (mr 29), .ref (mr 30)])), (mr 6, .inl (cy 1, 24, .inl (fun k => nI (fn k)))), (mr 7, .inl (cy 1, 120, .inl (fun k => nI (fo k)))), (mr 8, .inl (cy 2, 120, .inr (.inl ex))), (mr 9, .inl (cy 2, 120, .inr (.inl wo))), (mr 2, .inl (cy 1, 5, .inl (fun k => nI (tl9 k)))), (mr 3, .inl (cy 1, 5, .inl (fun k => nI (s2 k)))), (mr 10, .inl (cy 1, 24, .inl (fun k => nI ((va_up lr9 (pRs P) (pMk P)) k)))), (mr 11, .inl (cy 1, 24, .inl (va_up rl9 (pMk P) (nI (pRs P))))), (mr 12, .inl (cy 1, 24, .inl fa9)), (mr 13, .inl (cy 1, 24, .inl ca9)), (mr 14, .inl (cy 1, 24, .inl dc9))]) hw0 tyX10 tyX10_ok nmX10 0 rfl rfl 15 (by decide) hw5 rfl (by decide +kernel) rfl rfl (Nat.le_of_ble_eq_true rfl) rfl dX10_comes_256 (q := 259) rfl ?_
                    refine x_vret C hA hQ hr dX10_comes_259 (Nat.le_of_ble_eq_true rfl) ?_
                    rw [show cmS ld cols tl9 (min smp lc) ky.toInt P = nxS ld cols ky.toInt Q9 by rw [hQ9]]
                    have hft : ftP ld cols ky.toInt Q9 = (-5, -5, -5) := by
                      show ftS _ _ _ _ _ _ _ = _
                      unfold ftS
                      rw [hmkQ, hrsQ, hlrQ, if_neg (by omega), if_neg (by omega), if_neg (by omega)]
                      by_cases e9 : ky.toInt < 0 ∨ (cols : Int) ≤ ky.toInt
                      · rw [if_pos e9]
                      · rw [if_neg e9, if_neg (by have z := hk0 (by omega); omega), if_neg (by have z := hdp (by omega); omega)]
                    have hres := MdQ_r hft hmqQ (by rw [hmkQ]; omega)
                    rw [hmkQ, hrsQ] at hres
                    refine ⟨s2, _, _, fa9, ca9, dc9, rfl, ?_, hres, hs4, ?_⟩
                    · rw [show pMk (nxS ld cols ky.toInt Q9) = pMk P + 1 by rw [(InvP_nx hFQ.1.1 (by rw [hmkQ]; omega)).2.1, hmkQ], show pRs (nxS ld cols ky.toInt Q9) = pRs P + 1 by rw [nxS_r hft]; show pRs Q9 + 1 = _; rw [hrsQ]]
                    · intro k
                      by_cases e9 : k = pRs P
                      · rw [e9, va_up_eq]; omega
                      · rw [va_up_ne' e9]; exact hlr9 k
                  refine x_istore_n C (L' := [(2, .int (nI 0)), (0, .ref mo), (1, .int (nI (pMk P)))]) dX10_comes_175 (q := 176) rfl rfl (by decide) rfl ?_
                  have cut176 : ∀ (fuel : Nat) (rq : Nat), (rq ≤ pRs P) → (dpS ld (pSt Q9) (pLr P) ky.toInt.toNat (pMk P) (pRs P) = rq + runLen (fun r => !dpB ld (pSt Q9) (pLr P) ky.toInt.toNat (pMk P) r) (pRs P) (pRs P - rq) rq) → pRs P - rq < fuel → xG p l e R s m args below meth c Q D A 3 [(mo, .inr (9, [.int (nI cols), .int (nI lc), .int (nI smp), .int (ky), .ref (mr 0), .ref (mr 1), .ref (mr 2), .ref (mr 3), .ref (mr 4), .ref (mr 5), .ref (mr 6), .ref (mr 7), .ref (mr 8), .ref (mr 9), .int (nI (pMk P + 1)), .int (nI (pRs P)), .ref (mr 10), .ref (mr 11), .ref (mr 12), .ref (mr 13), .ref (mr 14), .ref (mr 15), .ref (mr 16), .ref (mr 17), .ref (mr 18), .ref (mr 19), .ref (mr 20), .int (nI nse), .int (nI npa), .int (nI nbo), .ref (mr 21), .int (nI tn), .ref (mr 22), .int (nI ik), .int (j0), .int (j1), .ref (mr 23), .int (j2), .ref (mr 24), .ref (mr 25), .int (j3), .ref (mr 26), .int (j4), .ref (mr 27), .ref (mr 28), .ref (mr 29), .ref (mr 30)])), (mr 6, .inl (cy 1, 24, .inl (fun k => nI (fn k)))), (mr 7, .inl (cy 1, 120, .inl (fun k => nI (fo k)))), (mr 8, .inl (cy 2, 120, .inr (.inl ex))), (mr 9, .inl (cy 2, 120, .inr (.inl wo))), (mr 2, .inl (cy 1, 5, .inl (fun k => nI (tl9 k)))), (mr 3, .inl (cy 1, 5, .inl (fun k => nI (s2 k)))), (mr 10, .inl (cy 1, 24, .inl (fun k => nI (lr9 k)))), (mr 11, .inl (cy 1, 24, .inl rl9)), (mr 12, .inl (cy 1, 24, .inl fa9)), (mr 13, .inl (cy 1, 24, .inl ca9)), (mr 14, .inl (cy 1, 24, .inl dc9))] 0 0 176 [(0, .ref mo), (1, .int (nI (pMk P))), (2, .int (nI rq))] [] := by
                    intro fuel
                    induction fuel with
                    | zero =>
                      intro rq hrq hdp0 hmu
                      exact absurd hmu (Nat.not_lt_zero _)
                    | succ fuel ih =>
                      intro rq hrq hdp0 hmu
                      have ih176 := ih
                      clear ih
                      refine x_iload_n C dX10_comes_176 (q := 177) rfl rfl 2 rfl ?_
                      refine x_aload_n C dX10_comes_177 (q := 178) rfl rfl 0 rfl ?_
                      refine x_get C (ci := 9) (v := .int (nI (pRs P))) hw0 0 rfl rfl 15 (by decide) hw5 rfl dX10_comes_178 (q := 181) rfl ?_
                      refine x_icmp_ge C (tgt := 229) dX10_comes_181 (by decide) (q := 184) rfl (a := ((rq : Nat) : Int)) (b := ((pRs P : Nat) : Int)) (nI_toInt (by omega)) (nI_toInt (by omega)) (fun h4 => ?_) (fun h4 => ?_)
                      · first
                        | (exfalso; omega)
                        |
                          refine x_L (L' := [(0, .ref mo), (1, .int (nI (pMk P)))]) [0, 1] rfl ?_
                          exact cut229  (by intro e9; first | omega | (rw [hdp0, show pRs P - rq = 0 by omega]; show rq + 0 = _; omega))
                      · first
                        | (exfalso; omega)
                        |
                          refine x_aload_n C dX10_comes_184 (q := 185) rfl rfl 0 rfl ?_
                          refine x_get C (ci := 9) (v := .int (ky)) hw0 0 rfl rfl 3 (by decide) hw7 rfl dX10_comes_185 (q := 188) rfl ?_
                          refine x_if_lt C (tgt := 229) dX10_comes_188 (by decide) (q := 191) rfl (a := ky.toInt) rfl (fun h5 => ?_) (fun h5 => ?_)
                          · first
                            | (exfalso; omega)
                            |
                              refine x_L (L' := [(0, .ref mo), (1, .int (nI (pMk P)))]) [0, 1] rfl ?_
                              exact cut229  (by intro e9; first | omega | (rw [hdp0, show pRs P - rq = 0 by omega]; show rq + 0 = _; omega))
                          · first
                            | (exfalso; omega)
                            |
                              refine x_aload_n C dX10_comes_191 (q := 192) rfl rfl 0 rfl ?_
                              refine x_aload_n C dX10_comes_192 (q := 193) rfl rfl 0 rfl ?_
                              refine x_get C (ci := 9) (v := .ref (mr 10)) hw0 0 rfl rfl 16 (by decide) hw4 rfl dX10_comes_193 (q := 196) rfl ?_
                              refine x_iload_n C dX10_comes_196 (q := 197) rfl rfl 2 rfl ?_
                              have hlr := hmq.2.1 rq (by omega)
                              have hlv := hIP.2.2.1 rq (by omega)
                              have hl24 := hlr9 rq
                              have hb6 := hlr9 rq
                              refine x_iald C (j := rq) (v := nI (lr9 rq)) 7 rfl (nI_toInt (by omega)) (by omega) rfl dX10_comes_197 (q := 198) rfl ?_
                              refine x_iload_n C dX10_comes_198 (q := 199) rfl rfl 1 rfl ?_
                              refine x_ws (ws' := [(mo, .inr (9, [.int (nI cols), .int (nI lc), .int (nI smp), .int (nI ky.toInt.toNat), .ref (mr 0), .ref (mr 1), .ref (mr 2), .ref (mr 3), .ref (mr 4), .ref (mr 5), .ref (mr 6), .ref (mr 7), .ref (mr 8), .ref (mr 9), .int (nI (pMk P + 1)), .int (nI (pRs P)), .ref (mr 10), .ref (mr 11), .ref (mr 12), .ref (mr 13), .ref (mr 14), .ref (mr 15), .ref (mr 16), .ref (mr 17), .ref (mr 18), .ref (mr 19), .ref (mr 20), .int (nI nse), .int (nI npa), .int (nI nbo), .ref (mr 21), .int (nI tn), .ref (mr 22), .int (nI ik), .int (j0), .int (j1), .ref (mr 23), .int (j2), .ref (mr 24), .ref (mr 25), .int (j3), .ref (mr 26), .int (j4), .ref (mr 27), .ref (mr 28), .ref (mr 29), .ref (mr 30)])), (mr 6, .inl (cy 1, 24, .inl (fun k => nI (fn k)))), (mr 7, .inl (cy 1, 120, .inl (fun k => nI (fo k)))), (mr 8, .inl (cy 2, 120, .inr (.inl ex))), (mr 9, .inl (cy 2, 120, .inr (.inl wo))), (mr 2, .inl (cy 1, 5, .inl (fun k => nI (tl9 k)))), (mr 3, .inl (cy 1, 5, .inl (fun k => nI (s2 k)))), (mr 10, .inl (cy 1, 24, .inl (fun k => nI (lr9 k)))), (mr 11, .inl (cy 1, 24, .inl rl9)), (mr 12, .inl (cy 1, 24, .inl fa9)), (mr 13, .inl (cy 1, 24, .inl ca9)), (mr 14, .inl (cy 1, 24, .inl dc9))]) (by rw [← xi_nat (show 0 ≤ ky.toInt by omega)]) ?_
                              refine x_callV C (roW := []) (roR := []) (c_X10_isSameKey l D cy mo mr cols lc smp (pMk P + 1) (pRs P) nse npa nbo tn ik j0 j1 j2 j3 j4 fn fo ex wo s2 ld (lr9 rq) (pMk P) ky.toInt.toNat (by assumption) (by assumption) (by first | assumption | omega | (simp only []; omega)) (by omega) (by first | assumption | omega | (simp only []; omega)) (by first | assumption | omega | (simp only []; omega)) (by rw [hlr, hlv.2]; omega) (by omega) (by exact hs4) (by rw [hs2 _ (by omega)]; exact hFQ.2 _ (by omega)) (by rw [hlr, hs2 _ (by omega)]; exact (by have z := hFQ.1.2.2.1 rq (by rw [hrsQ]; omega) ky.toInt.toNat (by omega); rw [hlrQ] at z; exact z)) (by rw [hs2 _ (by omega)]; exact ufS_all huA _ (by omega)) (by exact hk0 (by omega))) (cwV 2 C.2.2.2.2.1 gX10_comes_X10_isSameKey rfl rfl rfl (by decide +kernel) (by rw [hR]; exact ⟨Nat.le_of_ble_eq_true rfl, Nat.le_of_ble_eq_true rfl⟩)) [0, 2, 3, 4, 6] [] rfl (by decide) rfl (by decide) xro_nil (List.mem_of_getElem? (i := 0) rfl) (ci := 9) rfl xT_bl (fun _ _ _ _ _ _ _ => trivial) rfl rfl dX10_comes_199 rfl rfl (Nat.le_of_ble_eq_true rfl) (q := 202) rfl (k' := 0) rfl (n' := 0) rfl (by rw [hR]; exact ⟨Nat.le_of_ble_eq_true rfl, Nat.le_of_ble_eq_true rfl⟩) (fun v7 w7 hp7 => ?_)
                              rcases hp7 with hp7 | hp7
                              · skip
                                obtain ⟨rfl, rfl, hc8, hc9⟩ := hp7
                                refine x_ws (ws' := [(mo, .inr (9, [.int (nI cols), .int (nI lc), .int (nI smp), .int (nI ky.toInt.toNat), .ref (mr 0), .ref (mr 1), .ref (mr 2), .ref (mr 3), .ref (mr 4), .ref (mr 5), .ref (mr 6), .ref (mr 7), .ref (mr 8), .ref (mr 9), .int (nI (pMk P + 1)), .int (nI (pRs P)), .ref (mr 10), .ref (mr 11), .ref (mr 12), .ref (mr 13), .ref (mr 14), .ref (mr 15), .ref (mr 16), .ref (mr 17), .ref (mr 18), .ref (mr 19), .ref (mr 20), .int (nI nse), .int (nI npa), .int (nI nbo), .ref (mr 21), .int (nI tn), .ref (mr 22), .int (nI ik), .int (j0), .int (j1), .ref (mr 23), .int (j2), .ref (mr 24), .ref (mr 25), .int (j3), .ref (mr 26), .int (j4), .ref (mr 27), .ref (mr 28), .ref (mr 29), .ref (mr 30)])), (mr 6, .inl (cy 1, 24, .inl (fun k => nI (fn k)))), (mr 7, .inl (cy 1, 120, .inl (fun k => nI (fo k)))), (mr 8, .inl (cy 2, 120, .inr (.inl ex))), (mr 9, .inl (cy 2, 120, .inr (.inl wo))), (mr 2, .inl (cy 1, 5, .inl (fun k => nI (tl9 k)))), (mr 3, .inl (cy 1, 5, .inl (fun k => nI (s2 k)))), (mr 10, .inl (cy 1, 24, .inl (fun k => nI (lr9 k)))), (mr 11, .inl (cy 1, 24, .inl rl9)), (mr 12, .inl (cy 1, 24, .inl fa9)), (mr 13, .inl (cy 1, 24, .inl ca9)), (mr 14, .inl (cy 1, 24, .inl dc9))]) rfl ?_
                                refine x_ws (ws' := [(mo, .inr (9, [.int (nI cols), .int (nI lc), .int (nI smp), .int (ky), .ref (mr 0), .ref (mr 1), .ref (mr 2), .ref (mr 3), .ref (mr 4), .ref (mr 5), .ref (mr 6), .ref (mr 7), .ref (mr 8), .ref (mr 9), .int (nI (pMk P + 1)), .int (nI (pRs P)), .ref (mr 10), .ref (mr 11), .ref (mr 12), .ref (mr 13), .ref (mr 14), .ref (mr 15), .ref (mr 16), .ref (mr 17), .ref (mr 18), .ref (mr 19), .ref (mr 20), .int (nI nse), .int (nI npa), .int (nI nbo), .ref (mr 21), .int (nI tn), .ref (mr 22), .int (nI ik), .int (j0), .int (j1), .ref (mr 23), .int (j2), .ref (mr 24), .ref (mr 25), .int (j3), .ref (mr 26), .int (j4), .ref (mr 27), .ref (mr 28), .ref (mr 29), .ref (mr 30)])), (mr 6, .inl (cy 1, 24, .inl (fun k => nI (fn k)))), (mr 7, .inl (cy 1, 120, .inl (fun k => nI (fo k)))), (mr 8, .inl (cy 2, 120, .inr (.inl ex))), (mr 9, .inl (cy 2, 120, .inr (.inl wo))), (mr 2, .inl (cy 1, 5, .inl (fun k => nI (tl9 k)))), (mr 3, .inl (cy 1, 5, .inl (fun k => nI (s2 k)))), (mr 10, .inl (cy 1, 24, .inl (fun k => nI (lr9 k)))), (mr 11, .inl (cy 1, 24, .inl rl9)), (mr 12, .inl (cy 1, 24, .inl fa9)), (mr 13, .inl (cy 1, 24, .inl ca9)), (mr 14, .inl (cy 1, 24, .inl dc9))]) (by rw [← xi_nat (show 0 ≤ ky.toInt by omega)]) ?_
                                have hdbt : dpB ld (pSt Q9) (pLr P) ky.toInt.toNat (pMk P) rq = true := by
                                  have hsq := hs2 ky.toInt.toNat (by omega)
                                  rw [hlr, hsq] at hc9
                                  rw [hlr] at hc8
                                  exact dpB_t.mpr ⟨hc8, hc9⟩
                                have h8 : runLen (fun r => !dpB ld (pSt Q9) (pLr P) ky.toInt.toNat (pMk P) r) (pRs P) (pRs P - rq) rq = 0 := runLen_stop _ (fun z => absurd z.2 (by rw [hdbt]; decide))
                                have hdr : dpS ld (pSt Q9) (pLr P) ky.toInt.toNat (pMk P) (pRs P) = rq := by omega
                                refine x_if_eq C (tgt := 223) dX10_comes_202 (by decide) (q := 205) rfl (a := 1) rfl (fun h10 => (by omega : False).elim) (fun h10 => ?_)
                                refine x_aload_n C dX10_comes_205 (q := 206) rfl rfl 0 rfl ?_
                                refine x_iload_n C dX10_comes_206 (q := 207) rfl rfl 1 rfl ?_
                                refine x_iconst C dX10_comes_207 (q := 208) rfl (v := nI 5) (by decide) ?_
                                refine x_bipush C dX10_comes_208 (q := 210) rfl (v := nI 30) (by decide) ?_
                                refine x_aload_n C dX10_comes_210 (q := 211) rfl rfl 0 rfl ?_
                                refine x_get C (ci := 9) (v := .ref (mr 10)) hw0 0 rfl rfl 16 (by decide) hw4 rfl dX10_comes_211 (q := 214) rfl ?_
                                refine x_iload_n C dX10_comes_214 (q := 215) rfl rfl 2 rfl ?_
                                have hb11 := hlr9 rq
                                refine x_iald C (j := rq) (v := nI (lr9 rq)) 7 rfl (nI_toInt (by omega)) (by omega) rfl dX10_comes_215 (q := 216) rfl ?_
                                refine x_iadd C dX10_comes_216 (q := 217) rfl (z := nI (30 + (lr9 rq))) (nI_add 30 (lr9 rq)) ?_
                                refine x_bipush C dX10_comes_217 (q := 219) rfl (v := (-5)) (by decide) ?_
                                refine x_callV C (roW := []) (roR := []) (c_X10_faulty l D cy mo mr cols lc smp (pMk P + 1) (pRs P) nse npa nbo tn ik ky j0 j1 j2 j3 j4 fa9 ca9 dc9 (pMk P) (nI 5) (nI (30 + (lr9 rq))) (-5) (by first | assumption | omega | (simp only []; omega))) (cwV 4 C.2.2.2.2.1 gX10_comes_X10_faulty rfl rfl rfl (by decide +kernel) (by rw [hR]; exact ⟨Nat.le_of_ble_eq_true rfl, Nat.le_of_ble_eq_true rfl⟩)) [0, 9, 10, 11] [] rfl (by decide) rfl (by decide) xro_nil (List.mem_of_getElem? (i := 0) rfl) (ci := 9) rfl xT_bl (fun _ _ _ _ _ _ _ => trivial) rfl rfl dX10_comes_219 rfl rfl (Nat.le_of_ble_eq_true rfl) (q := 222) rfl (k' := 0) rfl (n' := 0) rfl (by rw [hR]; exact ⟨Nat.le_of_ble_eq_true rfl, Nat.le_of_ble_eq_true rfl⟩) (fun v12 w12 hp12 => ?_)
                                obtain ⟨rfl, rfl⟩ := hp12
                                refine x_ws (ws' := [(mo, .inr (9, [.int (nI cols), .int (nI lc), .int (nI smp), .int (ky), .ref (mr 0), .ref (mr 1), .ref (mr 2), .ref (mr 3), .ref (mr 4), .ref (mr 5), .ref (mr 6), .ref (mr 7), .ref (mr 8), .ref (mr 9), .int (nI (pMk P + 1)), .int (nI (pRs P)), .ref (mr 10), .ref (mr 11), .ref (mr 12), .ref (mr 13), .ref (mr 14), .ref (mr 15), .ref (mr 16), .ref (mr 17), .ref (mr 18), .ref (mr 19), .ref (mr 20), .int (nI nse), .int (nI npa), .int (nI nbo), .ref (mr 21), .int (nI tn), .ref (mr 22), .int (nI ik), .int (j0), .int (j1), .ref (mr 23), .int (j2), .ref (mr 24), .ref (mr 25), .int (j3), .ref (mr 26), .int (j4), .ref (mr 27), .ref (mr 28), .ref (mr 29), .ref (mr 30)])), (mr 6, .inl (cy 1, 24, .inl (fun k => nI (fn k)))), (mr 7, .inl (cy 1, 120, .inl (fun k => nI (fo k)))), (mr 8, .inl (cy 2, 120, .inr (.inl ex))), (mr 9, .inl (cy 2, 120, .inr (.inl wo))), (mr 2, .inl (cy 1, 5, .inl (fun k => nI (tl9 k)))), (mr 3, .inl (cy 1, 5, .inl (fun k => nI (s2 k)))), (mr 10, .inl (cy 1, 24, .inl (fun k => nI (lr9 k)))), (mr 11, .inl (cy 1, 24, .inl rl9)), (mr 12, .inl (cy 1, 24, .inl (va_up fa9 (pMk P) (nI 5)))), (mr 13, .inl (cy 1, 24, .inl (va_up ca9 (pMk P) (nI (30 + (lr9 rq)))))), (mr 14, .inl (cy 1, 24, .inl (va_up dc9 (pMk P) (-5))))]) rfl ?_
                                refine x_vret C hA hQ hr dX10_comes_222 (Nat.le_of_ble_eq_true rfl) ?_
                                rw [show cmS ld cols tl9 (min smp lc) ky.toInt P = nxS ld cols ky.toInt Q9 by rw [hQ9]]
                                have hft : ftP ld cols ky.toInt Q9 = (nI 5, nI (30 + (lr9 rq)), -5) := by
                                  show ftS _ _ _ _ _ _ _ = _
                                  unfold ftS
                                  rw [hmkQ, hrsQ, hlrQ, if_neg (by omega), if_neg (by omega), if_neg (by omega), if_neg (by omega), if_neg (by omega), if_pos (by omega), hdr]
                                  rw [hlr]
                                have hres := MdQ_f hft (by decide) hmqQ (by rw [hmkQ]; omega)
                                rw [hmkQ] at hres
                                refine ⟨s2, lr9, rl9, _, _, _, rfl, ?_, hres, hs4, hlr9⟩
                                rw [show pMk (nxS ld cols ky.toInt Q9) = pMk P + 1 by rw [(InvP_nx hFQ.1.1 (by rw [hmkQ]; omega)).2.1, hmkQ], show pRs (nxS ld cols ky.toInt Q9) = pRs P by rw [nxS_f hft (by decide)]; exact hrsQ]
                              · skip
                                obtain ⟨rfl, rfl, hc13⟩ := hp7
                                refine x_ws (ws' := [(mo, .inr (9, [.int (nI cols), .int (nI lc), .int (nI smp), .int (nI ky.toInt.toNat), .ref (mr 0), .ref (mr 1), .ref (mr 2), .ref (mr 3), .ref (mr 4), .ref (mr 5), .ref (mr 6), .ref (mr 7), .ref (mr 8), .ref (mr 9), .int (nI (pMk P + 1)), .int (nI (pRs P)), .ref (mr 10), .ref (mr 11), .ref (mr 12), .ref (mr 13), .ref (mr 14), .ref (mr 15), .ref (mr 16), .ref (mr 17), .ref (mr 18), .ref (mr 19), .ref (mr 20), .int (nI nse), .int (nI npa), .int (nI nbo), .ref (mr 21), .int (nI tn), .ref (mr 22), .int (nI ik), .int (j0), .int (j1), .ref (mr 23), .int (j2), .ref (mr 24), .ref (mr 25), .int (j3), .ref (mr 26), .int (j4), .ref (mr 27), .ref (mr 28), .ref (mr 29), .ref (mr 30)])), (mr 6, .inl (cy 1, 24, .inl (fun k => nI (fn k)))), (mr 7, .inl (cy 1, 120, .inl (fun k => nI (fo k)))), (mr 8, .inl (cy 2, 120, .inr (.inl ex))), (mr 9, .inl (cy 2, 120, .inr (.inl wo))), (mr 2, .inl (cy 1, 5, .inl (fun k => nI (tl9 k)))), (mr 3, .inl (cy 1, 5, .inl (fun k => nI (s2 k)))), (mr 10, .inl (cy 1, 24, .inl (fun k => nI (lr9 k)))), (mr 11, .inl (cy 1, 24, .inl rl9)), (mr 12, .inl (cy 1, 24, .inl fa9)), (mr 13, .inl (cy 1, 24, .inl ca9)), (mr 14, .inl (cy 1, 24, .inl dc9))]) rfl ?_
                                refine x_ws (ws' := [(mo, .inr (9, [.int (nI cols), .int (nI lc), .int (nI smp), .int (ky), .ref (mr 0), .ref (mr 1), .ref (mr 2), .ref (mr 3), .ref (mr 4), .ref (mr 5), .ref (mr 6), .ref (mr 7), .ref (mr 8), .ref (mr 9), .int (nI (pMk P + 1)), .int (nI (pRs P)), .ref (mr 10), .ref (mr 11), .ref (mr 12), .ref (mr 13), .ref (mr 14), .ref (mr 15), .ref (mr 16), .ref (mr 17), .ref (mr 18), .ref (mr 19), .ref (mr 20), .int (nI nse), .int (nI npa), .int (nI nbo), .ref (mr 21), .int (nI tn), .ref (mr 22), .int (nI ik), .int (j0), .int (j1), .ref (mr 23), .int (j2), .ref (mr 24), .ref (mr 25), .int (j3), .ref (mr 26), .int (j4), .ref (mr 27), .ref (mr 28), .ref (mr 29), .ref (mr 30)])), (mr 6, .inl (cy 1, 24, .inl (fun k => nI (fn k)))), (mr 7, .inl (cy 1, 120, .inl (fun k => nI (fo k)))), (mr 8, .inl (cy 2, 120, .inr (.inl ex))), (mr 9, .inl (cy 2, 120, .inr (.inl wo))), (mr 2, .inl (cy 1, 5, .inl (fun k => nI (tl9 k)))), (mr 3, .inl (cy 1, 5, .inl (fun k => nI (s2 k)))), (mr 10, .inl (cy 1, 24, .inl (fun k => nI (lr9 k)))), (mr 11, .inl (cy 1, 24, .inl rl9)), (mr 12, .inl (cy 1, 24, .inl fa9)), (mr 13, .inl (cy 1, 24, .inl ca9)), (mr 14, .inl (cy 1, 24, .inl dc9))]) (by rw [← xi_nat (show 0 ≤ ky.toInt by omega)]) ?_
                                have hdbt : dpB ld (pSt Q9) (pLr P) ky.toInt.toNat (pMk P) rq = false := by
                                  have hsq := hs2 ky.toInt.toNat (by omega)
                                  rw [hlr, hsq] at hc13
                                  cases e9 : dpB ld (pSt Q9) (pLr P) ky.toInt.toNat (pMk P) rq with
                                  | false => rfl
                                  | true =>
                                    have e8 := dpB_t.mp e9
                                    rcases hc13 with e7 | e7
                                    · exact absurd e7 e8.1
                                    · exact absurd e8.2 e7
                                have hdbf := hdbt
                                refine x_if_eq C (tgt := 223) dX10_comes_202 (by decide) (q := 205) rfl (a := 0) rfl (fun h14 => ?_) (fun h14 => (by omega : False).elim)
                                refine x_iinc C (L' := [(2, .int (nI (rq + 1))), (0, .ref mo), (1, .int (nI (pMk P)))]) dX10_comes_223 (q := 226) rfl 2 rfl (v := nI (rq + 1)) (nI_add rq 1) (by decide) rfl ?_
                                refine x_goto C (tgt := 176) dX10_comes_226 (by decide) ?_
                                refine x_L (L' := [(0, .ref mo), (1, .int (nI (pMk P))), (2, .int (nI (rq + 1)))]) [1, 2, 0] rfl ?_
                                exact ih176 (rq + 1) (by first | omega | assumption) (by have h8 := runLen_step (P := (fun r => !dpB ld (pSt Q9) (pLr P) ky.toInt.toNat (pMk P) r)) (to := pRs P) (k := rq) (by omega) (by rw [hdbf]; rfl); omega) (by omega)
                  refine x_L (L' := [(0, .ref mo), (1, .int (nI (pMk P))), (2, .int (nI 0))]) [1, 2, 0] rfl ?_
                  exact cut176 (pRs P - 0 + 1) 0 (by first | omega | assumption) (by rw [Nat.zero_add]; rfl) (by omega)
                refine x_aload_n C dX10_comes_144 (q := 145) rfl rfl 0 rfl ?_
                refine x_get C (ci := 9) (v := .int (ky)) hw0 0 rfl rfl 3 (by decide) hw7 rfl dX10_comes_145 (q := 148) rfl ?_
                refine x_if_lt C (tgt := 174) dX10_comes_148 (by decide) (q := 151) rfl (a := ky.toInt) rfl (fun h15 => ?_) (fun h15 => ?_)
                · first
                  | (exfalso; omega)
                  |
                    refine x_L (L' := [(0, .ref mo), (1, .int (nI (pMk P)))]) [0, 1] rfl ?_
                    exact cut174  (by intro e9; first | omega | (have z := hfk; omega))
                · first
                  | (exfalso; omega)
                  |
                    refine x_aload_n C dX10_comes_151 (q := 152) rfl rfl 0 rfl ?_
                    refine x_iload_n C dX10_comes_152 (q := 153) rfl rfl 1 rfl ?_
                    refine x_aload_n C dX10_comes_153 (q := 154) rfl rfl 0 rfl ?_
                    refine x_get C (ci := 9) (v := .int (ky)) hw0 0 rfl rfl 3 (by decide) hw7 rfl dX10_comes_154 (q := 157) rfl ?_
                    refine x_st (st' := [.int (nI ky.toInt.toNat), .int (nI (pMk P)), .ref mo]) (congrArg (fun z9 => ([.int z9, .int (nI (pMk P)), .ref mo] : List Value)) (xi_nat (by omega))) ?_
                    refine x_callV C (roW := []) (roR := []) (c_X10_formOf l D cy mo mr cols lc smp (pMk P + 1) (pRs P) nse npa nbo tn ik ky j0 j1 j2 j3 j4 fo (pMk P) ky.toInt.toNat (by first | assumption | omega | (simp only []; omega)) (by first | assumption | omega | (simp only []; omega))) (cwV 2 C.2.2.2.2.1 gX10_comes_X10_formOf rfl rfl rfl (by decide +kernel) (by rw [hR]; exact ⟨Nat.le_of_ble_eq_true rfl, Nat.le_of_ble_eq_true rfl⟩)) [0, 2] [] rfl (by decide) rfl (by decide) xro_nil (List.mem_of_getElem? (i := 0) rfl) (ci := 9) rfl xT_bl (fun _ _ _ _ _ _ _ => trivial) rfl rfl dX10_comes_157 rfl rfl (Nat.le_of_ble_eq_true rfl) (q := 160) rfl (k' := 0) rfl (n' := 0) rfl (by rw [hR]; exact ⟨Nat.le_of_ble_eq_true rfl, Nat.le_of_ble_eq_true rfl⟩) (fun v16 w16 hp16 => ?_)
                    obtain ⟨rfl, rfl⟩ := hp16
                    refine x_ws (ws' := [(mo, .inr (9, [.int (nI cols), .int (nI lc), .int (nI smp), .int (ky), .ref (mr 0), .ref (mr 1), .ref (mr 2), .ref (mr 3), .ref (mr 4), .ref (mr 5), .ref (mr 6), .ref (mr 7), .ref (mr 8), .ref (mr 9), .int (nI (pMk P + 1)), .int (nI (pRs P)), .ref (mr 10), .ref (mr 11), .ref (mr 12), .ref (mr 13), .ref (mr 14), .ref (mr 15), .ref (mr 16), .ref (mr 17), .ref (mr 18), .ref (mr 19), .ref (mr 20), .int (nI nse), .int (nI npa), .int (nI nbo), .ref (mr 21), .int (nI tn), .ref (mr 22), .int (nI ik), .int (j0), .int (j1), .ref (mr 23), .int (j2), .ref (mr 24), .ref (mr 25), .int (j3), .ref (mr 26), .int (j4), .ref (mr 27), .ref (mr 28), .ref (mr 29), .ref (mr 30)])), (mr 6, .inl (cy 1, 24, .inl (fun k => nI (fn k)))), (mr 7, .inl (cy 1, 120, .inl (fun k => nI (fo k)))), (mr 8, .inl (cy 2, 120, .inr (.inl ex))), (mr 9, .inl (cy 2, 120, .inr (.inl wo))), (mr 2, .inl (cy 1, 5, .inl (fun k => nI (tl9 k)))), (mr 3, .inl (cy 1, 5, .inl (fun k => nI (s2 k)))), (mr 10, .inl (cy 1, 24, .inl (fun k => nI (lr9 k)))), (mr 11, .inl (cy 1, 24, .inl rl9)), (mr 12, .inl (cy 1, 24, .inl fa9)), (mr 13, .inl (cy 1, 24, .inl ca9)), (mr 14, .inl (cy 1, 24, .inl dc9))]) rfl ?_
                    have hfk : fo (5 * (pMk P) + ky.toInt.toNat) = dFm ld (pMk P) ky.toInt.toNat := (hmlk.2.2 _ (by omega) (by omega)).1
                    have hf49 := hfo4 (5 * (pMk P) + ky.toInt.toNat)
                    refine x_if_ne C (tgt := 174) dX10_comes_160 (by decide) (q := 163) rfl (a := ((fo (5 * (pMk P) + ky.toInt.toNat) : Nat) : Int)) (nI_toInt (by omega)) (fun h17 => ?_) (fun h17 => ?_)
                    · first
                      | (exfalso; omega)
                      |
                        refine x_L (L' := [(0, .ref mo), (1, .int (nI (pMk P)))]) [0, 1] rfl ?_
                        exact cut174  (by intro e9; first | omega | (have z := hfk; omega))
                    · first
                      | (exfalso; omega)
                      |
                        refine x_aload_n C dX10_comes_163 (q := 164) rfl rfl 0 rfl ?_
                        refine x_iload_n C dX10_comes_164 (q := 165) rfl rfl 1 rfl ?_
                        refine x_iconst C dX10_comes_165 (q := 166) rfl (v := nI 4) (by decide) ?_
                        refine x_bipush C dX10_comes_166 (q := 168) rfl (v := (-5)) (by decide) ?_
                        refine x_bipush C dX10_comes_168 (q := 170) rfl (v := (-5)) (by decide) ?_
                        refine x_callV C (roW := []) (roR := []) (c_X10_faulty l D cy mo mr cols lc smp (pMk P + 1) (pRs P) nse npa nbo tn ik ky j0 j1 j2 j3 j4 fa9 ca9 dc9 (pMk P) (nI 4) (-5) (-5) (by first | assumption | omega | (simp only []; omega))) (cwV 4 C.2.2.2.2.1 gX10_comes_X10_faulty rfl rfl rfl (by decide +kernel) (by rw [hR]; exact ⟨Nat.le_of_ble_eq_true rfl, Nat.le_of_ble_eq_true rfl⟩)) [0, 9, 10, 11] [] rfl (by decide) rfl (by decide) xro_nil (List.mem_of_getElem? (i := 0) rfl) (ci := 9) rfl xT_bl (fun _ _ _ _ _ _ _ => trivial) rfl rfl dX10_comes_170 rfl rfl (Nat.le_of_ble_eq_true rfl) (q := 173) rfl (k' := 0) rfl (n' := 0) rfl (by rw [hR]; exact ⟨Nat.le_of_ble_eq_true rfl, Nat.le_of_ble_eq_true rfl⟩) (fun v18 w18 hp18 => ?_)
                        obtain ⟨rfl, rfl⟩ := hp18
                        refine x_ws (ws' := [(mo, .inr (9, [.int (nI cols), .int (nI lc), .int (nI smp), .int (ky), .ref (mr 0), .ref (mr 1), .ref (mr 2), .ref (mr 3), .ref (mr 4), .ref (mr 5), .ref (mr 6), .ref (mr 7), .ref (mr 8), .ref (mr 9), .int (nI (pMk P + 1)), .int (nI (pRs P)), .ref (mr 10), .ref (mr 11), .ref (mr 12), .ref (mr 13), .ref (mr 14), .ref (mr 15), .ref (mr 16), .ref (mr 17), .ref (mr 18), .ref (mr 19), .ref (mr 20), .int (nI nse), .int (nI npa), .int (nI nbo), .ref (mr 21), .int (nI tn), .ref (mr 22), .int (nI ik), .int (j0), .int (j1), .ref (mr 23), .int (j2), .ref (mr 24), .ref (mr 25), .int (j3), .ref (mr 26), .int (j4), .ref (mr 27), .ref (mr 28), .ref (mr 29), .ref (mr 30)])), (mr 6, .inl (cy 1, 24, .inl (fun k => nI (fn k)))), (mr 7, .inl (cy 1, 120, .inl (fun k => nI (fo k)))), (mr 8, .inl (cy 2, 120, .inr (.inl ex))), (mr 9, .inl (cy 2, 120, .inr (.inl wo))), (mr 2, .inl (cy 1, 5, .inl (fun k => nI (tl9 k)))), (mr 3, .inl (cy 1, 5, .inl (fun k => nI (s2 k)))), (mr 10, .inl (cy 1, 24, .inl (fun k => nI (lr9 k)))), (mr 11, .inl (cy 1, 24, .inl rl9)), (mr 12, .inl (cy 1, 24, .inl (va_up fa9 (pMk P) (nI 4)))), (mr 13, .inl (cy 1, 24, .inl (va_up ca9 (pMk P) (-5)))), (mr 14, .inl (cy 1, 24, .inl (va_up dc9 (pMk P) (-5))))]) rfl ?_
                        refine x_vret C hA hQ hr dX10_comes_173 (Nat.le_of_ble_eq_true rfl) ?_
                        rw [show cmS ld cols tl9 (min smp lc) ky.toInt P = nxS ld cols ky.toInt Q9 by rw [hQ9]]
                        have hft : ftP ld cols ky.toInt Q9 = (nI 4, -5, -5) := by
                          show ftS _ _ _ _ _ _ _ = _
                          unfold ftS
                          rw [hmkQ, if_neg (by omega), if_neg (by omega), if_neg (by omega), if_neg (by omega), if_pos (by omega)]
                        have hres := MdQ_f hft (by decide) hmqQ (by rw [hmkQ]; omega)
                        rw [hmkQ] at hres
                        refine ⟨s2, lr9, rl9, _, _, _, rfl, ?_, hres, hs4, hlr9⟩
                        rw [show pMk (nxS ld cols ky.toInt Q9) = pMk P + 1 by rw [(InvP_nx hFQ.1.1 (by rw [hmkQ]; omega)).2.1, hmkQ], show pRs (nxS ld cols ky.toInt Q9) = pRs P by rw [nxS_f hft (by decide)]; exact hrsQ]
            · first
              | (exfalso; omega)
              |
                refine x_aload_n C dX10_comes_100 (q := 101) rfl rfl 0 rfl ?_
                refine x_iload_n C dX10_comes_101 (q := 102) rfl rfl 1 rfl ?_
                refine x_iload_n C dX10_comes_102 (q := 103) rfl rfl 2 rfl ?_
                refine x_callV C (roW := []) (roR := []) (c_X10_formOf l D cy mo mr cols lc smp (pMk P + 1) (pRs P) nse npa nbo tn ik ky j0 j1 j2 j3 j4 fo (pMk P) cq (by first | assumption | omega | (simp only []; omega)) (by first | assumption | omega | (simp only []; omega))) (cwV 2 C.2.2.2.2.1 gX10_comes_X10_formOf rfl rfl rfl (by decide +kernel) (by rw [hR]; exact ⟨Nat.le_of_ble_eq_true rfl, Nat.le_of_ble_eq_true rfl⟩)) [0, 2] [] rfl (by decide) rfl (by decide) xro_nil (List.mem_of_getElem? (i := 0) rfl) (ci := 9) rfl xT_bl (fun _ _ _ _ _ _ _ => trivial) rfl rfl dX10_comes_103 rfl rfl (Nat.le_of_ble_eq_true rfl) (q := 106) rfl (k' := 0) rfl (n' := 0) rfl (by rw [hR]; exact ⟨Nat.le_of_ble_eq_true rfl, Nat.le_of_ble_eq_true rfl⟩) (fun v19 w19 hp19 => ?_)
                obtain ⟨rfl, rfl⟩ := hp19
                refine x_ws (ws' := [(mo, .inr (9, [.int (nI cols), .int (nI lc), .int (nI smp), .int (ky), .ref (mr 0), .ref (mr 1), .ref (mr 2), .ref (mr 3), .ref (mr 4), .ref (mr 5), .ref (mr 6), .ref (mr 7), .ref (mr 8), .ref (mr 9), .int (nI (pMk P + 1)), .int (nI (pRs P)), .ref (mr 10), .ref (mr 11), .ref (mr 12), .ref (mr 13), .ref (mr 14), .ref (mr 15), .ref (mr 16), .ref (mr 17), .ref (mr 18), .ref (mr 19), .ref (mr 20), .int (nI nse), .int (nI npa), .int (nI nbo), .ref (mr 21), .int (nI tn), .ref (mr 22), .int (nI ik), .int (j0), .int (j1), .ref (mr 23), .int (j2), .ref (mr 24), .ref (mr 25), .int (j3), .ref (mr 26), .int (j4), .ref (mr 27), .ref (mr 28), .ref (mr 29), .ref (mr 30)])), (mr 6, .inl (cy 1, 24, .inl (fun k => nI (fn k)))), (mr 7, .inl (cy 1, 120, .inl (fun k => nI (fo k)))), (mr 8, .inl (cy 2, 120, .inr (.inl ex))), (mr 9, .inl (cy 2, 120, .inr (.inl wo))), (mr 2, .inl (cy 1, 5, .inl (fun k => nI (tl9 k)))), (mr 3, .inl (cy 1, 5, .inl (fun k => nI (s2 k)))), (mr 10, .inl (cy 1, 24, .inl (fun k => nI (lr9 k)))), (mr 11, .inl (cy 1, 24, .inl rl9)), (mr 12, .inl (cy 1, 24, .inl fa9)), (mr 13, .inl (cy 1, 24, .inl ca9)), (mr 14, .inl (cy 1, 24, .inl dc9))]) rfl ?_
                have hfc9 : fo (5 * (pMk P) + cq) = dFm ld (pMk P) cq := (hmlk.2.2 cq (by omega) (by omega)).1
                have hsc9 := hs2 cq (by omega)
                have hf49 := hfo4 (5 * (pMk P) + cq)
                refine x_aload_n C dX10_comes_106 (q := 107) rfl rfl 0 rfl ?_
                refine x_get C (ci := 9) (v := .ref (mr 3)) hw0 0 rfl rfl 7 (by decide) hw8 rfl dX10_comes_107 (q := 110) rfl ?_
                refine x_iload_n C dX10_comes_110 (q := 111) rfl rfl 2 rfl ?_
                have hb20 := hs4 cq
                refine x_iald C (j := cq) (v := nI (s2 cq)) 6 rfl (nI_toInt (by omega)) (by omega) rfl dX10_comes_111 (q := 112) rfl ?_
                refine x_callS C (roW := []) (roR := []) (c_X10_fitsType l D cy (fo (5 * (pMk P) + cq)) (s2 cq) (by first | assumption | omega | (simp only []; omega)) (by first | assumption | omega | (simp only []; omega))) (cwS 2 C.2.2.2.2.1 gX10_comes_X10_fitsType rfl rfl rfl (by decide +kernel) (by rw [hR]; exact ⟨Nat.le_of_ble_eq_true rfl, Nat.le_of_ble_eq_true rfl⟩)) [] [] rfl (by decide) rfl (by decide) xro_nil xT_bl (fun _ _ _ _ _ _ _ => trivial) rfl rfl dX10_comes_112 rfl rfl (Nat.le_of_ble_eq_true rfl) (q := 115) rfl (k' := 0) rfl (n' := 0) rfl (by rw [hR]; exact ⟨Nat.le_of_ble_eq_true rfl, Nat.le_of_ble_eq_true rfl⟩) (fun v21 w21 hp21 => ?_)
                rcases hp21 with hp21 | hp21
                · skip
                  obtain ⟨rfl, rfl, hc22⟩ := hp21
                  refine x_ws (ws' := [(mo, .inr (9, [.int (nI cols), .int (nI lc), .int (nI smp), .int (ky), .ref (mr 0), .ref (mr 1), .ref (mr 2), .ref (mr 3), .ref (mr 4), .ref (mr 5), .ref (mr 6), .ref (mr 7), .ref (mr 8), .ref (mr 9), .int (nI (pMk P + 1)), .int (nI (pRs P)), .ref (mr 10), .ref (mr 11), .ref (mr 12), .ref (mr 13), .ref (mr 14), .ref (mr 15), .ref (mr 16), .ref (mr 17), .ref (mr 18), .ref (mr 19), .ref (mr 20), .int (nI nse), .int (nI npa), .int (nI nbo), .ref (mr 21), .int (nI tn), .ref (mr 22), .int (nI ik), .int (j0), .int (j1), .ref (mr 23), .int (j2), .ref (mr 24), .ref (mr 25), .int (j3), .ref (mr 26), .int (j4), .ref (mr 27), .ref (mr 28), .ref (mr 29), .ref (mr 30)])), (mr 6, .inl (cy 1, 24, .inl (fun k => nI (fn k)))), (mr 7, .inl (cy 1, 120, .inl (fun k => nI (fo k)))), (mr 8, .inl (cy 2, 120, .inr (.inl ex))), (mr 9, .inl (cy 2, 120, .inr (.inl wo))), (mr 2, .inl (cy 1, 5, .inl (fun k => nI (tl9 k)))), (mr 3, .inl (cy 1, 5, .inl (fun k => nI (s2 k)))), (mr 10, .inl (cy 1, 24, .inl (fun k => nI (lr9 k)))), (mr 11, .inl (cy 1, 24, .inl rl9)), (mr 12, .inl (cy 1, 24, .inl fa9)), (mr 13, .inl (cy 1, 24, .inl ca9)), (mr 14, .inl (cy 1, 24, .inl dc9))]) (List.append_nil _) ?_
                  refine x_if_ne C (tgt := 138) dX10_comes_115 (by decide) (q := 118) rfl (a := 1) rfl (fun h23 => ?_) (fun h23 => (by omega : False).elim)
                  refine x_iinc C (L' := [(2, .int (nI (cq + 1))), (0, .ref mo), (1, .int (nI (pMk P)))]) dX10_comes_138 (q := 141) rfl 2 rfl (v := nI (cq + 1)) (nI_add cq 1) (by decide) rfl ?_
                  refine x_goto C (tgt := 92) dX10_comes_141 (by decide) ?_
                  refine x_L (L' := [(0, .ref mo), (1, .int (nI (pMk P))), (2, .int (nI (cq + 1)))]) [1, 2, 0] rfl ?_
                  exact ih92 (cq + 1) (by first | omega | assumption) (by have h8 := runLen_step (P := fun c => decide (canS (dFm ld (pMk P) c) (pSt Q9 c))) (to := cols) (k := cq) (by omega) (decide_eq_true (by rw [← hfc9, ← hsc9]; assumption)); omega) (by omega)
                · skip
                  obtain ⟨rfl, rfl, hc24⟩ := hp21
                  refine x_ws (ws' := [(mo, .inr (9, [.int (nI cols), .int (nI lc), .int (nI smp), .int (ky), .ref (mr 0), .ref (mr 1), .ref (mr 2), .ref (mr 3), .ref (mr 4), .ref (mr 5), .ref (mr 6), .ref (mr 7), .ref (mr 8), .ref (mr 9), .int (nI (pMk P + 1)), .int (nI (pRs P)), .ref (mr 10), .ref (mr 11), .ref (mr 12), .ref (mr 13), .ref (mr 14), .ref (mr 15), .ref (mr 16), .ref (mr 17), .ref (mr 18), .ref (mr 19), .ref (mr 20), .int (nI nse), .int (nI npa), .int (nI nbo), .ref (mr 21), .int (nI tn), .ref (mr 22), .int (nI ik), .int (j0), .int (j1), .ref (mr 23), .int (j2), .ref (mr 24), .ref (mr 25), .int (j3), .ref (mr 26), .int (j4), .ref (mr 27), .ref (mr 28), .ref (mr 29), .ref (mr 30)])), (mr 6, .inl (cy 1, 24, .inl (fun k => nI (fn k)))), (mr 7, .inl (cy 1, 120, .inl (fun k => nI (fo k)))), (mr 8, .inl (cy 2, 120, .inr (.inl ex))), (mr 9, .inl (cy 2, 120, .inr (.inl wo))), (mr 2, .inl (cy 1, 5, .inl (fun k => nI (tl9 k)))), (mr 3, .inl (cy 1, 5, .inl (fun k => nI (s2 k)))), (mr 10, .inl (cy 1, 24, .inl (fun k => nI (lr9 k)))), (mr 11, .inl (cy 1, 24, .inl rl9)), (mr 12, .inl (cy 1, 24, .inl fa9)), (mr 13, .inl (cy 1, 24, .inl ca9)), (mr 14, .inl (cy 1, 24, .inl dc9))]) (List.append_nil _) ?_
                  refine x_if_ne C (tgt := 138) dX10_comes_115 (by decide) (q := 118) rfl (a := 0) rfl (fun h25 => (by omega : False).elim) (fun h25 => ?_)
                  have huc : ufS ld (pSt Q9) cols (pMk P) = cq := (by have h8 : runLen (fun c => decide (canS (dFm ld (pMk P) c) (pSt Q9 c))) cols (cols - cq) cq = 0 := runLen_stop _ (fun z => by have z2 := of_decide_eq_true z.2; rw [← hfc9, ← hsc9] at z2; contradiction); omega)
                  have hfc : dFm ld (pMk P) cq = fo (5 * (pMk P) + cq) := hfc9.symm
                  refine x_aload_n C dX10_comes_118 (q := 119) rfl rfl 0 rfl ?_
                  refine x_iload_n C dX10_comes_119 (q := 120) rfl rfl 1 rfl ?_
                  refine x_iconst C dX10_comes_120 (q := 121) rfl (v := nI 3) (by decide) ?_
                  refine x_bipush C dX10_comes_121 (q := 123) rfl (v := nI 10) (by decide) ?_
                  refine x_iload_n C dX10_comes_123 (q := 124) rfl rfl 2 rfl ?_
                  refine x_iadd C dX10_comes_124 (q := 125) rfl (z := nI (10 + cq)) (nI_add 10 cq) ?_
                  refine x_bipush C dX10_comes_125 (q := 127) rfl (v := nI 20) (by decide) ?_
                  refine x_aload_n C dX10_comes_127 (q := 128) rfl rfl 0 rfl ?_
                  refine x_iload_n C dX10_comes_128 (q := 129) rfl rfl 1 rfl ?_
                  refine x_iload_n C dX10_comes_129 (q := 130) rfl rfl 2 rfl ?_
                  refine x_callV C (roW := []) (roR := []) (c_X10_formOf l D cy mo mr cols lc smp (pMk P + 1) (pRs P) nse npa nbo tn ik ky j0 j1 j2 j3 j4 fo (pMk P) cq (by first | assumption | omega | (simp only []; omega)) (by first | assumption | omega | (simp only []; omega))) (cwV 2 C.2.2.2.2.1 gX10_comes_X10_formOf rfl rfl rfl (by decide +kernel) (by rw [hR]; exact ⟨Nat.le_of_ble_eq_true rfl, Nat.le_of_ble_eq_true rfl⟩)) [0, 2] [] rfl (by decide) rfl (by decide) xro_nil (List.mem_of_getElem? (i := 0) rfl) (ci := 9) rfl xT_bl (fun _ _ _ _ _ _ _ => trivial) rfl rfl dX10_comes_130 rfl rfl (Nat.le_of_ble_eq_true rfl) (q := 133) rfl (k' := 0) rfl (n' := 0) rfl (by rw [hR]; exact ⟨Nat.le_of_ble_eq_true rfl, Nat.le_of_ble_eq_true rfl⟩) (fun v26 w26 hp26 => ?_)
                  obtain ⟨rfl, rfl⟩ := hp26
                  refine x_ws (ws' := [(mo, .inr (9, [.int (nI cols), .int (nI lc), .int (nI smp), .int (ky), .ref (mr 0), .ref (mr 1), .ref (mr 2), .ref (mr 3), .ref (mr 4), .ref (mr 5), .ref (mr 6), .ref (mr 7), .ref (mr 8), .ref (mr 9), .int (nI (pMk P + 1)), .int (nI (pRs P)), .ref (mr 10), .ref (mr 11), .ref (mr 12), .ref (mr 13), .ref (mr 14), .ref (mr 15), .ref (mr 16), .ref (mr 17), .ref (mr 18), .ref (mr 19), .ref (mr 20), .int (nI nse), .int (nI npa), .int (nI nbo), .ref (mr 21), .int (nI tn), .ref (mr 22), .int (nI ik), .int (j0), .int (j1), .ref (mr 23), .int (j2), .ref (mr 24), .ref (mr 25), .int (j3), .ref (mr 26), .int (j4), .ref (mr 27), .ref (mr 28), .ref (mr 29), .ref (mr 30)])), (mr 6, .inl (cy 1, 24, .inl (fun k => nI (fn k)))), (mr 7, .inl (cy 1, 120, .inl (fun k => nI (fo k)))), (mr 8, .inl (cy 2, 120, .inr (.inl ex))), (mr 9, .inl (cy 2, 120, .inr (.inl wo))), (mr 2, .inl (cy 1, 5, .inl (fun k => nI (tl9 k)))), (mr 3, .inl (cy 1, 5, .inl (fun k => nI (s2 k)))), (mr 10, .inl (cy 1, 24, .inl (fun k => nI (lr9 k)))), (mr 11, .inl (cy 1, 24, .inl rl9)), (mr 12, .inl (cy 1, 24, .inl fa9)), (mr 13, .inl (cy 1, 24, .inl ca9)), (mr 14, .inl (cy 1, 24, .inl dc9))]) rfl ?_
                  refine x_iadd C dX10_comes_133 (q := 134) rfl (z := nI (20 + (fo (5 * (pMk P) + cq)))) (nI_add 20 (fo (5 * (pMk P) + cq))) ?_
                  refine x_callV C (roW := []) (roR := []) (c_X10_faulty l D cy mo mr cols lc smp (pMk P + 1) (pRs P) nse npa nbo tn ik ky j0 j1 j2 j3 j4 fa9 ca9 dc9 (pMk P) (nI 3) (nI (10 + cq)) (nI (20 + (fo (5 * (pMk P) + cq)))) (by first | assumption | omega | (simp only []; omega))) (cwV 4 C.2.2.2.2.1 gX10_comes_X10_faulty rfl rfl rfl (by decide +kernel) (by rw [hR]; exact ⟨Nat.le_of_ble_eq_true rfl, Nat.le_of_ble_eq_true rfl⟩)) [0, 9, 10, 11] [] rfl (by decide) rfl (by decide) xro_nil (List.mem_of_getElem? (i := 0) rfl) (ci := 9) rfl xT_bl (fun _ _ _ _ _ _ _ => trivial) rfl rfl dX10_comes_134 rfl rfl (Nat.le_of_ble_eq_true rfl) (q := 137) rfl (k' := 0) rfl (n' := 0) rfl (by rw [hR]; exact ⟨Nat.le_of_ble_eq_true rfl, Nat.le_of_ble_eq_true rfl⟩) (fun v27 w27 hp27 => ?_)
                  obtain ⟨rfl, rfl⟩ := hp27
                  refine x_ws (ws' := [(mo, .inr (9, [.int (nI cols), .int (nI lc), .int (nI smp), .int (ky), .ref (mr 0), .ref (mr 1), .ref (mr 2), .ref (mr 3), .ref (mr 4), .ref (mr 5), .ref (mr 6), .ref (mr 7), .ref (mr 8), .ref (mr 9), .int (nI (pMk P + 1)), .int (nI (pRs P)), .ref (mr 10), .ref (mr 11), .ref (mr 12), .ref (mr 13), .ref (mr 14), .ref (mr 15), .ref (mr 16), .ref (mr 17), .ref (mr 18), .ref (mr 19), .ref (mr 20), .int (nI nse), .int (nI npa), .int (nI nbo), .ref (mr 21), .int (nI tn), .ref (mr 22), .int (nI ik), .int (j0), .int (j1), .ref (mr 23), .int (j2), .ref (mr 24), .ref (mr 25), .int (j3), .ref (mr 26), .int (j4), .ref (mr 27), .ref (mr 28), .ref (mr 29), .ref (mr 30)])), (mr 6, .inl (cy 1, 24, .inl (fun k => nI (fn k)))), (mr 7, .inl (cy 1, 120, .inl (fun k => nI (fo k)))), (mr 8, .inl (cy 2, 120, .inr (.inl ex))), (mr 9, .inl (cy 2, 120, .inr (.inl wo))), (mr 2, .inl (cy 1, 5, .inl (fun k => nI (tl9 k)))), (mr 3, .inl (cy 1, 5, .inl (fun k => nI (s2 k)))), (mr 10, .inl (cy 1, 24, .inl (fun k => nI (lr9 k)))), (mr 11, .inl (cy 1, 24, .inl rl9)), (mr 12, .inl (cy 1, 24, .inl (va_up fa9 (pMk P) (nI 3)))), (mr 13, .inl (cy 1, 24, .inl (va_up ca9 (pMk P) (nI (10 + cq))))), (mr 14, .inl (cy 1, 24, .inl (va_up dc9 (pMk P) (nI (20 + (fo (5 * (pMk P) + cq)))))))]) rfl ?_
                  refine x_vret C hA hQ hr dX10_comes_137 (Nat.le_of_ble_eq_true rfl) ?_
                  rw [show cmS ld cols tl9 (min smp lc) ky.toInt P = nxS ld cols ky.toInt Q9 by rw [hQ9]]
                  have hft : ftP ld cols ky.toInt Q9 = (nI 3, nI (10 + cq), nI (20 + (fo (5 * (pMk P) + cq)))) := by
                    show ftS _ _ _ _ _ _ _ = _
                    unfold ftS
                    rw [hmkQ, if_neg (by omega), if_neg (by omega), if_pos (by omega), huc]
                    rw [hfc]
                  have hres := MdQ_f hft (by decide) hmqQ (by rw [hmkQ]; omega)
                  rw [hmkQ] at hres
                  refine ⟨s2, lr9, rl9, _, _, _, rfl, ?_, hres, hs4, hlr9⟩
                  rw [show pMk (nxS ld cols ky.toInt Q9) = pMk P + 1 by rw [(InvP_nx hFQ.1.1 (by rw [hmkQ]; omega)).2.1, hmkQ], show pRs (nxS ld cols ky.toInt Q9) = pRs P by rw [nxS_f hft (by decide)]; exact hrsQ]
        refine x_L (L' := [(0, .ref mo), (1, .int (nI (pMk P))), (2, .int (nI 0))]) [2, 1, 0] rfl ?_
        exact cut92 (cols - 0 + 1) 0 (by first | omega | assumption) (by rw [Nat.zero_add]; rfl) (by omega)
    · first
      | (exfalso; omega)
      |
        refine x_aload_n C dX10_comes_62 (q := 63) rfl rfl 1 rfl ?_
        refine x_iload_n C dX10_comes_63 (q := 64) rfl rfl 0 rfl ?_
        refine x_aload_n C dX10_comes_64 (q := 65) rfl rfl 1 rfl ?_
        refine x_get C (ci := 9) (v := .ref (mr 6)) hw0 0 rfl rfl 10 (by decide) hw2 rfl dX10_comes_65 (q := 68) rfl ?_
        refine x_iload_n C dX10_comes_68 (q := 69) rfl rfl 0 rfl ?_
        have hb28 := hfn (pMk P)
        refine x_iald C (j := pMk P) (v := nI (fn (pMk P))) 1 rfl (nI_toInt (by omega)) (by omega) rfl dX10_comes_69 (q := 70) rfl ?_
        refine x_aload_n C dX10_comes_70 (q := 71) rfl rfl 1 rfl ?_
        refine x_get C (ci := 9) (v := .int (nI cols)) hw0 0 rfl rfl 0 (by decide) hw3 rfl dX10_comes_71 (q := 74) rfl ?_
        refine x_icmp_ge C (tgt := 81) dX10_comes_74 (by decide) (q := 77) rfl (a := ((fn (pMk P) : Nat) : Int)) (b := ((cols : Nat) : Int)) (nI_toInt (by omega)) (nI_toInt (by omega)) (fun h29 => ?_) (fun h29 => ?_)
        · first
          | (exfalso; omega)
          |
            refine x_iconst C dX10_comes_81 (q := 82) rfl (v := nI 2) (by decide) ?_
            refine x_bipush C dX10_comes_82 (q := 84) rfl (v := (-5)) (by decide) ?_
            refine x_bipush C dX10_comes_84 (q := 86) rfl (v := (-5)) (by decide) ?_
            refine x_callV C (roW := []) (roR := []) (c_X10_faulty l D cy mo mr cols lc smp (pMk P + 1) (pRs P) nse npa nbo tn ik ky j0 j1 j2 j3 j4 fa9 ca9 dc9 (pMk P) (nI 2) (-5) (-5) (by first | assumption | omega | (simp only []; omega))) (cwV 4 C.2.2.2.2.1 gX10_comes_X10_faulty rfl rfl rfl (by decide +kernel) (by rw [hR]; exact ⟨Nat.le_of_ble_eq_true rfl, Nat.le_of_ble_eq_true rfl⟩)) [0, 9, 10, 11] [] rfl (by decide) rfl (by decide) xro_nil (List.mem_of_getElem? (i := 0) rfl) (ci := 9) rfl xT_bl (fun _ _ _ _ _ _ _ => trivial) rfl rfl dX10_comes_86 rfl rfl (Nat.le_of_ble_eq_true rfl) (q := 89) rfl (k' := 0) rfl (n' := 0) rfl (by rw [hR]; exact ⟨Nat.le_of_ble_eq_true rfl, Nat.le_of_ble_eq_true rfl⟩) (fun v30 w30 hp30 => ?_)
            obtain ⟨rfl, rfl⟩ := hp30
            refine x_ws (ws' := [(mo, .inr (9, [.int (nI cols), .int (nI lc), .int (nI smp), .int (ky), .ref (mr 0), .ref (mr 1), .ref (mr 2), .ref (mr 3), .ref (mr 4), .ref (mr 5), .ref (mr 6), .ref (mr 7), .ref (mr 8), .ref (mr 9), .int (nI (pMk P + 1)), .int (nI (pRs P)), .ref (mr 10), .ref (mr 11), .ref (mr 12), .ref (mr 13), .ref (mr 14), .ref (mr 15), .ref (mr 16), .ref (mr 17), .ref (mr 18), .ref (mr 19), .ref (mr 20), .int (nI nse), .int (nI npa), .int (nI nbo), .ref (mr 21), .int (nI tn), .ref (mr 22), .int (nI ik), .int (j0), .int (j1), .ref (mr 23), .int (j2), .ref (mr 24), .ref (mr 25), .int (j3), .ref (mr 26), .int (j4), .ref (mr 27), .ref (mr 28), .ref (mr 29), .ref (mr 30)])), (mr 6, .inl (cy 1, 24, .inl (fun k => nI (fn k)))), (mr 7, .inl (cy 1, 120, .inl (fun k => nI (fo k)))), (mr 8, .inl (cy 2, 120, .inr (.inl ex))), (mr 9, .inl (cy 2, 120, .inr (.inl wo))), (mr 2, .inl (cy 1, 5, .inl (fun k => nI (tl9 k)))), (mr 3, .inl (cy 1, 5, .inl (fun k => nI (s2 k)))), (mr 10, .inl (cy 1, 24, .inl (fun k => nI (lr9 k)))), (mr 11, .inl (cy 1, 24, .inl rl9)), (mr 12, .inl (cy 1, 24, .inl (va_up fa9 (pMk P) (nI 2)))), (mr 13, .inl (cy 1, 24, .inl (va_up ca9 (pMk P) (-5)))), (mr 14, .inl (cy 1, 24, .inl (va_up dc9 (pMk P) (-5))))]) rfl ?_
            refine x_vret C hA hQ hr dX10_comes_89 (Nat.le_of_ble_eq_true rfl) ?_
            rw [show cmS ld cols tl9 (min smp lc) ky.toInt P = nxS ld cols ky.toInt Q9 by rw [hQ9]]
            have hft : ftP ld cols ky.toInt Q9 = (nI 2, -5, -5) := by
              show ftS _ _ _ _ _ _ _ = _
              unfold ftS
              rw [hmkQ]
              first | rw [if_pos (by omega)] | rw [if_neg (by omega), if_pos (by omega)]
            have hres := MdQ_f hft (by decide) hmqQ (by rw [hmkQ]; omega)
            rw [hmkQ] at hres
            refine ⟨s2, lr9, rl9, _, _, _, rfl, ?_, hres, hs4, hlr9⟩
            rw [show pMk (nxS ld cols ky.toInt Q9) = pMk P + 1 by rw [(InvP_nx hFQ.1.1 (by rw [hmkQ]; omega)).2.1, hmkQ], show pRs (nxS ld cols ky.toInt Q9) = pRs P by rw [nxS_f hft (by decide)]; exact hrsQ]
        · first
          | (exfalso; omega)
          |
            refine x_iconst C dX10_comes_77 (q := 78) rfl (v := nI 1) (by decide) ?_
            refine x_goto C (tgt := 82) dX10_comes_78 (by decide) ?_
            refine x_bipush C dX10_comes_82 (q := 84) rfl (v := (-5)) (by decide) ?_
            refine x_bipush C dX10_comes_84 (q := 86) rfl (v := (-5)) (by decide) ?_
            refine x_callV C (roW := []) (roR := []) (c_X10_faulty l D cy mo mr cols lc smp (pMk P + 1) (pRs P) nse npa nbo tn ik ky j0 j1 j2 j3 j4 fa9 ca9 dc9 (pMk P) (nI 1) (-5) (-5) (by first | assumption | omega | (simp only []; omega))) (cwV 4 C.2.2.2.2.1 gX10_comes_X10_faulty rfl rfl rfl (by decide +kernel) (by rw [hR]; exact ⟨Nat.le_of_ble_eq_true rfl, Nat.le_of_ble_eq_true rfl⟩)) [0, 9, 10, 11] [] rfl (by decide) rfl (by decide) xro_nil (List.mem_of_getElem? (i := 0) rfl) (ci := 9) rfl xT_bl (fun _ _ _ _ _ _ _ => trivial) rfl rfl dX10_comes_86 rfl rfl (Nat.le_of_ble_eq_true rfl) (q := 89) rfl (k' := 0) rfl (n' := 0) rfl (by rw [hR]; exact ⟨Nat.le_of_ble_eq_true rfl, Nat.le_of_ble_eq_true rfl⟩) (fun v31 w31 hp31 => ?_)
            obtain ⟨rfl, rfl⟩ := hp31
            refine x_ws (ws' := [(mo, .inr (9, [.int (nI cols), .int (nI lc), .int (nI smp), .int (ky), .ref (mr 0), .ref (mr 1), .ref (mr 2), .ref (mr 3), .ref (mr 4), .ref (mr 5), .ref (mr 6), .ref (mr 7), .ref (mr 8), .ref (mr 9), .int (nI (pMk P + 1)), .int (nI (pRs P)), .ref (mr 10), .ref (mr 11), .ref (mr 12), .ref (mr 13), .ref (mr 14), .ref (mr 15), .ref (mr 16), .ref (mr 17), .ref (mr 18), .ref (mr 19), .ref (mr 20), .int (nI nse), .int (nI npa), .int (nI nbo), .ref (mr 21), .int (nI tn), .ref (mr 22), .int (nI ik), .int (j0), .int (j1), .ref (mr 23), .int (j2), .ref (mr 24), .ref (mr 25), .int (j3), .ref (mr 26), .int (j4), .ref (mr 27), .ref (mr 28), .ref (mr 29), .ref (mr 30)])), (mr 6, .inl (cy 1, 24, .inl (fun k => nI (fn k)))), (mr 7, .inl (cy 1, 120, .inl (fun k => nI (fo k)))), (mr 8, .inl (cy 2, 120, .inr (.inl ex))), (mr 9, .inl (cy 2, 120, .inr (.inl wo))), (mr 2, .inl (cy 1, 5, .inl (fun k => nI (tl9 k)))), (mr 3, .inl (cy 1, 5, .inl (fun k => nI (s2 k)))), (mr 10, .inl (cy 1, 24, .inl (fun k => nI (lr9 k)))), (mr 11, .inl (cy 1, 24, .inl rl9)), (mr 12, .inl (cy 1, 24, .inl (va_up fa9 (pMk P) (nI 1)))), (mr 13, .inl (cy 1, 24, .inl (va_up ca9 (pMk P) (-5)))), (mr 14, .inl (cy 1, 24, .inl (va_up dc9 (pMk P) (-5))))]) rfl ?_
            refine x_vret C hA hQ hr dX10_comes_89 (Nat.le_of_ble_eq_true rfl) ?_
            rw [show cmS ld cols tl9 (min smp lc) ky.toInt P = nxS ld cols ky.toInt Q9 by rw [hQ9]]
            have hft : ftP ld cols ky.toInt Q9 = (nI 1, -5, -5) := by
              show ftS _ _ _ _ _ _ _ = _
              unfold ftS
              rw [hmkQ]
              first | rw [if_pos (by omega)] | rw [if_neg (by omega), if_pos (by omega)]
            have hres := MdQ_f hft (by decide) hmqQ (by rw [hmkQ]; omega)
            rw [hmkQ] at hres
            refine ⟨s2, lr9, rl9, _, _, _, rfl, ?_, hres, hs4, hlr9⟩
            rw [show pMk (nxS ld cols ky.toInt Q9) = pMk P + 1 by rw [(InvP_nx hFQ.1.1 (by rw [hmkQ]; omega)).2.1, hmkQ], show pRs (nxS ld cols ky.toInt Q9) = pRs P by rw [nxS_f hft (by decide)]; exact hrsQ]
  refine x_iconst C dX10_comes_0 (q := 1) rfl (v := nI 0) (by decide) ?_
  refine x_istore_n C (L' := [(1, .int (nI 0)), (0, .ref mo)]) dX10_comes_1 (q := 2) rfl rfl (by decide) rfl ?_
  have cut2 : ∀ (fuel : Nat) (cq : Nat) (s9 : Nat → Nat), (cq ≤ cols) → (pMk P = 0 → (∀ j, j < cq → s9 j = tgS tl9 ld j (min smp lc)) ∧ ∀ j, cq ≤ j → j < 5 → s9 j = 0) → (¬ pMk P = 0 → s9 = st9) → (∀ k, s9 k ≤ 4) → cols - cq < fuel → xG p l e R s m args below meth c Q D A 3 [(mo, .inr (9, [.int (nI cols), .int (nI lc), .int (nI smp), .int (ky), .ref (mr 0), .ref (mr 1), .ref (mr 2), .ref (mr 3), .ref (mr 4), .ref (mr 5), .ref (mr 6), .ref (mr 7), .ref (mr 8), .ref (mr 9), .int (nI (pMk P)), .int (nI (pRs P)), .ref (mr 10), .ref (mr 11), .ref (mr 12), .ref (mr 13), .ref (mr 14), .ref (mr 15), .ref (mr 16), .ref (mr 17), .ref (mr 18), .ref (mr 19), .ref (mr 20), .int (nI nse), .int (nI npa), .int (nI nbo), .ref (mr 21), .int (nI tn), .ref (mr 22), .int (nI ik), .int (j0), .int (j1), .ref (mr 23), .int (j2), .ref (mr 24), .ref (mr 25), .int (j3), .ref (mr 26), .int (j4), .ref (mr 27), .ref (mr 28), .ref (mr 29), .ref (mr 30)])), (mr 6, .inl (cy 1, 24, .inl (fun k => nI (fn k)))), (mr 7, .inl (cy 1, 120, .inl (fun k => nI (fo k)))), (mr 8, .inl (cy 2, 120, .inr (.inl ex))), (mr 9, .inl (cy 2, 120, .inr (.inl wo))), (mr 2, .inl (cy 1, 5, .inl (fun k => nI (tl9 k)))), (mr 3, .inl (cy 1, 5, .inl (fun k => nI (s9 k)))), (mr 10, .inl (cy 1, 24, .inl (fun k => nI (lr9 k)))), (mr 11, .inl (cy 1, 24, .inl rl9)), (mr 12, .inl (cy 1, 24, .inl fa9)), (mr 13, .inl (cy 1, 24, .inl ca9)), (mr 14, .inl (cy 1, 24, .inl dc9))] 0 0 2 [(0, .ref mo), (1, .int (nI cq))] [] := by
    intro fuel
    induction fuel with
    | zero =>
      intro cq s9 hcq hz0 hzn hs94 hmu
      exact absurd hmu (Nat.not_lt_zero _)
    | succ fuel ih =>
      intro cq s9 hcq hz0 hzn hs94 hmu
      have ih2 := ih
      clear ih
      refine x_iload_n C dX10_comes_2 (q := 3) rfl rfl 1 rfl ?_
      refine x_aload_n C dX10_comes_3 (q := 4) rfl rfl 0 rfl ?_
      refine x_get C (ci := 9) (v := .int (nI cols)) hw0 0 rfl rfl 0 (by decide) hw3 rfl dX10_comes_4 (q := 7) rfl ?_
      refine x_icmp_ge C (tgt := 34) dX10_comes_7 (by decide) (q := 10) rfl (a := ((cq : Nat) : Int)) (b := ((cols : Nat) : Int)) (nI_toInt (by omega)) (nI_toInt (by omega)) (fun h32 => ?_) (fun h32 => ?_)
      · first
        | (exfalso; omega)
        |
          refine x_L (L' := [(0, .ref mo)]) [0] rfl ?_
          exact cut34 s9 (by intro c hc; by_cases em : pMk P = 0; (have e8 := hz0 em; rw [stS_0 em]; show s9 c = seS cols (-1) 0 tl9 ld (min smp lc) (pSt P) c; unfold seS; rw [if_pos hc, if_neg (by omega)]; exact e8.1 c (by omega)); (rw [stS_n em, hzn em]; exact hmq.1 c hc)) (by assumption)
      · first
        | (exfalso; omega)
        |
          refine x_aload_n C dX10_comes_10 (q := 11) rfl rfl 0 rfl ?_
          refine x_get C (ci := 9) (v := .int (nI (pMk P))) hw0 0 rfl rfl 14 (by decide) hw1 rfl dX10_comes_11 (q := 14) rfl ?_
          refine x_if_ne C (tgt := 34) dX10_comes_14 (by decide) (q := 17) rfl (a := ((pMk P : Nat) : Int)) (nI_toInt (by omega)) (fun h33 => ?_) (fun h33 => ?_)
          · first
            | (exfalso; omega)
            |
              refine x_L (L' := [(0, .ref mo)]) [0] rfl ?_
              exact cut34 s9 (by intro c hc; by_cases em : pMk P = 0; (have e8 := hz0 em; rw [stS_0 em]; show s9 c = seS cols (-1) 0 tl9 ld (min smp lc) (pSt P) c; unfold seS; rw [if_pos hc, if_neg (by omega)]; exact e8.1 c (by omega)); (rw [stS_n em, hzn em]; exact hmq.1 c hc)) (by assumption)
          · first
            | (exfalso; omega)
            |
              refine x_aload_n C dX10_comes_17 (q := 18) rfl rfl 0 rfl ?_
              refine x_get C (ci := 9) (v := .ref (mr 3)) hw0 0 rfl rfl 7 (by decide) hw8 rfl dX10_comes_18 (q := 21) rfl ?_
              refine x_iload_n C dX10_comes_21 (q := 22) rfl rfl 1 rfl ?_
              refine x_aload_n C dX10_comes_22 (q := 23) rfl rfl 0 rfl ?_
              refine x_iload_n C dX10_comes_23 (q := 24) rfl rfl 1 rfl ?_
              refine x_callV C (roW := []) (roR := []) (c_X10_type l D cy mo mr cols lc smp (pMk P) (pRs P) nse npa nbo tn ik ky j0 j1 j2 j3 j4 fn fo ex wo tl9 s9 ld cq (by assumption) (by assumption) (by assumption) (by first | assumption | omega | (simp only []; omega)) (by first | assumption | omega | (simp only []; omega)) (by first | assumption | omega | (simp only []; omega)) (by assumption) (by assumption)) (cwV 1 C.2.2.2.2.1 gX10_comes_X10_type rfl rfl rfl (by decide +kernel) (by rw [hR]; exact ⟨Nat.le_of_ble_eq_true rfl, Nat.le_of_ble_eq_true rfl⟩)) [0, 1, 2, 3, 4, 5, 6] [] rfl (by decide) rfl (by decide) xro_nil (List.mem_of_getElem? (i := 0) rfl) (ci := 9) rfl xT_bl (fun _ _ _ _ _ _ _ => trivial) rfl rfl dX10_comes_24 rfl rfl (Nat.le_of_ble_eq_true rfl) (q := 27) rfl (k' := 0) rfl (n' := 0) rfl (by rw [hR]; exact ⟨Nat.le_of_ble_eq_true rfl, Nat.le_of_ble_eq_true rfl⟩) (fun v34 w34 hp34 => ?_)
              obtain ⟨rfl, rfl⟩ := hp34
              refine x_ws (ws' := [(mo, .inr (9, [.int (nI cols), .int (nI lc), .int (nI smp), .int (ky), .ref (mr 0), .ref (mr 1), .ref (mr 2), .ref (mr 3), .ref (mr 4), .ref (mr 5), .ref (mr 6), .ref (mr 7), .ref (mr 8), .ref (mr 9), .int (nI (pMk P)), .int (nI (pRs P)), .ref (mr 10), .ref (mr 11), .ref (mr 12), .ref (mr 13), .ref (mr 14), .ref (mr 15), .ref (mr 16), .ref (mr 17), .ref (mr 18), .ref (mr 19), .ref (mr 20), .int (nI nse), .int (nI npa), .int (nI nbo), .ref (mr 21), .int (nI tn), .ref (mr 22), .int (nI ik), .int (j0), .int (j1), .ref (mr 23), .int (j2), .ref (mr 24), .ref (mr 25), .int (j3), .ref (mr 26), .int (j4), .ref (mr 27), .ref (mr 28), .ref (mr 29), .ref (mr 30)])), (mr 6, .inl (cy 1, 24, .inl (fun k => nI (fn k)))), (mr 7, .inl (cy 1, 120, .inl (fun k => nI (fo k)))), (mr 8, .inl (cy 2, 120, .inr (.inl ex))), (mr 9, .inl (cy 2, 120, .inr (.inl wo))), (mr 2, .inl (cy 1, 5, .inl (fun k => nI (tl9 k)))), (mr 3, .inl (cy 1, 5, .inl (fun k => nI (s9 k)))), (mr 10, .inl (cy 1, 24, .inl (fun k => nI (lr9 k)))), (mr 11, .inl (cy 1, 24, .inl rl9)), (mr 12, .inl (cy 1, 24, .inl fa9)), (mr 13, .inl (cy 1, 24, .inl ca9)), (mr 14, .inl (cy 1, 24, .inl dc9))]) rfl ?_
              have hty9 : pMk P = 0 → tyS s9 tl9 ld cq (min smp lc) = tgS tl9 ld cq (min smp lc) := fun e => if_pos ((hz0 e).2 cq (Nat.le_refl _) (by omega))
              refine x_iast C (ws' := [(mo, .inr (9, [.int (nI cols), .int (nI lc), .int (nI smp), .int (ky), .ref (mr 0), .ref (mr 1), .ref (mr 2), .ref (mr 3), .ref (mr 4), .ref (mr 5), .ref (mr 6), .ref (mr 7), .ref (mr 8), .ref (mr 9), .int (nI (pMk P)), .int (nI (pRs P)), .ref (mr 10), .ref (mr 11), .ref (mr 12), .ref (mr 13), .ref (mr 14), .ref (mr 15), .ref (mr 16), .ref (mr 17), .ref (mr 18), .ref (mr 19), .ref (mr 20), .int (nI nse), .int (nI npa), .int (nI nbo), .ref (mr 21), .int (nI tn), .ref (mr 22), .int (nI ik), .int (j0), .int (j1), .ref (mr 23), .int (j2), .ref (mr 24), .ref (mr 25), .int (j3), .ref (mr 26), .int (j4), .ref (mr 27), .ref (mr 28), .ref (mr 29), .ref (mr 30)])), (mr 6, .inl (cy 1, 24, .inl (fun k => nI (fn k)))), (mr 7, .inl (cy 1, 120, .inl (fun k => nI (fo k)))), (mr 8, .inl (cy 2, 120, .inr (.inl ex))), (mr 9, .inl (cy 2, 120, .inr (.inl wo))), (mr 2, .inl (cy 1, 5, .inl (fun k => nI (tl9 k)))), (mr 3, .inl (cy 1, 5, .inl (fun k => nI ((va_up s9 cq (tyS s9 tl9 ld cq (min smp lc))) k)))), (mr 10, .inl (cy 1, 24, .inl (fun k => nI (lr9 k)))), (mr 11, .inl (cy 1, 24, .inl rl9)), (mr 12, .inl (cy 1, 24, .inl fa9)), (mr 13, .inl (cy 1, 24, .inl ca9)), (mr 14, .inl (cy 1, 24, .inl dc9))]) 6 rfl (j := cq) (nI_toInt (by omega)) (by omega) (xup_n s9 cq (tyS s9 tl9 ld cq (min smp lc))) rfl dX10_comes_27 (q := 28) rfl ?_
              refine x_iinc C (L' := [(1, .int (nI (cq + 1))), (0, .ref mo)]) dX10_comes_28 (q := 31) rfl 1 rfl (v := nI (cq + 1)) (nI_add cq 1) (by decide) rfl ?_
              refine x_goto C (tgt := 2) dX10_comes_31 (by decide) ?_
              refine x_L (L' := [(0, .ref mo), (1, .int (nI (cq + 1)))]) [1, 0] rfl ?_
              exact ih2 (cq + 1) (va_up s9 cq (tyS s9 tl9 ld cq (min smp lc))) (by first | omega | assumption) (by intro e; have e8 := hz0 e; have e7 := hty9; (refine ⟨fun j hj => ?_, fun j hj hj5 => ?_⟩); (by_cases e6 : j = cq; (rw [e6, va_up_eq]; exact e7 e); (rw [va_up_ne' e6]; exact e8.1 j (by omega))); (rw [va_up_ne' (by omega)]; exact e8.2 j (by omega) hj5)) (by intro e; omega) (by intro k; by_cases e6 : k = cq; (rw [e6, va_up_eq]; exact tyS_le hs94 htl9); (rw [va_up_ne' e6]; exact hs94 k)) (by omega)
  refine x_L (L' := [(0, .ref mo), (1, .int (nI 0))]) [1, 0] rfl ?_
  exact cut2 (cols - 0 + 1) 0 st9 (by first | omega | assumption) (by intro e; exact ⟨fun j hj => absurd hj (Nat.not_lt_zero j), fun j _ hj => hm0 e j hj⟩) (by exact fun _ => rfl) (by assumption) (by omega)
