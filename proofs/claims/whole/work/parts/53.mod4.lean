set_option maxHeartbeats 4000000 in
set_option maxRecDepth 100000 in
/-- isLetter -/
theorem c_X10_isLetter (l : Launch) (D : va_G) (cy : Nat → ClassId) (mo : Nat) (mr : Nat → Nat) (cols : Nat) (lc : Nat) (smp : Nat) (mk : Nat) (rs : Nat) (nse : Nat) (npa : Nat) (nbo : Nat) (tn : Nat) (ik : Nat) (ky : Int32) (j0 : Int32) (j1 : Int32) (j2 : Int32) (j3 : Int32) (j4 : Int32) (tx9 : Nat → Nat) (k9 : Nat) (htn : tn ≤ 60) (htx : ∀ k, tx9 k < 128) (hk9 : k9 < 1000) : xMet l D cy xT yX10_isLetter wsX10_isLetter ({ frames := 2, cells := 0, slots := 0, locals := 200 } : Room) [.ref mo, .int (nI k9)] [(mo, .inr (9, [.int (nI cols), .int (nI lc), .int (nI smp), .int (ky), .ref (mr 0), .ref (mr 1), .ref (mr 2), .ref (mr 3), .ref (mr 4), .ref (mr 5), .ref (mr 6), .ref (mr 7), .ref (mr 8), .ref (mr 9), .int (nI mk), .int (nI rs), .ref (mr 10), .ref (mr 11), .ref (mr 12), .ref (mr 13), .ref (mr 14), .ref (mr 15), .ref (mr 16), .ref (mr 17), .ref (mr 18), .ref (mr 19), .ref (mr 20), .int (nI nse), .int (nI npa), .int (nI nbo), .ref (mr 21), .int (nI tn), .ref (mr 22), .int (nI ik), .int (j0), .int (j1), .ref (mr 23), .int (j2), .ref (mr 24), .ref (mr 25), .int (j3), .ref (mr 26), .int (j4), .ref (mr 27), .ref (mr 28), .ref (mr 29), .ref (mr 30)])), (mr 21, .inl (cy 1, 60, .inl (fun k => nI (tx9 k))))] [] (fun (v9 : Option Value) (w9 : va_W) => (v9 = some (.int (nI 1)) ∧ w9 = [(mo, .inr (9, [.int (nI cols), .int (nI lc), .int (nI smp), .int (ky), .ref (mr 0), .ref (mr 1), .ref (mr 2), .ref (mr 3), .ref (mr 4), .ref (mr 5), .ref (mr 6), .ref (mr 7), .ref (mr 8), .ref (mr 9), .int (nI mk), .int (nI rs), .ref (mr 10), .ref (mr 11), .ref (mr 12), .ref (mr 13), .ref (mr 14), .ref (mr 15), .ref (mr 16), .ref (mr 17), .ref (mr 18), .ref (mr 19), .ref (mr 20), .int (nI nse), .int (nI npa), .int (nI nbo), .ref (mr 21), .int (nI tn), .ref (mr 22), .int (nI ik), .int (j0), .int (j1), .ref (mr 23), .int (j2), .ref (mr 24), .ref (mr 25), .int (j3), .ref (mr 26), .int (j4), .ref (mr 27), .ref (mr 28), .ref (mr 29), .ref (mr 30)])), (mr 21, .inl (cy 1, 60, .inl (fun k => nI (tx9 k))))] ∧ isLt tx9 tn k9 = true) ∨ (v9 = some (.int (nI 0)) ∧ w9 = [(mo, .inr (9, [.int (nI cols), .int (nI lc), .int (nI smp), .int (ky), .ref (mr 0), .ref (mr 1), .ref (mr 2), .ref (mr 3), .ref (mr 4), .ref (mr 5), .ref (mr 6), .ref (mr 7), .ref (mr 8), .ref (mr 9), .int (nI mk), .int (nI rs), .ref (mr 10), .ref (mr 11), .ref (mr 12), .ref (mr 13), .ref (mr 14), .ref (mr 15), .ref (mr 16), .ref (mr 17), .ref (mr 18), .ref (mr 19), .ref (mr 20), .int (nI nse), .int (nI npa), .int (nI nbo), .ref (mr 21), .int (nI tn), .ref (mr 22), .int (nI ik), .int (j0), .int (j1), .ref (mr 23), .int (j2), .ref (mr 24), .ref (mr 25), .int (j3), .ref (mr 26), .int (j4), .ref (mr 27), .ref (mr 28), .ref (mr 29), .ref (mr 30)])), (mr 21, .inl (cy 1, 60, .inl (fun k => nI (tx9 k))))] ∧ isLt tx9 tn k9 = false)) := by
  refine xMet_of (cc := cX10_isLetter) (maxL := 2) (ret := (some .boolean)) (by decide) rfl (Nat.le_of_ble_eq_true rfl) (fun p e s m args below meth c A R Q hA hR hQ C hr hnm hro hX => ?_)
  have hw0 : ∀ w ∈ u_ws RX10 TX10 47, w ∈ wsX10_isLetter := by decide +kernel
  have hw1 : Cond.fieldLink RX10 178 (TX10 31).1 (TX10 31).2.1 (TX10 31).2.2.1 ∈ wsX10_isLetter := by decide +kernel
  have hw2 : Cond.fieldLink RX10 83 (TX10 30).1 (TX10 30).2.1 (TX10 30).2.2.1 ∈ wsX10_isLetter := by decide +kernel
  have hw3 : Jvm.Cond.constantLong RX10 181 (97) ∈ wsX10_isLetter := by decide +kernel
  have hw4 : Jvm.Cond.constantLong RX10 183 (122) ∈ wsX10_isLetter := by decide +kernel
  refine x_L (L' := [(0, .ref mo), (1, .int (nI k9))]) [0, 1] rfl ?_
  refine x_iload_n C dX10_isLetter_0 (q := 1) rfl rfl 1 rfl ?_
  refine x_aload_n C dX10_isLetter_1 (q := 2) rfl rfl 0 rfl ?_
  refine x_get C (ci := 9) (v := .int (nI tn)) hw0 0 rfl rfl 31 (by decide) hw1 rfl dX10_isLetter_2 (q := 5) rfl ?_
  refine x_icmp_ge C (tgt := 31) dX10_isLetter_5 (by decide) (q := 8) rfl (a := ((k9 : Nat) : Int)) (b := ((tn : Nat) : Int)) (nI_toInt (by omega)) (nI_toInt (by omega)) (fun h1 => ?_) (fun h1 => ?_)
  · first
    | (exfalso; omega)
    |
      refine x_iconst C dX10_isLetter_31 (q := 32) rfl (v := nI 0) (by decide) ?_
      refine x_zret C hA hQ hr (ty := .boolean) (by first | rfl | assumption | exact xz_nar _) dX10_isLetter_32 (Nat.le_of_ble_eq_true rfl) ?_
      first | exact Or.inl ⟨rfl, rfl, isLt_t.mpr (by omega)⟩ | (refine Or.inr ⟨rfl, rfl, ?_⟩; cases e9 : isLt tx9 tn k9 with | false => rfl | true => (have e8 := isLt_t.mp e9; exfalso; omega))
  · first
    | (exfalso; omega)
    |
      refine x_aload_n C dX10_isLetter_8 (q := 9) rfl rfl 0 rfl ?_
      refine x_get C (ci := 9) (v := .ref (mr 21)) hw0 0 rfl rfl 30 (by decide) hw2 rfl dX10_isLetter_9 (q := 12) rfl ?_
      refine x_iload_n C dX10_isLetter_12 (q := 13) rfl rfl 1 rfl ?_
      have hb2 := htx k9
      refine x_iald C (j := k9) (v := nI (tx9 k9)) 1 rfl (nI_toInt (by omega)) (by omega) rfl dX10_isLetter_13 (q := 14) rfl ?_
      refine x_i2l C dX10_isLetter_14 (q := 15) rfl (v := lN (tx9 k9)) (nI_l (by omega)) ?_
      refine x_ldc2 C (v := lN 97) hw3 dX10_isLetter_15 (q := 18) rfl ?_
      refine x_ldc2 C (v := lN 122) hw4 dX10_isLetter_18 (q := 21) rfl ?_
      refine x_callS C (roW := []) (roR := []) (c_X10_in l D cy (lN (tx9 k9)) (lN 97) (lN 122) (((tx9 k9 : Nat) : Int)) 97 122 (pk_lT (by omega)) rfl rfl) (cwS 3 C.2.2.2.2.1 gX10_isLetter_X10_in rfl rfl rfl (by decide +kernel) (by rw [hR]; exact ⟨Nat.le_of_ble_eq_true rfl, Nat.le_of_ble_eq_true rfl⟩)) [] [] rfl (by decide) rfl (by decide) xro_nil xT_bl (fun _ _ _ _ _ _ _ => trivial) rfl rfl dX10_isLetter_21 rfl rfl (Nat.le_of_ble_eq_true rfl) (q := 24) rfl (k' := 0) rfl (n' := 0) rfl (by rw [hR]; exact ⟨Nat.le_of_ble_eq_true rfl, Nat.le_of_ble_eq_true rfl⟩) (fun v3 w3 hp3 => ?_)
      rcases hp3 with hp3 | hp3
      · skip
        obtain ⟨rfl, rfl, hc4, hc5⟩ := hp3
        refine x_ws (ws' := [(mo, .inr (9, [.int (nI cols), .int (nI lc), .int (nI smp), .int (ky), .ref (mr 0), .ref (mr 1), .ref (mr 2), .ref (mr 3), .ref (mr 4), .ref (mr 5), .ref (mr 6), .ref (mr 7), .ref (mr 8), .ref (mr 9), .int (nI mk), .int (nI rs), .ref (mr 10), .ref (mr 11), .ref (mr 12), .ref (mr 13), .ref (mr 14), .ref (mr 15), .ref (mr 16), .ref (mr 17), .ref (mr 18), .ref (mr 19), .ref (mr 20), .int (nI nse), .int (nI npa), .int (nI nbo), .ref (mr 21), .int (nI tn), .ref (mr 22), .int (nI ik), .int (j0), .int (j1), .ref (mr 23), .int (j2), .ref (mr 24), .ref (mr 25), .int (j3), .ref (mr 26), .int (j4), .ref (mr 27), .ref (mr 28), .ref (mr 29), .ref (mr 30)])), (mr 21, .inl (cy 1, 60, .inl (fun k => nI (tx9 k))))]) (List.append_nil _) ?_
        refine x_if_eq C (tgt := 31) dX10_isLetter_24 (by decide) (q := 27) rfl (a := 1) rfl (fun h6 => (by omega : False).elim) (fun h6 => ?_)
        refine x_iconst C dX10_isLetter_27 (q := 28) rfl (v := nI 1) (by decide) ?_
        refine x_goto C (tgt := 32) dX10_isLetter_28 (by decide) ?_
        refine x_zret C hA hQ hr (ty := .boolean) (by first | rfl | assumption | exact xz_nar _) dX10_isLetter_32 (Nat.le_of_ble_eq_true rfl) ?_
        first | exact Or.inl ⟨rfl, rfl, isLt_t.mpr (by omega)⟩ | (refine Or.inr ⟨rfl, rfl, ?_⟩; cases e9 : isLt tx9 tn k9 with | false => rfl | true => (have e8 := isLt_t.mp e9; exfalso; omega))
      · skip
        obtain ⟨rfl, rfl, hc7⟩ := hp3
        refine x_ws (ws' := [(mo, .inr (9, [.int (nI cols), .int (nI lc), .int (nI smp), .int (ky), .ref (mr 0), .ref (mr 1), .ref (mr 2), .ref (mr 3), .ref (mr 4), .ref (mr 5), .ref (mr 6), .ref (mr 7), .ref (mr 8), .ref (mr 9), .int (nI mk), .int (nI rs), .ref (mr 10), .ref (mr 11), .ref (mr 12), .ref (mr 13), .ref (mr 14), .ref (mr 15), .ref (mr 16), .ref (mr 17), .ref (mr 18), .ref (mr 19), .ref (mr 20), .int (nI nse), .int (nI npa), .int (nI nbo), .ref (mr 21), .int (nI tn), .ref (mr 22), .int (nI ik), .int (j0), .int (j1), .ref (mr 23), .int (j2), .ref (mr 24), .ref (mr 25), .int (j3), .ref (mr 26), .int (j4), .ref (mr 27), .ref (mr 28), .ref (mr 29), .ref (mr 30)])), (mr 21, .inl (cy 1, 60, .inl (fun k => nI (tx9 k))))]) (List.append_nil _) ?_
        refine x_if_eq C (tgt := 31) dX10_isLetter_24 (by decide) (q := 27) rfl (a := 0) rfl (fun h8 => ?_) (fun h8 => (by omega : False).elim)
        refine x_iconst C dX10_isLetter_31 (q := 32) rfl (v := nI 0) (by decide) ?_
        refine x_zret C hA hQ hr (ty := .boolean) (by first | rfl | assumption | exact xz_nar _) dX10_isLetter_32 (Nat.le_of_ble_eq_true rfl) ?_
        first | exact Or.inl ⟨rfl, rfl, isLt_t.mpr (by omega)⟩ | (refine Or.inr ⟨rfl, rfl, ?_⟩; cases e9 : isLt tx9 tn k9 with | false => rfl | true => (have e8 := isLt_t.mp e9; exfalso; omega))

set_option maxHeartbeats 4000000 in
set_option maxRecDepth 100000 in
/-- isTwice -/
theorem c_X10_isTwice (l : Launch) (D : va_G) (cy : Nat → ClassId) (mo : Nat) (mr : Nat → Nat) (cols : Nat) (lc : Nat) (smp : Nat) (mk : Nat) (rs : Nat) (nse : Nat) (npa : Nat) (nbo : Nat) (tn : Nat) (ik : Nat) (ky : Int32) (j0 : Int32) (j1 : Int32) (j2 : Int32) (j3 : Int32) (j4 : Int32) (tx9 : Nat → Nat) (nn9 : Nat → Nat) (nz9 : Nat → Nat) (ss : Nat → Nat) (zs : Nat → Nat) (mq : Nat) (p0 : Nat) (z : Nat) (htn : tn ≤ 60) (htx : ∀ k, tx9 k < 128) (hnn : ∀ k, nn9 k < 128) (hnz : ∀ k, nz9 k ≤ 4) (hm : mq ≤ 5) (hpz : p0 + z ≤ tn) (hz : z ≤ 4) (hro9 : ∀ c, c < mq → nz9 c = zs c ∧ ∀ k, k < zs c → nn9 (4 * c + k) = tx9 (ss c + k)) : xMet l D cy xT yX10_isTwice wsX10_isTwice ({ frames := 1, cells := 0, slots := 0, locals := 0 } : Room) [.ref mo, .ref (mr 24), .ref (mr 25), .int (nI mq), .int (nI p0), .int (nI z)] [(mo, .inr (9, [.int (nI cols), .int (nI lc), .int (nI smp), .int (ky), .ref (mr 0), .ref (mr 1), .ref (mr 2), .ref (mr 3), .ref (mr 4), .ref (mr 5), .ref (mr 6), .ref (mr 7), .ref (mr 8), .ref (mr 9), .int (nI mk), .int (nI rs), .ref (mr 10), .ref (mr 11), .ref (mr 12), .ref (mr 13), .ref (mr 14), .ref (mr 15), .ref (mr 16), .ref (mr 17), .ref (mr 18), .ref (mr 19), .ref (mr 20), .int (nI nse), .int (nI npa), .int (nI nbo), .ref (mr 21), .int (nI tn), .ref (mr 22), .int (nI ik), .int (j0), .int (j1), .ref (mr 23), .int (j2), .ref (mr 24), .ref (mr 25), .int (j3), .ref (mr 26), .int (j4), .ref (mr 27), .ref (mr 28), .ref (mr 29), .ref (mr 30)])), (mr 21, .inl (cy 1, 60, .inl (fun k => nI (tx9 k)))), (mr 24, .inl (cy 1, 20, .inl (fun k => nI (nn9 k)))), (mr 25, .inl (cy 1, 5, .inl (fun k => nI (nz9 k))))] [] (fun (v9 : Option Value) (w9 : va_W) => (v9 = some (.int (nI 1)) ∧ w9 = [(mo, .inr (9, [.int (nI cols), .int (nI lc), .int (nI smp), .int (ky), .ref (mr 0), .ref (mr 1), .ref (mr 2), .ref (mr 3), .ref (mr 4), .ref (mr 5), .ref (mr 6), .ref (mr 7), .ref (mr 8), .ref (mr 9), .int (nI mk), .int (nI rs), .ref (mr 10), .ref (mr 11), .ref (mr 12), .ref (mr 13), .ref (mr 14), .ref (mr 15), .ref (mr 16), .ref (mr 17), .ref (mr 18), .ref (mr 19), .ref (mr 20), .int (nI nse), .int (nI npa), .int (nI nbo), .ref (mr 21), .int (nI tn), .ref (mr 22), .int (nI ik), .int (j0), .int (j1), .ref (mr 23), .int (j2), .ref (mr 24), .ref (mr 25), .int (j3), .ref (mr 26), .int (j4), .ref (mr 27), .ref (mr 28), .ref (mr 29), .ref (mr 30)])), (mr 21, .inl (cy 1, 60, .inl (fun k => nI (tx9 k)))), (mr 24, .inl (cy 1, 20, .inl (fun k => nI (nn9 k)))), (mr 25, .inl (cy 1, 5, .inl (fun k => nI (nz9 k))))] ∧ twcB tx9 ss zs p0 z mq = true) ∨ (v9 = some (.int (nI 0)) ∧ w9 = [(mo, .inr (9, [.int (nI cols), .int (nI lc), .int (nI smp), .int (ky), .ref (mr 0), .ref (mr 1), .ref (mr 2), .ref (mr 3), .ref (mr 4), .ref (mr 5), .ref (mr 6), .ref (mr 7), .ref (mr 8), .ref (mr 9), .int (nI mk), .int (nI rs), .ref (mr 10), .ref (mr 11), .ref (mr 12), .ref (mr 13), .ref (mr 14), .ref (mr 15), .ref (mr 16), .ref (mr 17), .ref (mr 18), .ref (mr 19), .ref (mr 20), .int (nI nse), .int (nI npa), .int (nI nbo), .ref (mr 21), .int (nI tn), .ref (mr 22), .int (nI ik), .int (j0), .int (j1), .ref (mr 23), .int (j2), .ref (mr 24), .ref (mr 25), .int (j3), .ref (mr 26), .int (j4), .ref (mr 27), .ref (mr 28), .ref (mr 29), .ref (mr 30)])), (mr 21, .inl (cy 1, 60, .inl (fun k => nI (tx9 k)))), (mr 24, .inl (cy 1, 20, .inl (fun k => nI (nn9 k)))), (mr 25, .inl (cy 1, 5, .inl (fun k => nI (nz9 k))))] ∧ twcB tx9 ss zs p0 z mq = false)) := by
  refine xMet_of (cc := cX10_isTwice) (maxL := 8) (ret := (some .boolean)) (by decide) rfl (Nat.le_of_ble_eq_true rfl) (fun p e s m args below meth c A R Q hA hR hQ C hr hnm hro hX => ?_)
  have hw0 : ∀ w ∈ u_ws RX10 TX10 47, w ∈ wsX10_isTwice := by decide +kernel
  have hw1 : Cond.fieldLink RX10 83 (TX10 30).1 (TX10 30).2.1 (TX10 30).2.2.1 ∈ wsX10_isTwice := by decide +kernel
  refine x_L (L' := [(0, .ref mo), (1, .ref (mr 24)), (2, .ref (mr 25)), (3, .int (nI mq)), (4, .int (nI p0)), (5, .int (nI z))]) [0, 1, 2, 3, 4, 5] rfl ?_
  refine x_iconst C dX10_isTwice_0 (q := 1) rfl (v := nI 0) (by decide) ?_
  refine x_istore C (L' := [(6, .int (nI 0)), (0, .ref mo), (1, .ref (mr 24)), (2, .ref (mr 25)), (3, .int (nI mq)), (4, .int (nI p0)), (5, .int (nI z))]) dX10_isTwice_1 (q := 3) rfl (by decide) rfl ?_
  have cut3 : ∀ (fuel : Nat) (cq : Nat), (cq ≤ mq) → (twcB tx9 ss zs p0 z cq = false) → mq - cq < fuel → xG p l e R s m args below meth c Q D A 8 [(mo, .inr (9, [.int (nI cols), .int (nI lc), .int (nI smp), .int (ky), .ref (mr 0), .ref (mr 1), .ref (mr 2), .ref (mr 3), .ref (mr 4), .ref (mr 5), .ref (mr 6), .ref (mr 7), .ref (mr 8), .ref (mr 9), .int (nI mk), .int (nI rs), .ref (mr 10), .ref (mr 11), .ref (mr 12), .ref (mr 13), .ref (mr 14), .ref (mr 15), .ref (mr 16), .ref (mr 17), .ref (mr 18), .ref (mr 19), .ref (mr 20), .int (nI nse), .int (nI npa), .int (nI nbo), .ref (mr 21), .int (nI tn), .ref (mr 22), .int (nI ik), .int (j0), .int (j1), .ref (mr 23), .int (j2), .ref (mr 24), .ref (mr 25), .int (j3), .ref (mr 26), .int (j4), .ref (mr 27), .ref (mr 28), .ref (mr 29), .ref (mr 30)])), (mr 21, .inl (cy 1, 60, .inl (fun k => nI (tx9 k)))), (mr 24, .inl (cy 1, 20, .inl (fun k => nI (nn9 k)))), (mr 25, .inl (cy 1, 5, .inl (fun k => nI (nz9 k))))] 0 0 3 [(0, .ref mo), (1, .ref (mr 24)), (2, .ref (mr 25)), (3, .int (nI mq)), (4, .int (nI p0)), (5, .int (nI z)), (6, .int (nI cq))] [] := by
    intro fuel
    induction fuel with
    | zero =>
      intro cq hc ht hmu
      exact absurd hmu (Nat.not_lt_zero _)
    | succ fuel ih =>
      intro cq hc ht hmu
      have ih3 := ih
      clear ih
      refine x_iload C dX10_isTwice_3 (q := 5) rfl 6 rfl ?_
      refine x_iload_n C dX10_isTwice_5 (q := 6) rfl rfl 3 rfl ?_
      refine x_icmp_ge C (tgt := 80) dX10_isTwice_6 (by decide) (q := 9) rfl (a := ((cq : Nat) : Int)) (b := ((mq : Nat) : Int)) (nI_toInt (by omega)) (nI_toInt (by omega)) (fun h1 => ?_) (fun h1 => ?_)
      · first
        | (exfalso; omega)
        |
          refine x_iconst C dX10_isTwice_80 (q := 81) rfl (v := nI 0) (by decide) ?_
          refine x_zret C hA hQ hr (ty := .boolean) (by first | rfl | assumption | exact xz_nar _) dX10_isTwice_81 (Nat.le_of_ble_eq_true rfl) ?_
          exact Or.inr ⟨rfl, rfl, by rw [show mq = cq by omega]; exact ht⟩
      · first
        | (exfalso; omega)
        |
          have cut56 : ∀ (i : Nat), (i ≤ z) → (sameB tx9 (ss cq) p0 i = true) → (zs cq = z → i = z ∨ (i < z ∧ ¬ tx9 (ss cq + i) = tx9 (p0 + i))) → xG p l e R s m args below meth c Q D A 8 [(mo, .inr (9, [.int (nI cols), .int (nI lc), .int (nI smp), .int (ky), .ref (mr 0), .ref (mr 1), .ref (mr 2), .ref (mr 3), .ref (mr 4), .ref (mr 5), .ref (mr 6), .ref (mr 7), .ref (mr 8), .ref (mr 9), .int (nI mk), .int (nI rs), .ref (mr 10), .ref (mr 11), .ref (mr 12), .ref (mr 13), .ref (mr 14), .ref (mr 15), .ref (mr 16), .ref (mr 17), .ref (mr 18), .ref (mr 19), .ref (mr 20), .int (nI nse), .int (nI npa), .int (nI nbo), .ref (mr 21), .int (nI tn), .ref (mr 22), .int (nI ik), .int (j0), .int (j1), .ref (mr 23), .int (j2), .ref (mr 24), .ref (mr 25), .int (j3), .ref (mr 26), .int (j4), .ref (mr 27), .ref (mr 28), .ref (mr 29), .ref (mr 30)])), (mr 21, .inl (cy 1, 60, .inl (fun k => nI (tx9 k)))), (mr 24, .inl (cy 1, 20, .inl (fun k => nI (nn9 k)))), (mr 25, .inl (cy 1, 5, .inl (fun k => nI (nz9 k))))] 0 0 56 [(0, .ref mo), (1, .ref (mr 24)), (2, .ref (mr 25)), (3, .int (nI mq)), (4, .int (nI p0)), (5, .int (nI z)), (6, .int (nI cq)), (7, .int (nI i))] [] := by
            intro i hi hsb hst9
            have hr9 := hro9 cq (by omega)
            refine x_aload_n C dX10_isTwice_56 (q := 57) rfl rfl 2 rfl ?_
            refine x_iload C dX10_isTwice_57 (q := 59) rfl 6 rfl ?_
            have hb2 := hnz cq
            refine x_iald C (j := cq) (v := nI (nz9 cq)) 3 rfl (nI_toInt (by omega)) (by omega) rfl dX10_isTwice_59 (q := 60) rfl ?_
            refine x_iload C dX10_isTwice_60 (q := 62) rfl 5 rfl ?_
            refine x_icmp_ne C (tgt := 74) dX10_isTwice_62 (by decide) (q := 65) rfl (a := ((nz9 cq : Nat) : Int)) (b := ((z : Nat) : Int)) (nI_toInt (by omega)) (nI_toInt (by omega)) (fun h3 => ?_) (fun h3 => ?_)
            · first
              | (exfalso; omega)
              |
                refine x_iinc C (L' := [(6, .int (nI (cq + 1))), (0, .ref mo), (1, .ref (mr 24)), (2, .ref (mr 25)), (3, .int (nI mq)), (4, .int (nI p0)), (5, .int (nI z)), (7, .int (nI i))]) dX10_isTwice_74 (q := 77) rfl 6 rfl (v := nI (cq + 1)) (nI_add cq 1) (by decide) rfl ?_
                refine x_goto C (tgt := 3) dX10_isTwice_77 (by decide) ?_
                refine x_L (L' := [(0, .ref mo), (1, .ref (mr 24)), (2, .ref (mr 25)), (3, .int (nI mq)), (4, .int (nI p0)), (5, .int (nI z)), (6, .int (nI (cq + 1)))]) [1, 2, 3, 4, 5, 6, 0] rfl ?_
                exact ih3 (cq + 1) (by first | omega | assumption) (by unfold twcB; rw [ht, Bool.false_or]; cases e8 : ((zs cq == z) && sameB tx9 (ss cq) p0 z) with | false => rfl | true => exact absurd e8 (by intro e7; rw [Bool.and_eq_true, beq_iff_eq] at e7; have e6 := hst9 e7.1; (rcases e6 with e6 | e6; omega; exact e6.2 (sameB_t.mp e7.2 i e6.1)))) (by omega)
            · first
              | (exfalso; omega)
              |
                refine x_iload C dX10_isTwice_65 (q := 67) rfl 7 rfl ?_
                refine x_iload C dX10_isTwice_67 (q := 69) rfl 5 rfl ?_
                refine x_icmp_ne C (tgt := 74) dX10_isTwice_69 (by decide) (q := 72) rfl (a := ((i : Nat) : Int)) (b := ((z : Nat) : Int)) (nI_toInt (by omega)) (nI_toInt (by omega)) (fun h4 => ?_) (fun h4 => ?_)
                · first
                  | (exfalso; omega)
                  |
                    refine x_iinc C (L' := [(6, .int (nI (cq + 1))), (0, .ref mo), (1, .ref (mr 24)), (2, .ref (mr 25)), (3, .int (nI mq)), (4, .int (nI p0)), (5, .int (nI z)), (7, .int (nI i))]) dX10_isTwice_74 (q := 77) rfl 6 rfl (v := nI (cq + 1)) (nI_add cq 1) (by decide) rfl ?_
                    refine x_goto C (tgt := 3) dX10_isTwice_77 (by decide) ?_
                    refine x_L (L' := [(0, .ref mo), (1, .ref (mr 24)), (2, .ref (mr 25)), (3, .int (nI mq)), (4, .int (nI p0)), (5, .int (nI z)), (6, .int (nI (cq + 1)))]) [1, 2, 3, 4, 5, 6, 0] rfl ?_
                    exact ih3 (cq + 1) (by first | omega | assumption) (by unfold twcB; rw [ht, Bool.false_or]; cases e8 : ((zs cq == z) && sameB tx9 (ss cq) p0 z) with | false => rfl | true => exact absurd e8 (by intro e7; rw [Bool.and_eq_true, beq_iff_eq] at e7; have e6 := hst9 e7.1; (rcases e6 with e6 | e6; omega; exact e6.2 (sameB_t.mp e7.2 i e6.1)))) (by omega)
                · first
                  | (exfalso; omega)
                  |
                    refine x_iconst C dX10_isTwice_72 (q := 73) rfl (v := nI 1) (by decide) ?_
                    refine x_zret C hA hQ hr (ty := .boolean) (by first | rfl | assumption | exact xz_nar _) dX10_isTwice_73 (Nat.le_of_ble_eq_true rfl) ?_
                    refine Or.inl ⟨rfl, rfl, ?_⟩
                    cases e9 : twcB tx9 ss zs p0 z mq with
                    | true => rfl
                    | false => exact absurd ⟨(by omega : zs cq = z), by have e8 := hsb; rw [show i = z by omega] at e8; exact e8⟩ (twcB_f.mp e9 cq (by omega))
          refine x_iconst C dX10_isTwice_9 (q := 10) rfl (v := nI 0) (by decide) ?_
          refine x_istore C (L' := [(7, .int (nI 0)), (0, .ref mo), (1, .ref (mr 24)), (2, .ref (mr 25)), (3, .int (nI mq)), (4, .int (nI p0)), (5, .int (nI z)), (6, .int (nI cq))]) dX10_isTwice_10 (q := 12) rfl (by decide) rfl ?_
          have cut12 : ∀ (fuel : Nat) (i : Nat), (i ≤ z) → (0 < i → zs cq = z) → (sameB tx9 (ss cq) p0 i = true) → z - i < fuel → xG p l e R s m args below meth c Q D A 8 [(mo, .inr (9, [.int (nI cols), .int (nI lc), .int (nI smp), .int (ky), .ref (mr 0), .ref (mr 1), .ref (mr 2), .ref (mr 3), .ref (mr 4), .ref (mr 5), .ref (mr 6), .ref (mr 7), .ref (mr 8), .ref (mr 9), .int (nI mk), .int (nI rs), .ref (mr 10), .ref (mr 11), .ref (mr 12), .ref (mr 13), .ref (mr 14), .ref (mr 15), .ref (mr 16), .ref (mr 17), .ref (mr 18), .ref (mr 19), .ref (mr 20), .int (nI nse), .int (nI npa), .int (nI nbo), .ref (mr 21), .int (nI tn), .ref (mr 22), .int (nI ik), .int (j0), .int (j1), .ref (mr 23), .int (j2), .ref (mr 24), .ref (mr 25), .int (j3), .ref (mr 26), .int (j4), .ref (mr 27), .ref (mr 28), .ref (mr 29), .ref (mr 30)])), (mr 21, .inl (cy 1, 60, .inl (fun k => nI (tx9 k)))), (mr 24, .inl (cy 1, 20, .inl (fun k => nI (nn9 k)))), (mr 25, .inl (cy 1, 5, .inl (fun k => nI (nz9 k))))] 0 0 12 [(0, .ref mo), (1, .ref (mr 24)), (2, .ref (mr 25)), (3, .int (nI mq)), (4, .int (nI p0)), (5, .int (nI z)), (6, .int (nI cq)), (7, .int (nI i))] [] := by
            intro fuel
            induction fuel with
            | zero =>
              intro i hi hiz hsb hmu
              exact absurd hmu (Nat.not_lt_zero _)
            | succ fuel ih =>
              intro i hi hiz hsb hmu
              have hr9 := hro9 cq (by omega)
              have ih12 := ih
              clear ih
              refine x_iload C dX10_isTwice_12 (q := 14) rfl 7 rfl ?_
              refine x_iload C dX10_isTwice_14 (q := 16) rfl 5 rfl ?_
              refine x_icmp_ge C (tgt := 56) dX10_isTwice_16 (by decide) (q := 19) rfl (a := ((i : Nat) : Int)) (b := ((z : Nat) : Int)) (nI_toInt (by omega)) (nI_toInt (by omega)) (fun h5 => ?_) (fun h5 => ?_)
              · first
                | (exfalso; omega)
                |
                  exact cut56 i (by first | omega | assumption) (by first | omega | assumption) (by intro e5; by_cases e4 : i = z; exact Or.inl e4; (have e3 := hr9.2 i (by omega); exact Or.inr ⟨by omega, by omega⟩))
              · first
                | (exfalso; omega)
                |
                  refine x_aload_n C dX10_isTwice_19 (q := 20) rfl rfl 2 rfl ?_
                  refine x_iload C dX10_isTwice_20 (q := 22) rfl 6 rfl ?_
                  have hb6 := hnz cq
                  refine x_iald C (j := cq) (v := nI (nz9 cq)) 3 rfl (nI_toInt (by omega)) (by omega) rfl dX10_isTwice_22 (q := 23) rfl ?_
                  refine x_iload C dX10_isTwice_23 (q := 25) rfl 5 rfl ?_
                  refine x_icmp_ne C (tgt := 56) dX10_isTwice_25 (by decide) (q := 28) rfl (a := ((nz9 cq : Nat) : Int)) (b := ((z : Nat) : Int)) (nI_toInt (by omega)) (nI_toInt (by omega)) (fun h7 => ?_) (fun h7 => ?_)
                  · first
                    | (exfalso; omega)
                    |
                      exact cut56 i (by first | omega | assumption) (by first | omega | assumption) (by intro e5; by_cases e4 : i = z; exact Or.inl e4; (have e3 := hr9.2 i (by omega); exact Or.inr ⟨by omega, by omega⟩))
                  · first
                    | (exfalso; omega)
                    |
                      refine x_aload_n C dX10_isTwice_28 (q := 29) rfl rfl 1 rfl ?_
                      refine x_iconst C dX10_isTwice_29 (q := 30) rfl (v := nI 4) (by decide) ?_
                      refine x_iload C dX10_isTwice_30 (q := 32) rfl 6 rfl ?_
                      refine x_imul C dX10_isTwice_32 (q := 33) rfl (z := nI (4 * cq)) (pk_mul 4 cq) ?_
                      refine x_iload C dX10_isTwice_33 (q := 35) rfl 7 rfl ?_
                      refine x_iadd C dX10_isTwice_35 (q := 36) rfl (z := nI (4 * cq + i)) (nI_add (4 * cq) i) ?_
                      have hb8 := hnn (4 * cq + i)
                      refine x_iald C (j := 4 * cq + i) (v := nI (nn9 (4 * cq + i))) 2 rfl (nI_toInt (by omega)) (by omega) rfl dX10_isTwice_36 (q := 37) rfl ?_
                      refine x_aload_n C dX10_isTwice_37 (q := 38) rfl rfl 0 rfl ?_
                      refine x_get C (ci := 9) (v := .ref (mr 21)) hw0 0 rfl rfl 30 (by decide) hw1 rfl dX10_isTwice_38 (q := 41) rfl ?_
                      refine x_iload C dX10_isTwice_41 (q := 43) rfl 4 rfl ?_
                      refine x_iload C dX10_isTwice_43 (q := 45) rfl 7 rfl ?_
                      refine x_iadd C dX10_isTwice_45 (q := 46) rfl (z := nI (p0 + i)) (nI_add p0 i) ?_
                      have hb9 := htx (p0 + i)
                      refine x_iald C (j := p0 + i) (v := nI (tx9 (p0 + i))) 1 rfl (nI_toInt (by omega)) (by omega) rfl dX10_isTwice_46 (q := 47) rfl ?_
                      refine x_icmp_ne C (tgt := 56) dX10_isTwice_47 (by decide) (q := 50) rfl (a := ((nn9 (4 * cq + i) : Nat) : Int)) (b := ((tx9 (p0 + i) : Nat) : Int)) (nI_toInt (by omega)) (nI_toInt (by omega)) (fun h10 => ?_) (fun h10 => ?_)
                      · first
                        | (exfalso; omega)
                        |
                          exact cut56 i (by first | omega | assumption) (by first | omega | assumption) (by intro e5; by_cases e4 : i = z; exact Or.inl e4; (have e3 := hr9.2 i (by omega); exact Or.inr ⟨by omega, by omega⟩))
                      · first
                        | (exfalso; omega)
                        |
                          refine x_iinc C (L' := [(7, .int (nI (i + 1))), (0, .ref mo), (1, .ref (mr 24)), (2, .ref (mr 25)), (3, .int (nI mq)), (4, .int (nI p0)), (5, .int (nI z)), (6, .int (nI cq))]) dX10_isTwice_50 (q := 53) rfl 7 rfl (v := nI (i + 1)) (nI_add i 1) (by decide) rfl ?_
                          refine x_goto C (tgt := 12) dX10_isTwice_53 (by decide) ?_
                          refine x_L (L' := [(0, .ref mo), (1, .ref (mr 24)), (2, .ref (mr 25)), (3, .int (nI mq)), (4, .int (nI p0)), (5, .int (nI z)), (6, .int (nI cq)), (7, .int (nI (i + 1)))]) [1, 2, 3, 4, 5, 6, 7, 0] rfl ?_
                          exact ih12 (i + 1) (by first | omega | assumption) (by intro _; omega) (by unfold sameB; rw [Bool.and_eq_true, beq_iff_eq]; exact ⟨hsb, by have e5 := hr9.2 i (by omega); omega⟩) (by omega)
          refine x_L (L' := [(0, .ref mo), (1, .ref (mr 24)), (2, .ref (mr 25)), (3, .int (nI mq)), (4, .int (nI p0)), (5, .int (nI z)), (6, .int (nI cq)), (7, .int (nI 0))]) [1, 2, 3, 4, 5, 6, 7, 0] rfl ?_
          exact cut12 (z - 0 + 1) 0 (by first | omega | assumption) (by intro h0; omega) (by rfl) (by omega)
  refine x_L (L' := [(0, .ref mo), (1, .ref (mr 24)), (2, .ref (mr 25)), (3, .int (nI mq)), (4, .int (nI p0)), (5, .int (nI z)), (6, .int (nI 0))]) [1, 2, 3, 4, 5, 6, 0] rfl ?_
  exact cut3 (mq - 0 + 1) 0 (by first | omega | assumption) (by rfl) (by omega)


/-- names stand laid out -/
def nmO (tx nn nz ss zs : Nat → Nat) (m : Nat) : Prop := ∀ c, c < m → nz c = zs c ∧ ∀ k, k < zs c → nn (4 * c + k) = tx (ss c + k)
theorem nmO_up {tx nn nn' nz ss zs : Nat → Nat} {m p z : Nat} (h : nmO tx nn nz ss zs m) (hz4 : ∀ c, zs c ≤ 4) (h1 : ∀ q, q < 4 * m → nn' q = nn q) (h2 : ∀ q, q < z → nn' (4 * m + q) = tx (p + q)) : nmO tx nn' (va_up nz m z) (va_up ss m p) (va_up zs m z) (m + 1) := fun c hc => by
  by_cases e : c = m
  · subst e
    rw [va_up_eq, va_up_eq, va_up_eq]
    exact ⟨rfl, fun k hk => h2 k hk⟩
  · rw [va_up_ne' e, va_up_ne' e, va_up_ne' e]
    have h3 := h c (by omega)
    refine ⟨h3.1, fun k hk => ?_⟩
    have := hz4 c
    rw [h1 _ (by omega)]
    exact h3.2 k hk

set_option maxHeartbeats 4000000 in
set_option maxRecDepth 100000 in
/-- goesThrough -/
theorem c_X10_goesThrough (l : Launch) (D : va_G) (cy : Nat → ClassId) (mo : Nat) (mr : Nat → Nat) (cols : Nat) (lc : Nat) (smp : Nat) (mk : Nat) (rs : Nat) (nse : Nat) (npa : Nat) (nbo : Nat) (tn : Nat) (ik : Nat) (ky : Int32) (j0 : Int32) (j1 : Int32) (j2 : Int32) (j3 : Int32) (j4 : Int32) (tx9 : Nat → Nat) (nn9 : Nat → Nat) (nz9 : Nat → Nat) (htn : tn ≤ 60) (htx : ∀ k, tx9 k < 128) (hnn : ∀ k, nn9 k < 128) (hnz : ∀ k, nz9 k ≤ 4) : xMet l D cy xT yX10_goesThrough wsX10_goesThrough ({ frames := 4, cells := 0, slots := 0, locals := 500 } : Room) [.ref mo] [(mo, .inr (9, [.int (nI cols), .int (nI lc), .int (nI smp), .int (ky), .ref (mr 0), .ref (mr 1), .ref (mr 2), .ref (mr 3), .ref (mr 4), .ref (mr 5), .ref (mr 6), .ref (mr 7), .ref (mr 8), .ref (mr 9), .int (nI mk), .int (nI rs), .ref (mr 10), .ref (mr 11), .ref (mr 12), .ref (mr 13), .ref (mr 14), .ref (mr 15), .ref (mr 16), .ref (mr 17), .ref (mr 18), .ref (mr 19), .ref (mr 20), .int (nI nse), .int (nI npa), .int (nI nbo), .ref (mr 21), .int (nI tn), .ref (mr 22), .int (nI ik), .int (j0), .int (j1), .ref (mr 23), .int (j2), .ref (mr 24), .ref (mr 25), .int (j3), .ref (mr 26), .int (j4), .ref (mr 27), .ref (mr 28), .ref (mr 29), .ref (mr 30)])), (mr 21, .inl (cy 1, 60, .inl (fun k => nI (tx9 k)))), (mr 24, .inl (cy 1, 20, .inl (fun k => nI (nn9 k)))), (mr 25, .inl (cy 1, 5, .inl (fun k => nI (nz9 k))))] [] (fun (v9 : Option Value) (w9 : va_W) => (∃ r : Int32, ∃ m2 : Nat, ∃ ss2 : Nat → Nat, ∃ zs2 : Nat → Nat, ∃ nn2 : Nat → Nat, ∃ nz2 : Nat → Nat, v9 = some (.int (r)) ∧ w9 = [(mo, .inr (9, [.int (nI cols), .int (nI lc), .int (nI smp), .int (ky), .ref (mr 0), .ref (mr 1), .ref (mr 2), .ref (mr 3), .ref (mr 4), .ref (mr 5), .ref (mr 6), .ref (mr 7), .ref (mr 8), .ref (mr 9), .int (nI mk), .int (nI rs), .ref (mr 10), .ref (mr 11), .ref (mr 12), .ref (mr 13), .ref (mr 14), .ref (mr 15), .ref (mr 16), .ref (mr 17), .ref (mr 18), .ref (mr 19), .ref (mr 20), .int (nI nse), .int (nI npa), .int (nI nbo), .ref (mr 21), .int (nI tn), .ref (mr 22), .int (nI ik), .int (j0), .int (j1), .ref (mr 23), .int (j2), .ref (mr 24), .ref (mr 25), .int (nI m2), .ref (mr 26), .int (j4), .ref (mr 27), .ref (mr 28), .ref (mr 29), .ref (mr 30)])), (mr 21, .inl (cy 1, 60, .inl (fun k => nI (tx9 k)))), (mr 24, .inl (cy 1, 20, .inl (fun k => nI (nn2 k)))), (mr 25, .inl (cy 1, 5, .inl (fun k => nI (nz2 k))))] ∧ hdR tx9 tn 5 (fun _ => 0) (fun _ => 0) 0 0 = (r.toInt, m2, ss2, zs2) ∧ m2 ≤ 5 ∧ (∀ c, c < m2 → nz2 c = zs2 c) ∧ (∀ k, nn2 k < 128) ∧ (∀ k, nz2 k ≤ 4) ∧ (∀ k, zs2 k ≤ 4))) := by
  refine xMet_of (cc := cX10_goesThrough) (maxL := 4) (ret := (some .int)) (by decide) rfl (Nat.le_of_ble_eq_true rfl) (fun p e s m args below meth c A R Q hA hR hQ C hr hnm hro hX => ?_)
  have hw0 : ∀ w ∈ u_ws RX10 TX10 47, w ∈ wsX10_goesThrough := by decide +kernel
  have hw1 : Cond.fieldLink RX10 185 (TX10 40).1 (TX10 40).2.1 (TX10 40).2.2.1 ∈ wsX10_goesThrough := by decide +kernel
  have hw2 : Cond.fieldLink RX10 92 (TX10 38).1 (TX10 38).2.1 (TX10 38).2.2.1 ∈ wsX10_goesThrough := by decide +kernel
  have hw3 : Cond.fieldLink RX10 95 (TX10 39).1 (TX10 39).2.1 (TX10 39).2.2.1 ∈ wsX10_goesThrough := by decide +kernel
  have hw4 : Cond.fieldLink RX10 178 (TX10 31).1 (TX10 31).2.1 (TX10 31).2.2.1 ∈ wsX10_goesThrough := by decide +kernel
  have hw5 : Cond.fieldLink RX10 83 (TX10 30).1 (TX10 30).2.1 (TX10 30).2.2.1 ∈ wsX10_goesThrough := by decide +kernel
  refine x_L (L' := [(0, .ref mo)]) [0] rfl ?_
  refine x_aload_n C dX10_goesThrough_0 (q := 1) rfl rfl 0 rfl ?_
  refine x_iconst C dX10_goesThrough_1 (q := 2) rfl (v := nI 0) (by decide) ?_
  refine x_put C (ci := 9) (ty := .int) (ws' := [(mo, .inr (9, [.int (nI cols), .int (nI lc), .int (nI smp), .int (ky), .ref (mr 0), .ref (mr 1), .ref (mr 2), .ref (mr 3), .ref (mr 4), .ref (mr 5), .ref (mr 6), .ref (mr 7), .ref (mr 8), .ref (mr 9), .int (nI mk), .int (nI rs), .ref (mr 10), .ref (mr 11), .ref (mr 12), .ref (mr 13), .ref (mr 14), .ref (mr 15), .ref (mr 16), .ref (mr 17), .ref (mr 18), .ref (mr 19), .ref (mr 20), .int (nI nse), .int (nI npa), .int (nI nbo), .ref (mr 21), .int (nI tn), .ref (mr 22), .int (nI ik), .int (j0), .int (j1), .ref (mr 23), .int (j2), .ref (mr 24), .ref (mr 25), .int (nI 0), .ref (mr 26), .int (j4), .ref (mr 27), .ref (mr 28), .ref (mr 29), .ref (mr 30)])), (mr 21, .inl (cy 1, 60, .inl (fun k => nI (tx9 k)))), (mr 24, .inl (cy 1, 20, .inl (fun k => nI (nn9 k)))), (mr 25, .inl (cy 1, 5, .inl (fun k => nI (nz9 k))))]) hw0 tyX10 tyX10_ok nmX10 0 rfl rfl 40 (by decide) hw1 rfl (by decide +kernel) rfl rfl (Nat.le_of_ble_eq_true rfl) rfl dX10_goesThrough_2 (q := 5) rfl ?_
  refine x_iconst C dX10_goesThrough_5 (q := 6) rfl (v := nI 0) (by decide) ?_
  refine x_istore_n C (L' := [(1, .int (nI 0)), (0, .ref mo)]) dX10_goesThrough_6 (q := 7) rfl rfl (by decide) rfl ?_
  have cut7 : ∀ (fuel : Nat) (m1 : Nat) (ss1 : Nat → Nat) (zs1 : Nat → Nat) (nn1 : Nat → Nat) (nz1 : Nat → Nat) (p1 : Nat), (m1 ≤ 4) → (p1 ≤ tn) → (∀ c, zs1 c ≤ 4) → (∀ k, nn1 k < 128) → (∀ k, nz1 k ≤ 4) → (nmO tx9 nn1 nz1 ss1 zs1 m1) → (hdR tx9 tn 5 (fun _ => 0) (fun _ => 0) 0 0 = hdR tx9 tn (5 - m1) ss1 zs1 m1 p1) → 5 - m1 < fuel → xG p l e R s m args below meth c Q D A 4 [(mo, .inr (9, [.int (nI cols), .int (nI lc), .int (nI smp), .int (ky), .ref (mr 0), .ref (mr 1), .ref (mr 2), .ref (mr 3), .ref (mr 4), .ref (mr 5), .ref (mr 6), .ref (mr 7), .ref (mr 8), .ref (mr 9), .int (nI mk), .int (nI rs), .ref (mr 10), .ref (mr 11), .ref (mr 12), .ref (mr 13), .ref (mr 14), .ref (mr 15), .ref (mr 16), .ref (mr 17), .ref (mr 18), .ref (mr 19), .ref (mr 20), .int (nI nse), .int (nI npa), .int (nI nbo), .ref (mr 21), .int (nI tn), .ref (mr 22), .int (nI ik), .int (j0), .int (j1), .ref (mr 23), .int (j2), .ref (mr 24), .ref (mr 25), .int (nI m1), .ref (mr 26), .int (j4), .ref (mr 27), .ref (mr 28), .ref (mr 29), .ref (mr 30)])), (mr 21, .inl (cy 1, 60, .inl (fun k => nI (tx9 k)))), (mr 24, .inl (cy 1, 20, .inl (fun k => nI (nn1 k)))), (mr 25, .inl (cy 1, 5, .inl (fun k => nI (nz1 k))))] 0 0 7 [(0, .ref mo), (1, .int (nI p1))] [] := by
    intro fuel
    induction fuel with
    | zero =>
      intro m1 ss1 zs1 nn1 nz1 p1 hm1 hp1 hz1 hnn1 hnz1 hro9 he hmu
      exact absurd hmu (Nat.not_lt_zero _)
    | succ fuel ih =>
      intro m1 ss1 zs1 nn1 nz1 p1 hm1 hp1 hz1 hnn1 hnz1 hro9 he hmu
      have hll := ltr_le tx9 tn p1
      have hli := ltr_in (tx := tx9) hp1
      have ih7 := ih
      clear ih
      refine x_iconst C dX10_goesThrough_7 (q := 8) rfl (v := nI 0) (by decide) ?_
      have cut30 : ∀ (sz : Nat), (sz = ltr tx9 tn p1) → xG p l e R s m args below meth c Q D A 4 [(mo, .inr (9, [.int (nI cols), .int (nI lc), .int (nI smp), .int (ky), .ref (mr 0), .ref (mr 1), .ref (mr 2), .ref (mr 3), .ref (mr 4), .ref (mr 5), .ref (mr 6), .ref (mr 7), .ref (mr 8), .ref (mr 9), .int (nI mk), .int (nI rs), .ref (mr 10), .ref (mr 11), .ref (mr 12), .ref (mr 13), .ref (mr 14), .ref (mr 15), .ref (mr 16), .ref (mr 17), .ref (mr 18), .ref (mr 19), .ref (mr 20), .int (nI nse), .int (nI npa), .int (nI nbo), .ref (mr 21), .int (nI tn), .ref (mr 22), .int (nI ik), .int (j0), .int (j1), .ref (mr 23), .int (j2), .ref (mr 24), .ref (mr 25), .int (nI m1), .ref (mr 26), .int (j4), .ref (mr 27), .ref (mr 28), .ref (mr 29), .ref (mr 30)])), (mr 21, .inl (cy 1, 60, .inl (fun k => nI (tx9 k)))), (mr 24, .inl (cy 1, 20, .inl (fun k => nI (nn1 k)))), (mr 25, .inl (cy 1, 5, .inl (fun k => nI (nz1 k))))] 0 0 30 [(0, .ref mo), (1, .int (nI p1)), (2, .int (nI sz))] [] := by
        intro sz hsz
        refine x_iload_n C dX10_goesThrough_30 (q := 31) rfl rfl 2 rfl ?_
        refine x_if_eq C (tgt := 55) dX10_goesThrough_31 (by decide) (q := 34) rfl (a := ((sz : Nat) : Int)) (nI_toInt (by omega)) (fun h1 => ?_) (fun h1 => ?_)
        · first
          | (exfalso; omega)
          |
            refine x_iload_n C dX10_goesThrough_55 (q := 56) rfl rfl 1 rfl ?_
            refine x_iret C hA hQ hr dX10_goesThrough_56 (Nat.le_of_ble_eq_true rfl) ?_
            refine ⟨_, m1, ss1, zs1, nn1, nz1, rfl, rfl, ?_, by omega, fun c hc => (hro9 c hc).1, hnn1, hnz1, hz1⟩
            rw [he, show 5 - m1 = (5 - (m1 + 1)) + 1 by omega]; unfold hdR
            rw [if_pos (by first | exact Or.inl (by omega) | exact Or.inr (by first | assumption | (rw [← hsz]; assumption))), nI_toInt (by omega)]
        · first
          | (exfalso; omega)
          |
            refine x_aload_n C dX10_goesThrough_34 (q := 35) rfl rfl 0 rfl ?_
            refine x_aload_n C dX10_goesThrough_35 (q := 36) rfl rfl 0 rfl ?_
            refine x_get C (ci := 9) (v := .ref (mr 24)) hw0 0 rfl rfl 38 (by decide) hw2 rfl dX10_goesThrough_36 (q := 39) rfl ?_
            refine x_aload_n C dX10_goesThrough_39 (q := 40) rfl rfl 0 rfl ?_
            refine x_get C (ci := 9) (v := .ref (mr 25)) hw0 0 rfl rfl 39 (by decide) hw3 rfl dX10_goesThrough_40 (q := 43) rfl ?_
            refine x_aload_n C dX10_goesThrough_43 (q := 44) rfl rfl 0 rfl ?_
            refine x_get C (ci := 9) (v := .int (nI m1)) hw0 0 rfl rfl 40 (by decide) hw1 rfl dX10_goesThrough_44 (q := 47) rfl ?_
            refine x_iload_n C dX10_goesThrough_47 (q := 48) rfl rfl 1 rfl ?_
            refine x_iload_n C dX10_goesThrough_48 (q := 49) rfl rfl 2 rfl ?_
            refine x_callV C (roW := []) (roR := []) (c_X10_isTwice l D cy mo mr cols lc smp mk rs nse npa nbo tn ik ky j0 j1 j2 (nI m1) j4 tx9 nn1 nz1 ss1 zs1 m1 p1 sz (by first | assumption | omega | (simp only []; omega)) (by assumption) (by assumption) (by assumption) (by first | assumption | omega | (simp only []; omega)) (by first | assumption | omega | (simp only []; omega)) (by first | assumption | omega | (simp only []; omega)) (by exact hro9)) (cwV 5 C.2.2.2.2.1 gX10_goesThrough_X10_isTwice rfl rfl rfl (by decide +kernel) (by rw [hR]; exact ⟨Nat.le_of_ble_eq_true rfl, Nat.le_of_ble_eq_true rfl⟩)) [0, 1, 2, 3] [] rfl (by decide) rfl (by decide) xro_nil (List.mem_of_getElem? (i := 0) rfl) (ci := 9) rfl xT_bl (fun _ _ _ _ _ _ _ => trivial) rfl rfl dX10_goesThrough_49 rfl rfl (Nat.le_of_ble_eq_true rfl) (q := 52) rfl (k' := 0) rfl (n' := 0) rfl (by rw [hR]; exact ⟨Nat.le_of_ble_eq_true rfl, Nat.le_of_ble_eq_true rfl⟩) (fun v2 w2 hp2 => ?_)
            rcases hp2 with hp2 | hp2
            · skip
              obtain ⟨rfl, rfl, hc3⟩ := hp2
              refine x_ws (ws' := [(mo, .inr (9, [.int (nI cols), .int (nI lc), .int (nI smp), .int (ky), .ref (mr 0), .ref (mr 1), .ref (mr 2), .ref (mr 3), .ref (mr 4), .ref (mr 5), .ref (mr 6), .ref (mr 7), .ref (mr 8), .ref (mr 9), .int (nI mk), .int (nI rs), .ref (mr 10), .ref (mr 11), .ref (mr 12), .ref (mr 13), .ref (mr 14), .ref (mr 15), .ref (mr 16), .ref (mr 17), .ref (mr 18), .ref (mr 19), .ref (mr 20), .int (nI nse), .int (nI npa), .int (nI nbo), .ref (mr 21), .int (nI tn), .ref (mr 22), .int (nI ik), .int (j0), .int (j1), .ref (mr 23), .int (j2), .ref (mr 24), .ref (mr 25), .int (nI m1), .ref (mr 26), .int (j4), .ref (mr 27), .ref (mr 28), .ref (mr 29), .ref (mr 30)])), (mr 21, .inl (cy 1, 60, .inl (fun k => nI (tx9 k)))), (mr 24, .inl (cy 1, 20, .inl (fun k => nI (nn1 k)))), (mr 25, .inl (cy 1, 5, .inl (fun k => nI (nz1 k))))]) rfl ?_
              refine x_if_eq C (tgt := 57) dX10_goesThrough_52 (by decide) (q := 55) rfl (a := 1) rfl (fun h4 => (by omega : False).elim) (fun h4 => ?_)
              refine x_iload_n C dX10_goesThrough_55 (q := 56) rfl rfl 1 rfl ?_
              refine x_iret C hA hQ hr dX10_goesThrough_56 (Nat.le_of_ble_eq_true rfl) ?_
              refine ⟨_, m1, ss1, zs1, nn1, nz1, rfl, rfl, ?_, by omega, fun c hc => (hro9 c hc).1, hnn1, hnz1, hz1⟩
              rw [he, show 5 - m1 = (5 - (m1 + 1)) + 1 by omega]; unfold hdR
              rw [if_pos (by first | exact Or.inl (by omega) | exact Or.inr (by first | assumption | (rw [← hsz]; assumption))), nI_toInt (by omega)]
            · skip
              obtain ⟨rfl, rfl, hc5⟩ := hp2
              refine x_ws (ws' := [(mo, .inr (9, [.int (nI cols), .int (nI lc), .int (nI smp), .int (ky), .ref (mr 0), .ref (mr 1), .ref (mr 2), .ref (mr 3), .ref (mr 4), .ref (mr 5), .ref (mr 6), .ref (mr 7), .ref (mr 8), .ref (mr 9), .int (nI mk), .int (nI rs), .ref (mr 10), .ref (mr 11), .ref (mr 12), .ref (mr 13), .ref (mr 14), .ref (mr 15), .ref (mr 16), .ref (mr 17), .ref (mr 18), .ref (mr 19), .ref (mr 20), .int (nI nse), .int (nI npa), .int (nI nbo), .ref (mr 21), .int (nI tn), .ref (mr 22), .int (nI ik), .int (j0), .int (j1), .ref (mr 23), .int (j2), .ref (mr 24), .ref (mr 25), .int (nI m1), .ref (mr 26), .int (j4), .ref (mr 27), .ref (mr 28), .ref (mr 29), .ref (mr 30)])), (mr 21, .inl (cy 1, 60, .inl (fun k => nI (tx9 k)))), (mr 24, .inl (cy 1, 20, .inl (fun k => nI (nn1 k)))), (mr 25, .inl (cy 1, 5, .inl (fun k => nI (nz1 k))))]) rfl ?_
              refine x_if_eq C (tgt := 57) dX10_goesThrough_52 (by decide) (q := 55) rfl (a := 0) rfl (fun h6 => ?_) (fun h6 => (by omega : False).elim)
              have cut101 : ∀ (nq : Nat → Nat), (∀ q, q < 4 * m1 → nq q = nn1 q) → (∀ q, q < sz → nq (4 * m1 + q) = tx9 (p1 + q)) → (∀ k, nq k < 128) → (twcB tx9 ss1 zs1 p1 sz m1 = false) → (¬ sz = 0) → xG p l e R s m args below meth c Q D A 4 [(mo, .inr (9, [.int (nI cols), .int (nI lc), .int (nI smp), .int (ky), .ref (mr 0), .ref (mr 1), .ref (mr 2), .ref (mr 3), .ref (mr 4), .ref (mr 5), .ref (mr 6), .ref (mr 7), .ref (mr 8), .ref (mr 9), .int (nI mk), .int (nI rs), .ref (mr 10), .ref (mr 11), .ref (mr 12), .ref (mr 13), .ref (mr 14), .ref (mr 15), .ref (mr 16), .ref (mr 17), .ref (mr 18), .ref (mr 19), .ref (mr 20), .int (nI nse), .int (nI npa), .int (nI nbo), .ref (mr 21), .int (nI tn), .ref (mr 22), .int (nI ik), .int (j0), .int (j1), .ref (mr 23), .int (j2), .ref (mr 24), .ref (mr 25), .int (nI m1), .ref (mr 26), .int (j4), .ref (mr 27), .ref (mr 28), .ref (mr 29), .ref (mr 30)])), (mr 21, .inl (cy 1, 60, .inl (fun k => nI (tx9 k)))), (mr 24, .inl (cy 1, 20, .inl (fun k => nI (nq k)))), (mr 25, .inl (cy 1, 5, .inl (fun k => nI ((va_up nz1 m1 sz) k))))] 0 0 101 [(0, .ref mo), (1, .int (nI p1)), (2, .int (nI sz))] [] := by
                intro nq hq1 hq2 hq3 hn9 hs0
                refine x_aload_n C dX10_goesThrough_101 (q := 102) rfl rfl 0 rfl ?_
                refine x_dup C dX10_goesThrough_102 (q := 103) rfl rfl ?_
                refine x_get C (ci := 9) (v := .int (nI m1)) hw0 0 rfl rfl 40 (by decide) hw1 rfl dX10_goesThrough_103 (q := 106) rfl ?_
                refine x_iconst C dX10_goesThrough_106 (q := 107) rfl (v := nI 1) (by decide) ?_
                refine x_iadd C dX10_goesThrough_107 (q := 108) rfl (z := nI (m1 + 1)) (nI_add m1 1) ?_
                refine x_put C (ci := 9) (ty := .int) (ws' := [(mo, .inr (9, [.int (nI cols), .int (nI lc), .int (nI smp), .int (ky), .ref (mr 0), .ref (mr 1), .ref (mr 2), .ref (mr 3), .ref (mr 4), .ref (mr 5), .ref (mr 6), .ref (mr 7), .ref (mr 8), .ref (mr 9), .int (nI mk), .int (nI rs), .ref (mr 10), .ref (mr 11), .ref (mr 12), .ref (mr 13), .ref (mr 14), .ref (mr 15), .ref (mr 16), .ref (mr 17), .ref (mr 18), .ref (mr 19), .ref (mr 20), .int (nI nse), .int (nI npa), .int (nI nbo), .ref (mr 21), .int (nI tn), .ref (mr 22), .int (nI ik), .int (j0), .int (j1), .ref (mr 23), .int (j2), .ref (mr 24), .ref (mr 25), .int (nI (m1 + 1)), .ref (mr 26), .int (j4), .ref (mr 27), .ref (mr 28), .ref (mr 29), .ref (mr 30)])), (mr 21, .inl (cy 1, 60, .inl (fun k => nI (tx9 k)))), (mr 24, .inl (cy 1, 20, .inl (fun k => nI (nq k)))), (mr 25, .inl (cy 1, 5, .inl (fun k => nI ((va_up nz1 m1 sz) k))))]) hw0 tyX10 tyX10_ok nmX10 0 rfl rfl 40 (by decide) hw1 rfl (by decide +kernel) rfl rfl (Nat.le_of_ble_eq_true rfl) rfl dX10_goesThrough_108 (q := 111) rfl ?_
                refine x_iload_n C dX10_goesThrough_111 (q := 112) rfl rfl 1 rfl ?_
                refine x_iload_n C dX10_goesThrough_112 (q := 113) rfl rfl 2 rfl ?_
                refine x_iadd C dX10_goesThrough_113 (q := 114) rfl (z := nI (p1 + sz)) (nI_add p1 sz) ?_
                refine x_istore_n C (L' := [(1, .int (nI (p1 + sz))), (0, .ref mo), (2, .int (nI sz))]) dX10_goesThrough_114 (q := 115) rfl rfl (by decide) rfl ?_
                refine x_iload_n C dX10_goesThrough_115 (q := 116) rfl rfl 0 rfl ?_
                refine x_aload_n C dX10_goesThrough_116 (q := 117) rfl rfl 1 rfl ?_
                refine x_get C (ci := 9) (v := .int (nI tn)) hw0 0 rfl rfl 31 (by decide) hw4 rfl dX10_goesThrough_117 (q := 120) rfl ?_
                refine x_icmp_ne C (tgt := 125) dX10_goesThrough_120 (by decide) (q := 123) rfl (a := ((p1 + sz : Nat) : Int)) (b := ((tn : Nat) : Int)) (nI_toInt (by omega)) (nI_toInt (by omega)) (fun h7 => ?_) (fun h7 => ?_)
                · first
                  | (exfalso; omega)
                  |
                    refine x_aload_n C dX10_goesThrough_125 (q := 126) rfl rfl 1 rfl ?_
                    refine x_get C (ci := 9) (v := .ref (mr 21)) hw0 0 rfl rfl 30 (by decide) hw5 rfl dX10_goesThrough_126 (q := 129) rfl ?_
                    refine x_iload_n C dX10_goesThrough_129 (q := 130) rfl rfl 0 rfl ?_
                    have hb8 := htx (p1 + sz)
                    refine x_iald C (j := p1 + sz) (v := nI (tx9 (p1 + sz))) 1 rfl (nI_toInt (by omega)) (by omega) rfl dX10_goesThrough_130 (q := 131) rfl ?_
                    refine x_bipush C dX10_goesThrough_131 (q := 133) rfl (v := nI 44) (by decide) ?_
                    refine x_icmp_ne C (tgt := 144) dX10_goesThrough_133 (by decide) (q := 136) rfl (a := ((tx9 (p1 + sz) : Nat) : Int)) (b := 44) (nI_toInt (by omega)) rfl (fun h9 => ?_) (fun h9 => ?_)
                    · first
                      | (exfalso; omega)
                      |
                        refine x_iload_n C dX10_goesThrough_144 (q := 145) rfl rfl 0 rfl ?_
                        refine x_iret C hA hQ hr dX10_goesThrough_145 (Nat.le_of_ble_eq_true rfl) ?_
                        have hz2 : ∀ c, va_up zs1 m1 sz c ≤ 4 := by intro c; by_cases h9 : c = m1; (subst h9; rw [va_up_eq]; omega); (rw [va_up_ne' h9]; exact hz1 c)
                        have hnz2 : ∀ c, va_up nz1 m1 sz c ≤ 4 := by intro c; by_cases h9 : c = m1; (subst h9; rw [va_up_eq]; omega); (rw [va_up_ne' h9]; exact hnz1 c)
                        have hro8 := nmO_up (p := p1) hro9 hz1 hq1 hq2
                        refine ⟨_, m1 + 1, va_up ss1 m1 p1, va_up zs1 m1 sz, nq, va_up nz1 m1 sz, rfl, rfl, ?_, by omega, fun c hc => (hro8 c hc).1, hq3, hnz2, hz2⟩
                        rw [he, show 5 - m1 = (5 - (m1 + 1)) + 1 by omega]; unfold hdR
                        rw [if_neg (by intro e6; rcases e6 with e6 | e6; omega; rw [← hsz, hn9] at e6; cases e6), ← hsz, if_neg (by omega), if_pos (by omega), nI_toInt (by omega)]
                    · first
                      | (exfalso; omega)
                      |
                        refine x_aload_n C dX10_goesThrough_136 (q := 137) rfl rfl 1 rfl ?_
                        refine x_get C (ci := 9) (v := .int (nI (m1 + 1))) hw0 0 rfl rfl 40 (by decide) hw1 rfl dX10_goesThrough_137 (q := 140) rfl ?_
                        refine x_iconst C dX10_goesThrough_140 (q := 141) rfl (v := nI 5) (by decide) ?_
                        refine x_icmp_ne C (tgt := 146) dX10_goesThrough_141 (by decide) (q := 144) rfl (a := ((m1 + 1 : Nat) : Int)) (b := 5) (nI_toInt (by omega)) rfl (fun h10 => ?_) (fun h10 => ?_)
                        · first
                          | (exfalso; omega)
                          |
                            refine x_iinc C (L' := [(1, .int (nI (p1 + sz + 1))), (0, .ref mo), (2, .int (nI sz))]) dX10_goesThrough_146 (q := 149) rfl 0 rfl (v := nI (p1 + sz + 1)) (nI_add (p1 + sz) 1) (by decide) rfl ?_
                            refine x_goto C (tgt := 7) dX10_goesThrough_149 (by decide) ?_
                            refine x_L (L' := [(0, .ref mo), (1, .int (nI (p1 + sz + 1)))]) [1, 0] rfl ?_
                            exact ih7 (m1 + 1) (va_up ss1 m1 p1) (va_up zs1 m1 sz) nq (va_up nz1 m1 sz) (p1 + sz + 1) (by first | omega | assumption) (by first | omega | assumption) (by intro c; by_cases h9 : c = m1; (subst h9; rw [va_up_eq]; omega); (rw [va_up_ne' h9]; exact hz1 c)) (by exact hq3) (by intro c; by_cases h9 : c = m1; (subst h9; rw [va_up_eq]; omega); (rw [va_up_ne' h9]; exact hnz1 c)) (by exact nmO_up hro9 hz1 hq1 hq2) (by rw [he, show 5 - m1 = (5 - (m1 + 1)) + 1 by omega, hsz]; rw [hsz] at hn9; exact hdR_go (by omega) hn9 (by omega) (by rw [← hsz]; omega) (by omega)) (by omega)
                        · first
                          | (exfalso; omega)
                          |
                            refine x_iload_n C dX10_goesThrough_144 (q := 145) rfl rfl 0 rfl ?_
                            refine x_iret C hA hQ hr dX10_goesThrough_145 (Nat.le_of_ble_eq_true rfl) ?_
                            have hz2 : ∀ c, va_up zs1 m1 sz c ≤ 4 := by intro c; by_cases h9 : c = m1; (subst h9; rw [va_up_eq]; omega); (rw [va_up_ne' h9]; exact hz1 c)
                            have hnz2 : ∀ c, va_up nz1 m1 sz c ≤ 4 := by intro c; by_cases h9 : c = m1; (subst h9; rw [va_up_eq]; omega); (rw [va_up_ne' h9]; exact hnz1 c)
                            have hro8 := nmO_up (p := p1) hro9 hz1 hq1 hq2
                            refine ⟨_, m1 + 1, va_up ss1 m1 p1, va_up zs1 m1 sz, nq, va_up nz1 m1 sz, rfl, rfl, ?_, by omega, fun c hc => (hro8 c hc).1, hq3, hnz2, hz2⟩
                            rw [he, show 5 - m1 = (5 - (m1 + 1)) + 1 by omega]; unfold hdR
                            rw [if_neg (by intro e6; rcases e6 with e6 | e6; omega; rw [← hsz, hn9] at e6; cases e6), ← hsz, if_neg (by omega), if_pos (by omega), nI_toInt (by omega)]
                · first
                  | (exfalso; omega)
                  |
                    refine x_iconst C dX10_goesThrough_123 (q := 124) rfl (v := (-1)) (by decide) ?_
                    refine x_iret C hA hQ hr dX10_goesThrough_124 (Nat.le_of_ble_eq_true rfl) ?_
                    have hz2 : ∀ c, va_up zs1 m1 sz c ≤ 4 := by intro c; by_cases h9 : c = m1; (subst h9; rw [va_up_eq]; omega); (rw [va_up_ne' h9]; exact hz1 c)
                    have hnz2 : ∀ c, va_up nz1 m1 sz c ≤ 4 := by intro c; by_cases h9 : c = m1; (subst h9; rw [va_up_eq]; omega); (rw [va_up_ne' h9]; exact hnz1 c)
                    have hro8 := nmO_up (p := p1) hro9 hz1 hq1 hq2
                    refine ⟨_, m1 + 1, va_up ss1 m1 p1, va_up zs1 m1 sz, nq, va_up nz1 m1 sz, rfl, rfl, ?_, by omega, fun c hc => (hro8 c hc).1, hq3, hnz2, hz2⟩
                    rw [he, show 5 - m1 = (5 - (m1 + 1)) + 1 by omega]; unfold hdR
                    rw [if_neg (by intro e6; rcases e6 with e6 | e6; omega; rw [← hsz, hn9] at e6; cases e6), ← hsz, if_pos (by omega)]
                    rfl
              refine x_aload_n C dX10_goesThrough_57 (q := 58) rfl rfl 0 rfl ?_
              refine x_get C (ci := 9) (v := .ref (mr 25)) hw0 0 rfl rfl 39 (by decide) hw3 rfl dX10_goesThrough_58 (q := 61) rfl ?_
              refine x_aload_n C dX10_goesThrough_61 (q := 62) rfl rfl 0 rfl ?_
              refine x_get C (ci := 9) (v := .int (nI m1)) hw0 0 rfl rfl 40 (by decide) hw1 rfl dX10_goesThrough_62 (q := 65) rfl ?_
              refine x_iload_n C dX10_goesThrough_65 (q := 66) rfl rfl 2 rfl ?_
              refine x_iast C (ws' := [(mo, .inr (9, [.int (nI cols), .int (nI lc), .int (nI smp), .int (ky), .ref (mr 0), .ref (mr 1), .ref (mr 2), .ref (mr 3), .ref (mr 4), .ref (mr 5), .ref (mr 6), .ref (mr 7), .ref (mr 8), .ref (mr 9), .int (nI mk), .int (nI rs), .ref (mr 10), .ref (mr 11), .ref (mr 12), .ref (mr 13), .ref (mr 14), .ref (mr 15), .ref (mr 16), .ref (mr 17), .ref (mr 18), .ref (mr 19), .ref (mr 20), .int (nI nse), .int (nI npa), .int (nI nbo), .ref (mr 21), .int (nI tn), .ref (mr 22), .int (nI ik), .int (j0), .int (j1), .ref (mr 23), .int (j2), .ref (mr 24), .ref (mr 25), .int (nI m1), .ref (mr 26), .int (j4), .ref (mr 27), .ref (mr 28), .ref (mr 29), .ref (mr 30)])), (mr 21, .inl (cy 1, 60, .inl (fun k => nI (tx9 k)))), (mr 24, .inl (cy 1, 20, .inl (fun k => nI (nn1 k)))), (mr 25, .inl (cy 1, 5, .inl (fun k => nI ((va_up nz1 m1 sz) k))))]) 3 rfl (j := m1) (nI_toInt (by omega)) (by omega) (xup_n nz1 m1 sz) rfl dX10_goesThrough_66 (q := 67) rfl ?_
              refine x_iconst C dX10_goesThrough_67 (q := 68) rfl (v := nI 0) (by decide) ?_
              refine x_istore_n C (L' := [(3, .int (nI 0)), (0, .ref mo), (1, .int (nI p1)), (2, .int (nI sz))]) dX10_goesThrough_68 (q := 69) rfl rfl (by decide) rfl ?_
              have cut69 : ∀ (fuel : Nat) (k9 : Nat) (nq : Nat → Nat), (k9 ≤ sz) → (∀ q, q < 4 * m1 → nq q = nn1 q) → (∀ q, q < k9 → nq (4 * m1 + q) = tx9 (p1 + q)) → (∀ k, nq k < 128) → sz - k9 < fuel → xG p l e R s m args below meth c Q D A 4 [(mo, .inr (9, [.int (nI cols), .int (nI lc), .int (nI smp), .int (ky), .ref (mr 0), .ref (mr 1), .ref (mr 2), .ref (mr 3), .ref (mr 4), .ref (mr 5), .ref (mr 6), .ref (mr 7), .ref (mr 8), .ref (mr 9), .int (nI mk), .int (nI rs), .ref (mr 10), .ref (mr 11), .ref (mr 12), .ref (mr 13), .ref (mr 14), .ref (mr 15), .ref (mr 16), .ref (mr 17), .ref (mr 18), .ref (mr 19), .ref (mr 20), .int (nI nse), .int (nI npa), .int (nI nbo), .ref (mr 21), .int (nI tn), .ref (mr 22), .int (nI ik), .int (j0), .int (j1), .ref (mr 23), .int (j2), .ref (mr 24), .ref (mr 25), .int (nI m1), .ref (mr 26), .int (j4), .ref (mr 27), .ref (mr 28), .ref (mr 29), .ref (mr 30)])), (mr 21, .inl (cy 1, 60, .inl (fun k => nI (tx9 k)))), (mr 24, .inl (cy 1, 20, .inl (fun k => nI (nq k)))), (mr 25, .inl (cy 1, 5, .inl (fun k => nI ((va_up nz1 m1 sz) k))))] 0 0 69 [(0, .ref mo), (1, .int (nI p1)), (2, .int (nI sz)), (3, .int (nI k9))] [] := by
                intro fuel
                induction fuel with
                | zero =>
                  intro k9 nq hk9 hq1 hq2 hq3 hmu
                  exact absurd hmu (Nat.not_lt_zero _)
                | succ fuel ih =>
                  intro k9 nq hk9 hq1 hq2 hq3 hmu
                  have ih69 := ih
                  clear ih
                  refine x_iload_n C dX10_goesThrough_69 (q := 70) rfl rfl 3 rfl ?_
                  refine x_iload_n C dX10_goesThrough_70 (q := 71) rfl rfl 2 rfl ?_
                  refine x_icmp_ge C (tgt := 101) dX10_goesThrough_71 (by decide) (q := 74) rfl (a := ((k9 : Nat) : Int)) (b := ((sz : Nat) : Int)) (nI_toInt (by omega)) (nI_toInt (by omega)) (fun h11 => ?_) (fun h11 => ?_)
                  · first
                    | (exfalso; omega)
                    |
                      refine x_L (L' := [(0, .ref mo), (1, .int (nI p1)), (2, .int (nI sz))]) [0, 1, 2] rfl ?_
                      exact cut101 nq (by assumption) (by intro q hq; exact hq2 q (by omega)) (by assumption) (by assumption) (by first | omega | assumption)
                  · first
                    | (exfalso; omega)
                    |
                      refine x_aload_n C dX10_goesThrough_74 (q := 75) rfl rfl 0 rfl ?_
                      refine x_get C (ci := 9) (v := .ref (mr 24)) hw0 0 rfl rfl 38 (by decide) hw2 rfl dX10_goesThrough_75 (q := 78) rfl ?_
                      refine x_iconst C dX10_goesThrough_78 (q := 79) rfl (v := nI 4) (by decide) ?_
                      refine x_aload_n C dX10_goesThrough_79 (q := 80) rfl rfl 0 rfl ?_
                      refine x_get C (ci := 9) (v := .int (nI m1)) hw0 0 rfl rfl 40 (by decide) hw1 rfl dX10_goesThrough_80 (q := 83) rfl ?_
                      refine x_imul C dX10_goesThrough_83 (q := 84) rfl (z := nI (4 * m1)) (pk_mul 4 m1) ?_
                      refine x_iload_n C dX10_goesThrough_84 (q := 85) rfl rfl 3 rfl ?_
                      refine x_iadd C dX10_goesThrough_85 (q := 86) rfl (z := nI (4 * m1 + k9)) (nI_add (4 * m1) k9) ?_
                      refine x_aload_n C dX10_goesThrough_86 (q := 87) rfl rfl 0 rfl ?_
                      refine x_get C (ci := 9) (v := .ref (mr 21)) hw0 0 rfl rfl 30 (by decide) hw5 rfl dX10_goesThrough_87 (q := 90) rfl ?_
                      refine x_iload_n C dX10_goesThrough_90 (q := 91) rfl rfl 1 rfl ?_
                      refine x_iload_n C dX10_goesThrough_91 (q := 92) rfl rfl 3 rfl ?_
                      refine x_iadd C dX10_goesThrough_92 (q := 93) rfl (z := nI (p1 + k9)) (nI_add p1 k9) ?_
                      have hb12 := htx (p1 + k9)
                      refine x_iald C (j := p1 + k9) (v := nI (tx9 (p1 + k9))) 1 rfl (nI_toInt (by omega)) (by omega) rfl dX10_goesThrough_93 (q := 94) rfl ?_
                      refine x_iast C (ws' := [(mo, .inr (9, [.int (nI cols), .int (nI lc), .int (nI smp), .int (ky), .ref (mr 0), .ref (mr 1), .ref (mr 2), .ref (mr 3), .ref (mr 4), .ref (mr 5), .ref (mr 6), .ref (mr 7), .ref (mr 8), .ref (mr 9), .int (nI mk), .int (nI rs), .ref (mr 10), .ref (mr 11), .ref (mr 12), .ref (mr 13), .ref (mr 14), .ref (mr 15), .ref (mr 16), .ref (mr 17), .ref (mr 18), .ref (mr 19), .ref (mr 20), .int (nI nse), .int (nI npa), .int (nI nbo), .ref (mr 21), .int (nI tn), .ref (mr 22), .int (nI ik), .int (j0), .int (j1), .ref (mr 23), .int (j2), .ref (mr 24), .ref (mr 25), .int (nI m1), .ref (mr 26), .int (j4), .ref (mr 27), .ref (mr 28), .ref (mr 29), .ref (mr 30)])), (mr 21, .inl (cy 1, 60, .inl (fun k => nI (tx9 k)))), (mr 24, .inl (cy 1, 20, .inl (fun k => nI ((va_up nq (4 * m1 + k9) (tx9 (p1 + k9))) k)))), (mr 25, .inl (cy 1, 5, .inl (fun k => nI ((va_up nz1 m1 sz) k))))]) 2 rfl (j := 4 * m1 + k9) (nI_toInt (by omega)) (by omega) (xup_n nq (4 * m1 + k9) (tx9 (p1 + k9))) rfl dX10_goesThrough_94 (q := 95) rfl ?_
                      refine x_iinc C (L' := [(3, .int (nI (k9 + 1))), (0, .ref mo), (1, .int (nI p1)), (2, .int (nI sz))]) dX10_goesThrough_95 (q := 98) rfl 3 rfl (v := nI (k9 + 1)) (nI_add k9 1) (by decide) rfl ?_
                      refine x_goto C (tgt := 69) dX10_goesThrough_98 (by decide) ?_
                      refine x_L (L' := [(0, .ref mo), (1, .int (nI p1)), (2, .int (nI sz)), (3, .int (nI (k9 + 1)))]) [1, 2, 3, 0] rfl ?_
                      exact ih69 (k9 + 1) (va_up nq (4 * m1 + k9) (tx9 (p1 + k9))) (by first | omega | assumption) (by intro q hq; rw [va_up_ne' (by omega)]; exact hq1 q hq) (by intro q hq; by_cases e9 : q = k9; (subst e9; exact va_up_eq); (rw [va_up_ne' (by omega)]; exact hq2 q (by omega))) (by exact va_up_lt hq3 (htx _)) (by omega)
              refine x_L (L' := [(0, .ref mo), (1, .int (nI p1)), (2, .int (nI sz)), (3, .int (nI 0))]) [1, 2, 3, 0] rfl ?_
              exact cut69 (sz - 0 + 1) 0 nn1 (by first | omega | assumption) (by exact fun q _ => rfl) (by intro q hq; omega) (by exact hnn1) (by omega)
      refine x_istore_n C (L' := [(2, .int (nI 0)), (0, .ref mo), (1, .int (nI p1))]) dX10_goesThrough_8 (q := 9) rfl rfl (by decide) rfl ?_
      have cut9 : ∀ (fuel : Nat) (i : Nat), (i ≤ 4) → (p1 + i ≤ tn) → (ltr tx9 tn p1 = i + runLen (isLt tx9 tn) (p1 + 4) (p1 + 4 - (p1 + i)) (p1 + i)) → 4 - i < fuel → xG p l e R s m args below meth c Q D A 4 [(mo, .inr (9, [.int (nI cols), .int (nI lc), .int (nI smp), .int (ky), .ref (mr 0), .ref (mr 1), .ref (mr 2), .ref (mr 3), .ref (mr 4), .ref (mr 5), .ref (mr 6), .ref (mr 7), .ref (mr 8), .ref (mr 9), .int (nI mk), .int (nI rs), .ref (mr 10), .ref (mr 11), .ref (mr 12), .ref (mr 13), .ref (mr 14), .ref (mr 15), .ref (mr 16), .ref (mr 17), .ref (mr 18), .ref (mr 19), .ref (mr 20), .int (nI nse), .int (nI npa), .int (nI nbo), .ref (mr 21), .int (nI tn), .ref (mr 22), .int (nI ik), .int (j0), .int (j1), .ref (mr 23), .int (j2), .ref (mr 24), .ref (mr 25), .int (nI m1), .ref (mr 26), .int (j4), .ref (mr 27), .ref (mr 28), .ref (mr 29), .ref (mr 30)])), (mr 21, .inl (cy 1, 60, .inl (fun k => nI (tx9 k)))), (mr 24, .inl (cy 1, 20, .inl (fun k => nI (nn1 k)))), (mr 25, .inl (cy 1, 5, .inl (fun k => nI (nz1 k))))] 0 0 9 [(0, .ref mo), (1, .int (nI p1)), (2, .int (nI i))] [] := by
        intro fuel
        induction fuel with
        | zero =>
          intro i hi hip hel hmu
          exact absurd hmu (Nat.not_lt_zero _)
        | succ fuel ih =>
          intro i hi hip hel hmu
          have ih9 := ih
          clear ih
          refine x_iload_n C dX10_goesThrough_9 (q := 10) rfl rfl 2 rfl ?_
          refine x_iconst C dX10_goesThrough_10 (q := 11) rfl (v := nI 4) (by decide) ?_
          refine x_icmp_ge C (tgt := 30) dX10_goesThrough_11 (by decide) (q := 14) rfl (a := ((i : Nat) : Int)) (b := 4) (nI_toInt (by omega)) rfl (fun h13 => ?_) (fun h13 => ?_)
          · first
            | (exfalso; omega)
            |
              exact cut30 i (by first | (have h9 : runLen (isLt tx9 tn) (p1 + 4) (p1 + 4 - (p1 + i)) (p1 + i) = 0 := runLen_stop _ (fun z => by omega)); omega | (have h9 : runLen (isLt tx9 tn) (p1 + 4) (p1 + 4 - (p1 + i)) (p1 + i) = 0 := runLen_stop _ (fun z => absurd z.2 (by rw [(by assumption : isLt tx9 tn (p1 + i) = false)]; decide))); omega)
          · first
            | (exfalso; omega)
            |
              refine x_aload_n C dX10_goesThrough_14 (q := 15) rfl rfl 0 rfl ?_
              refine x_iload_n C dX10_goesThrough_15 (q := 16) rfl rfl 1 rfl ?_
              refine x_iload_n C dX10_goesThrough_16 (q := 17) rfl rfl 2 rfl ?_
              refine x_iadd C dX10_goesThrough_17 (q := 18) rfl (z := nI (p1 + i)) (nI_add p1 i) ?_
              refine x_callV C (roW := []) (roR := []) (c_X10_isLetter l D cy mo mr cols lc smp mk rs nse npa nbo tn ik ky j0 j1 j2 (nI m1) j4 tx9 (p1 + i) (by first | assumption | omega | (simp only []; omega)) (by assumption) (by first | assumption | omega | (simp only []; omega))) (cwV 1 C.2.2.2.2.1 gX10_goesThrough_X10_isLetter rfl rfl rfl (by decide +kernel) (by rw [hR]; exact ⟨Nat.le_of_ble_eq_true rfl, Nat.le_of_ble_eq_true rfl⟩)) [0, 1] [] rfl (by decide) rfl (by decide) xro_nil (List.mem_of_getElem? (i := 0) rfl) (ci := 9) rfl xT_bl (fun _ _ _ _ _ _ _ => trivial) rfl rfl dX10_goesThrough_18 rfl rfl (Nat.le_of_ble_eq_true rfl) (q := 21) rfl (k' := 0) rfl (n' := 0) rfl (by rw [hR]; exact ⟨Nat.le_of_ble_eq_true rfl, Nat.le_of_ble_eq_true rfl⟩) (fun v14 w14 hp14 => ?_)
              rcases hp14 with hp14 | hp14
              · skip
                obtain ⟨rfl, rfl, hc15⟩ := hp14
                refine x_ws (ws' := [(mo, .inr (9, [.int (nI cols), .int (nI lc), .int (nI smp), .int (ky), .ref (mr 0), .ref (mr 1), .ref (mr 2), .ref (mr 3), .ref (mr 4), .ref (mr 5), .ref (mr 6), .ref (mr 7), .ref (mr 8), .ref (mr 9), .int (nI mk), .int (nI rs), .ref (mr 10), .ref (mr 11), .ref (mr 12), .ref (mr 13), .ref (mr 14), .ref (mr 15), .ref (mr 16), .ref (mr 17), .ref (mr 18), .ref (mr 19), .ref (mr 20), .int (nI nse), .int (nI npa), .int (nI nbo), .ref (mr 21), .int (nI tn), .ref (mr 22), .int (nI ik), .int (j0), .int (j1), .ref (mr 23), .int (j2), .ref (mr 24), .ref (mr 25), .int (nI m1), .ref (mr 26), .int (j4), .ref (mr 27), .ref (mr 28), .ref (mr 29), .ref (mr 30)])), (mr 21, .inl (cy 1, 60, .inl (fun k => nI (tx9 k)))), (mr 24, .inl (cy 1, 20, .inl (fun k => nI (nn1 k)))), (mr 25, .inl (cy 1, 5, .inl (fun k => nI (nz1 k))))]) rfl ?_
                refine x_if_eq C (tgt := 30) dX10_goesThrough_21 (by decide) (q := 24) rfl (a := 1) rfl (fun h16 => (by omega : False).elim) (fun h16 => ?_)
                refine x_iinc C (L' := [(2, .int (nI (i + 1))), (0, .ref mo), (1, .int (nI p1))]) dX10_goesThrough_24 (q := 27) rfl 2 rfl (v := nI (i + 1)) (nI_add i 1) (by decide) rfl ?_
                refine x_goto C (tgt := 9) dX10_goesThrough_27 (by decide) ?_
                refine x_L (L' := [(0, .ref mo), (1, .int (nI p1)), (2, .int (nI (i + 1)))]) [1, 2, 0] rfl ?_
                exact ih9 (i + 1) (by first | omega | assumption) (by have h8 := isLt_t.mp (by assumption : isLt tx9 tn (p1 + i) = true); omega) (by have h7 := runLen_step (P := isLt tx9 tn) (to := p1 + 4) (k := p1 + i) (by omega) (by assumption); rw [show p1 + (i + 1) = p1 + i + 1 by omega]; omega) (by omega)
              · skip
                obtain ⟨rfl, rfl, hc17⟩ := hp14
                refine x_ws (ws' := [(mo, .inr (9, [.int (nI cols), .int (nI lc), .int (nI smp), .int (ky), .ref (mr 0), .ref (mr 1), .ref (mr 2), .ref (mr 3), .ref (mr 4), .ref (mr 5), .ref (mr 6), .ref (mr 7), .ref (mr 8), .ref (mr 9), .int (nI mk), .int (nI rs), .ref (mr 10), .ref (mr 11), .ref (mr 12), .ref (mr 13), .ref (mr 14), .ref (mr 15), .ref (mr 16), .ref (mr 17), .ref (mr 18), .ref (mr 19), .ref (mr 20), .int (nI nse), .int (nI npa), .int (nI nbo), .ref (mr 21), .int (nI tn), .ref (mr 22), .int (nI ik), .int (j0), .int (j1), .ref (mr 23), .int (j2), .ref (mr 24), .ref (mr 25), .int (nI m1), .ref (mr 26), .int (j4), .ref (mr 27), .ref (mr 28), .ref (mr 29), .ref (mr 30)])), (mr 21, .inl (cy 1, 60, .inl (fun k => nI (tx9 k)))), (mr 24, .inl (cy 1, 20, .inl (fun k => nI (nn1 k)))), (mr 25, .inl (cy 1, 5, .inl (fun k => nI (nz1 k))))]) rfl ?_
                refine x_if_eq C (tgt := 30) dX10_goesThrough_21 (by decide) (q := 24) rfl (a := 0) rfl (fun h18 => ?_) (fun h18 => (by omega : False).elim)
                exact cut30 i (by first | (have h9 : runLen (isLt tx9 tn) (p1 + 4) (p1 + 4 - (p1 + i)) (p1 + i) = 0 := runLen_stop _ (fun z => by omega)); omega | (have h9 : runLen (isLt tx9 tn) (p1 + 4) (p1 + 4 - (p1 + i)) (p1 + i) = 0 := runLen_stop _ (fun z => absurd z.2 (by rw [(by assumption : isLt tx9 tn (p1 + i) = false)]; decide))); omega)
      refine x_L (L' := [(0, .ref mo), (1, .int (nI p1)), (2, .int (nI 0))]) [1, 2, 0] rfl ?_
      exact cut9 (4 - 0 + 1) 0 (by first | omega | assumption) (by first | omega | assumption) (by show ltr tx9 tn p1 = 0 + runLen (isLt tx9 tn) (p1 + 4) (p1 + 4 - p1) p1; rw [Nat.zero_add, show p1 + 4 - p1 = 4 by omega]; rfl) (by omega)
  refine x_L (L' := [(0, .ref mo), (1, .int (nI 0))]) [1, 0] rfl ?_
  exact cut7 (5 - 0 + 1) 0 ((fun _ => 0)) ((fun _ => 0)) nn9 nz9 0 (by first | omega | assumption) (by first | omega | assumption) (by intro c; exact Nat.zero_le 4) (by assumption) (by assumption) (by intro c hc; omega) (by rfl) (by omega)
