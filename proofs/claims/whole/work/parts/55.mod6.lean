
theorem xl_addI {x y : Int64} {a b : Int} (hx : x.toInt = a) (hy : y.toInt = b) (hA1 : -9223372036854775808 ≤ a + b) (hA2 : a + b ≤ 9223372036854775807) : (x + y).toInt = a + b := by
  rw [Int64.toInt_add, hx, hy]
  exact Int.bmod_eq_of_le (by omega) (by omega)
theorem xl_subI {x y : Int64} {a b : Int} (hx : x.toInt = a) (hy : y.toInt = b) (hA1 : -9223372036854775808 ≤ a - b) (hA2 : a - b ≤ 9223372036854775807) : (x - y).toInt = a - b := by
  rw [Int64.toInt_sub, hx, hy]
  exact Int.bmod_eq_of_le (by omega) (by omega)
def mdS (y m : Nat) : Nat := if m = 2 then (if isLp y then 29 else 28) else if m = 4 ∨ m = 6 ∨ m = 9 ∨ m = 11 then 30 else 31
theorem mdS_le (y m : Nat) : mdS y m ≤ 31 := by
  unfold mdS
  split
  · split <;> omega
  · split <;> omega
theorem mdS_2 (y : Nat) : mdS y 2 = 28 + lpD y := by
  unfold mdS lpD
  rw [if_pos rfl]
  split <;> rfl
theorem mdS_n {y m : Nat} (h : ¬ m = 2) : mdS y m = if m = 4 ∨ m = 6 ∨ m = 9 ∨ m = 11 then 30 else 31 := if_neg h
theorem mdS_len {y m : Nat} (hA1 : 1 ≤ m) (hA2 : m ≤ 12) : mdS y m = mLen y m := by
  have h : m = 1 ∨ m = 2 ∨ m = 3 ∨ m = 4 ∨ m = 5 ∨ m = 6 ∨ m = 7 ∨ m = 8 ∨ m = 9 ∨ m = 10 ∨ m = 11 ∨ m = 12 := by omega
  rcases h with rfl | rfl | rfl | rfl | rfl | rfl | rfl | rfl | rfl | rfl | rfl | rfl
  case inr.inl =>
    rw [mdS_2]
    rfl
  all_goals rw [mdS_n (by decide)]; rfl
def msS (y : Nat) : Nat → Nat
  | 0 => 0
  | k + 1 => msS y k + mdS y (k + 1)
theorem msS_tab (y : Nat) {m : Nat} (hA1 : 1 ≤ m) (hA2 : m ≤ 12) : msS y (m - 1) = mTab (m - 1) + (if 2 < m then lpD y else 0) := by
  have e2 : mdS y 2 = 28 + lpD y := mdS_2 y
  have h : m = 1 ∨ m = 2 ∨ m = 3 ∨ m = 4 ∨ m = 5 ∨ m = 6 ∨ m = 7 ∨ m = 8 ∨ m = 9 ∨ m = 10 ∨ m = 11 ∨ m = 12 := by omega
  have s1 : msS y 1 = 31 := rfl
  have s2 : msS y 2 = 59 + lpD y := by show msS y 1 + mdS y 2 = _; rw [s1, e2]; omega
  have s3 : msS y 3 = 90 + lpD y := by show msS y 2 + 31 = _; rw [s2]; omega
  have s4 : msS y 4 = 120 + lpD y := by show msS y 3 + 30 = _; rw [s3]; omega
  have s5 : msS y 5 = 151 + lpD y := by show msS y 4 + 31 = _; rw [s4]; omega
  have s6 : msS y 6 = 181 + lpD y := by show msS y 5 + 30 = _; rw [s5]; omega
  have s7 : msS y 7 = 212 + lpD y := by show msS y 6 + 31 = _; rw [s6]; omega
  have s8 : msS y 8 = 243 + lpD y := by show msS y 7 + 31 = _; rw [s7]; omega
  have s9 : msS y 9 = 273 + lpD y := by show msS y 8 + 30 = _; rw [s8]; omega
  have s10 : msS y 10 = 304 + lpD y := by show msS y 9 + 31 = _; rw [s9]; omega
  have s11 : msS y 11 = 334 + lpD y := by show msS y 10 + 30 = _; rw [s10]; omega
  rcases h with rfl | rfl | rfl | rfl | rfl | rfl | rfl | rfl | rfl | rfl | rfl | rfl
  · rfl
  · rfl
  · exact s2
  · exact s3
  · exact s4
  · exact s5
  · exact s6
  · exact s7
  · exact s8
  · exact s9
  · exact s10
  · exact s11
theorem msS_le (y : Nat) : ∀ k, msS y k ≤ 31 * k
  | 0 => Nat.le_refl 0
  | k + 1 => by
    have := msS_le y k
    have := mdS_le y (k + 1)
    unfold msS
    omega
theorem yD_s {y : Nat} (h : 1 ≤ y) : yD (y + 1) = yD y + (337 + mdS y 2) := by
  rw [mdS_2]
  unfold yD lpD
  split
  · rename_i z
    obtain ⟨z1, z2⟩ := z
    omega
  · rename_i z
    have z2 : ¬ (y % 4 = 0 ∧ (¬ y % 100 = 0 ∨ y % 400 = 0)) := z
    omega
theorem yD_mono {a : Nat} (h : 1 ≤ a) : ∀ {b : Nat}, a ≤ b → yD a ≤ yD b
  | 0, hb => by omega
  | b + 1, hb => by
    rcases Nat.lt_or_ge a (b + 1) with z | z
    · have hA1 := yD_mono h (b := b) (by omega)
      have hA2 := yD_s (y := b) (by omega)
      omega
    · have : a = b + 1 := by omega
      rw [this]
      exact Nat.le_refl _

set_option maxHeartbeats 4000000 in
set_option maxRecDepth 100000 in
/-- digits -/
theorem c_X10_digits (l : Launch) (D : va_G) (cy : Nat → ClassId) (mo : Nat) (mr : Nat → Nat) (cols : Nat) (lc : Nat) (smp : Nat) (mk : Nat) (rs : Nat) (nse : Nat) (npa : Nat) (nbo : Nat) (tn : Nat) (ik : Nat) (ky : Int32) (j0 : Int32) (j1 : Int32) (j2 : Int32) (j3 : Int32) (j4 : Int32) (by9 : Nat → Nat) (fr : Nat) (to : Nat) (hby : ∀ k, by9 k < 128) (hft : fr ≤ to) (hto : to ≤ 1440) : xMet l D cy xT yX10_digits wsX10_digits ({ frames := 2, cells := 0, slots := 0, locals := 200 } : Room) [.ref mo, .int (nI fr), .int (nI to)] [(mo, .inr (9, [.int (nI cols), .int (nI lc), .int (nI smp), .int (ky), .ref (mr 0), .ref (mr 1), .ref (mr 2), .ref (mr 3), .ref (mr 4), .ref (mr 5), .ref (mr 6), .ref (mr 7), .ref (mr 8), .ref (mr 9), .int (nI mk), .int (nI rs), .ref (mr 10), .ref (mr 11), .ref (mr 12), .ref (mr 13), .ref (mr 14), .ref (mr 15), .ref (mr 16), .ref (mr 17), .ref (mr 18), .ref (mr 19), .ref (mr 20), .int (nI nse), .int (nI npa), .int (nI nbo), .ref (mr 21), .int (nI tn), .ref (mr 22), .int (nI ik), .int (j0), .int (j1), .ref (mr 23), .int (j2), .ref (mr 24), .ref (mr 25), .int (j3), .ref (mr 26), .int (j4), .ref (mr 27), .ref (mr 28), .ref (mr 29), .ref (mr 30)])), (mr 4, .inl (cy 1, 1440, .inl (fun k => nI (by9 k))))] [] (fun (v9 : Option Value) (w9 : va_W) => (v9 = some (.int (nI (dgs by9 to fr))) ∧ w9 = [(mo, .inr (9, [.int (nI cols), .int (nI lc), .int (nI smp), .int (ky), .ref (mr 0), .ref (mr 1), .ref (mr 2), .ref (mr 3), .ref (mr 4), .ref (mr 5), .ref (mr 6), .ref (mr 7), .ref (mr 8), .ref (mr 9), .int (nI mk), .int (nI rs), .ref (mr 10), .ref (mr 11), .ref (mr 12), .ref (mr 13), .ref (mr 14), .ref (mr 15), .ref (mr 16), .ref (mr 17), .ref (mr 18), .ref (mr 19), .ref (mr 20), .int (nI nse), .int (nI npa), .int (nI nbo), .ref (mr 21), .int (nI tn), .ref (mr 22), .int (nI ik), .int (j0), .int (j1), .ref (mr 23), .int (j2), .ref (mr 24), .ref (mr 25), .int (j3), .ref (mr 26), .int (j4), .ref (mr 27), .ref (mr 28), .ref (mr 29), .ref (mr 30)])), (mr 4, .inl (cy 1, 1440, .inl (fun k => nI (by9 k))))])) := by
  refine xMet_of (cc := cX10_digits) (maxL := 4) (ret := (some .int)) (by decide) rfl (Nat.le_of_ble_eq_true rfl) (fun p e s m args below meth c A R Q hA hR hQ C hr hnm hro hX => ?_)
  have hw0 : ∀ w ∈ u_ws RX10 TX10 47, w ∈ wsX10_digits := by decide +kernel
  have hw1 : Cond.fieldLink RX10 31 (TX10 8).1 (TX10 8).2.1 (TX10 8).2.2.1 ∈ wsX10_digits := by decide +kernel
  have hw2 : Jvm.Cond.constantLong RX10 234 (48) ∈ wsX10_digits := by decide +kernel
  have hw3 : Jvm.Cond.constantLong RX10 236 (57) ∈ wsX10_digits := by decide +kernel
  refine x_L (L' := [(0, .ref mo), (1, .int (nI fr)), (2, .int (nI to))]) [0, 1, 2] rfl ?_
  refine x_iload_n C dX10_digits_0 (q := 1) rfl rfl 1 rfl ?_
  refine x_istore_n C (L' := [(3, .int (nI fr)), (0, .ref mo), (1, .int (nI fr)), (2, .int (nI to))]) dX10_digits_1 (q := 2) rfl rfl (by decide) rfl ?_
  have cut2 : ∀ (fuel : Nat) (k : Nat), (fr ≤ k) → (k ≤ to) → (dgs by9 to fr + fr = k + dgs by9 to k) → to - k < fuel → xG p l e R s m args below meth c Q D A 4 [(mo, .inr (9, [.int (nI cols), .int (nI lc), .int (nI smp), .int (ky), .ref (mr 0), .ref (mr 1), .ref (mr 2), .ref (mr 3), .ref (mr 4), .ref (mr 5), .ref (mr 6), .ref (mr 7), .ref (mr 8), .ref (mr 9), .int (nI mk), .int (nI rs), .ref (mr 10), .ref (mr 11), .ref (mr 12), .ref (mr 13), .ref (mr 14), .ref (mr 15), .ref (mr 16), .ref (mr 17), .ref (mr 18), .ref (mr 19), .ref (mr 20), .int (nI nse), .int (nI npa), .int (nI nbo), .ref (mr 21), .int (nI tn), .ref (mr 22), .int (nI ik), .int (j0), .int (j1), .ref (mr 23), .int (j2), .ref (mr 24), .ref (mr 25), .int (j3), .ref (mr 26), .int (j4), .ref (mr 27), .ref (mr 28), .ref (mr 29), .ref (mr 30)])), (mr 4, .inl (cy 1, 1440, .inl (fun k => nI (by9 k))))] 0 0 2 [(0, .ref mo), (1, .int (nI fr)), (2, .int (nI to)), (3, .int (nI k))] [] := by
    intro fuel
    induction fuel with
    | zero =>
      intro k hA1 hA2 he hmu
      exact absurd hmu (Nat.not_lt_zero _)
    | succ fuel ih =>
      intro k hA1 hA2 he hmu
      have ih2 := ih
      clear ih
      refine x_iload_n C dX10_digits_2 (q := 3) rfl rfl 3 rfl ?_
      refine x_iload_n C dX10_digits_3 (q := 4) rfl rfl 2 rfl ?_
      refine x_icmp_ge C (tgt := 32) dX10_digits_4 (by decide) (q := 7) rfl (a := ((k : Nat) : Int)) (b := ((to : Nat) : Int)) (nI_toInt (by omega)) (nI_toInt (by omega)) (fun h1 => ?_) (fun h1 => ?_)
      · first
        | (exfalso; omega)
        |
          refine x_iload_n C dX10_digits_32 (q := 33) rfl rfl 3 rfl ?_
          refine x_iload_n C dX10_digits_33 (q := 34) rfl rfl 1 rfl ?_
          refine x_isub C dX10_digits_34 (q := 35) rfl (z := nI (k - fr)) (xi_subN (by omega) (by omega)) ?_
          refine x_iret C hA hQ hr dX10_digits_35 (Nat.le_of_ble_eq_true rfl) ?_
          have hA9 : dgs by9 to k = 0 := dgs_stop (fun z => by omega)
          exact ⟨by rw [show dgs by9 to fr = k - fr by omega], rfl⟩
      · first
        | (exfalso; omega)
        |
          refine x_aload_n C dX10_digits_7 (q := 8) rfl rfl 0 rfl ?_
          refine x_get C (ci := 9) (v := .ref (mr 4)) hw0 0 rfl rfl 8 (by decide) hw1 rfl dX10_digits_8 (q := 11) rfl ?_
          refine x_iload_n C dX10_digits_11 (q := 12) rfl rfl 3 rfl ?_
          have hb2 := hby k
          refine x_iald C (j := k) (v := nI (by9 k)) 1 rfl (nI_toInt (by omega)) (by omega) rfl dX10_digits_12 (q := 13) rfl ?_
          refine x_i2l C dX10_digits_13 (q := 14) rfl (v := lN (by9 k)) (nI_l (by omega)) ?_
          refine x_ldc2 C (v := lN 48) hw2 dX10_digits_14 (q := 17) rfl ?_
          refine x_ldc2 C (v := lN 57) hw3 dX10_digits_17 (q := 20) rfl ?_
          refine x_callS C (roW := []) (roR := []) (c_X10_in l D cy (lN (by9 k)) (lN 48) (lN 57) (((by9 k : Nat) : Int)) 48 57 (pk_lT (by omega)) rfl rfl) (cwS 3 C.2.2.2.2.1 gX10_digits_X10_in rfl rfl rfl (by decide +kernel) (by rw [hR]; exact ⟨Nat.le_of_ble_eq_true rfl, Nat.le_of_ble_eq_true rfl⟩)) [] [] rfl (by decide) rfl (by decide) xro_nil xT_bl (fun _ _ _ _ _ _ _ => trivial) rfl rfl dX10_digits_20 rfl rfl (Nat.le_of_ble_eq_true rfl) (q := 23) rfl (k' := 0) rfl (n' := 0) rfl (by rw [hR]; exact ⟨Nat.le_of_ble_eq_true rfl, Nat.le_of_ble_eq_true rfl⟩) (fun v3 w3 hp3 => ?_)
          rcases hp3 with hp3 | hp3
          · skip
            obtain ⟨rfl, rfl, hc4, hc5⟩ := hp3
            refine x_ws (ws' := [(mo, .inr (9, [.int (nI cols), .int (nI lc), .int (nI smp), .int (ky), .ref (mr 0), .ref (mr 1), .ref (mr 2), .ref (mr 3), .ref (mr 4), .ref (mr 5), .ref (mr 6), .ref (mr 7), .ref (mr 8), .ref (mr 9), .int (nI mk), .int (nI rs), .ref (mr 10), .ref (mr 11), .ref (mr 12), .ref (mr 13), .ref (mr 14), .ref (mr 15), .ref (mr 16), .ref (mr 17), .ref (mr 18), .ref (mr 19), .ref (mr 20), .int (nI nse), .int (nI npa), .int (nI nbo), .ref (mr 21), .int (nI tn), .ref (mr 22), .int (nI ik), .int (j0), .int (j1), .ref (mr 23), .int (j2), .ref (mr 24), .ref (mr 25), .int (j3), .ref (mr 26), .int (j4), .ref (mr 27), .ref (mr 28), .ref (mr 29), .ref (mr 30)])), (mr 4, .inl (cy 1, 1440, .inl (fun k => nI (by9 k))))]) (List.append_nil _) ?_
            refine x_if_eq C (tgt := 32) dX10_digits_23 (by decide) (q := 26) rfl (a := 1) rfl (fun h6 => (by omega : False).elim) (fun h6 => ?_)
            refine x_iinc C (L' := [(3, .int (nI (k + 1))), (0, .ref mo), (1, .int (nI fr)), (2, .int (nI to))]) dX10_digits_26 (q := 29) rfl 3 rfl (v := nI (k + 1)) (nI_add k 1) (by decide) rfl ?_
            refine x_goto C (tgt := 2) dX10_digits_29 (by decide) ?_
            refine x_L (L' := [(0, .ref mo), (1, .int (nI fr)), (2, .int (nI to)), (3, .int (nI (k + 1)))]) [1, 2, 3, 0] rfl ?_
            exact ih2 (k + 1) (by first | omega) (by first | omega) (by have hA7 := dgs_step (b := by9) (to := to) (k := k) (by omega) (by omega) (by omega); omega) (by omega)
          · skip
            obtain ⟨rfl, rfl, hc7⟩ := hp3
            refine x_ws (ws' := [(mo, .inr (9, [.int (nI cols), .int (nI lc), .int (nI smp), .int (ky), .ref (mr 0), .ref (mr 1), .ref (mr 2), .ref (mr 3), .ref (mr 4), .ref (mr 5), .ref (mr 6), .ref (mr 7), .ref (mr 8), .ref (mr 9), .int (nI mk), .int (nI rs), .ref (mr 10), .ref (mr 11), .ref (mr 12), .ref (mr 13), .ref (mr 14), .ref (mr 15), .ref (mr 16), .ref (mr 17), .ref (mr 18), .ref (mr 19), .ref (mr 20), .int (nI nse), .int (nI npa), .int (nI nbo), .ref (mr 21), .int (nI tn), .ref (mr 22), .int (nI ik), .int (j0), .int (j1), .ref (mr 23), .int (j2), .ref (mr 24), .ref (mr 25), .int (j3), .ref (mr 26), .int (j4), .ref (mr 27), .ref (mr 28), .ref (mr 29), .ref (mr 30)])), (mr 4, .inl (cy 1, 1440, .inl (fun k => nI (by9 k))))]) (List.append_nil _) ?_
            refine x_if_eq C (tgt := 32) dX10_digits_23 (by decide) (q := 26) rfl (a := 0) rfl (fun h8 => ?_) (fun h8 => (by omega : False).elim)
            refine x_iload_n C dX10_digits_32 (q := 33) rfl rfl 3 rfl ?_
            refine x_iload_n C dX10_digits_33 (q := 34) rfl rfl 1 rfl ?_
            refine x_isub C dX10_digits_34 (q := 35) rfl (z := nI (k - fr)) (xi_subN (by omega) (by omega)) ?_
            refine x_iret C hA hQ hr dX10_digits_35 (Nat.le_of_ble_eq_true rfl) ?_
            have hA9 : dgs by9 to k = 0 := dgs_stop (fun z => by omega)
            exact ⟨by rw [show dgs by9 to fr = k - fr by omega], rfl⟩
  refine x_L (L' := [(0, .ref mo), (1, .int (nI fr)), (2, .int (nI to)), (3, .int (nI fr))]) [1, 2, 3, 0] rfl ?_
  exact cut2 (to - fr + 1) fr (by first | omega) (by first | omega) (by first | omega) (by omega)

set_option maxHeartbeats 4000000 in
set_option maxRecDepth 100000 in
/-- digitsOf -/
theorem c_X10_digitsOf (l : Launch) (D : va_G) (cy : Nat → ClassId) (mo : Nat) (mr : Nat → Nat) (cols : Nat) (lc : Nat) (smp : Nat) (mk : Nat) (rs : Nat) (nse : Nat) (npa : Nat) (nbo : Nat) (tn : Nat) (ik : Nat) (ky : Int32) (j0 : Int32) (j1 : Int32) (j2 : Int32) (j3 : Int32) (j4 : Int32) (by9 : Nat → Nat) (fr : Nat) (mn : Nat) (hby : ∀ k, by9 k < 128) (hft : fr + mn ≤ 1440) (hmn : mn ≤ 4) (hdg : ∀ j, j < mn → 48 ≤ by9 (fr + j) ∧ by9 (fr + j) ≤ 57) : xMet l D cy xT yX10_digitsOf wsX10_digitsOf ({ frames := 1, cells := 0, slots := 0, locals := 0 } : Room) [.ref mo, .int (nI fr), .int (nI mn)] [(mo, .inr (9, [.int (nI cols), .int (nI lc), .int (nI smp), .int (ky), .ref (mr 0), .ref (mr 1), .ref (mr 2), .ref (mr 3), .ref (mr 4), .ref (mr 5), .ref (mr 6), .ref (mr 7), .ref (mr 8), .ref (mr 9), .int (nI mk), .int (nI rs), .ref (mr 10), .ref (mr 11), .ref (mr 12), .ref (mr 13), .ref (mr 14), .ref (mr 15), .ref (mr 16), .ref (mr 17), .ref (mr 18), .ref (mr 19), .ref (mr 20), .int (nI nse), .int (nI npa), .int (nI nbo), .ref (mr 21), .int (nI tn), .ref (mr 22), .int (nI ik), .int (j0), .int (j1), .ref (mr 23), .int (j2), .ref (mr 24), .ref (mr 25), .int (j3), .ref (mr 26), .int (j4), .ref (mr 27), .ref (mr 28), .ref (mr 29), .ref (mr 30)])), (mr 4, .inl (cy 1, 1440, .inl (fun k => nI (by9 k))))] [] (fun (v9 : Option Value) (w9 : va_W) => (v9 = some (.int (nI (numD by9 fr mn))) ∧ w9 = [(mo, .inr (9, [.int (nI cols), .int (nI lc), .int (nI smp), .int (ky), .ref (mr 0), .ref (mr 1), .ref (mr 2), .ref (mr 3), .ref (mr 4), .ref (mr 5), .ref (mr 6), .ref (mr 7), .ref (mr 8), .ref (mr 9), .int (nI mk), .int (nI rs), .ref (mr 10), .ref (mr 11), .ref (mr 12), .ref (mr 13), .ref (mr 14), .ref (mr 15), .ref (mr 16), .ref (mr 17), .ref (mr 18), .ref (mr 19), .ref (mr 20), .int (nI nse), .int (nI npa), .int (nI nbo), .ref (mr 21), .int (nI tn), .ref (mr 22), .int (nI ik), .int (j0), .int (j1), .ref (mr 23), .int (j2), .ref (mr 24), .ref (mr 25), .int (j3), .ref (mr 26), .int (j4), .ref (mr 27), .ref (mr 28), .ref (mr 29), .ref (mr 30)])), (mr 4, .inl (cy 1, 1440, .inl (fun k => nI (by9 k))))])) := by
  refine xMet_of (cc := cX10_digitsOf) (maxL := 5) (ret := (some .int)) (by decide) rfl (Nat.le_of_ble_eq_true rfl) (fun p e s m args below meth c A R Q hA hR hQ C hr hnm hro hX => ?_)
  have hw0 : ∀ w ∈ u_ws RX10 TX10 47, w ∈ wsX10_digitsOf := by decide +kernel
  have hw1 : Cond.fieldLink RX10 31 (TX10 8).1 (TX10 8).2.1 (TX10 8).2.2.1 ∈ wsX10_digitsOf := by decide +kernel
  refine x_L (L' := [(0, .ref mo), (1, .int (nI fr)), (2, .int (nI mn))]) [0, 1, 2] rfl ?_
  refine x_iconst C dX10_digitsOf_0 (q := 1) rfl (v := nI 0) (by decide) ?_
  refine x_istore_n C (L' := [(3, .int (nI 0)), (0, .ref mo), (1, .int (nI fr)), (2, .int (nI mn))]) dX10_digitsOf_1 (q := 2) rfl rfl (by decide) rfl ?_
  refine x_iload_n C dX10_digitsOf_2 (q := 3) rfl rfl 2 rfl ?_
  refine x_istore C (L' := [(4, .int (nI fr)), (3, .int (nI 0)), (0, .ref mo), (1, .int (nI fr)), (2, .int (nI mn))]) dX10_digitsOf_3 (q := 5) rfl (by decide) rfl ?_
  have cut5 : ∀ (fuel : Nat) (i : Nat) (v : Nat) (k : Nat), (i ≤ mn) → (k = fr + i) → (v = numD by9 fr i) → (v < 10000) → mn - i < fuel → xG p l e R s m args below meth c Q D A 5 [(mo, .inr (9, [.int (nI cols), .int (nI lc), .int (nI smp), .int (ky), .ref (mr 0), .ref (mr 1), .ref (mr 2), .ref (mr 3), .ref (mr 4), .ref (mr 5), .ref (mr 6), .ref (mr 7), .ref (mr 8), .ref (mr 9), .int (nI mk), .int (nI rs), .ref (mr 10), .ref (mr 11), .ref (mr 12), .ref (mr 13), .ref (mr 14), .ref (mr 15), .ref (mr 16), .ref (mr 17), .ref (mr 18), .ref (mr 19), .ref (mr 20), .int (nI nse), .int (nI npa), .int (nI nbo), .ref (mr 21), .int (nI tn), .ref (mr 22), .int (nI ik), .int (j0), .int (j1), .ref (mr 23), .int (j2), .ref (mr 24), .ref (mr 25), .int (j3), .ref (mr 26), .int (j4), .ref (mr 27), .ref (mr 28), .ref (mr 29), .ref (mr 30)])), (mr 4, .inl (cy 1, 1440, .inl (fun k => nI (by9 k))))] 0 0 5 [(0, .ref mo), (1, .int (nI fr)), (2, .int (nI mn)), (3, .int (nI v)), (4, .int (nI k))] [] := by
    intro fuel
    induction fuel with
    | zero =>
      intro i v k hi hk hv hv4 hmu
      exact absurd hmu (Nat.not_lt_zero _)
    | succ fuel ih =>
      intro i v k hi hk hv hv4 hmu
      have hdi : i < mn → 48 ≤ by9 k ∧ by9 k ≤ 57 := fun h => by rw [hk]; exact hdg i h
      have hlt := numD_lt (b := by9) (p := fr) i (fun j hj => (hdg j (by omega)).2)
      have hp : (10 : Nat) ^ i ≤ 10 ^ 4 := Nat.pow_le_pow_right (by decide) (by omega)
      have hl3 : i < mn → v < 1000 := fun h => by rw [hv]; exact Nat.lt_of_lt_of_le hlt (Nat.pow_le_pow_right (by decide) (by omega) : (10 : Nat) ^ i ≤ 10 ^ 3)
      have ih5 := ih
      clear ih
      refine x_iload C dX10_digitsOf_5 (q := 7) rfl 4 rfl ?_
      refine x_iload_n C dX10_digitsOf_7 (q := 8) rfl rfl 1 rfl ?_
      refine x_iload_n C dX10_digitsOf_8 (q := 9) rfl rfl 2 rfl ?_
      refine x_iadd C dX10_digitsOf_9 (q := 10) rfl (z := nI (fr + mn)) (nI_add fr mn) ?_
      refine x_icmp_ge C (tgt := 35) dX10_digitsOf_10 (by decide) (q := 13) rfl (a := ((k : Nat) : Int)) (b := ((fr + mn : Nat) : Int)) (nI_toInt (by omega)) (nI_toInt (by omega)) (fun h1 => ?_) (fun h1 => ?_)
      · first
        | (exfalso; omega)
        |
          refine x_iload_n C dX10_digitsOf_35 (q := 36) rfl rfl 3 rfl ?_
          refine x_iret C hA hQ hr dX10_digitsOf_36 (Nat.le_of_ble_eq_true rfl) ?_
          have e9 : i = mn := by omega
          exact ⟨by rw [hv, e9], rfl⟩
      · first
        | (exfalso; omega)
        |
          refine x_bipush C dX10_digitsOf_13 (q := 15) rfl (v := nI 10) (by decide) ?_
          refine x_iload_n C dX10_digitsOf_15 (q := 16) rfl rfl 3 rfl ?_
          refine x_imul C dX10_digitsOf_16 (q := 17) rfl (z := nI (10 * v)) (pk_mul 10 v) ?_
          refine x_aload_n C dX10_digitsOf_17 (q := 18) rfl rfl 0 rfl ?_
          refine x_get C (ci := 9) (v := .ref (mr 4)) hw0 0 rfl rfl 8 (by decide) hw1 rfl dX10_digitsOf_18 (q := 21) rfl ?_
          refine x_iload C dX10_digitsOf_21 (q := 23) rfl 4 rfl ?_
          have hb2 := hby k
          refine x_iald C (j := k) (v := nI (by9 k)) 1 rfl (nI_toInt (by omega)) (by omega) rfl dX10_digitsOf_23 (q := 24) rfl ?_
          refine x_iadd C dX10_digitsOf_24 (q := 25) rfl (z := nI (10 * v + (by9 k))) (nI_add (10 * v) (by9 k)) ?_
          refine x_bipush C dX10_digitsOf_25 (q := 27) rfl (v := nI 48) (by decide) ?_
          refine x_isub C dX10_digitsOf_27 (q := 28) rfl (z := nI (10 * v + (by9 k) - 48)) (xi_subN (by omega) (by omega)) ?_
          refine x_istore_n C (L' := [(3, .int (nI (10 * v + (by9 k) - 48))), (0, .ref mo), (1, .int (nI fr)), (2, .int (nI mn)), (4, .int (nI k))]) dX10_digitsOf_28 (q := 29) rfl rfl (by decide) rfl ?_
          refine x_iinc C (L' := [(4, .int (nI (k + 1))), (3, .int (nI (10 * v + (by9 k) - 48))), (0, .ref mo), (1, .int (nI fr)), (2, .int (nI mn))]) dX10_digitsOf_29 (q := 32) rfl 4 rfl (v := nI (k + 1)) (nI_add k 1) (by decide) rfl ?_
          refine x_goto C (tgt := 5) dX10_digitsOf_32 (by decide) ?_
          refine x_L (L' := [(0, .ref mo), (1, .int (nI fr)), (2, .int (nI mn)), (3, .int (nI (10 * v + (by9 k) - 48))), (4, .int (nI (k + 1)))]) [2, 3, 4, 1, 0] rfl ?_
          exact ih5 (i + 1) (10 * v + (by9 k) - 48) (k + 1) (by first | omega | assumption) (by first | omega | assumption) (by rw [hv, hk]; have hdj := hdi (by omega); rw [hk] at hdj; show _ = numD by9 fr i * 10 + (by9 (fr + i) - 48); omega) (by first | omega | assumption) (by omega)
  refine x_L (L' := [(0, .ref mo), (1, .int (nI fr)), (2, .int (nI mn)), (3, .int (nI 0)), (4, .int (nI fr))]) [2, 3, 4, 1, 0] rfl ?_
  exact cut5 (mn - 0 + 1) 0 0 fr (by first | omega | assumption) (by first | omega | assumption) (by rfl) (by first | omega | assumption) (by omega)

set_option maxHeartbeats 4000000 in
set_option maxRecDepth 100000 in
/-- asOne -/
theorem c_X10_asOne (l : Launch) (D : va_G) (cy : Nat → ClassId) (mo : Nat) (mr : Nat → Nat) (cols : Nat) (lc : Nat) (smp : Nat) (mk : Nat) (rs : Nat) (nse : Nat) (npa : Nat) (nbo : Nat) (tn : Nat) (ik : Nat) (ky : Int32) (j0 : Int32) (j1 : Int32) (j2 : Int32) (j3 : Int32) (j4 : Int32) (by9 : Nat → Nat) (fr : Nat) (to : Nat) (len : Nat) (b : Nat → Nat) (hby : ∀ k, by9 k < 128) (hto : to = fr + len) (hl : to ≤ 1440) (hb : ∀ j, j < len → by9 (fr + j) = b j) : xMet l D cy xT yX10_asOne wsX10_asOne ({ frames := 1, cells := 0, slots := 0, locals := 0 } : Room) [.ref mo, .int (nI fr), .int (nI to)] [(mo, .inr (9, [.int (nI cols), .int (nI lc), .int (nI smp), .int (ky), .ref (mr 0), .ref (mr 1), .ref (mr 2), .ref (mr 3), .ref (mr 4), .ref (mr 5), .ref (mr 6), .ref (mr 7), .ref (mr 8), .ref (mr 9), .int (nI mk), .int (nI rs), .ref (mr 10), .ref (mr 11), .ref (mr 12), .ref (mr 13), .ref (mr 14), .ref (mr 15), .ref (mr 16), .ref (mr 17), .ref (mr 18), .ref (mr 19), .ref (mr 20), .int (nI nse), .int (nI npa), .int (nI nbo), .ref (mr 21), .int (nI tn), .ref (mr 22), .int (nI ik), .int (j0), .int (j1), .ref (mr 23), .int (j2), .ref (mr 24), .ref (mr 25), .int (j3), .ref (mr 26), .int (j4), .ref (mr 27), .ref (mr 28), .ref (mr 29), .ref (mr 30)])), (mr 4, .inl (cy 1, 1440, .inl (fun k => nI (by9 k))))] [] (fun (v9 : Option Value) (w9 : va_W) => (v9 = some (.long (wordF b len)) ∧ w9 = [(mo, .inr (9, [.int (nI cols), .int (nI lc), .int (nI smp), .int (ky), .ref (mr 0), .ref (mr 1), .ref (mr 2), .ref (mr 3), .ref (mr 4), .ref (mr 5), .ref (mr 6), .ref (mr 7), .ref (mr 8), .ref (mr 9), .int (nI mk), .int (nI rs), .ref (mr 10), .ref (mr 11), .ref (mr 12), .ref (mr 13), .ref (mr 14), .ref (mr 15), .ref (mr 16), .ref (mr 17), .ref (mr 18), .ref (mr 19), .ref (mr 20), .int (nI nse), .int (nI npa), .int (nI nbo), .ref (mr 21), .int (nI tn), .ref (mr 22), .int (nI ik), .int (j0), .int (j1), .ref (mr 23), .int (j2), .ref (mr 24), .ref (mr 25), .int (j3), .ref (mr 26), .int (j4), .ref (mr 27), .ref (mr 28), .ref (mr 29), .ref (mr 30)])), (mr 4, .inl (cy 1, 1440, .inl (fun k => nI (by9 k))))])) := by
  refine xMet_of (cc := cX10_asOne) (maxL := 6) (ret := (some .long)) (by decide) rfl (Nat.le_of_ble_eq_true rfl) (fun p e s m args below meth c A R Q hA hR hQ C hr hnm hro hX => ?_)
  have hw0 : Jvm.Cond.constantLong RX10 261 (257) ∈ wsX10_asOne := by decide +kernel
  have hw1 : ∀ w ∈ u_ws RX10 TX10 47, w ∈ wsX10_asOne := by decide +kernel
  have hw2 : Cond.fieldLink RX10 31 (TX10 8).1 (TX10 8).2.1 (TX10 8).2.2.1 ∈ wsX10_asOne := by decide +kernel
  refine x_L (L' := [(0, .ref mo), (1, .int (nI fr)), (2, .int (nI to))]) [0, 1, 2] rfl ?_
  refine x_lconst C dX10_asOne_0 (q := 1) rfl (v := lN 0) rfl ?_
  refine x_lstore_n C (L' := [(3, .long (lN 0)), (0, .ref mo), (1, .int (nI fr)), (2, .int (nI to))]) dX10_asOne_1 (q := 2) rfl rfl (by decide) rfl ?_
  refine x_iload_n C dX10_asOne_2 (q := 3) rfl rfl 2 rfl ?_
  refine x_istore C (L' := [(5, .int (nI fr)), (3, .long (lN 0)), (0, .ref mo), (1, .int (nI fr)), (2, .int (nI to))]) dX10_asOne_3 (q := 5) rfl (by decide) rfl ?_
  have cut5 : ∀ (fuel : Nat) (i : Nat) (v : Int64) (k : Nat), (i ≤ len) → (k = fr + i) → (v = wordF b i) → len - i < fuel → xG p l e R s m args below meth c Q D A 6 [(mo, .inr (9, [.int (nI cols), .int (nI lc), .int (nI smp), .int (ky), .ref (mr 0), .ref (mr 1), .ref (mr 2), .ref (mr 3), .ref (mr 4), .ref (mr 5), .ref (mr 6), .ref (mr 7), .ref (mr 8), .ref (mr 9), .int (nI mk), .int (nI rs), .ref (mr 10), .ref (mr 11), .ref (mr 12), .ref (mr 13), .ref (mr 14), .ref (mr 15), .ref (mr 16), .ref (mr 17), .ref (mr 18), .ref (mr 19), .ref (mr 20), .int (nI nse), .int (nI npa), .int (nI nbo), .ref (mr 21), .int (nI tn), .ref (mr 22), .int (nI ik), .int (j0), .int (j1), .ref (mr 23), .int (j2), .ref (mr 24), .ref (mr 25), .int (j3), .ref (mr 26), .int (j4), .ref (mr 27), .ref (mr 28), .ref (mr 29), .ref (mr 30)])), (mr 4, .inl (cy 1, 1440, .inl (fun k => nI (by9 k))))] 0 0 5 [(0, .ref mo), (1, .int (nI fr)), (2, .int (nI to)), (3, .long (v)), (5, .int (nI k))] [] := by
    intro fuel
    induction fuel with
    | zero =>
      intro i v k hi hk hv hmu
      exact absurd hmu (Nat.not_lt_zero _)
    | succ fuel ih =>
      intro i v k hi hk hv hmu
      have ih5 := ih
      clear ih
      refine x_iload C dX10_asOne_5 (q := 7) rfl 4 rfl ?_
      refine x_iload_n C dX10_asOne_7 (q := 8) rfl rfl 2 rfl ?_
      refine x_icmp_ge C (tgt := 32) dX10_asOne_8 (by decide) (q := 11) rfl (a := ((k : Nat) : Int)) (b := ((to : Nat) : Int)) (nI_toInt (by omega)) (nI_toInt (by omega)) (fun h1 => ?_) (fun h1 => ?_)
      · first
        | (exfalso; omega)
        |
          refine x_lload_n C dX10_asOne_32 (q := 33) rfl rfl 3 rfl ?_
          refine x_lret C hA hQ hr dX10_asOne_33 (Nat.le_of_ble_eq_true rfl) ?_
          have e9 : i = len := by omega
          exact ⟨by rw [hv, e9], rfl⟩
      · first
        | (exfalso; omega)
        |
          refine x_ldc2 C (v := lN 257) hw0 dX10_asOne_11 (q := 14) rfl ?_
          refine x_lload_n C dX10_asOne_14 (q := 15) rfl rfl 3 rfl ?_
          refine x_lmul C dX10_asOne_15 (q := 16) rfl (z := (lN 257) * v) (rfl) ?_
          refine x_aload_n C dX10_asOne_16 (q := 17) rfl rfl 0 rfl ?_
          refine x_get C (ci := 9) (v := .ref (mr 4)) hw1 0 rfl rfl 8 (by decide) hw2 rfl dX10_asOne_17 (q := 20) rfl ?_
          refine x_iload C dX10_asOne_20 (q := 22) rfl 4 rfl ?_
          have hb2 := hby k
          refine x_iald C (j := k) (v := nI (by9 k)) 1 rfl (nI_toInt (by omega)) (by omega) rfl dX10_asOne_22 (q := 23) rfl ?_
          refine x_i2l C dX10_asOne_23 (q := 24) rfl (v := lN (by9 k)) (nI_l (by omega)) ?_
          refine x_ladd C dX10_asOne_24 (q := 25) rfl (z := ((lN 257) * v) + (lN (by9 k))) (rfl) ?_
          refine x_lstore_n C (L' := [(3, .long (((lN 257) * v) + (lN (by9 k)))), (0, .ref mo), (1, .int (nI fr)), (2, .int (nI to)), (5, .int (nI k))]) dX10_asOne_25 (q := 26) rfl rfl (by decide) rfl ?_
          refine x_iinc C (L' := [(5, .int (nI (k + 1))), (3, .long (((lN 257) * v) + (lN (by9 k)))), (0, .ref mo), (1, .int (nI fr)), (2, .int (nI to))]) dX10_asOne_26 (q := 29) rfl 4 rfl (v := nI (k + 1)) (nI_add k 1) (by decide) rfl ?_
          refine x_goto C (tgt := 5) dX10_asOne_29 (by decide) ?_
          refine x_L (L' := [(0, .ref mo), (1, .int (nI fr)), (2, .int (nI to)), (3, .long (((lN 257) * v) + (lN (by9 k)))), (5, .int (nI (k + 1)))]) [2, 3, 4, 1, 0] rfl ?_
          exact ih5 (i + 1) (((lN 257) * v) + (lN (by9 k))) (k + 1) (by first | omega | assumption) (by first | omega | assumption) (by rw [hv, hk, hb i (by omega), Int64.mul_comm]; rfl) (by omega)
  refine x_L (L' := [(0, .ref mo), (1, .int (nI fr)), (2, .int (nI to)), (3, .long (lN 0)), (5, .int (nI fr))]) [2, 3, 4, 1, 0] rfl ?_
  exact cut5 (len - 0 + 1) 0 (lN 0) fr (by first | omega | assumption) (by first | omega | assumption) (by rfl) (by omega)

set_option maxHeartbeats 4000000 in
set_option maxRecDepth 100000 in
/-- days -/
theorem c_X10_days (l : Launch) (D : va_G) (cy : Nat → ClassId) (y : Nat) (m9 : Nat) (hy : y < 100000) (hm9 : m9 < 1000) : xMet l D cy xT yX10_days wsX10_days ({ frames := 1, cells := 0, slots := 0, locals := 0 } : Room) [.int (nI y), .int (nI m9)] [] [] (fun (v9 : Option Value) (w9 : va_W) => (v9 = some (.int (nI (mdS y m9))) ∧ w9 = [])) := by
  refine xMet_of (cc := cX10_days) (maxL := 2) (ret := (some .int)) (by decide) rfl (Nat.le_of_ble_eq_true rfl) (fun p e s m args below meth c A R Q hA hR hQ C hr hnm hro hX => ?_)
  refine x_L (L' := [(0, .int (nI y)), (1, .int (nI m9))]) [0, 1] rfl ?_
  refine x_iload_n C dX10_days_0 (q := 1) rfl rfl 1 rfl ?_
  refine x_iconst C dX10_days_1 (q := 2) rfl (v := nI 2) (by decide) ?_
  refine x_icmp_ne C (tgt := 34) dX10_days_2 (by decide) (q := 5) rfl (a := ((m9 : Nat) : Int)) (b := 2) (nI_toInt (by omega)) rfl (fun h1 => ?_) (fun h1 => ?_)
  · first
    | (exfalso; omega)
    |
      refine x_iload_n C dX10_days_34 (q := 35) rfl rfl 1 rfl ?_
      refine x_iconst C dX10_days_35 (q := 36) rfl (v := nI 4) (by decide) ?_
      refine x_icmp_eq C (tgt := 57) dX10_days_36 (by decide) (q := 39) rfl (a := ((m9 : Nat) : Int)) (b := 4) (nI_toInt (by omega)) rfl (fun h2 => ?_) (fun h2 => ?_)
      · first
        | (exfalso; omega)
        |
          refine x_bipush C dX10_days_57 (q := 59) rfl (v := nI 30) (by decide) ?_
          refine x_goto C (tgt := 64) dX10_days_59 (by decide) ?_
          refine x_iret C hA hQ hr dX10_days_64 (Nat.le_of_ble_eq_true rfl) ?_
          refine ⟨?_, rfl⟩
          unfold mdS
          first | (rw [if_pos (by omega), if_pos (by exact ⟨by omega, by omega⟩)]) | (rw [if_pos (by omega), if_neg (by rintro ⟨z1, z2⟩; omega)]) | (rw [if_neg (by omega), if_pos (by omega)]) | (rw [if_neg (by omega), if_neg (by omega)])
      · first
        | (exfalso; omega)
        |
          refine x_iload_n C dX10_days_39 (q := 40) rfl rfl 1 rfl ?_
          refine x_bipush C dX10_days_40 (q := 42) rfl (v := nI 6) (by decide) ?_
          refine x_icmp_eq C (tgt := 57) dX10_days_42 (by decide) (q := 45) rfl (a := ((m9 : Nat) : Int)) (b := 6) (nI_toInt (by omega)) rfl (fun h3 => ?_) (fun h3 => ?_)
          · first
            | (exfalso; omega)
            |
              refine x_bipush C dX10_days_57 (q := 59) rfl (v := nI 30) (by decide) ?_
              refine x_goto C (tgt := 64) dX10_days_59 (by decide) ?_
              refine x_iret C hA hQ hr dX10_days_64 (Nat.le_of_ble_eq_true rfl) ?_
              refine ⟨?_, rfl⟩
              unfold mdS
              first | (rw [if_pos (by omega), if_pos (by exact ⟨by omega, by omega⟩)]) | (rw [if_pos (by omega), if_neg (by rintro ⟨z1, z2⟩; omega)]) | (rw [if_neg (by omega), if_pos (by omega)]) | (rw [if_neg (by omega), if_neg (by omega)])
          · first
            | (exfalso; omega)
            |
              refine x_iload_n C dX10_days_45 (q := 46) rfl rfl 1 rfl ?_
              refine x_bipush C dX10_days_46 (q := 48) rfl (v := nI 9) (by decide) ?_
              refine x_icmp_eq C (tgt := 57) dX10_days_48 (by decide) (q := 51) rfl (a := ((m9 : Nat) : Int)) (b := 9) (nI_toInt (by omega)) rfl (fun h4 => ?_) (fun h4 => ?_)
              · first
                | (exfalso; omega)
                |
                  refine x_bipush C dX10_days_57 (q := 59) rfl (v := nI 30) (by decide) ?_
                  refine x_goto C (tgt := 64) dX10_days_59 (by decide) ?_
                  refine x_iret C hA hQ hr dX10_days_64 (Nat.le_of_ble_eq_true rfl) ?_
                  refine ⟨?_, rfl⟩
                  unfold mdS
                  first | (rw [if_pos (by omega), if_pos (by exact ⟨by omega, by omega⟩)]) | (rw [if_pos (by omega), if_neg (by rintro ⟨z1, z2⟩; omega)]) | (rw [if_neg (by omega), if_pos (by omega)]) | (rw [if_neg (by omega), if_neg (by omega)])
              · first
                | (exfalso; omega)
                |
                  refine x_iload_n C dX10_days_51 (q := 52) rfl rfl 1 rfl ?_
                  refine x_bipush C dX10_days_52 (q := 54) rfl (v := nI 11) (by decide) ?_
                  refine x_icmp_ne C (tgt := 62) dX10_days_54 (by decide) (q := 57) rfl (a := ((m9 : Nat) : Int)) (b := 11) (nI_toInt (by omega)) rfl (fun h5 => ?_) (fun h5 => ?_)
                  · first
                    | (exfalso; omega)
                    |
                      refine x_bipush C dX10_days_62 (q := 64) rfl (v := nI 31) (by decide) ?_
                      refine x_iret C hA hQ hr dX10_days_64 (Nat.le_of_ble_eq_true rfl) ?_
                      refine ⟨?_, rfl⟩
                      unfold mdS
                      first | (rw [if_pos (by omega), if_pos (by exact ⟨by omega, by omega⟩)]) | (rw [if_pos (by omega), if_neg (by rintro ⟨z1, z2⟩; omega)]) | (rw [if_neg (by omega), if_pos (by omega)]) | (rw [if_neg (by omega), if_neg (by omega)])
                  · first
                    | (exfalso; omega)
                    |
                      refine x_bipush C dX10_days_57 (q := 59) rfl (v := nI 30) (by decide) ?_
                      refine x_goto C (tgt := 64) dX10_days_59 (by decide) ?_
                      refine x_iret C hA hQ hr dX10_days_64 (Nat.le_of_ble_eq_true rfl) ?_
                      refine ⟨?_, rfl⟩
                      unfold mdS
                      first | (rw [if_pos (by omega), if_pos (by exact ⟨by omega, by omega⟩)]) | (rw [if_pos (by omega), if_neg (by rintro ⟨z1, z2⟩; omega)]) | (rw [if_neg (by omega), if_pos (by omega)]) | (rw [if_neg (by omega), if_neg (by omega)])
  · first
    | (exfalso; omega)
    |
      refine x_iload_n C dX10_days_5 (q := 6) rfl rfl 0 rfl ?_
      refine x_iconst C dX10_days_6 (q := 7) rfl (v := nI 4) (by decide) ?_
      refine x_irem C dX10_days_7 (q := 8) rfl (xi_ne0 (b := 4) rfl (by omega)) (z := nI (y % 4)) (pk_rem (by omega) (by omega) (by omega)) ?_
      refine x_if_ne C (tgt := 31) dX10_days_8 (by decide) (q := 11) rfl (a := ((y % 4 : Nat) : Int)) (nI_toInt (by omega)) (fun h6 => ?_) (fun h6 => ?_)
      · first
        | (exfalso; omega)
        |
          refine x_bipush C dX10_days_31 (q := 33) rfl (v := nI 28) (by decide) ?_
          refine x_iret C hA hQ hr dX10_days_33 (Nat.le_of_ble_eq_true rfl) ?_
          refine ⟨?_, rfl⟩
          unfold mdS
          first | (rw [if_pos (by omega), if_pos (by exact ⟨by omega, by omega⟩)]) | (rw [if_pos (by omega), if_neg (by rintro ⟨z1, z2⟩; omega)]) | (rw [if_neg (by omega), if_pos (by omega)]) | (rw [if_neg (by omega), if_neg (by omega)])
      · first
        | (exfalso; omega)
        |
          refine x_iload_n C dX10_days_11 (q := 12) rfl rfl 0 rfl ?_
          refine x_bipush C dX10_days_12 (q := 14) rfl (v := nI 100) (by decide) ?_
          refine x_irem C dX10_days_14 (q := 15) rfl (xi_ne0 (b := 100) rfl (by omega)) (z := nI (y % 100)) (pk_rem (by omega) (by omega) (by omega)) ?_
          refine x_if_ne C (tgt := 26) dX10_days_15 (by decide) (q := 18) rfl (a := ((y % 100 : Nat) : Int)) (nI_toInt (by omega)) (fun h7 => ?_) (fun h7 => ?_)
          · first
            | (exfalso; omega)
            |
              refine x_bipush C dX10_days_26 (q := 28) rfl (v := nI 29) (by decide) ?_
              refine x_goto C (tgt := 33) dX10_days_28 (by decide) ?_
              refine x_iret C hA hQ hr dX10_days_33 (Nat.le_of_ble_eq_true rfl) ?_
              refine ⟨?_, rfl⟩
              unfold mdS
              first | (rw [if_pos (by omega), if_pos (by exact ⟨by omega, by omega⟩)]) | (rw [if_pos (by omega), if_neg (by rintro ⟨z1, z2⟩; omega)]) | (rw [if_neg (by omega), if_pos (by omega)]) | (rw [if_neg (by omega), if_neg (by omega)])
          · first
            | (exfalso; omega)
            |
              refine x_iload_n C dX10_days_18 (q := 19) rfl rfl 0 rfl ?_
              refine x_sipush C dX10_days_19 (q := 22) rfl (v := nI 400) (by decide) ?_
              refine x_irem C dX10_days_22 (q := 23) rfl (xi_ne0 (b := 400) rfl (by omega)) (z := nI (y % 400)) (pk_rem (by omega) (by omega) (by omega)) ?_
              refine x_if_ne C (tgt := 31) dX10_days_23 (by decide) (q := 26) rfl (a := ((y % 400 : Nat) : Int)) (nI_toInt (by omega)) (fun h8 => ?_) (fun h8 => ?_)
              · first
                | (exfalso; omega)
                |
                  refine x_bipush C dX10_days_31 (q := 33) rfl (v := nI 28) (by decide) ?_
                  refine x_iret C hA hQ hr dX10_days_33 (Nat.le_of_ble_eq_true rfl) ?_
                  refine ⟨?_, rfl⟩
                  unfold mdS
                  first | (rw [if_pos (by omega), if_pos (by exact ⟨by omega, by omega⟩)]) | (rw [if_pos (by omega), if_neg (by rintro ⟨z1, z2⟩; omega)]) | (rw [if_neg (by omega), if_pos (by omega)]) | (rw [if_neg (by omega), if_neg (by omega)])
              · first
                | (exfalso; omega)
                |
                  refine x_bipush C dX10_days_26 (q := 28) rfl (v := nI 29) (by decide) ?_
                  refine x_goto C (tgt := 33) dX10_days_28 (by decide) ?_
                  refine x_iret C hA hQ hr dX10_days_33 (Nat.le_of_ble_eq_true rfl) ?_
                  refine ⟨?_, rfl⟩
                  unfold mdS
                  first | (rw [if_pos (by omega), if_pos (by exact ⟨by omega, by omega⟩)]) | (rw [if_pos (by omega), if_neg (by rintro ⟨z1, z2⟩; omega)]) | (rw [if_neg (by omega), if_pos (by omega)]) | (rw [if_neg (by omega), if_neg (by omega)])

set_option maxHeartbeats 4000000 in
set_option maxRecDepth 100000 in
/-- where a field ends -/
theorem c_X10_ends (l : Launch) (D : va_G) (cy : Nat → ClassId) (mo : Nat) (mr : Nat → Nat) (cols : Nat) (lc : Nat) (smp : Nat) (mk : Nat) (rs : Nat) (nse : Nat) (npa : Nat) (nbo : Nat) (tn : Nat) (ik : Nat) (ky : Int32) (j0 : Int32) (j1 : Int32) (j2 : Int32) (j3 : Int32) (j4 : Int32) (by9 : Nat → Nat) (lz : Nat → Nat) (k9 : Nat) (n9 : Nat) (t9 : Nat → Nat) (fr : Nat) (q9 : Nat) (hby : ∀ k, by9 k < 128) (hk9 : k9 < 24) (hlz : lz k9 = n9) (hn9 : n9 ≤ 60) (hbt : ∀ j, j < n9 → by9 (60 * k9 + j) = t9 j) (hfr : fr = 60 * k9 + q9) (hq9 : q9 ≤ n9) : xMet l D cy xT yX10_ends wsX10_ends ({ frames := 1, cells := 0, slots := 0, locals := 0 } : Room) [.ref mo, .int (nI k9), .int (nI fr)] [(mo, .inr (9, [.int (nI cols), .int (nI lc), .int (nI smp), .int (ky), .ref (mr 0), .ref (mr 1), .ref (mr 2), .ref (mr 3), .ref (mr 4), .ref (mr 5), .ref (mr 6), .ref (mr 7), .ref (mr 8), .ref (mr 9), .int (nI mk), .int (nI rs), .ref (mr 10), .ref (mr 11), .ref (mr 12), .ref (mr 13), .ref (mr 14), .ref (mr 15), .ref (mr 16), .ref (mr 17), .ref (mr 18), .ref (mr 19), .ref (mr 20), .int (nI nse), .int (nI npa), .int (nI nbo), .ref (mr 21), .int (nI tn), .ref (mr 22), .int (nI ik), .int (j0), .int (j1), .ref (mr 23), .int (j2), .ref (mr 24), .ref (mr 25), .int (j3), .ref (mr 26), .int (j4), .ref (mr 27), .ref (mr 28), .ref (mr 29), .ref (mr 30)])), (mr 4, .inl (cy 1, 1440, .inl (fun k => nI (by9 k)))), (mr 5, .inl (cy 1, 24, .inl (fun k => nI (lz k))))] [] (fun (v9 : Option Value) (w9 : va_W) => (v9 = some (.int (nI (60 * k9 + fEnd t9 n9 q9))) ∧ w9 = [(mo, .inr (9, [.int (nI cols), .int (nI lc), .int (nI smp), .int (ky), .ref (mr 0), .ref (mr 1), .ref (mr 2), .ref (mr 3), .ref (mr 4), .ref (mr 5), .ref (mr 6), .ref (mr 7), .ref (mr 8), .ref (mr 9), .int (nI mk), .int (nI rs), .ref (mr 10), .ref (mr 11), .ref (mr 12), .ref (mr 13), .ref (mr 14), .ref (mr 15), .ref (mr 16), .ref (mr 17), .ref (mr 18), .ref (mr 19), .ref (mr 20), .int (nI nse), .int (nI npa), .int (nI nbo), .ref (mr 21), .int (nI tn), .ref (mr 22), .int (nI ik), .int (j0), .int (j1), .ref (mr 23), .int (j2), .ref (mr 24), .ref (mr 25), .int (j3), .ref (mr 26), .int (j4), .ref (mr 27), .ref (mr 28), .ref (mr 29), .ref (mr 30)])), (mr 4, .inl (cy 1, 1440, .inl (fun k => nI (by9 k)))), (mr 5, .inl (cy 1, 24, .inl (fun k => nI (lz k))))])) := by
  refine xMet_of (cc := cX10_ends) (maxL := 4) (ret := (some .int)) (by decide) rfl (Nat.le_of_ble_eq_true rfl) (fun p e s m args below meth c A R Q hA hR hQ C hr hnm hro hX => ?_)
  have hw0 : ∀ w ∈ u_ws RX10 TX10 47, w ∈ wsX10_ends := by decide +kernel
  have hw1 : Cond.fieldLink RX10 34 (TX10 9).1 (TX10 9).2.1 (TX10 9).2.2.1 ∈ wsX10_ends := by decide +kernel
  have hw2 : Cond.fieldLink RX10 31 (TX10 8).1 (TX10 8).2.1 (TX10 8).2.2.1 ∈ wsX10_ends := by decide +kernel
  refine x_L (L' := [(0, .ref mo), (1, .int (nI k9)), (2, .int (nI fr))]) [0, 1, 2] rfl ?_
  refine x_iload_n C dX10_ends_0 (q := 1) rfl rfl 2 rfl ?_
  refine x_istore_n C (L' := [(3, .int (nI fr)), (0, .ref mo), (1, .int (nI k9)), (2, .int (nI fr))]) dX10_ends_1 (q := 2) rfl rfl (by decide) rfl ?_
  have cut2 : ∀ (fuel : Nat) (i : Nat) (k : Nat), (i ≤ n9) → (k = 60 * k9 + i) → (fEnd t9 n9 q9 = fEnd t9 n9 i) → n9 - i < fuel → xG p l e R s m args below meth c Q D A 4 [(mo, .inr (9, [.int (nI cols), .int (nI lc), .int (nI smp), .int (ky), .ref (mr 0), .ref (mr 1), .ref (mr 2), .ref (mr 3), .ref (mr 4), .ref (mr 5), .ref (mr 6), .ref (mr 7), .ref (mr 8), .ref (mr 9), .int (nI mk), .int (nI rs), .ref (mr 10), .ref (mr 11), .ref (mr 12), .ref (mr 13), .ref (mr 14), .ref (mr 15), .ref (mr 16), .ref (mr 17), .ref (mr 18), .ref (mr 19), .ref (mr 20), .int (nI nse), .int (nI npa), .int (nI nbo), .ref (mr 21), .int (nI tn), .ref (mr 22), .int (nI ik), .int (j0), .int (j1), .ref (mr 23), .int (j2), .ref (mr 24), .ref (mr 25), .int (j3), .ref (mr 26), .int (j4), .ref (mr 27), .ref (mr 28), .ref (mr 29), .ref (mr 30)])), (mr 4, .inl (cy 1, 1440, .inl (fun k => nI (by9 k)))), (mr 5, .inl (cy 1, 24, .inl (fun k => nI (lz k))))] 0 0 2 [(0, .ref mo), (1, .int (nI k9)), (2, .int (nI fr)), (3, .int (nI k))] [] := by
    intro fuel
    induction fuel with
    | zero =>
      intro i k hi hk he hmu
      exact absurd hmu (Nat.not_lt_zero _)
    | succ fuel ih =>
      intro i k hi hk he hmu
      have hbi : i < n9 → by9 k = t9 i := fun h => by rw [hk]; exact hbt i h
      have ih2 := ih
      clear ih
      refine x_iload_n C dX10_ends_2 (q := 3) rfl rfl 3 rfl ?_
      refine x_bipush C dX10_ends_3 (q := 5) rfl (v := nI 60) (by decide) ?_
      refine x_iload_n C dX10_ends_5 (q := 6) rfl rfl 1 rfl ?_
      refine x_imul C dX10_ends_6 (q := 7) rfl (z := nI (60 * k9)) (pk_mul 60 k9) ?_
      refine x_aload_n C dX10_ends_7 (q := 8) rfl rfl 0 rfl ?_
      refine x_get C (ci := 9) (v := .ref (mr 5)) hw0 0 rfl rfl 9 (by decide) hw1 rfl dX10_ends_8 (q := 11) rfl ?_
      refine x_iload_n C dX10_ends_11 (q := 12) rfl rfl 1 rfl ?_
      have hlz9 := hlz
      refine x_iald C (j := k9) (v := nI (lz k9)) 2 rfl (nI_toInt (by omega)) (by omega) rfl dX10_ends_12 (q := 13) rfl ?_
      refine x_iadd C dX10_ends_13 (q := 14) rfl (z := nI (60 * k9 + (lz k9))) (nI_add (60 * k9) (lz k9)) ?_
      refine x_icmp_ge C (tgt := 34) dX10_ends_14 (by decide) (q := 17) rfl (a := ((k : Nat) : Int)) (b := ((60 * k9 + (lz k9) : Nat) : Int)) (nI_toInt (by omega)) (nI_toInt (by omega)) (fun h1 => ?_) (fun h1 => ?_)
      · first
        | (exfalso; omega)
        |
          refine x_iload_n C dX10_ends_34 (q := 35) rfl rfl 3 rfl ?_
          refine x_iret C hA hQ hr dX10_ends_35 (Nat.le_of_ble_eq_true rfl) ?_
          have e9 := fEnd_stop (tx := t9) (n := n9) (p := i) (by omega)
          exact ⟨by rw [he, e9, hk], rfl⟩
      · first
        | (exfalso; omega)
        |
          refine x_aload_n C dX10_ends_17 (q := 18) rfl rfl 0 rfl ?_
          refine x_get C (ci := 9) (v := .ref (mr 4)) hw0 0 rfl rfl 8 (by decide) hw2 rfl dX10_ends_18 (q := 21) rfl ?_
          refine x_iload_n C dX10_ends_21 (q := 22) rfl rfl 3 rfl ?_
          have hb2 := hby k
          refine x_iald C (j := k) (v := nI (by9 k)) 1 rfl (nI_toInt (by omega)) (by omega) rfl dX10_ends_22 (q := 23) rfl ?_
          refine x_bipush C dX10_ends_23 (q := 25) rfl (v := nI 44) (by decide) ?_
          refine x_icmp_eq C (tgt := 34) dX10_ends_25 (by decide) (q := 28) rfl (a := ((by9 k : Nat) : Int)) (b := 44) (nI_toInt (by omega)) rfl (fun h3 => ?_) (fun h3 => ?_)
          · first
            | (exfalso; omega)
            |
              refine x_iload_n C dX10_ends_34 (q := 35) rfl rfl 3 rfl ?_
              refine x_iret C hA hQ hr dX10_ends_35 (Nat.le_of_ble_eq_true rfl) ?_
              have e9 := fEnd_stop (tx := t9) (n := n9) (p := i) (by omega)
              exact ⟨by rw [he, e9, hk], rfl⟩
          · first
            | (exfalso; omega)
            |
              refine x_iinc C (L' := [(3, .int (nI (k + 1))), (0, .ref mo), (1, .int (nI k9)), (2, .int (nI fr))]) dX10_ends_28 (q := 31) rfl 3 rfl (v := nI (k + 1)) (nI_add k 1) (by decide) rfl ?_
              refine x_goto C (tgt := 2) dX10_ends_31 (by decide) ?_
              refine x_L (L' := [(0, .ref mo), (1, .int (nI k9)), (2, .int (nI fr)), (3, .int (nI (k + 1)))]) [1, 2, 3, 0] rfl ?_
              exact ih2 (i + 1) (k + 1) (by first | omega | assumption) (by first | omega | assumption) (by rw [he]; exact fEnd_step (by omega) (by omega)) (by omega)
  refine x_L (L' := [(0, .ref mo), (1, .int (nI k9)), (2, .int (nI fr)), (3, .int (nI fr))]) [1, 2, 3, 0] rfl ?_
  exact cut2 (n9 - q9 + 1) q9 fr (by first | omega | assumption) (by first | omega | assumption) (by rfl) (by omega)


theorem fEnd_lt {t : Nat → Nat} {n f F : Nat} (hF : F < nF t n) (h : f < F) : fEnd t n (fSt t n f) < n := by
  have hA1 := fSt_le (tx := t) (n := n) (i := f + 1) (by omega)
  have hA2 : fSt t n (f + 1) = fEnd t n (fSt t n f) + 1 := rfl
  omega
theorem fEnd_at {t : Nat → Nat} {n s p : Nat} (hA1 : s ≤ p) (hA2 : p ≤ fEnd t n s) (hA3 : t p = 44) : p = fEnd t n s := by
  rcases Nat.lt_or_ge p (fEnd t n s) with z | z
  · exact absurd hA3 (fEnd_no hA1 z)
  · omega

set_option maxHeartbeats 4000000 in
set_option maxRecDepth 100000 in
/-- where a field begins -/
theorem c_X10_begins (l : Launch) (D : va_G) (cy : Nat → ClassId) (mo : Nat) (mr : Nat → Nat) (cols : Nat) (lc : Nat) (smp : Nat) (mk : Nat) (rs : Nat) (nse : Nat) (npa : Nat) (nbo : Nat) (tn : Nat) (ik : Nat) (ky : Int32) (j0 : Int32) (j1 : Int32) (j2 : Int32) (j3 : Int32) (j4 : Int32) (by9 : Nat → Nat) (k9 : Nat) (n9 : Nat) (t9 : Nat → Nat) (F : Nat) (hby : ∀ k, by9 k < 128) (hk9 : k9 < 24) (hn9 : n9 ≤ 60) (hbt : ∀ j, j < n9 → by9 (60 * k9 + j) = t9 j) (hF : F < nF t9 n9) : xMet l D cy xT yX10_begins wsX10_begins ({ frames := 1, cells := 0, slots := 0, locals := 0 } : Room) [.ref mo, .int (nI k9), .int (nI F)] [(mo, .inr (9, [.int (nI cols), .int (nI lc), .int (nI smp), .int (ky), .ref (mr 0), .ref (mr 1), .ref (mr 2), .ref (mr 3), .ref (mr 4), .ref (mr 5), .ref (mr 6), .ref (mr 7), .ref (mr 8), .ref (mr 9), .int (nI mk), .int (nI rs), .ref (mr 10), .ref (mr 11), .ref (mr 12), .ref (mr 13), .ref (mr 14), .ref (mr 15), .ref (mr 16), .ref (mr 17), .ref (mr 18), .ref (mr 19), .ref (mr 20), .int (nI nse), .int (nI npa), .int (nI nbo), .ref (mr 21), .int (nI tn), .ref (mr 22), .int (nI ik), .int (j0), .int (j1), .ref (mr 23), .int (j2), .ref (mr 24), .ref (mr 25), .int (j3), .ref (mr 26), .int (j4), .ref (mr 27), .ref (mr 28), .ref (mr 29), .ref (mr 30)])), (mr 4, .inl (cy 1, 1440, .inl (fun k => nI (by9 k))))] [] (fun (v9 : Option Value) (w9 : va_W) => (v9 = some (.int (nI (60 * k9 + fSt t9 n9 F))) ∧ w9 = [(mo, .inr (9, [.int (nI cols), .int (nI lc), .int (nI smp), .int (ky), .ref (mr 0), .ref (mr 1), .ref (mr 2), .ref (mr 3), .ref (mr 4), .ref (mr 5), .ref (mr 6), .ref (mr 7), .ref (mr 8), .ref (mr 9), .int (nI mk), .int (nI rs), .ref (mr 10), .ref (mr 11), .ref (mr 12), .ref (mr 13), .ref (mr 14), .ref (mr 15), .ref (mr 16), .ref (mr 17), .ref (mr 18), .ref (mr 19), .ref (mr 20), .int (nI nse), .int (nI npa), .int (nI nbo), .ref (mr 21), .int (nI tn), .ref (mr 22), .int (nI ik), .int (j0), .int (j1), .ref (mr 23), .int (j2), .ref (mr 24), .ref (mr 25), .int (j3), .ref (mr 26), .int (j4), .ref (mr 27), .ref (mr 28), .ref (mr 29), .ref (mr 30)])), (mr 4, .inl (cy 1, 1440, .inl (fun k => nI (by9 k))))])) := by
  refine xMet_of (cc := cX10_begins) (maxL := 5) (ret := (some .int)) (by decide) rfl (Nat.le_of_ble_eq_true rfl) (fun p e s m args below meth c A R Q hA hR hQ C hr hnm hro hX => ?_)
  have hw0 : ∀ w ∈ u_ws RX10 TX10 47, w ∈ wsX10_begins := by decide +kernel
  have hw1 : Cond.fieldLink RX10 31 (TX10 8).1 (TX10 8).2.1 (TX10 8).2.2.1 ∈ wsX10_begins := by decide +kernel
  refine x_L (L' := [(0, .ref mo), (1, .int (nI k9)), (2, .int (nI F))]) [0, 1, 2] rfl ?_
  refine x_bipush C dX10_begins_0 (q := 2) rfl (v := nI 60) (by decide) ?_
  refine x_iload_n C dX10_begins_2 (q := 3) rfl rfl 1 rfl ?_
  refine x_imul C dX10_begins_3 (q := 4) rfl (z := nI (60 * k9)) (pk_mul 60 k9) ?_
  refine x_istore_n C (L' := [(3, .int (nI (60 * k9))), (0, .ref mo), (1, .int (nI k9)), (2, .int (nI F))]) dX10_begins_4 (q := 5) rfl rfl (by decide) rfl ?_
  refine x_iconst C dX10_begins_5 (q := 6) rfl (v := nI 0) (by decide) ?_
  refine x_istore C (L' := [(4, .int (nI 0)), (3, .int (nI (60 * k9))), (0, .ref mo), (1, .int (nI k9)), (2, .int (nI F))]) dX10_begins_6 (q := 8) rfl (by decide) rfl ?_
  have cut8 : ∀ (fuel : Nat) (f9 : Nat) (p9 : Nat) (k : Nat), (f9 ≤ F) → (k = 60 * k9 + p9) → (p9 ≤ n9) → (fSt t9 n9 f9 ≤ p9) → (p9 ≤ fEnd t9 n9 (fSt t9 n9 f9)) → (f9 = F → p9 = fSt t9 n9 F) → n9 + 1 - p9 < fuel → xG p l e R s m args below meth c Q D A 5 [(mo, .inr (9, [.int (nI cols), .int (nI lc), .int (nI smp), .int (ky), .ref (mr 0), .ref (mr 1), .ref (mr 2), .ref (mr 3), .ref (mr 4), .ref (mr 5), .ref (mr 6), .ref (mr 7), .ref (mr 8), .ref (mr 9), .int (nI mk), .int (nI rs), .ref (mr 10), .ref (mr 11), .ref (mr 12), .ref (mr 13), .ref (mr 14), .ref (mr 15), .ref (mr 16), .ref (mr 17), .ref (mr 18), .ref (mr 19), .ref (mr 20), .int (nI nse), .int (nI npa), .int (nI nbo), .ref (mr 21), .int (nI tn), .ref (mr 22), .int (nI ik), .int (j0), .int (j1), .ref (mr 23), .int (j2), .ref (mr 24), .ref (mr 25), .int (j3), .ref (mr 26), .int (j4), .ref (mr 27), .ref (mr 28), .ref (mr 29), .ref (mr 30)])), (mr 4, .inl (cy 1, 1440, .inl (fun k => nI (by9 k))))] 0 0 8 [(0, .ref mo), (1, .int (nI k9)), (2, .int (nI F)), (3, .int (nI k)), (4, .int (nI f9))] [] := by
    intro fuel
    induction fuel with
    | zero =>
      intro f9 p9 k hf hk hp hA1 hA2 hA3 hmu
      exact absurd hmu (Nat.not_lt_zero _)
    | succ fuel ih =>
      intro f9 p9 k hf hk hp hA1 hA2 hA3 hmu
      have hbi : p9 < n9 → by9 k = t9 p9 := fun h => by rw [hk]; exact hbt p9 h
      have hlt : f9 < F → fEnd t9 n9 (fSt t9 n9 f9) < n9 := fun h => fEnd_lt hF h
      have hnF := cmm_le t9 n9
      have hnF2 : nF t9 n9 = cmm t9 n9 + 1 := rfl
      have ih8 := ih
      clear ih
      refine x_iload C dX10_begins_8 (q := 10) rfl 4 rfl ?_
      refine x_iload_n C dX10_begins_10 (q := 11) rfl rfl 2 rfl ?_
      refine x_icmp_ge C (tgt := 41) dX10_begins_11 (by decide) (q := 14) rfl (a := ((f9 : Nat) : Int)) (b := ((F : Nat) : Int)) (nI_toInt (by omega)) (nI_toInt (by omega)) (fun h1 => ?_) (fun h1 => ?_)
      · first
        | (exfalso; omega)
        |
          refine x_iload_n C dX10_begins_41 (q := 42) rfl rfl 3 rfl ?_
          refine x_iret C hA hQ hr dX10_begins_42 (Nat.le_of_ble_eq_true rfl) ?_
          exact ⟨by rw [hk, hA3 (by omega)], rfl⟩
      · first
        | (exfalso; omega)
        |
          have cut33 : ∀ (f2 : Nat), ((by9 k = 44 ∧ f2 = f9 + 1) ∨ (¬ by9 k = 44 ∧ f2 = f9)) → xG p l e R s m args below meth c Q D A 5 [(mo, .inr (9, [.int (nI cols), .int (nI lc), .int (nI smp), .int (ky), .ref (mr 0), .ref (mr 1), .ref (mr 2), .ref (mr 3), .ref (mr 4), .ref (mr 5), .ref (mr 6), .ref (mr 7), .ref (mr 8), .ref (mr 9), .int (nI mk), .int (nI rs), .ref (mr 10), .ref (mr 11), .ref (mr 12), .ref (mr 13), .ref (mr 14), .ref (mr 15), .ref (mr 16), .ref (mr 17), .ref (mr 18), .ref (mr 19), .ref (mr 20), .int (nI nse), .int (nI npa), .int (nI nbo), .ref (mr 21), .int (nI tn), .ref (mr 22), .int (nI ik), .int (j0), .int (j1), .ref (mr 23), .int (j2), .ref (mr 24), .ref (mr 25), .int (j3), .ref (mr 26), .int (j4), .ref (mr 27), .ref (mr 28), .ref (mr 29), .ref (mr 30)])), (mr 4, .inl (cy 1, 1440, .inl (fun k => nI (by9 k))))] 0 0 33 [(0, .ref mo), (1, .int (nI k9)), (2, .int (nI F)), (3, .int (nI k)), (4, .int (nI f9))] [.int (nI f2)] := by
            intro f2 h33
            refine x_istore C (L' := [(4, .int (nI f2)), (0, .ref mo), (1, .int (nI k9)), (2, .int (nI F)), (3, .int (nI k))]) dX10_begins_33 (q := 35) rfl (by decide) rfl ?_
            have hpn : p9 < n9 := by have := hlt (by omega); omega
            have hbk := hbi hpn
            refine x_iinc C (L' := [(3, .int (nI (k + 1))), (4, .int (nI f2)), (0, .ref mo), (1, .int (nI k9)), (2, .int (nI F))]) dX10_begins_35 (q := 38) rfl 4 rfl (v := nI (k + 1)) (nI_add k 1) (by decide) rfl ?_
            have hpc9 : f2 = f9 + 1 → p9 = fEnd t9 n9 (fSt t9 n9 f9) := fun e => fEnd_at hA1 hA2 (by omega)
            have hnc9 : f2 = f9 → p9 + 1 ≤ fEnd t9 n9 (fSt t9 n9 f9) := fun e => by have := hA2; (rcases Nat.lt_or_ge p9 (fEnd t9 n9 (fSt t9 n9 f9)) with z | z; omega; (have e5 : p9 = fEnd t9 n9 (fSt t9 n9 f9) := by omega); have e6 := fEnd_comma (tx := t9) (n := n9) (p := fSt t9 n9 f9) (by omega) (by omega); rw [← e5] at e6; omega)
            refine x_goto C (tgt := 8) dX10_begins_38 (by decide) ?_
            refine x_L (L' := [(0, .ref mo), (1, .int (nI k9)), (2, .int (nI F)), (3, .int (nI (k + 1))), (4, .int (nI f2))]) [2, 3, 4, 0, 1] rfl ?_
            exact ih8 f2 (p9 + 1) (k + 1) (by first | omega | assumption) (by first | omega | assumption) (by first | omega | assumption) (by rcases h33 with ⟨_, e⟩ | ⟨_, e⟩; (have e3 := hpc9 e; rw [e]; show fEnd t9 n9 (fSt t9 n9 f9) + 1 ≤ p9 + 1; omega); (rw [e]; omega)) (by rcases h33 with ⟨_, e⟩ | ⟨_, e⟩; (rw [e]; show p9 + 1 ≤ fEnd t9 n9 (fEnd t9 n9 (fSt t9 n9 f9) + 1); rw [← hpc9 e]; exact fEnd_ge _ _ _); (rw [e]; exact hnc9 e)) (by rcases h33 with ⟨_, e⟩ | ⟨_, e⟩; (intro eF; rw [← eF, e]; show p9 + 1 = fEnd t9 n9 (fSt t9 n9 f9) + 1; rw [← hpc9 e]); (intro eF; omega)) (by omega)
          refine x_iload C dX10_begins_14 (q := 16) rfl 4 rfl ?_
          refine x_aload_n C dX10_begins_16 (q := 17) rfl rfl 0 rfl ?_
          refine x_get C (ci := 9) (v := .ref (mr 4)) hw0 0 rfl rfl 8 (by decide) hw1 rfl dX10_begins_17 (q := 20) rfl ?_
          refine x_iload_n C dX10_begins_20 (q := 21) rfl rfl 3 rfl ?_
          have hb2 := hby k
          refine x_iald C (j := k) (v := nI (by9 k)) 1 rfl (nI_toInt (by omega)) (by omega) rfl dX10_begins_21 (q := 22) rfl ?_
          refine x_bipush C dX10_begins_22 (q := 24) rfl (v := nI 44) (by decide) ?_
          refine x_icmp_ne C (tgt := 31) dX10_begins_24 (by decide) (q := 27) rfl (a := ((by9 k : Nat) : Int)) (b := 44) (nI_toInt (by omega)) rfl (fun h3 => ?_) (fun h3 => ?_)
          · first
            | (exfalso; omega)
            |
              refine x_iconst C dX10_begins_31 (q := 32) rfl (v := nI 0) (by decide) ?_
              refine x_iadd C dX10_begins_32 (q := 33) rfl (z := nI (f9 + 0)) (nI_add f9 0) ?_
              exact cut33 (f9 + 0) (by omega)
          · first
            | (exfalso; omega)
            |
              refine x_iconst C dX10_begins_27 (q := 28) rfl (v := nI 1) (by decide) ?_
              refine x_goto C (tgt := 32) dX10_begins_28 (by decide) ?_
              refine x_iadd C dX10_begins_32 (q := 33) rfl (z := nI (f9 + 1)) (nI_add f9 1) ?_
              exact cut33 (f9 + 1) (by omega)
  refine x_L (L' := [(0, .ref mo), (1, .int (nI k9)), (2, .int (nI F)), (3, .int (nI (60 * k9))), (4, .int (nI 0))]) [2, 3, 4, 1, 0] rfl ?_
  exact cut8 (n9 + 1 - 0 + 1) 0 0 (60 * k9) (by first | omega | assumption) (by first | omega | assumption) (by first | omega | assumption) (by exact Nat.le_refl 0) (by exact Nat.zero_le _) (by intro e; rw [← e]; rfl) (by omega)
