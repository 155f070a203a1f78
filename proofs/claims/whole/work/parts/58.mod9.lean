set_option maxHeartbeats 4000000 in
set_option maxRecDepth 100000 in
/-- a field's number, of three digits behind the dot -/
theorem c_X10_number (l : Launch) (D : va_G) (cy : Nat → ClassId) (mo : Nat) (mr : Nat → Nat) (cols : Nat) (lc : Nat) (smp : Nat) (mk : Nat) (rs : Nat) (nse : Nat) (npa : Nat) (nbo : Nat) (tn : Nat) (ik : Nat) (ky : Int32) (j0 : Int32) (j1 : Int32) (j2 : Int32) (j3 : Int32) (j4 : Int32) (by9 : Nat → Nat) (fr : Nat) (to : Nat) (len : Nat) (b : Nat → Nat) (hby : ∀ k, by9 k < 128) (hto : to = fr + len) (hl : to ≤ 1440) (hb : ∀ j, j < len → by9 (fr + j) = b j) (hl12 : len ≤ 12) (hl1 : 1 ≤ len) (hsh : shN b len) : xMet l D cy xT yX10_number wsX10_number ({ frames := 1, cells := 0, slots := 0, locals := 0 } : Room) [.ref mo, .int (nI fr), .int (nI to)] [(mo, .inr (9, [.int (nI cols), .int (nI lc), .int (nI smp), .int (ky), .ref (mr 0), .ref (mr 1), .ref (mr 2), .ref (mr 3), .ref (mr 4), .ref (mr 5), .ref (mr 6), .ref (mr 7), .ref (mr 8), .ref (mr 9), .int (nI mk), .int (nI rs), .ref (mr 10), .ref (mr 11), .ref (mr 12), .ref (mr 13), .ref (mr 14), .ref (mr 15), .ref (mr 16), .ref (mr 17), .ref (mr 18), .ref (mr 19), .ref (mr 20), .int (nI nse), .int (nI npa), .int (nI nbo), .ref (mr 21), .int (nI tn), .ref (mr 22), .int (nI ik), .int (j0), .int (j1), .ref (mr 23), .int (j2), .ref (mr 24), .ref (mr 25), .int (j3), .ref (mr 26), .int (j4), .ref (mr 27), .ref (mr 28), .ref (mr 29), .ref (mr 30)])), (mr 4, .inl (cy 1, 1440, .inl (fun k => nI (by9 k))))] [] (fun (v9 : Option Value) (w9 : va_W) => (v9 = some (.long (scaS b len 3)) ∧ w9 = [(mo, .inr (9, [.int (nI cols), .int (nI lc), .int (nI smp), .int (ky), .ref (mr 0), .ref (mr 1), .ref (mr 2), .ref (mr 3), .ref (mr 4), .ref (mr 5), .ref (mr 6), .ref (mr 7), .ref (mr 8), .ref (mr 9), .int (nI mk), .int (nI rs), .ref (mr 10), .ref (mr 11), .ref (mr 12), .ref (mr 13), .ref (mr 14), .ref (mr 15), .ref (mr 16), .ref (mr 17), .ref (mr 18), .ref (mr 19), .ref (mr 20), .int (nI nse), .int (nI npa), .int (nI nbo), .ref (mr 21), .int (nI tn), .ref (mr 22), .int (nI ik), .int (j0), .int (j1), .ref (mr 23), .int (j2), .ref (mr 24), .ref (mr 25), .int (j3), .ref (mr 26), .int (j4), .ref (mr 27), .ref (mr 28), .ref (mr 29), .ref (mr 30)])), (mr 4, .inl (cy 1, 1440, .inl (fun k => nI (by9 k))))])) := by
  refine xMet_of (cc := cX10_number) (maxL := 7) (ret := (some .long)) (by decide) rfl (Nat.le_of_ble_eq_true rfl) (fun p e s m args below meth c A R Q hA hR hQ C hr hnm hro hX => ?_)
  have hw0 : ∀ w ∈ u_ws RX10 TX10 47, w ∈ wsX10_number := by decide +kernel
  have hw1 : Cond.fieldLink RX10 31 (TX10 8).1 (TX10 8).2.1 (TX10 8).2.2.1 ∈ wsX10_number := by decide +kernel
  have hw2 : Jvm.Cond.constantLong RX10 247 (10) ∈ wsX10_number := by decide +kernel
  have hw3 : Jvm.Cond.constantLong RX10 234 (48) ∈ wsX10_number := by decide +kernel
  refine x_L (L' := [(0, .ref mo), (1, .int (nI fr)), (2, .int (nI to))]) [0, 1, 2] rfl ?_
  refine x_lconst C dX10_number_0 (q := 1) rfl (v := lN 0) rfl ?_
  refine x_lstore_n C (L' := [(3, .long (lN 0)), (0, .ref mo), (1, .int (nI fr)), (2, .int (nI to))]) dX10_number_1 (q := 2) rfl rfl (by decide) rfl ?_
  refine x_iconst C dX10_number_2 (q := 3) rfl (v := (-1)) (by decide) ?_
  refine x_istore C (L' := [(5, .int ((-1))), (3, .long (lN 0)), (0, .ref mo), (1, .int (nI fr)), (2, .int (nI to))]) dX10_number_3 (q := 5) rfl (by decide) rfl ?_
  refine x_iload_n C dX10_number_5 (q := 6) rfl rfl 3 rfl ?_
  refine x_istore C (L' := [(6, .int (nI fr)), (5, .int ((-1))), (3, .long (lN 0)), (0, .ref mo), (1, .int (nI fr)), (2, .int (nI to))]) dX10_number_6 (q := 8) rfl (by decide) rfl ?_
  have cut8 : ∀ (fuel : Nat) (i : Nat) (v : Nat) (bh : Int32) (k : Nat), (i ≤ len) → (k = fr + i) → (v = (numF b i).1) → (((numF b i).2.1 = 0 ∧ bh.toInt = -1) ∨ ((numF b i).2.1 = 1 ∧ bh.toInt = ((numF b i).2.2 : Int))) → len - i < fuel → xG p l e R s m args below meth c Q D A 7 [(mo, .inr (9, [.int (nI cols), .int (nI lc), .int (nI smp), .int (ky), .ref (mr 0), .ref (mr 1), .ref (mr 2), .ref (mr 3), .ref (mr 4), .ref (mr 5), .ref (mr 6), .ref (mr 7), .ref (mr 8), .ref (mr 9), .int (nI mk), .int (nI rs), .ref (mr 10), .ref (mr 11), .ref (mr 12), .ref (mr 13), .ref (mr 14), .ref (mr 15), .ref (mr 16), .ref (mr 17), .ref (mr 18), .ref (mr 19), .ref (mr 20), .int (nI nse), .int (nI npa), .int (nI nbo), .ref (mr 21), .int (nI tn), .ref (mr 22), .int (nI ik), .int (j0), .int (j1), .ref (mr 23), .int (j2), .ref (mr 24), .ref (mr 25), .int (j3), .ref (mr 26), .int (j4), .ref (mr 27), .ref (mr 28), .ref (mr 29), .ref (mr 30)])), (mr 4, .inl (cy 1, 1440, .inl (fun k => nI (by9 k))))] 0 0 8 [(0, .ref mo), (1, .int (nI fr)), (2, .int (nI to)), (3, .long (lN v)), (5, .int (bh)), (6, .int (nI k))] [] := by
    intro fuel
    induction fuel with
    | zero =>
      intro i v bh k hi hk hv hbh hmu
      exact absurd hmu (Nat.not_lt_zero _)
    | succ fuel ih =>
      intro i v bh k hi hk hv hbh hmu
      have hbi : i < len → by9 k = b i := fun h => by rw [hk]; exact hb i h
      have hsi : i < len → _ := fun h => hsh i h
      have hbt9 := numF_bits b i
      have hc09 := numF_c0 b i
      have hlt := numF_lt b i
      have hp : (10 : Nat) ^ i ≤ 10 ^ 12 := Nat.pow_le_pow_right (by decide) (by omega)
      have hz5 : (-1 : Int32).toInt = -1 := rfl
      have ih8 := ih
      clear ih
      refine x_iload C dX10_number_8 (q := 10) rfl 5 rfl ?_
      refine x_iload_n C dX10_number_10 (q := 11) rfl rfl 2 rfl ?_
      refine x_icmp_ge C (tgt := 84) dX10_number_11 (by decide) (q := 14) rfl (a := ((k : Nat) : Int)) (b := ((to : Nat) : Int)) (nI_toInt (by omega)) (nI_toInt (by omega)) (fun h1 => ?_) (fun h1 => ?_)
      · first
        | (exfalso; omega)
        |
          have hie : i = len := by omega
          refine x_iload C dX10_number_84 (q := 86) rfl 4 rfl ?_
          refine x_if_ge C (tgt := 93) dX10_number_86 (by decide) (q := 89) rfl (a := bh.toInt) rfl (fun h2 => ?_) (fun h2 => ?_)
          · first
            | (exfalso; omega)
            |
              refine x_iload C dX10_number_93 (q := 95) rfl 4 rfl ?_
              refine x_topi (y := nI bh.toInt.toNat) (xi_nat (by omega)) ?_
              refine x_istore C (L' := [(6, .int (nI bh.toInt.toNat)), (0, .ref mo), (1, .int (nI fr)), (2, .int (nI to)), (3, .long (lN v)), (5, .int (bh))]) dX10_number_95 (q := 97) rfl (by decide) rfl ?_
              have cut97 : ∀ (fuel : Nat) (k9 : Nat) (w : Nat), ((numF b len).2.2 ≤ k9) → (k9 ≤ 3 ∨ k9 = (numF b len).2.2) → (w = (numF b len).1 * 10 ^ (k9 - (numF b len).2.2)) → 3 - k9 < fuel → xG p l e R s m args below meth c Q D A 7 [(mo, .inr (9, [.int (nI cols), .int (nI lc), .int (nI smp), .int (ky), .ref (mr 0), .ref (mr 1), .ref (mr 2), .ref (mr 3), .ref (mr 4), .ref (mr 5), .ref (mr 6), .ref (mr 7), .ref (mr 8), .ref (mr 9), .int (nI mk), .int (nI rs), .ref (mr 10), .ref (mr 11), .ref (mr 12), .ref (mr 13), .ref (mr 14), .ref (mr 15), .ref (mr 16), .ref (mr 17), .ref (mr 18), .ref (mr 19), .ref (mr 20), .int (nI nse), .int (nI npa), .int (nI nbo), .ref (mr 21), .int (nI tn), .ref (mr 22), .int (nI ik), .int (j0), .int (j1), .ref (mr 23), .int (j2), .ref (mr 24), .ref (mr 25), .int (j3), .ref (mr 26), .int (j4), .ref (mr 27), .ref (mr 28), .ref (mr 29), .ref (mr 30)])), (mr 4, .inl (cy 1, 1440, .inl (fun k => nI (by9 k))))] 0 0 97 [(0, .ref mo), (1, .int (nI fr)), (2, .int (nI to)), (3, .long (lN w)), (6, .int (nI k9))] [] := by
                intro fuel
                induction fuel with
                | zero =>
                  intro k9 w hck hk3 hw hmu
                  exact absurd hmu (Nat.not_lt_zero _)
                | succ fuel ih =>
                  intro k9 w hck hk3 hw hmu
                  have hbL := numF_bits b len
                  have ih97 := ih
                  clear ih
                  refine x_iload C dX10_number_97 (q := 99) rfl 4 rfl ?_
                  refine x_iconst C dX10_number_99 (q := 100) rfl (v := nI 3) (by decide) ?_
                  refine x_icmp_ge C (tgt := 115) dX10_number_100 (by decide) (q := 103) rfl (a := ((k9 : Nat) : Int)) (b := 3) (nI_toInt (by omega)) rfl (fun h3 => ?_) (fun h3 => ?_)
                  · first
                    | (exfalso; omega)
                    |
                      have hb0 := hb 0 (by omega)
                      rw [Nat.add_zero] at hb0
                      have hw3 : w = (numF b len).1 * 10 ^ (3 - (numF b len).2.2) := (by rw [hw]; (rcases hk3 with e | e; (rw [show k9 = 3 by omega]); (rw [show k9 - (numF b len).2.2 = 0 by omega, show 3 - (numF b len).2.2 = 0 by omega])))
                      refine x_aload_n C dX10_number_115 (q := 116) rfl rfl 0 rfl ?_
                      refine x_get C (ci := 9) (v := .ref (mr 4)) hw0 0 rfl rfl 8 (by decide) hw1 rfl dX10_number_116 (q := 119) rfl ?_
                      refine x_iload_n C dX10_number_119 (q := 120) rfl rfl 1 rfl ?_
                      have hb4 := hby fr
                      refine x_iald C (j := fr) (v := nI (by9 fr)) 1 rfl (nI_toInt (by omega)) (by omega) rfl dX10_number_120 (q := 121) rfl ?_
                      refine x_bipush C dX10_number_121 (q := 123) rfl (v := nI 45) (by decide) ?_
                      refine x_icmp_ne C (tgt := 131) dX10_number_123 (by decide) (q := 126) rfl (a := ((by9 fr : Nat) : Int)) (b := 45) (nI_toInt (by omega)) rfl (fun h5 => ?_) (fun h5 => ?_)
                      · first
                        | (exfalso; omega)
                        |
                          refine x_lload_n C dX10_number_131 (q := 132) rfl rfl 3 rfl ?_
                          refine x_lret C hA hQ hr dX10_number_132 (Nat.le_of_ble_eq_true rfl) ?_
                          refine ⟨?_, rfl⟩
                          unfold scaS
                          first | rw [if_pos (by omega), hw3] | rw [if_neg (by omega), hw3]
                      · first
                        | (exfalso; omega)
                        |
                          refine x_lload_n C dX10_number_126 (q := 127) rfl rfl 3 rfl ?_
                          refine x_lneg C dX10_number_127 (q := 128) rfl ?_
                          refine x_goto C (tgt := 132) dX10_number_128 (by decide) ?_
                          refine x_lret C hA hQ hr dX10_number_132 (Nat.le_of_ble_eq_true rfl) ?_
                          refine ⟨?_, rfl⟩
                          unfold scaS
                          first | rw [if_pos (by omega), hw3] | rw [if_neg (by omega), hw3]
                  · first
                    | (exfalso; omega)
                    |
                      refine x_lload_n C dX10_number_103 (q := 104) rfl rfl 3 rfl ?_
                      refine x_ldc2 C (v := lN 10) hw2 dX10_number_104 (q := 107) rfl ?_
                      refine x_lmul C dX10_number_107 (q := 108) rfl (z := lN (w * 10)) (lN_mul w 10) ?_
                      refine x_lstore_n C (L' := [(3, .long (lN (w * 10))), (0, .ref mo), (1, .int (nI fr)), (2, .int (nI to)), (6, .int (nI k9))]) dX10_number_108 (q := 109) rfl rfl (by decide) rfl ?_
                      refine x_iinc C (L' := [(6, .int (nI (k9 + 1))), (3, .long (lN (w * 10))), (0, .ref mo), (1, .int (nI fr)), (2, .int (nI to))]) dX10_number_109 (q := 112) rfl 4 rfl (v := nI (k9 + 1)) (nI_add k9 1) (by decide) rfl ?_
                      refine x_goto C (tgt := 97) dX10_number_112 (by decide) ?_
                      refine x_L (L' := [(0, .ref mo), (1, .int (nI fr)), (2, .int (nI to)), (3, .long (lN (w * 10))), (6, .int (nI (k9 + 1)))]) [2, 3, 4, 1, 0] rfl ?_
                      exact ih97 (k9 + 1) (w * 10) (by first | omega | assumption) (by first | omega | assumption) (by rw [show k9 + 1 - (numF b len).2.2 = (k9 - (numF b len).2.2) + 1 by omega, Nat.pow_succ, hw, Nat.mul_assoc]) (by omega)
              refine x_L (L' := [(0, .ref mo), (1, .int (nI fr)), (2, .int (nI to)), (3, .long (lN v)), (6, .int (nI bh.toInt.toNat))]) [1, 2, 3, 4, 0] rfl ?_
              exact cut97 (3 - bh.toInt.toNat + 1) bh.toInt.toNat v (by rw [hie] at hbh hc09; omega) (by rw [hie] at hbh hc09; omega) (by rw [hv, hie]; first | (rw [show 0 - (numF b len).2.2 = 0 by omega, Nat.pow_zero, Nat.mul_one]) | (rw [show bh.toInt.toNat - (numF b len).2.2 = 0 by rw [hie] at hbh; omega, Nat.pow_zero, Nat.mul_one])) (by omega)
          · first
            | (exfalso; omega)
            |
              refine x_iconst C dX10_number_89 (q := 90) rfl (v := nI 0) (by decide) ?_
              refine x_goto C (tgt := 95) dX10_number_90 (by decide) ?_
              refine x_istore C (L' := [(6, .int (nI 0)), (0, .ref mo), (1, .int (nI fr)), (2, .int (nI to)), (3, .long (lN v)), (5, .int (bh))]) dX10_number_95 (q := 97) rfl (by decide) rfl ?_
              have cut97 : ∀ (fuel : Nat) (k9 : Nat) (w : Nat), ((numF b len).2.2 ≤ k9) → (k9 ≤ 3 ∨ k9 = (numF b len).2.2) → (w = (numF b len).1 * 10 ^ (k9 - (numF b len).2.2)) → 3 - k9 < fuel → xG p l e R s m args below meth c Q D A 7 [(mo, .inr (9, [.int (nI cols), .int (nI lc), .int (nI smp), .int (ky), .ref (mr 0), .ref (mr 1), .ref (mr 2), .ref (mr 3), .ref (mr 4), .ref (mr 5), .ref (mr 6), .ref (mr 7), .ref (mr 8), .ref (mr 9), .int (nI mk), .int (nI rs), .ref (mr 10), .ref (mr 11), .ref (mr 12), .ref (mr 13), .ref (mr 14), .ref (mr 15), .ref (mr 16), .ref (mr 17), .ref (mr 18), .ref (mr 19), .ref (mr 20), .int (nI nse), .int (nI npa), .int (nI nbo), .ref (mr 21), .int (nI tn), .ref (mr 22), .int (nI ik), .int (j0), .int (j1), .ref (mr 23), .int (j2), .ref (mr 24), .ref (mr 25), .int (j3), .ref (mr 26), .int (j4), .ref (mr 27), .ref (mr 28), .ref (mr 29), .ref (mr 30)])), (mr 4, .inl (cy 1, 1440, .inl (fun k => nI (by9 k))))] 0 0 97 [(0, .ref mo), (1, .int (nI fr)), (2, .int (nI to)), (3, .long (lN w)), (6, .int (nI k9))] [] := by
                intro fuel
                induction fuel with
                | zero =>
                  intro k9 w hck hk3 hw hmu
                  exact absurd hmu (Nat.not_lt_zero _)
                | succ fuel ih =>
                  intro k9 w hck hk3 hw hmu
                  have hbL := numF_bits b len
                  have ih97 := ih
                  clear ih
                  refine x_iload C dX10_number_97 (q := 99) rfl 4 rfl ?_
                  refine x_iconst C dX10_number_99 (q := 100) rfl (v := nI 3) (by decide) ?_
                  refine x_icmp_ge C (tgt := 115) dX10_number_100 (by decide) (q := 103) rfl (a := ((k9 : Nat) : Int)) (b := 3) (nI_toInt (by omega)) rfl (fun h6 => ?_) (fun h6 => ?_)
                  · first
                    | (exfalso; omega)
                    |
                      have hb0 := hb 0 (by omega)
                      rw [Nat.add_zero] at hb0
                      have hw3 : w = (numF b len).1 * 10 ^ (3 - (numF b len).2.2) := (by rw [hw]; (rcases hk3 with e | e; (rw [show k9 = 3 by omega]); (rw [show k9 - (numF b len).2.2 = 0 by omega, show 3 - (numF b len).2.2 = 0 by omega])))
                      refine x_aload_n C dX10_number_115 (q := 116) rfl rfl 0 rfl ?_
                      refine x_get C (ci := 9) (v := .ref (mr 4)) hw0 0 rfl rfl 8 (by decide) hw1 rfl dX10_number_116 (q := 119) rfl ?_
                      refine x_iload_n C dX10_number_119 (q := 120) rfl rfl 1 rfl ?_
                      have hb7 := hby fr
                      refine x_iald C (j := fr) (v := nI (by9 fr)) 1 rfl (nI_toInt (by omega)) (by omega) rfl dX10_number_120 (q := 121) rfl ?_
                      refine x_bipush C dX10_number_121 (q := 123) rfl (v := nI 45) (by decide) ?_
                      refine x_icmp_ne C (tgt := 131) dX10_number_123 (by decide) (q := 126) rfl (a := ((by9 fr : Nat) : Int)) (b := 45) (nI_toInt (by omega)) rfl (fun h8 => ?_) (fun h8 => ?_)
                      · first
                        | (exfalso; omega)
                        |
                          refine x_lload_n C dX10_number_131 (q := 132) rfl rfl 3 rfl ?_
                          refine x_lret C hA hQ hr dX10_number_132 (Nat.le_of_ble_eq_true rfl) ?_
                          refine ⟨?_, rfl⟩
                          unfold scaS
                          first | rw [if_pos (by omega), hw3] | rw [if_neg (by omega), hw3]
                      · first
                        | (exfalso; omega)
                        |
                          refine x_lload_n C dX10_number_126 (q := 127) rfl rfl 3 rfl ?_
                          refine x_lneg C dX10_number_127 (q := 128) rfl ?_
                          refine x_goto C (tgt := 132) dX10_number_128 (by decide) ?_
                          refine x_lret C hA hQ hr dX10_number_132 (Nat.le_of_ble_eq_true rfl) ?_
                          refine ⟨?_, rfl⟩
                          unfold scaS
                          first | rw [if_pos (by omega), hw3] | rw [if_neg (by omega), hw3]
                  · first
                    | (exfalso; omega)
                    |
                      refine x_lload_n C dX10_number_103 (q := 104) rfl rfl 3 rfl ?_
                      refine x_ldc2 C (v := lN 10) hw2 dX10_number_104 (q := 107) rfl ?_
                      refine x_lmul C dX10_number_107 (q := 108) rfl (z := lN (w * 10)) (lN_mul w 10) ?_
                      refine x_lstore_n C (L' := [(3, .long (lN (w * 10))), (0, .ref mo), (1, .int (nI fr)), (2, .int (nI to)), (6, .int (nI k9))]) dX10_number_108 (q := 109) rfl rfl (by decide) rfl ?_
                      refine x_iinc C (L' := [(6, .int (nI (k9 + 1))), (3, .long (lN (w * 10))), (0, .ref mo), (1, .int (nI fr)), (2, .int (nI to))]) dX10_number_109 (q := 112) rfl 4 rfl (v := nI (k9 + 1)) (nI_add k9 1) (by decide) rfl ?_
                      refine x_goto C (tgt := 97) dX10_number_112 (by decide) ?_
                      refine x_L (L' := [(0, .ref mo), (1, .int (nI fr)), (2, .int (nI to)), (3, .long (lN (w * 10))), (6, .int (nI (k9 + 1)))]) [2, 3, 4, 1, 0] rfl ?_
                      exact ih97 (k9 + 1) (w * 10) (by first | omega | assumption) (by first | omega | assumption) (by rw [show k9 + 1 - (numF b len).2.2 = (k9 - (numF b len).2.2) + 1 by omega, Nat.pow_succ, hw, Nat.mul_assoc]) (by omega)
              refine x_L (L' := [(0, .ref mo), (1, .int (nI fr)), (2, .int (nI to)), (3, .long (lN v)), (6, .int (nI 0))]) [1, 2, 3, 4, 0] rfl ?_
              exact cut97 (3 - 0 + 1) 0 v (by rw [hie] at hbh hc09; omega) (by rw [hie] at hbh hc09; omega) (by rw [hv, hie]; first | (rw [show 0 - (numF b len).2.2 = 0 by omega, Nat.pow_zero, Nat.mul_one]) | (rw [show bh.toInt.toNat - (numF b len).2.2 = 0 by rw [hie] at hbh; omega, Nat.pow_zero, Nat.mul_one])) (by omega)
      · first
        | (exfalso; omega)
        |
          refine x_aload_n C dX10_number_14 (q := 15) rfl rfl 0 rfl ?_
          refine x_get C (ci := 9) (v := .ref (mr 4)) hw0 0 rfl rfl 8 (by decide) hw1 rfl dX10_number_15 (q := 18) rfl ?_
          refine x_iload C dX10_number_18 (q := 20) rfl 5 rfl ?_
          have hb9 := hby k
          refine x_iald C (j := k) (v := nI (by9 k)) 1 rfl (nI_toInt (by omega)) (by omega) rfl dX10_number_20 (q := 21) rfl ?_
          refine x_bipush C dX10_number_21 (q := 23) rfl (v := nI 46) (by decide) ?_
          refine x_icmp_ne C (tgt := 32) dX10_number_23 (by decide) (q := 26) rfl (a := ((by9 k : Nat) : Int)) (b := 46) (nI_toInt (by omega)) rfl (fun h10 => ?_) (fun h10 => ?_)
          · first
            | (exfalso; omega)
            |
              refine x_aload_n C dX10_number_32 (q := 33) rfl rfl 0 rfl ?_
              refine x_get C (ci := 9) (v := .ref (mr 4)) hw0 0 rfl rfl 8 (by decide) hw1 rfl dX10_number_33 (q := 36) rfl ?_
              refine x_iload C dX10_number_36 (q := 38) rfl 5 rfl ?_
              have hb11 := hby k
              refine x_iald C (j := k) (v := nI (by9 k)) 1 rfl (nI_toInt (by omega)) (by omega) rfl dX10_number_38 (q := 39) rfl ?_
              refine x_bipush C dX10_number_39 (q := 41) rfl (v := nI 45) (by decide) ?_
              refine x_icmp_eq C (tgt := 78) dX10_number_41 (by decide) (q := 44) rfl (a := ((by9 k : Nat) : Int)) (b := 45) (nI_toInt (by omega)) rfl (fun h12 => ?_) (fun h12 => ?_)
              · first
                | (exfalso; omega)
                |
                  refine x_iinc C (L' := [(6, .int (nI (k + 1))), (0, .ref mo), (1, .int (nI fr)), (2, .int (nI to)), (3, .long (lN v)), (5, .int (bh))]) dX10_number_78 (q := 81) rfl 5 rfl (v := nI (k + 1)) (nI_add k 1) (by decide) rfl ?_
                  refine x_goto C (tgt := 8) dX10_number_81 (by decide) ?_
                  refine x_L (L' := [(0, .ref mo), (1, .int (nI fr)), (2, .int (nI to)), (3, .long (lN v)), (5, .int (bh)), (6, .int (nI (k + 1)))]) [1, 2, 3, 4, 5, 0] rfl ?_
                  exact ih8 (i + 1) v bh (k + 1) (by first | omega | assumption) (by first | omega | assumption) (by first | (rw [nF46 (by omega) (by omega)]; (first | exact hv | (show _ = (numF b i).1 * 10 + (b i - 48); omega))) | (rw [nF45 (by omega)]; (first | exact hv | (show _ = (numF b i).1 * 10 + (b i - 48); omega))) | (rw [nFd0 (by omega) (by omega)]; (first | exact hv | (show _ = (numF b i).1 * 10 + (b i - 48); omega))) | (rw [nFd1 (by omega) (by omega)]; (first | exact hv | (show _ = (numF b i).1 * 10 + (b i - 48); omega)))) (by first | (rw [nF46 (by omega) (by omega)]; (first | (refine Or.inr ⟨rfl, ?_⟩; show (nI 0).toInt = (((numF b i).2.2 : Nat) : Int); rw [hc09 (by omega)]; rfl) | exact hbh | (dsimp only; omega))) | (rw [nF45 (by omega)]; (first | (refine Or.inr ⟨rfl, ?_⟩; show (nI 0).toInt = (((numF b i).2.2 : Nat) : Int); rw [hc09 (by omega)]; rfl) | exact hbh | (dsimp only; omega))) | (rw [nFd0 (by omega) (by omega)]; (first | (refine Or.inr ⟨rfl, ?_⟩; show (nI 0).toInt = (((numF b i).2.2 : Nat) : Int); rw [hc09 (by omega)]; rfl) | exact hbh | (dsimp only; omega))) | (rw [nFd1 (by omega) (by omega)]; (first | (refine Or.inr ⟨rfl, ?_⟩; show (nI 0).toInt = (((numF b i).2.2 : Nat) : Int); rw [hc09 (by omega)]; rfl) | exact hbh | (dsimp only; omega)))) (by omega)
              · first
                | (exfalso; omega)
                |
                  refine x_ldc2 C (v := lN 10) hw2 dX10_number_44 (q := 47) rfl ?_
                  refine x_lload_n C dX10_number_47 (q := 48) rfl rfl 3 rfl ?_
                  refine x_lmul C dX10_number_48 (q := 49) rfl (z := lN (10 * v)) (lN_mul 10 v) ?_
                  refine x_aload_n C dX10_number_49 (q := 50) rfl rfl 0 rfl ?_
                  refine x_get C (ci := 9) (v := .ref (mr 4)) hw0 0 rfl rfl 8 (by decide) hw1 rfl dX10_number_50 (q := 53) rfl ?_
                  refine x_iload C dX10_number_53 (q := 55) rfl 5 rfl ?_
                  have hb13 := hby k
                  refine x_iald C (j := k) (v := nI (by9 k)) 1 rfl (nI_toInt (by omega)) (by omega) rfl dX10_number_55 (q := 56) rfl ?_
                  refine x_i2l C dX10_number_56 (q := 57) rfl (v := lN (by9 k)) (nI_l (by omega)) ?_
                  refine x_ladd C dX10_number_57 (q := 58) rfl (z := lN (10 * v + (by9 k))) (lN_add (10 * v) (by9 k)) ?_
                  refine x_ldc2 C (v := lN 48) hw3 dX10_number_58 (q := 61) rfl ?_
                  refine x_lsub C dX10_number_61 (q := 62) rfl (z := lN (10 * v + (by9 k) - 48)) (lN_sub (by omega)) ?_
                  refine x_lstore_n C (L' := [(3, .long (lN (10 * v + (by9 k) - 48))), (0, .ref mo), (1, .int (nI fr)), (2, .int (nI to)), (5, .int (bh)), (6, .int (nI k))]) dX10_number_62 (q := 63) rfl rfl (by decide) rfl ?_
                  refine x_iload C dX10_number_63 (q := 65) rfl 4 rfl ?_
                  refine x_iload C dX10_number_65 (q := 67) rfl 4 rfl ?_
                  refine x_if_ge C (tgt := 74) dX10_number_67 (by decide) (q := 70) rfl (a := bh.toInt) rfl (fun h14 => ?_) (fun h14 => ?_)
                  · first
                    | (exfalso; omega)
                    |
                      refine x_iconst C dX10_number_74 (q := 75) rfl (v := nI 1) (by decide) ?_
                      refine x_iadd C dX10_number_75 (q := 76) rfl (z := bh + (nI 1)) (rfl) ?_
                      have e76 : (bh + (nI 1)).toInt = bh.toInt + 1 := (xi_add rfl rfl (by omega) (by omega))
                      refine x_istore C (L' := [(5, .int (bh + (nI 1))), (3, .long (lN (10 * v + (by9 k) - 48))), (0, .ref mo), (1, .int (nI fr)), (2, .int (nI to)), (6, .int (nI k))]) dX10_number_76 (q := 78) rfl (by decide) rfl ?_
                      refine x_iinc C (L' := [(6, .int (nI (k + 1))), (5, .int (bh + (nI 1))), (3, .long (lN (10 * v + (by9 k) - 48))), (0, .ref mo), (1, .int (nI fr)), (2, .int (nI to))]) dX10_number_78 (q := 81) rfl 5 rfl (v := nI (k + 1)) (nI_add k 1) (by decide) rfl ?_
                      refine x_goto C (tgt := 8) dX10_number_81 (by decide) ?_
                      refine x_L (L' := [(0, .ref mo), (1, .int (nI fr)), (2, .int (nI to)), (3, .long (lN (10 * v + (by9 k) - 48))), (5, .int (bh + (nI 1))), (6, .int (nI (k + 1)))]) [3, 4, 5, 2, 1, 0] rfl ?_
                      exact ih8 (i + 1) (10 * v + (by9 k) - 48) (bh + (nI 1)) (k + 1) (by first | omega | assumption) (by first | omega | assumption) (by first | (rw [nF46 (by omega) (by omega)]; (first | exact hv | (show _ = (numF b i).1 * 10 + (b i - 48); omega))) | (rw [nF45 (by omega)]; (first | exact hv | (show _ = (numF b i).1 * 10 + (b i - 48); omega))) | (rw [nFd0 (by omega) (by omega)]; (first | exact hv | (show _ = (numF b i).1 * 10 + (b i - 48); omega))) | (rw [nFd1 (by omega) (by omega)]; (first | exact hv | (show _ = (numF b i).1 * 10 + (b i - 48); omega)))) (by first | (rw [nF46 (by omega) (by omega)]; (first | (refine Or.inr ⟨rfl, ?_⟩; show (nI 0).toInt = (((numF b i).2.2 : Nat) : Int); rw [hc09 (by omega)]; rfl) | exact hbh | (dsimp only; omega))) | (rw [nF45 (by omega)]; (first | (refine Or.inr ⟨rfl, ?_⟩; show (nI 0).toInt = (((numF b i).2.2 : Nat) : Int); rw [hc09 (by omega)]; rfl) | exact hbh | (dsimp only; omega))) | (rw [nFd0 (by omega) (by omega)]; (first | (refine Or.inr ⟨rfl, ?_⟩; show (nI 0).toInt = (((numF b i).2.2 : Nat) : Int); rw [hc09 (by omega)]; rfl) | exact hbh | (dsimp only; omega))) | (rw [nFd1 (by omega) (by omega)]; (first | (refine Or.inr ⟨rfl, ?_⟩; show (nI 0).toInt = (((numF b i).2.2 : Nat) : Int); rw [hc09 (by omega)]; rfl) | exact hbh | (dsimp only; omega)))) (by omega)
                  · first
                    | (exfalso; omega)
                    |
                      refine x_iconst C dX10_number_70 (q := 71) rfl (v := nI 0) (by decide) ?_
                      refine x_goto C (tgt := 75) dX10_number_71 (by decide) ?_
                      refine x_iadd C dX10_number_75 (q := 76) rfl (z := bh + (nI 0)) (rfl) ?_
                      have e76 : (bh + (nI 0)).toInt = bh.toInt + 0 := (xi_add rfl rfl (by omega) (by omega))
                      refine x_istore C (L' := [(5, .int (bh + (nI 0))), (3, .long (lN (10 * v + (by9 k) - 48))), (0, .ref mo), (1, .int (nI fr)), (2, .int (nI to)), (6, .int (nI k))]) dX10_number_76 (q := 78) rfl (by decide) rfl ?_
                      refine x_iinc C (L' := [(6, .int (nI (k + 1))), (5, .int (bh + (nI 0))), (3, .long (lN (10 * v + (by9 k) - 48))), (0, .ref mo), (1, .int (nI fr)), (2, .int (nI to))]) dX10_number_78 (q := 81) rfl 5 rfl (v := nI (k + 1)) (nI_add k 1) (by decide) rfl ?_
                      refine x_goto C (tgt := 8) dX10_number_81 (by decide) ?_
                      refine x_L (L' := [(0, .ref mo), (1, .int (nI fr)), (2, .int (nI to)), (3, .long (lN (10 * v + (by9 k) - 48))), (5, .int (bh + (nI 0))), (6, .int (nI (k + 1)))]) [3, 4, 5, 2, 1, 0] rfl ?_
                      exact ih8 (i + 1) (10 * v + (by9 k) - 48) (bh + (nI 0)) (k + 1) (by first | omega | assumption) (by first | omega | assumption) (by first | (rw [nF46 (by omega) (by omega)]; (first | exact hv | (show _ = (numF b i).1 * 10 + (b i - 48); omega))) | (rw [nF45 (by omega)]; (first | exact hv | (show _ = (numF b i).1 * 10 + (b i - 48); omega))) | (rw [nFd0 (by omega) (by omega)]; (first | exact hv | (show _ = (numF b i).1 * 10 + (b i - 48); omega))) | (rw [nFd1 (by omega) (by omega)]; (first | exact hv | (show _ = (numF b i).1 * 10 + (b i - 48); omega)))) (by first | (rw [nF46 (by omega) (by omega)]; (first | (refine Or.inr ⟨rfl, ?_⟩; show (nI 0).toInt = (((numF b i).2.2 : Nat) : Int); rw [hc09 (by omega)]; rfl) | exact hbh | (dsimp only; omega))) | (rw [nF45 (by omega)]; (first | (refine Or.inr ⟨rfl, ?_⟩; show (nI 0).toInt = (((numF b i).2.2 : Nat) : Int); rw [hc09 (by omega)]; rfl) | exact hbh | (dsimp only; omega))) | (rw [nFd0 (by omega) (by omega)]; (first | (refine Or.inr ⟨rfl, ?_⟩; show (nI 0).toInt = (((numF b i).2.2 : Nat) : Int); rw [hc09 (by omega)]; rfl) | exact hbh | (dsimp only; omega))) | (rw [nFd1 (by omega) (by omega)]; (first | (refine Or.inr ⟨rfl, ?_⟩; show (nI 0).toInt = (((numF b i).2.2 : Nat) : Int); rw [hc09 (by omega)]; rfl) | exact hbh | (dsimp only; omega)))) (by omega)
          · first
            | (exfalso; omega)
            |
              refine x_iconst C dX10_number_26 (q := 27) rfl (v := nI 0) (by decide) ?_
              refine x_istore C (L' := [(5, .int (nI 0)), (0, .ref mo), (1, .int (nI fr)), (2, .int (nI to)), (3, .long (lN v)), (6, .int (nI k))]) dX10_number_27 (q := 29) rfl (by decide) rfl ?_
              refine x_goto C (tgt := 78) dX10_number_29 (by decide) ?_
              refine x_iinc C (L' := [(6, .int (nI (k + 1))), (5, .int (nI 0)), (0, .ref mo), (1, .int (nI fr)), (2, .int (nI to)), (3, .long (lN v))]) dX10_number_78 (q := 81) rfl 5 rfl (v := nI (k + 1)) (nI_add k 1) (by decide) rfl ?_
              refine x_goto C (tgt := 8) dX10_number_81 (by decide) ?_
              refine x_L (L' := [(0, .ref mo), (1, .int (nI fr)), (2, .int (nI to)), (3, .long (lN v)), (5, .int (nI 0)), (6, .int (nI (k + 1)))]) [2, 3, 4, 5, 1, 0] rfl ?_
              exact ih8 (i + 1) v (nI 0) (k + 1) (by first | omega | assumption) (by first | omega | assumption) (by first | (rw [nF46 (by omega) (by omega)]; (first | exact hv | (show _ = (numF b i).1 * 10 + (b i - 48); omega))) | (rw [nF45 (by omega)]; (first | exact hv | (show _ = (numF b i).1 * 10 + (b i - 48); omega))) | (rw [nFd0 (by omega) (by omega)]; (first | exact hv | (show _ = (numF b i).1 * 10 + (b i - 48); omega))) | (rw [nFd1 (by omega) (by omega)]; (first | exact hv | (show _ = (numF b i).1 * 10 + (b i - 48); omega)))) (by first | (rw [nF46 (by omega) (by omega)]; (first | (refine Or.inr ⟨rfl, ?_⟩; show (nI 0).toInt = (((numF b i).2.2 : Nat) : Int); rw [hc09 (by omega)]; rfl) | exact hbh | (dsimp only; omega))) | (rw [nF45 (by omega)]; (first | (refine Or.inr ⟨rfl, ?_⟩; show (nI 0).toInt = (((numF b i).2.2 : Nat) : Int); rw [hc09 (by omega)]; rfl) | exact hbh | (dsimp only; omega))) | (rw [nFd0 (by omega) (by omega)]; (first | (refine Or.inr ⟨rfl, ?_⟩; show (nI 0).toInt = (((numF b i).2.2 : Nat) : Int); rw [hc09 (by omega)]; rfl) | exact hbh | (dsimp only; omega))) | (rw [nFd1 (by omega) (by omega)]; (first | (refine Or.inr ⟨rfl, ?_⟩; show (nI 0).toInt = (((numF b i).2.2 : Nat) : Int); rw [hc09 (by omega)]; rfl) | exact hbh | (dsimp only; omega)))) (by omega)
  refine x_L (L' := [(0, .ref mo), (1, .int (nI fr)), (2, .int (nI to)), (3, .long (lN 0)), (5, .int (-1)), (6, .int (nI fr))]) [3, 4, 5, 2, 1, 0] rfl ?_
  exact cut8 (len - 0 + 1) 0 0 (-1) fr (by first | omega | assumption) (by first | omega | assumption) (by rfl) (by exact Or.inl ⟨rfl, rfl⟩) (by omega)
