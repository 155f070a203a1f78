
theorem xl_add0 (v : Int64) : v + lN 0 = v := by
  have h : lN 0 = (0 : Int64) := by decide
  rw [h]
  exact Int64.add_zero v
theorem hvb_0 {v : Int64} {r : Nat} (h : v.toInt.natAbs ≤ 1000000000 * r) : (v + lN 0).toInt.natAbs ≤ 1000000000 * (r + 1) := by
  rw [xl_add0]
  omega
theorem hvb_1 {v w : Int64} {r : Nat} (h : v.toInt.natAbs ≤ 1000000000 * r) (hw : w.toInt.natAbs < 1000000000) (hr : r ≤ 24) : (v + w).toInt.natAbs ≤ 1000000000 * (r + 1) := by
  rw [xl_addI rfl rfl (by omega) (by omega)]
  omega

set_option maxHeartbeats 400000 in
set_option maxRecDepth 100000 in
/-- feature -/
theorem c_X10_feature (l : Launch) (D : va_G) (cy : Nat → ClassId) (mo : Nat) (mr : Nat → Nat) (cols : Nat) (lc : Nat) (smp : Nat) (nse : Nat) (npa : Nat) (nbo : Nat) (tn : Nat) (ik : Nat) (ky : Int32) (j0 : Int32) (j1 : Int32) (j2 : Int32) (j3 : Int32) (j4 : Int32) (P : PS) (fn : Nat → Nat) (fo : Nat → Nat) (ex : Nat → Int64) (wo : Nat → Int64) (st9 : Nat → Nat) (lr9 : Nat → Nat) (rl9 : Nat → Int32) (fa9 : Nat → Int32) (ca9 : Nat → Int32) (dc9 : Nat → Int32) (ld : LD) (tl9 : Nat → Nat) (ga : Nat → Int64) (x : Int32) (y : Int32) (hml : MdL ld lc fn fo ex wo) (hfo4 : ∀ q, fo q ≤ 4) (hfn : ∀ q, fn q ≤ 61) (hlc : lc ≤ 24) (hF : InvF ld cols lc P) (hmp : MdP cols P st9 lr9 rl9 fa9 ca9 dc9) (hcols : cols ≤ 5) (hlr9 : ∀ k, lr9 k < 24) (hst9 : ∀ k, st9 k ≤ 4) : xMet l D cy xT yX10_feature wsX10_feature ({ frames := 6, cells := 0, slots := 0, locals := 900 } : Room) [.ref mo, .int (x), .int (y)] [(mo, .inr (9, [.int (nI cols), .int (nI lc), .int (nI smp), .int (ky), .ref (mr 0), .ref (mr 1), .ref (mr 2), .ref (mr 3), .ref (mr 4), .ref (mr 5), .ref (mr 6), .ref (mr 7), .ref (mr 8), .ref (mr 9), .int (nI (pMk P)), .int (nI (pRs P)), .ref (mr 10), .ref (mr 11), .ref (mr 12), .ref (mr 13), .ref (mr 14), .ref (mr 15), .ref (mr 16), .ref (mr 17), .ref (mr 18), .ref (mr 19), .ref (mr 20), .int (nI nse), .int (nI npa), .int (nI nbo), .ref (mr 21), .int (nI tn), .ref (mr 22), .int (nI ik), .int (j0), .int (j1), .ref (mr 23), .int (j2), .ref (mr 24), .ref (mr 25), .int (j3), .ref (mr 26), .int (j4), .ref (mr 27), .ref (mr 28), .ref (mr 29), .ref (mr 30)])), (mr 10, .inl (cy 1, 24, .inl (fun k => nI (lr9 k)))), (mr 3, .inl (cy 1, 5, .inl (fun k => nI (st9 k)))), (mr 6, .inl (cy 1, 24, .inl (fun k => nI (fn k)))), (mr 7, .inl (cy 1, 120, .inl (fun k => nI (fo k)))), (mr 8, .inl (cy 2, 120, .inr (.inl ex))), (mr 9, .inl (cy 2, 120, .inr (.inl wo)))] [] (fun (v9 : Option Value) (w9 : va_W) => (v9 = some (.long (feaA ld cols tl9 (min smp lc) P ga x.toInt y.toInt)) ∧ w9 = [(mo, .inr (9, [.int (nI cols), .int (nI lc), .int (nI smp), .int (ky), .ref (mr 0), .ref (mr 1), .ref (mr 2), .ref (mr 3), .ref (mr 4), .ref (mr 5), .ref (mr 6), .ref (mr 7), .ref (mr 8), .ref (mr 9), .int (nI (pMk P)), .int (nI (pRs P)), .ref (mr 10), .ref (mr 11), .ref (mr 12), .ref (mr 13), .ref (mr 14), .ref (mr 15), .ref (mr 16), .ref (mr 17), .ref (mr 18), .ref (mr 19), .ref (mr 20), .int (nI nse), .int (nI npa), .int (nI nbo), .ref (mr 21), .int (nI tn), .ref (mr 22), .int (nI ik), .int (j0), .int (j1), .ref (mr 23), .int (j2), .ref (mr 24), .ref (mr 25), .int (j3), .ref (mr 26), .int (j4), .ref (mr 27), .ref (mr 28), .ref (mr 29), .ref (mr 30)])), (mr 10, .inl (cy 1, 24, .inl (fun k => nI (lr9 k)))), (mr 3, .inl (cy 1, 5, .inl (fun k => nI (st9 k)))), (mr 6, .inl (cy 1, 24, .inl (fun k => nI (fn k)))), (mr 7, .inl (cy 1, 120, .inl (fun k => nI (fo k)))), (mr 8, .inl (cy 2, 120, .inr (.inl ex))), (mr 9, .inl (cy 2, 120, .inr (.inl wo)))])) := by
  refine xMet_of (cc := cX10_feature) (maxL := 3) (ret := (some .long)) (by decide) rfl (Nat.le_of_ble_eq_true rfl) (fun p e s m args below meth c A R Q hA hR hQ C hr hnm hro hX => ?_)
  have hw0 : Jvm.Cond.constantLong RX10 282 (4) ∈ wsX10_feature := by decide +kernel
  have hw1 : ∀ w ∈ u_ws RX10 TX10 47, w ∈ wsX10_feature := by decide +kernel
  have hw2 : Cond.fieldLink RX10 128 (TX10 15).1 (TX10 15).2.1 (TX10 15).2.2.1 ∈ wsX10_feature := by decide +kernel
  have hw3 : Jvm.Cond.constantLong RX10 245 (-9223372036854775808) ∈ wsX10_feature := by decide +kernel
  refine x_L (L' := [(0, .ref mo), (1, .int (x)), (2, .int (y))]) [0, 1, 2] rfl ?_
  have hIP := hF.1
  have hP1 := hIP.1
  have hP2 := hIP.2.1
  have hg9 := gaN_le ld (pLr P) (x.toInt.toNat) (pRs P)
  refine x_aload_n C dX10_feature_0 (q := 1) rfl rfl 0 rfl ?_
  refine x_iload_n C dX10_feature_1 (q := 2) rfl rfl 1 rfl ?_
  refine x_callV C (roW := []) (roR := []) (c_X10_isColumn l D cy mo mr cols lc smp (pMk P) (pRs P) nse npa nbo tn ik ky j0 j1 j2 j3 j4 x (by first | assumption | omega | (simp only []; omega))) (cwV 1 C.2.2.2.2.1 gX10_feature_X10_isColumn rfl rfl rfl (by decide +kernel) (by rw [hR]; exact ⟨Nat.le_of_ble_eq_true rfl, Nat.le_of_ble_eq_true rfl⟩)) [0] [] rfl (by decide) rfl (by decide) xro_nil (List.mem_of_getElem? (i := 0) rfl) (ci := 9) rfl xT_bl (fun _ _ _ _ _ _ _ => trivial) rfl rfl dX10_feature_2 rfl rfl (Nat.le_of_ble_eq_true rfl) (q := 5) rfl (k' := 0) rfl (n' := 0) rfl (by rw [hR]; exact ⟨Nat.le_of_ble_eq_true rfl, Nat.le_of_ble_eq_true rfl⟩) (fun v1 w1 hp1 => ?_)
  rcases hp1 with hp1 | hp1
  · skip
    obtain ⟨rfl, rfl, hc2, hc3⟩ := hp1
    refine x_ws (ws' := [(mo, .inr (9, [.int (nI cols), .int (nI lc), .int (nI smp), .int (ky), .ref (mr 0), .ref (mr 1), .ref (mr 2), .ref (mr 3), .ref (mr 4), .ref (mr 5), .ref (mr 6), .ref (mr 7), .ref (mr 8), .ref (mr 9), .int (nI (pMk P)), .int (nI (pRs P)), .ref (mr 10), .ref (mr 11), .ref (mr 12), .ref (mr 13), .ref (mr 14), .ref (mr 15), .ref (mr 16), .ref (mr 17), .ref (mr 18), .ref (mr 19), .ref (mr 20), .int (nI nse), .int (nI npa), .int (nI nbo), .ref (mr 21), .int (nI tn), .ref (mr 22), .int (nI ik), .int (j0), .int (j1), .ref (mr 23), .int (j2), .ref (mr 24), .ref (mr 25), .int (j3), .ref (mr 26), .int (j4), .ref (mr 27), .ref (mr 28), .ref (mr 29), .ref (mr 30)])), (mr 10, .inl (cy 1, 24, .inl (fun k => nI (lr9 k)))), (mr 3, .inl (cy 1, 5, .inl (fun k => nI (st9 k)))), (mr 6, .inl (cy 1, 24, .inl (fun k => nI (fn k)))), (mr 7, .inl (cy 1, 120, .inl (fun k => nI (fo k)))), (mr 8, .inl (cy 2, 120, .inr (.inl ex))), (mr 9, .inl (cy 2, 120, .inr (.inl wo)))]) rfl ?_
    refine x_if_eq C (tgt := 20) dX10_feature_5 (by decide) (q := 8) rfl (a := 1) rfl (fun h4 => (by omega : False).elim) (fun h4 => ?_)
    refine x_iload_n C dX10_feature_8 (q := 9) rfl rfl 2 rfl ?_
    refine x_i2l C dX10_feature_9 (q := 10) rfl (v := y.toInt64) (rfl) ?_
    refine x_lconst C dX10_feature_10 (q := 11) rfl (v := lN 0) rfl ?_
    refine x_ldc2 C (v := lN 4) hw0 dX10_feature_11 (q := 14) rfl ?_
    refine x_callS C (roW := []) (roR := []) (c_X10_in l D cy y.toInt64 (lN 0) (lN 4) y.toInt 0 4 (xl_wide rfl) rfl rfl) (cwS 3 C.2.2.2.2.1 gX10_feature_X10_in rfl rfl rfl (by decide +kernel) (by rw [hR]; exact ⟨Nat.le_of_ble_eq_true rfl, Nat.le_of_ble_eq_true rfl⟩)) [] [] rfl (by decide) rfl (by decide) xro_nil xT_bl (fun _ _ _ _ _ _ _ => trivial) rfl rfl dX10_feature_14 rfl rfl (Nat.le_of_ble_eq_true rfl) (q := 17) rfl (k' := 0) rfl (n' := 0) rfl (by rw [hR]; exact ⟨Nat.le_of_ble_eq_true rfl, Nat.le_of_ble_eq_true rfl⟩) (fun v5 w5 hp5 => ?_)
    rcases hp5 with hp5 | hp5
    · skip
      obtain ⟨rfl, rfl, hc6, hc7⟩ := hp5
      refine x_ws (ws' := [(mo, .inr (9, [.int (nI cols), .int (nI lc), .int (nI smp), .int (ky), .ref (mr 0), .ref (mr 1), .ref (mr 2), .ref (mr 3), .ref (mr 4), .ref (mr 5), .ref (mr 6), .ref (mr 7), .ref (mr 8), .ref (mr 9), .int (nI (pMk P)), .int (nI (pRs P)), .ref (mr 10), .ref (mr 11), .ref (mr 12), .ref (mr 13), .ref (mr 14), .ref (mr 15), .ref (mr 16), .ref (mr 17), .ref (mr 18), .ref (mr 19), .ref (mr 20), .int (nI nse), .int (nI npa), .int (nI nbo), .ref (mr 21), .int (nI tn), .ref (mr 22), .int (nI ik), .int (j0), .int (j1), .ref (mr 23), .int (j2), .ref (mr 24), .ref (mr 25), .int (j3), .ref (mr 26), .int (j4), .ref (mr 27), .ref (mr 28), .ref (mr 29), .ref (mr 30)])), (mr 10, .inl (cy 1, 24, .inl (fun k => nI (lr9 k)))), (mr 3, .inl (cy 1, 5, .inl (fun k => nI (st9 k)))), (mr 6, .inl (cy 1, 24, .inl (fun k => nI (fn k)))), (mr 7, .inl (cy 1, 120, .inl (fun k => nI (fo k)))), (mr 8, .inl (cy 2, 120, .inr (.inl ex))), (mr 9, .inl (cy 2, 120, .inr (.inl wo)))]) (List.append_nil _) ?_
      refine x_if_ne C (tgt := 24) dX10_feature_17 (by decide) (q := 20) rfl (a := 1) rfl (fun h8 => ?_) (fun h8 => (by omega : False).elim)
      refine x_iload_n C dX10_feature_24 (q := 25) rfl rfl 2 rfl ?_
      by_cases hs9 : y.toInt < 0 ∨ 3 < y.toInt
      · refine x_tableOut C (tgt := 84) dX10_feature_25 hs9 (by decide) ?_
        refine x_aload_n C dX10_feature_84 (q := 85) rfl rfl 0 rfl ?_
        refine x_get C (ci := 9) (v := .int (nI (pRs P))) hw1 0 rfl rfl 15 (by decide) hw2 rfl dX10_feature_85 (q := 88) rfl ?_
        refine x_aload_n C dX10_feature_88 (q := 89) rfl rfl 0 rfl ?_
        refine x_iload_n C dX10_feature_89 (q := 90) rfl rfl 1 rfl ?_
        refine x_callV C (roW := []) (roR := []) (c_X10_havers l D cy mo mr cols lc smp nse npa nbo tn ik ky j0 j1 j2 j3 j4 P fn fo ex wo st9 lr9 rl9 fa9 ca9 dc9 ld x (by assumption) (by assumption) (by assumption) (by first | assumption | omega | (simp only []; omega)) (by assumption) (by assumption) (by first | assumption | omega | (simp only []; omega)) (by assumption) (by assumption) (by first | assumption | omega | (simp only []; omega)) (by first | assumption | omega | (simp only []; omega))) (cwV 1 C.2.2.2.2.1 gX10_feature_X10_havers rfl rfl rfl (by decide +kernel) (by rw [hR]; exact ⟨Nat.le_of_ble_eq_true rfl, Nat.le_of_ble_eq_true rfl⟩)) [0, 1, 2, 3, 4, 5, 6] [] rfl (by decide) rfl (by decide) xro_nil (List.mem_of_getElem? (i := 0) rfl) (ci := 9) rfl xT_bl (fun _ _ _ _ _ _ _ => trivial) rfl rfl dX10_feature_90 rfl rfl (Nat.le_of_ble_eq_true rfl) (q := 93) rfl (k' := 0) rfl (n' := 0) rfl (by rw [hR]; exact ⟨Nat.le_of_ble_eq_true rfl, Nat.le_of_ble_eq_true rfl⟩) (fun v10 w10 hp10 => ?_)
        obtain ⟨rfl, rfl⟩ := hp10
        refine x_ws (ws' := [(mo, .inr (9, [.int (nI cols), .int (nI lc), .int (nI smp), .int (ky), .ref (mr 0), .ref (mr 1), .ref (mr 2), .ref (mr 3), .ref (mr 4), .ref (mr 5), .ref (mr 6), .ref (mr 7), .ref (mr 8), .ref (mr 9), .int (nI (pMk P)), .int (nI (pRs P)), .ref (mr 10), .ref (mr 11), .ref (mr 12), .ref (mr 13), .ref (mr 14), .ref (mr 15), .ref (mr 16), .ref (mr 17), .ref (mr 18), .ref (mr 19), .ref (mr 20), .int (nI nse), .int (nI npa), .int (nI nbo), .ref (mr 21), .int (nI tn), .ref (mr 22), .int (nI ik), .int (j0), .int (j1), .ref (mr 23), .int (j2), .ref (mr 24), .ref (mr 25), .int (j3), .ref (mr 26), .int (j4), .ref (mr 27), .ref (mr 28), .ref (mr 29), .ref (mr 30)])), (mr 10, .inl (cy 1, 24, .inl (fun k => nI (lr9 k)))), (mr 3, .inl (cy 1, 5, .inl (fun k => nI (st9 k)))), (mr 6, .inl (cy 1, 24, .inl (fun k => nI (fn k)))), (mr 7, .inl (cy 1, 120, .inl (fun k => nI (fo k)))), (mr 8, .inl (cy 2, 120, .inr (.inl ex))), (mr 9, .inl (cy 2, 120, .inr (.inl wo)))]) rfl ?_
        refine x_isub C dX10_feature_93 (q := 94) rfl (z := nI (pRs P - (gaN ld (pLr P) x.toInt.toNat (pRs P)))) (xi_subN (by omega) (by omega)) ?_
        refine x_i2l C dX10_feature_94 (q := 95) rfl (v := lN (pRs P - (gaN ld (pLr P) x.toInt.toNat (pRs P)))) (nI_l (by omega)) ?_
        refine x_lret C hA hQ hr dX10_feature_95 (Nat.le_of_ble_eq_true rfl) ?_
        refine ⟨?_, rfl⟩
        unfold feaA
        rw [if_neg (by omega), if_neg (by omega), if_neg (by omega), if_neg (by omega), if_neg (by omega), if_pos (by omega)]
      · have hs9' : y.toInt = 0 ∨ y.toInt = 1 ∨ y.toInt = 2 ∨ y.toInt = 3 := by omega
        rcases hs9' with hs9e | hs9e | hs9e | hs9e
        · refine x_tableIn C (tgt := 56) (0 : Int) ((rfl : (y : Int32).toInt = y.toInt).trans hs9e) dX10_feature_25 (by decide) (by decide) rfl (by decide) ?_
          refine x_aload_n C dX10_feature_56 (q := 57) rfl rfl 0 rfl ?_
          refine x_iload_n C dX10_feature_57 (q := 58) rfl rfl 1 rfl ?_
          refine x_callV C (roW := []) (roR := []) (c_X10_havers l D cy mo mr cols lc smp nse npa nbo tn ik ky j0 j1 j2 j3 j4 P fn fo ex wo st9 lr9 rl9 fa9 ca9 dc9 ld x (by assumption) (by assumption) (by assumption) (by first | assumption | omega | (simp only []; omega)) (by assumption) (by assumption) (by first | assumption | omega | (simp only []; omega)) (by assumption) (by assumption) (by first | assumption | omega | (simp only []; omega)) (by first | assumption | omega | (simp only []; omega))) (cwV 1 C.2.2.2.2.1 gX10_feature_X10_havers rfl rfl rfl (by decide +kernel) (by rw [hR]; exact ⟨Nat.le_of_ble_eq_true rfl, Nat.le_of_ble_eq_true rfl⟩)) [0, 1, 2, 3, 4, 5, 6] [] rfl (by decide) rfl (by decide) xro_nil (List.mem_of_getElem? (i := 0) rfl) (ci := 9) rfl xT_bl (fun _ _ _ _ _ _ _ => trivial) rfl rfl dX10_feature_58 rfl rfl (Nat.le_of_ble_eq_true rfl) (q := 61) rfl (k' := 0) rfl (n' := 0) rfl (by rw [hR]; exact ⟨Nat.le_of_ble_eq_true rfl, Nat.le_of_ble_eq_true rfl⟩) (fun v11 w11 hp11 => ?_)
          obtain ⟨rfl, rfl⟩ := hp11
          refine x_ws (ws' := [(mo, .inr (9, [.int (nI cols), .int (nI lc), .int (nI smp), .int (ky), .ref (mr 0), .ref (mr 1), .ref (mr 2), .ref (mr 3), .ref (mr 4), .ref (mr 5), .ref (mr 6), .ref (mr 7), .ref (mr 8), .ref (mr 9), .int (nI (pMk P)), .int (nI (pRs P)), .ref (mr 10), .ref (mr 11), .ref (mr 12), .ref (mr 13), .ref (mr 14), .ref (mr 15), .ref (mr 16), .ref (mr 17), .ref (mr 18), .ref (mr 19), .ref (mr 20), .int (nI nse), .int (nI npa), .int (nI nbo), .ref (mr 21), .int (nI tn), .ref (mr 22), .int (nI ik), .int (j0), .int (j1), .ref (mr 23), .int (j2), .ref (mr 24), .ref (mr 25), .int (j3), .ref (mr 26), .int (j4), .ref (mr 27), .ref (mr 28), .ref (mr 29), .ref (mr 30)])), (mr 10, .inl (cy 1, 24, .inl (fun k => nI (lr9 k)))), (mr 3, .inl (cy 1, 5, .inl (fun k => nI (st9 k)))), (mr 6, .inl (cy 1, 24, .inl (fun k => nI (fn k)))), (mr 7, .inl (cy 1, 120, .inl (fun k => nI (fo k)))), (mr 8, .inl (cy 2, 120, .inr (.inl ex))), (mr 9, .inl (cy 2, 120, .inr (.inl wo)))]) rfl ?_
          refine x_i2l C dX10_feature_61 (q := 62) rfl (v := lN (gaN ld (pLr P) x.toInt.toNat (pRs P))) (nI_l (by omega)) ?_
          refine x_lret C hA hQ hr dX10_feature_62 (Nat.le_of_ble_eq_true rfl) ?_
          refine ⟨?_, rfl⟩
          unfold feaA
          rw [if_neg (by omega), if_pos (by omega)]
        · refine x_tableIn C (tgt := 63) (1 : Int) ((rfl : (y : Int32).toInt = y.toInt).trans hs9e) dX10_feature_25 (by decide) (by decide) rfl (by decide) ?_
          refine x_aload_n C dX10_feature_63 (q := 64) rfl rfl 0 rfl ?_
          refine x_iload_n C dX10_feature_64 (q := 65) rfl rfl 1 rfl ?_
          refine x_iconst C dX10_feature_65 (q := 66) rfl (v := nI 1) (by decide) ?_
          refine x_callV C (roW := []) (roR := []) (c_X10_edge_1 l D cy mo mr cols lc smp nse npa nbo tn ik ky j0 j1 j2 j3 j4 P fn fo ex wo st9 lr9 rl9 fa9 ca9 dc9 ld x ga (by assumption) (by assumption) (by assumption) (by first | assumption | omega | (simp only []; omega)) (by assumption) (by assumption) (by first | assumption | omega | (simp only []; omega)) (by assumption) (by assumption) (by first | assumption | omega | (simp only []; omega)) (by first | assumption | omega | (simp only []; omega))) (cwV 2 C.2.2.2.2.1 gX10_feature_X10_edge rfl rfl rfl (by decide +kernel) (by rw [hR]; exact ⟨Nat.le_of_ble_eq_true rfl, Nat.le_of_ble_eq_true rfl⟩)) [0, 1, 2, 3, 4, 5, 6] [] rfl (by decide) rfl (by decide) xro_nil (List.mem_of_getElem? (i := 0) rfl) (ci := 9) rfl xT_bl (fun _ _ _ _ _ _ _ => trivial) rfl rfl dX10_feature_66 rfl rfl (Nat.le_of_ble_eq_true rfl) (q := 69) rfl (k' := 0) rfl (n' := 0) rfl (by rw [hR]; exact ⟨Nat.le_of_ble_eq_true rfl, Nat.le_of_ble_eq_true rfl⟩) (fun v12 w12 hp12 => ?_)
          obtain ⟨rfl, rfl⟩ := hp12
          refine x_ws (ws' := [(mo, .inr (9, [.int (nI cols), .int (nI lc), .int (nI smp), .int (ky), .ref (mr 0), .ref (mr 1), .ref (mr 2), .ref (mr 3), .ref (mr 4), .ref (mr 5), .ref (mr 6), .ref (mr 7), .ref (mr 8), .ref (mr 9), .int (nI (pMk P)), .int (nI (pRs P)), .ref (mr 10), .ref (mr 11), .ref (mr 12), .ref (mr 13), .ref (mr 14), .ref (mr 15), .ref (mr 16), .ref (mr 17), .ref (mr 18), .ref (mr 19), .ref (mr 20), .int (nI nse), .int (nI npa), .int (nI nbo), .ref (mr 21), .int (nI tn), .ref (mr 22), .int (nI ik), .int (j0), .int (j1), .ref (mr 23), .int (j2), .ref (mr 24), .ref (mr 25), .int (j3), .ref (mr 26), .int (j4), .ref (mr 27), .ref (mr 28), .ref (mr 29), .ref (mr 30)])), (mr 10, .inl (cy 1, 24, .inl (fun k => nI (lr9 k)))), (mr 3, .inl (cy 1, 5, .inl (fun k => nI (st9 k)))), (mr 6, .inl (cy 1, 24, .inl (fun k => nI (fn k)))), (mr 7, .inl (cy 1, 120, .inl (fun k => nI (fo k)))), (mr 8, .inl (cy 2, 120, .inr (.inl ex))), (mr 9, .inl (cy 2, 120, .inr (.inl wo)))]) rfl ?_
          refine x_lret C hA hQ hr dX10_feature_69 (Nat.le_of_ble_eq_true rfl) ?_
          have ety : 0 < pRs P → tyS (pSt P) tl9 ld x.toInt.toNat (min smp lc) = pSt P x.toInt.toNat := fun h => tyS_s (hF.2.1 (by omega) _ (by omega))
          have e1 : feaA ld cols tl9 (min smp lc) P ga x.toInt y.toInt = (if gaN ld (pLr P) x.toInt.toNat (pRs P) = 0 then (-9223372036854775808) else leS (gaF ld (pLr P) (tyS (pSt P) tl9 ld x.toInt.toNat (min smp lc)) x.toInt.toNat ga (pRs P)) (gaN ld (pLr P) x.toInt.toNat (pRs P)) : Int64) := by
            unfold feaA
            rw [if_neg (by omega), if_neg (by omega), if_pos (by omega)]
          refine ⟨?_, rfl⟩
          rcases Nat.eq_zero_or_pos (pRs P) with e0 | e0
          · have n0 : gaN ld (pLr P) x.toInt.toNat (pRs P) = 0 := by rw [e0]; rfl
            rw [e1, if_pos n0, if_pos n0]
          · rw [e1, ety e0]
        · refine x_tableIn C (tgt := 70) (2 : Int) ((rfl : (y : Int32).toInt = y.toInt).trans hs9e) dX10_feature_25 (by decide) (by decide) rfl (by decide) ?_
          refine x_aload_n C dX10_feature_70 (q := 71) rfl rfl 0 rfl ?_
          refine x_iload_n C dX10_feature_71 (q := 72) rfl rfl 1 rfl ?_
          refine x_iconst C dX10_feature_72 (q := 73) rfl (v := nI 0) (by decide) ?_
          refine x_callV C (roW := []) (roR := []) (c_X10_edge_0 l D cy mo mr cols lc smp nse npa nbo tn ik ky j0 j1 j2 j3 j4 P fn fo ex wo st9 lr9 rl9 fa9 ca9 dc9 ld x ga (by assumption) (by assumption) (by assumption) (by first | assumption | omega | (simp only []; omega)) (by assumption) (by assumption) (by first | assumption | omega | (simp only []; omega)) (by assumption) (by assumption) (by first | assumption | omega | (simp only []; omega)) (by first | assumption | omega | (simp only []; omega))) (cwV 2 C.2.2.2.2.1 gX10_feature_X10_edge rfl rfl rfl (by decide +kernel) (by rw [hR]; exact ⟨Nat.le_of_ble_eq_true rfl, Nat.le_of_ble_eq_true rfl⟩)) [0, 1, 2, 3, 4, 5, 6] [] rfl (by decide) rfl (by decide) xro_nil (List.mem_of_getElem? (i := 0) rfl) (ci := 9) rfl xT_bl (fun _ _ _ _ _ _ _ => trivial) rfl rfl dX10_feature_73 rfl rfl (Nat.le_of_ble_eq_true rfl) (q := 76) rfl (k' := 0) rfl (n' := 0) rfl (by rw [hR]; exact ⟨Nat.le_of_ble_eq_true rfl, Nat.le_of_ble_eq_true rfl⟩) (fun v13 w13 hp13 => ?_)
          obtain ⟨rfl, rfl⟩ := hp13
          refine x_ws (ws' := [(mo, .inr (9, [.int (nI cols), .int (nI lc), .int (nI smp), .int (ky), .ref (mr 0), .ref (mr 1), .ref (mr 2), .ref (mr 3), .ref (mr 4), .ref (mr 5), .ref (mr 6), .ref (mr 7), .ref (mr 8), .ref (mr 9), .int (nI (pMk P)), .int (nI (pRs P)), .ref (mr 10), .ref (mr 11), .ref (mr 12), .ref (mr 13), .ref (mr 14), .ref (mr 15), .ref (mr 16), .ref (mr 17), .ref (mr 18), .ref (mr 19), .ref (mr 20), .int (nI nse), .int (nI npa), .int (nI nbo), .ref (mr 21), .int (nI tn), .ref (mr 22), .int (nI ik), .int (j0), .int (j1), .ref (mr 23), .int (j2), .ref (mr 24), .ref (mr 25), .int (j3), .ref (mr 26), .int (j4), .ref (mr 27), .ref (mr 28), .ref (mr 29), .ref (mr 30)])), (mr 10, .inl (cy 1, 24, .inl (fun k => nI (lr9 k)))), (mr 3, .inl (cy 1, 5, .inl (fun k => nI (st9 k)))), (mr 6, .inl (cy 1, 24, .inl (fun k => nI (fn k)))), (mr 7, .inl (cy 1, 120, .inl (fun k => nI (fo k)))), (mr 8, .inl (cy 2, 120, .inr (.inl ex))), (mr 9, .inl (cy 2, 120, .inr (.inl wo)))]) rfl ?_
          refine x_lret C hA hQ hr dX10_feature_76 (Nat.le_of_ble_eq_true rfl) ?_
          have ety : 0 < pRs P → tyS (pSt P) tl9 ld x.toInt.toNat (min smp lc) = pSt P x.toInt.toNat := fun h => tyS_s (hF.2.1 (by omega) _ (by omega))
          have e1 : feaA ld cols tl9 (min smp lc) P ga x.toInt y.toInt = (if gaN ld (pLr P) x.toInt.toNat (pRs P) = 0 then (-9223372036854775808) else grS (gaF ld (pLr P) (tyS (pSt P) tl9 ld x.toInt.toNat (min smp lc)) x.toInt.toNat ga (pRs P)) (gaN ld (pLr P) x.toInt.toNat (pRs P)) : Int64) := by
            unfold feaA
            rw [if_neg (by omega), if_neg (by omega), if_neg (by omega), if_pos (by omega)]
          refine ⟨?_, rfl⟩
          rcases Nat.eq_zero_or_pos (pRs P) with e0 | e0
          · have n0 : gaN ld (pLr P) x.toInt.toNat (pRs P) = 0 := by rw [e0]; rfl
            rw [e1, if_pos n0, if_pos n0]
          · rw [e1, ety e0]
        · refine x_tableIn C (tgt := 77) (3 : Int) ((rfl : (y : Int32).toInt = y.toInt).trans hs9e) dX10_feature_25 (by decide) (by decide) rfl (by decide) ?_
          refine x_aload_n C dX10_feature_77 (q := 78) rfl rfl 0 rfl ?_
          refine x_iload_n C dX10_feature_78 (q := 79) rfl rfl 1 rfl ?_
          refine x_callV C (roW := []) (roR := []) (c_X10_unlike l D cy mo mr cols lc smp nse npa nbo tn ik ky j0 j1 j2 j3 j4 P fn fo ex wo st9 lr9 rl9 fa9 ca9 dc9 ld x ga (by assumption) (by assumption) (by assumption) (by first | assumption | omega | (simp only []; omega)) (by assumption) (by assumption) (by first | assumption | omega | (simp only []; omega)) (by assumption) (by assumption) (by first | assumption | omega | (simp only []; omega)) (by first | assumption | omega | (simp only []; omega))) (cwV 1 C.2.2.2.2.1 gX10_feature_X10_unlike rfl rfl rfl (by decide +kernel) (by rw [hR]; exact ⟨Nat.le_of_ble_eq_true rfl, Nat.le_of_ble_eq_true rfl⟩)) [0, 1, 2, 3, 4, 5, 6] [] rfl (by decide) rfl (by decide) xro_nil (List.mem_of_getElem? (i := 0) rfl) (ci := 9) rfl xT_bl (fun _ _ _ _ _ _ _ => trivial) rfl rfl dX10_feature_79 rfl rfl (Nat.le_of_ble_eq_true rfl) (q := 82) rfl (k' := 0) rfl (n' := 0) rfl (by rw [hR]; exact ⟨Nat.le_of_ble_eq_true rfl, Nat.le_of_ble_eq_true rfl⟩) (fun v14 w14 hp14 => ?_)
          obtain ⟨rfl, rfl⟩ := hp14
          refine x_ws (ws' := [(mo, .inr (9, [.int (nI cols), .int (nI lc), .int (nI smp), .int (ky), .ref (mr 0), .ref (mr 1), .ref (mr 2), .ref (mr 3), .ref (mr 4), .ref (mr 5), .ref (mr 6), .ref (mr 7), .ref (mr 8), .ref (mr 9), .int (nI (pMk P)), .int (nI (pRs P)), .ref (mr 10), .ref (mr 11), .ref (mr 12), .ref (mr 13), .ref (mr 14), .ref (mr 15), .ref (mr 16), .ref (mr 17), .ref (mr 18), .ref (mr 19), .ref (mr 20), .int (nI nse), .int (nI npa), .int (nI nbo), .ref (mr 21), .int (nI tn), .ref (mr 22), .int (nI ik), .int (j0), .int (j1), .ref (mr 23), .int (j2), .ref (mr 24), .ref (mr 25), .int (j3), .ref (mr 26), .int (j4), .ref (mr 27), .ref (mr 28), .ref (mr 29), .ref (mr 30)])), (mr 10, .inl (cy 1, 24, .inl (fun k => nI (lr9 k)))), (mr 3, .inl (cy 1, 5, .inl (fun k => nI (st9 k)))), (mr 6, .inl (cy 1, 24, .inl (fun k => nI (fn k)))), (mr 7, .inl (cy 1, 120, .inl (fun k => nI (fo k)))), (mr 8, .inl (cy 2, 120, .inr (.inl ex))), (mr 9, .inl (cy 2, 120, .inr (.inl wo)))]) rfl ?_
          have hu9 := ukS_le (gaF ld (pLr P) (pSt P x.toInt.toNat) x.toInt.toNat ga (pRs P)) (gaN ld (pLr P) x.toInt.toNat (pRs P))
          refine x_i2l C dX10_feature_82 (q := 83) rfl (v := lN (ukS (gaF ld (pLr P) (pSt P x.toInt.toNat) x.toInt.toNat ga (pRs P)) (gaN ld (pLr P) x.toInt.toNat (pRs P)))) (nI_l (by omega)) ?_
          refine x_lret C hA hQ hr dX10_feature_83 (Nat.le_of_ble_eq_true rfl) ?_
          have ety : 0 < pRs P → tyS (pSt P) tl9 ld x.toInt.toNat (min smp lc) = pSt P x.toInt.toNat := fun h => tyS_s (hF.2.1 (by omega) _ (by omega))
          have e1 : feaA ld cols tl9 (min smp lc) P ga x.toInt y.toInt = (lN (ukS (gaF ld (pLr P) (tyS (pSt P) tl9 ld x.toInt.toNat (min smp lc)) x.toInt.toNat ga (pRs P)) (gaN ld (pLr P) x.toInt.toNat (pRs P))) : Int64) := by
            unfold feaA
            rw [if_neg (by omega), if_neg (by omega), if_neg (by omega), if_neg (by omega), if_pos (by omega)]
          refine ⟨?_, rfl⟩
          rcases Nat.eq_zero_or_pos (pRs P) with e0 | e0
          · have n0 : gaN ld (pLr P) x.toInt.toNat (pRs P) = 0 := by rw [e0]; rfl
            rw [e1, n0]
            rfl
          · rw [e1, ety e0]
    · skip
      obtain ⟨rfl, rfl, hc15⟩ := hp5
      refine x_ws (ws' := [(mo, .inr (9, [.int (nI cols), .int (nI lc), .int (nI smp), .int (ky), .ref (mr 0), .ref (mr 1), .ref (mr 2), .ref (mr 3), .ref (mr 4), .ref (mr 5), .ref (mr 6), .ref (mr 7), .ref (mr 8), .ref (mr 9), .int (nI (pMk P)), .int (nI (pRs P)), .ref (mr 10), .ref (mr 11), .ref (mr 12), .ref (mr 13), .ref (mr 14), .ref (mr 15), .ref (mr 16), .ref (mr 17), .ref (mr 18), .ref (mr 19), .ref (mr 20), .int (nI nse), .int (nI npa), .int (nI nbo), .ref (mr 21), .int (nI tn), .ref (mr 22), .int (nI ik), .int (j0), .int (j1), .ref (mr 23), .int (j2), .ref (mr 24), .ref (mr 25), .int (j3), .ref (mr 26), .int (j4), .ref (mr 27), .ref (mr 28), .ref (mr 29), .ref (mr 30)])), (mr 10, .inl (cy 1, 24, .inl (fun k => nI (lr9 k)))), (mr 3, .inl (cy 1, 5, .inl (fun k => nI (st9 k)))), (mr 6, .inl (cy 1, 24, .inl (fun k => nI (fn k)))), (mr 7, .inl (cy 1, 120, .inl (fun k => nI (fo k)))), (mr 8, .inl (cy 2, 120, .inr (.inl ex))), (mr 9, .inl (cy 2, 120, .inr (.inl wo)))]) (List.append_nil _) ?_
      refine x_if_ne C (tgt := 24) dX10_feature_17 (by decide) (q := 20) rfl (a := 0) rfl (fun h16 => (by omega : False).elim) (fun h16 => ?_)
      refine x_ldc2 C (v := (-9223372036854775808)) hw3 dX10_feature_20 (q := 23) rfl ?_
      refine x_lret C hA hQ hr dX10_feature_23 (Nat.le_of_ble_eq_true rfl) ?_
      refine ⟨?_, rfl⟩
      unfold feaA
      first | rw [if_pos (by omega)] | (rw [if_neg (by omega)]; repeat (first | rw [if_pos (by omega)] | rw [if_neg (by omega)]))
  · skip
    obtain ⟨rfl, rfl, hc17⟩ := hp1
    refine x_ws (ws' := [(mo, .inr (9, [.int (nI cols), .int (nI lc), .int (nI smp), .int (ky), .ref (mr 0), .ref (mr 1), .ref (mr 2), .ref (mr 3), .ref (mr 4), .ref (mr 5), .ref (mr 6), .ref (mr 7), .ref (mr 8), .ref (mr 9), .int (nI (pMk P)), .int (nI (pRs P)), .ref (mr 10), .ref (mr 11), .ref (mr 12), .ref (mr 13), .ref (mr 14), .ref (mr 15), .ref (mr 16), .ref (mr 17), .ref (mr 18), .ref (mr 19), .ref (mr 20), .int (nI nse), .int (nI npa), .int (nI nbo), .ref (mr 21), .int (nI tn), .ref (mr 22), .int (nI ik), .int (j0), .int (j1), .ref (mr 23), .int (j2), .ref (mr 24), .ref (mr 25), .int (j3), .ref (mr 26), .int (j4), .ref (mr 27), .ref (mr 28), .ref (mr 29), .ref (mr 30)])), (mr 10, .inl (cy 1, 24, .inl (fun k => nI (lr9 k)))), (mr 3, .inl (cy 1, 5, .inl (fun k => nI (st9 k)))), (mr 6, .inl (cy 1, 24, .inl (fun k => nI (fn k)))), (mr 7, .inl (cy 1, 120, .inl (fun k => nI (fo k)))), (mr 8, .inl (cy 2, 120, .inr (.inl ex))), (mr 9, .inl (cy 2, 120, .inr (.inl wo)))]) rfl ?_
    refine x_if_eq C (tgt := 20) dX10_feature_5 (by decide) (q := 8) rfl (a := 0) rfl (fun h18 => ?_) (fun h18 => (by omega : False).elim)
    refine x_ldc2 C (v := (-9223372036854775808)) hw3 dX10_feature_20 (q := 23) rfl ?_
    refine x_lret C hA hQ hr dX10_feature_23 (Nat.le_of_ble_eq_true rfl) ?_
    refine ⟨?_, rfl⟩
    unfold feaA
    first | rw [if_pos (by omega)] | (rw [if_neg (by omega)]; repeat (first | rw [if_pos (by omega)] | rw [if_neg (by omega)]))

set_option maxHeartbeats 400000 in
set_option maxRecDepth 100000 in
/-- lowest terms -/
theorem c_X10_lowest (l : Launch) (D : va_G) (cy : Nat → ClassId) (a : Int64) (b : Nat) (w : Int32) (hb : 0 < b ∧ b ≤ 1000) (ha : a.toInt.natAbs < 4000000000000000000) (hw : w.toInt = 0 ∨ w.toInt = 1) : xMet l D cy xT yX10_lowest wsX10_lowest ({ frames := 2, cells := 0, slots := 0, locals := 200 } : Room) [.long (a), .long (lN b), .int (w)] [] [] (fun (v9 : Option Value) (w9 : va_W) => (v9 = some (.long (lowA a b w.toInt)) ∧ w9 = [])) := by
  refine xMet_of (cc := cX10_lowest) (maxL := 11) (ret := (some .long)) (by decide) rfl (Nat.le_of_ble_eq_true rfl) (fun p e s m args below meth c A R Q hA hR hQ C hr hnm hro hX => ?_)
  have hw0 : Cond.methodLink RX10 341 Lib.MathLoose.abs_long.x ∈ wsX10_lowest := by decide +kernel
  have hw1 : Cond.static Lib.MathLoose.abs_long.x ∈ wsX10_lowest := by decide +kernel
  have hw2 : Cond.initialized "java/lang/Math" ∈ wsX10_lowest := by decide +kernel
  have hw3 : Cond.code Lib.MathLoose.abs_long.x Lib.MathLoose.abs_long.code 2 (some .long) ∈ wsX10_lowest := by decide +kernel
  refine x_L (L' := [(0, .long (a)), (2, .long (lN b)), (4, .int (w))]) [0, 1, 2] rfl ?_
  refine x_lload_n C dX10_lowest_0 (q := 1) rfl rfl 0 rfl ?_
  refine x_mabsl C hw0 hw1 hw2 hw3 (by rw [hR]; exact Nat.le_of_ble_eq_true rfl) (by rw [hR]; exact Nat.le_of_ble_eq_true rfl) (by rw [hR]; exact ⟨Nat.le_of_ble_eq_true rfl, Nat.le_of_ble_eq_true rfl⟩) (z := lN a.toInt.natAbs) (xl_abs2 ha) dX10_lowest_1 (q := 4) rfl ?_
  refine x_lstore C (L' := [(5, .long (lN a.toInt.natAbs)), (0, .long (a)), (2, .long (lN b)), (4, .int (w))]) dX10_lowest_4 (q := 6) rfl (by decide) rfl ?_
  refine x_lload_n C dX10_lowest_6 (q := 7) rfl rfl 2 rfl ?_
  refine x_lstore C (L' := [(7, .long (lN b)), (5, .long (lN a.toInt.natAbs)), (0, .long (a)), (2, .long (lN b)), (4, .int (w))]) dX10_lowest_7 (q := 9) rfl (by decide) rfl ?_
  have cut9 : ∀ (fuel : Nat) (x : Nat) (y : Nat), (x < 4000000000000000000) → (y ≤ 1000) → (0 < y ∨ 0 < x) → (Nat.gcd x y = Nat.gcd a.toInt.natAbs b) → y < fuel → xG p l e R s m args below meth c Q D A 11 [] 0 0 9 [(0, .long (a)), (2, .long (lN b)), (4, .int (w)), (5, .long (lN x)), (7, .long (lN y))] [] := by
    intro fuel
    induction fuel with
    | zero =>
      intro x y hx hy hxy hg hmu
      exact absurd hmu (Nat.not_lt_zero _)
    | succ fuel ih =>
      intro x y hx hy hxy hg hmu
      have hml := Nat.mod_lt x (y := y)
      have hmle := Nat.mod_le x y
      have ih9 := ih
      clear ih
      refine x_lload C dX10_lowest_9 (q := 11) rfl 4 rfl ?_
      refine x_lconst C dX10_lowest_11 (q := 12) rfl (v := lN 0) rfl ?_
      refine x_lcmp_eq C (tgt := 34) dX10_lowest_12 dX10_lowest_13 (by decide) (q := 16) rfl (a := ((y : Nat) : Int)) (b := 0) (pk_lT (by omega)) rfl (fun h1 => ?_) (fun h1 => ?_)
      · first
        | (exfalso; omega)
        |
          have hy0 : y = 0 := by omega
          rw [hy0, Nat.gcd_zero_right] at hg
          refine x_iload C dX10_lowest_34 (q := 36) rfl 2 rfl ?_
          refine x_if_ne C (tgt := 43) dX10_lowest_36 (by decide) (q := 39) rfl (a := w.toInt) rfl (fun h2 => ?_) (fun h2 => ?_)
          · first
            | (exfalso; omega)
            |
              refine x_lload_n C dX10_lowest_43 (q := 44) rfl rfl 1 rfl ?_
              have hdv := Nat.div_le_self b x
              refine x_lload C dX10_lowest_44 (q := 46) rfl 3 rfl ?_
              refine x_ldiv C dX10_lowest_46 (q := 47) rfl (xl_ne0 (b := ((x : Nat) : Int)) (pk_lT (by omega)) (by omega)) (z := lN (b / x)) (pk_lDiv (by omega) (by omega) (by omega)) ?_
              refine x_lret C hA hQ hr dX10_lowest_47 (Nat.le_of_ble_eq_true rfl) ?_
              refine ⟨?_, rfl⟩
              unfold lowA
              rw [← hg, if_neg (by omega)]
              first | rw [if_pos (by omega)] | rw [if_neg (by omega)]
          · first
            | (exfalso; omega)
            |
              refine x_lload_n C dX10_lowest_39 (q := 40) rfl rfl 0 rfl ?_
              refine x_goto C (tgt := 44) dX10_lowest_40 (by decide) ?_
              have hdv := Nat.div_le_self b x
              refine x_lload C dX10_lowest_44 (q := 46) rfl 3 rfl ?_
              refine x_ldiv C dX10_lowest_46 (q := 47) rfl (xl_ne0 (b := ((x : Nat) : Int)) (pk_lT (by omega)) (by omega)) (z := a / (lN x)) (rfl) ?_
              refine x_lret C hA hQ hr dX10_lowest_47 (Nat.le_of_ble_eq_true rfl) ?_
              refine ⟨?_, rfl⟩
              unfold lowA
              rw [← hg, if_neg (by omega)]
              first | rw [if_pos (by omega)] | rw [if_neg (by omega)]
      · first
        | (exfalso; omega)
        |
          refine x_lload C dX10_lowest_16 (q := 18) rfl 3 rfl ?_
          refine x_lload C dX10_lowest_18 (q := 20) rfl 4 rfl ?_
          refine x_lrem C dX10_lowest_20 (q := 21) rfl (xl_ne0 (b := ((y : Nat) : Int)) (pk_lT (by omega)) (by omega)) (z := lN (x % y)) (pk_lRem (by omega) (by omega) (by omega)) ?_
          refine x_lstore C (L' := [(9, .long (lN (x % y))), (0, .long (a)), (2, .long (lN b)), (4, .int (w)), (5, .long (lN x)), (7, .long (lN y))]) dX10_lowest_21 (q := 23) rfl (by decide) rfl ?_
          refine x_lload C dX10_lowest_23 (q := 25) rfl 5 rfl ?_
          refine x_lstore C (L' := [(5, .long (lN y)), (9, .long (lN (x % y))), (0, .long (a)), (2, .long (lN b)), (4, .int (w)), (7, .long (lN y))]) dX10_lowest_25 (q := 27) rfl (by decide) rfl ?_
          refine x_lload C dX10_lowest_27 (q := 29) rfl 1 rfl ?_
          refine x_lstore C (L' := [(7, .long (lN (x % y))), (5, .long (lN y)), (9, .long (lN (x % y))), (0, .long (a)), (2, .long (lN b)), (4, .int (w))]) dX10_lowest_29 (q := 31) rfl (by decide) rfl ?_
          refine x_goto C (tgt := 9) dX10_lowest_31 (by decide) ?_
          refine x_L (L' := [(0, .long (a)), (2, .long (lN b)), (4, .int (w)), (5, .long (lN y)), (7, .long (lN (x % y)))]) [3, 4, 5, 1, 0] rfl ?_
          exact ih9 y (x % y) (by first | omega | assumption) (by first | omega | assumption) (by first | omega | assumption) (by rw [gcd_step]; exact hg) (by omega)
  refine x_L (L' := [(0, .long (a)), (2, .long (lN b)), (4, .int (w)), (5, .long (lN a.toInt.natAbs)), (7, .long (lN b))]) [2, 3, 4, 1, 0] rfl ?_
  exact cut9 (b + 1) a.toInt.natAbs b (by first | omega | assumption) (by first | omega | assumption) (by first | omega | assumption) (by rfl) (by omega)

set_option maxHeartbeats 400000 in
set_option maxRecDepth 100000 in
/-- odds -/
theorem c_X10_odds (l : Launch) (D : va_G) (cy : Nat → ClassId) (mo : Nat) (mr : Nat → Nat) (cols : Nat) (lc : Nat) (smp : Nat) (nse : Nat) (npa : Nat) (nbo : Nat) (tn : Nat) (ik : Nat) (ky : Int32) (j0 : Int32) (j1 : Int32) (j2 : Int32) (j3 : Int32) (j4 : Int32) (P : PS) (st9 : Nat → Nat) (lr9 : Nat → Nat) (rl9 : Nat → Int32) (fa9 : Nat → Int32) (ca9 : Nat → Int32) (dc9 : Nat → Int32) (ld : LD) (w : Int32) (hmp : MdP cols P st9 lr9 rl9 fa9 ca9 dc9) (hF : InvF ld cols lc P) (hlc : lc ≤ 24) : xMet l D cy xT yX10_odds wsX10_odds ({ frames := 3, cells := 0, slots := 0, locals := 400 } : Room) [.ref mo, .int (w)] [(mo, .inr (9, [.int (nI cols), .int (nI lc), .int (nI smp), .int (ky), .ref (mr 0), .ref (mr 1), .ref (mr 2), .ref (mr 3), .ref (mr 4), .ref (mr 5), .ref (mr 6), .ref (mr 7), .ref (mr 8), .ref (mr 9), .int (nI (pMk P)), .int (nI (pRs P)), .ref (mr 10), .ref (mr 11), .ref (mr 12), .ref (mr 13), .ref (mr 14), .ref (mr 15), .ref (mr 16), .ref (mr 17), .ref (mr 18), .ref (mr 19), .ref (mr 20), .int (nI nse), .int (nI npa), .int (nI nbo), .ref (mr 21), .int (nI tn), .ref (mr 22), .int (nI ik), .int (j0), .int (j1), .ref (mr 23), .int (j2), .ref (mr 24), .ref (mr 25), .int (j3), .ref (mr 26), .int (j4), .ref (mr 27), .ref (mr 28), .ref (mr 29), .ref (mr 30)])), (mr 11, .inl (cy 1, 24, .inl rl9)), (mr 12, .inl (cy 1, 24, .inl fa9))] [] (fun (v9 : Option Value) (w9 : va_W) => (v9 = some (.long (oddA P w.toInt)) ∧ w9 = [(mo, .inr (9, [.int (nI cols), .int (nI lc), .int (nI smp), .int (ky), .ref (mr 0), .ref (mr 1), .ref (mr 2), .ref (mr 3), .ref (mr 4), .ref (mr 5), .ref (mr 6), .ref (mr 7), .ref (mr 8), .ref (mr 9), .int (nI (pMk P)), .int (nI (pRs P)), .ref (mr 10), .ref (mr 11), .ref (mr 12), .ref (mr 13), .ref (mr 14), .ref (mr 15), .ref (mr 16), .ref (mr 17), .ref (mr 18), .ref (mr 19), .ref (mr 20), .int (nI nse), .int (nI npa), .int (nI nbo), .ref (mr 21), .int (nI tn), .ref (mr 22), .int (nI ik), .int (j0), .int (j1), .ref (mr 23), .int (j2), .ref (mr 24), .ref (mr 25), .int (j3), .ref (mr 26), .int (j4), .ref (mr 27), .ref (mr 28), .ref (mr 29), .ref (mr 30)])), (mr 11, .inl (cy 1, 24, .inl rl9)), (mr 12, .inl (cy 1, 24, .inl fa9))])) := by
  refine xMet_of (cc := cX10_odds) (maxL := 2) (ret := (some .long)) (by decide) rfl (Nat.le_of_ble_eq_true rfl) (fun p e s m args below meth c A R Q hA hR hQ C hr hnm hro hX => ?_)
  have hw0 : ∀ w ∈ u_ws RX10 TX10 47, w ∈ wsX10_odds := by decide +kernel
  have hw1 : Cond.fieldLink RX10 142 (TX10 14).1 (TX10 14).2.1 (TX10 14).2.2.1 ∈ wsX10_odds := by decide +kernel
  have hw2 : Jvm.Cond.constantLong RX10 245 (-9223372036854775808) ∈ wsX10_odds := by decide +kernel
  refine x_L (L' := [(0, .ref mo), (1, .int (w))]) [0, 1] rfl ?_
  have hP1 := hF.1.1
  have hP2 := hF.1.2.1
  refine x_iload_n C dX10_odds_0 (q := 1) rfl rfl 1 rfl ?_
  refine x_i2l C dX10_odds_1 (q := 2) rfl (v := w.toInt64) (rfl) ?_
  refine x_lconst C dX10_odds_2 (q := 3) rfl (v := lN 0) rfl ?_
  refine x_lconst C dX10_odds_3 (q := 4) rfl (v := lN 1) rfl ?_
  refine x_callS C (roW := []) (roR := []) (c_X10_in l D cy w.toInt64 (lN 0) (lN 1) w.toInt 0 1 (xl_wide rfl) rfl rfl) (cwS 3 C.2.2.2.2.1 gX10_odds_X10_in rfl rfl rfl (by decide +kernel) (by rw [hR]; exact ⟨Nat.le_of_ble_eq_true rfl, Nat.le_of_ble_eq_true rfl⟩)) [] [] rfl (by decide) rfl (by decide) xro_nil xT_bl (fun _ _ _ _ _ _ _ => trivial) rfl rfl dX10_odds_4 rfl rfl (Nat.le_of_ble_eq_true rfl) (q := 7) rfl (k' := 0) rfl (n' := 0) rfl (by rw [hR]; exact ⟨Nat.le_of_ble_eq_true rfl, Nat.le_of_ble_eq_true rfl⟩) (fun v1 w1 hp1 => ?_)
  rcases hp1 with hp1 | hp1
  · skip
    obtain ⟨rfl, rfl, hc2, hc3⟩ := hp1
    refine x_ws (ws' := [(mo, .inr (9, [.int (nI cols), .int (nI lc), .int (nI smp), .int (ky), .ref (mr 0), .ref (mr 1), .ref (mr 2), .ref (mr 3), .ref (mr 4), .ref (mr 5), .ref (mr 6), .ref (mr 7), .ref (mr 8), .ref (mr 9), .int (nI (pMk P)), .int (nI (pRs P)), .ref (mr 10), .ref (mr 11), .ref (mr 12), .ref (mr 13), .ref (mr 14), .ref (mr 15), .ref (mr 16), .ref (mr 17), .ref (mr 18), .ref (mr 19), .ref (mr 20), .int (nI nse), .int (nI npa), .int (nI nbo), .ref (mr 21), .int (nI tn), .ref (mr 22), .int (nI ik), .int (j0), .int (j1), .ref (mr 23), .int (j2), .ref (mr 24), .ref (mr 25), .int (j3), .ref (mr 26), .int (j4), .ref (mr 27), .ref (mr 28), .ref (mr 29), .ref (mr 30)])), (mr 11, .inl (cy 1, 24, .inl rl9)), (mr 12, .inl (cy 1, 24, .inl fa9))]) (List.append_nil _) ?_
    refine x_if_eq C (tgt := 35) dX10_odds_7 (by decide) (q := 10) rfl (a := 1) rfl (fun h4 => (by omega : False).elim) (fun h4 => ?_)
    refine x_aload_n C dX10_odds_10 (q := 11) rfl rfl 0 rfl ?_
    refine x_get C (ci := 9) (v := .int (nI (pMk P))) hw0 0 rfl rfl 14 (by decide) hw1 rfl dX10_odds_11 (q := 14) rfl ?_
    refine x_if_le C (tgt := 35) dX10_odds_14 (by decide) (q := 17) rfl (a := ((pMk P : Nat) : Int)) (nI_toInt (by omega)) (fun h5 => ?_) (fun h5 => ?_)
    · first
      | (exfalso; omega)
      |
        refine x_ldc2 C (v := (-9223372036854775808)) hw2 dX10_odds_35 (q := 38) rfl ?_
        refine x_lret C hA hQ hr dX10_odds_38 (Nat.le_of_ble_eq_true rfl) ?_
        refine ⟨?_, rfl⟩
        unfold oddA lowA
        rw [if_pos (by omega)]
    · first
      | (exfalso; omega)
      |
        refine x_aload_n C dX10_odds_17 (q := 18) rfl rfl 0 rfl ?_
        refine x_iconst C dX10_odds_18 (q := 19) rfl (v := nI 0) (by decide) ?_
        refine x_callV C (roW := []) (roR := []) (c_X10_faults_0 l D cy mo mr cols lc smp nse npa nbo tn ik ky j0 j1 j2 j3 j4 P st9 lr9 rl9 fa9 ca9 dc9 ld (by assumption) (by assumption) (by first | assumption | omega | (simp only []; omega))) (cwV 1 C.2.2.2.2.1 gX10_odds_X10_faults rfl rfl rfl (by decide +kernel) (by rw [hR]; exact ⟨Nat.le_of_ble_eq_true rfl, Nat.le_of_ble_eq_true rfl⟩)) [0, 1, 2] [] rfl (by decide) rfl (by decide) xro_nil (List.mem_of_getElem? (i := 0) rfl) (ci := 9) rfl xT_bl (fun _ _ _ _ _ _ _ => trivial) rfl rfl dX10_odds_19 rfl rfl (Nat.le_of_ble_eq_true rfl) (q := 22) rfl (k' := 0) rfl (n' := 0) rfl (by rw [hR]; exact ⟨Nat.le_of_ble_eq_true rfl, Nat.le_of_ble_eq_true rfl⟩) (fun v6 w6 hp6 => ?_)
        obtain ⟨rfl, rfl⟩ := hp6
        refine x_ws (ws' := [(mo, .inr (9, [.int (nI cols), .int (nI lc), .int (nI smp), .int (ky), .ref (mr 0), .ref (mr 1), .ref (mr 2), .ref (mr 3), .ref (mr 4), .ref (mr 5), .ref (mr 6), .ref (mr 7), .ref (mr 8), .ref (mr 9), .int (nI (pMk P)), .int (nI (pRs P)), .ref (mr 10), .ref (mr 11), .ref (mr 12), .ref (mr 13), .ref (mr 14), .ref (mr 15), .ref (mr 16), .ref (mr 17), .ref (mr 18), .ref (mr 19), .ref (mr 20), .int (nI nse), .int (nI npa), .int (nI nbo), .ref (mr 21), .int (nI tn), .ref (mr 22), .int (nI ik), .int (j0), .int (j1), .ref (mr 23), .int (j2), .ref (mr 24), .ref (mr 25), .int (j3), .ref (mr 26), .int (j4), .ref (mr 27), .ref (mr 28), .ref (mr 29), .ref (mr 30)])), (mr 11, .inl (cy 1, 24, .inl rl9)), (mr 12, .inl (cy 1, 24, .inl fa9))]) rfl ?_
        refine x_i2l C dX10_odds_22 (q := 23) rfl (v := lN (pMk P - pRs P)) (nI_l (by omega)) ?_
        refine x_aload_n C dX10_odds_23 (q := 24) rfl rfl 0 rfl ?_
        refine x_get C (ci := 9) (v := .int (nI (pMk P))) hw0 0 rfl rfl 14 (by decide) hw1 rfl dX10_odds_24 (q := 27) rfl ?_
        refine x_i2l C dX10_odds_27 (q := 28) rfl (v := lN (pMk P)) (nI_l (by omega)) ?_
        refine x_iload_n C dX10_odds_28 (q := 29) rfl rfl 1 rfl ?_
        refine x_callS C (roW := []) (roR := []) (c_X10_lowest l D cy (lN (pMk P - pRs P)) (pMk P) w (by first | assumption | omega | (simp only []; omega)) (by rw [pk_lT (by omega)]; omega) (by first | assumption | omega | (simp only []; omega))) (cwS 3 C.2.2.2.2.1 gX10_odds_X10_lowest rfl rfl rfl (by decide +kernel) (by rw [hR]; exact ⟨Nat.le_of_ble_eq_true rfl, Nat.le_of_ble_eq_true rfl⟩)) [] [] rfl (by decide) rfl (by decide) xro_nil xT_bl (fun _ _ _ _ _ _ _ => trivial) rfl rfl dX10_odds_29 rfl rfl (Nat.le_of_ble_eq_true rfl) (q := 32) rfl (k' := 0) rfl (n' := 0) rfl (by rw [hR]; exact ⟨Nat.le_of_ble_eq_true rfl, Nat.le_of_ble_eq_true rfl⟩) (fun v7 w7 hp7 => ?_)
        obtain ⟨rfl, rfl⟩ := hp7
        refine x_ws (ws' := [(mo, .inr (9, [.int (nI cols), .int (nI lc), .int (nI smp), .int (ky), .ref (mr 0), .ref (mr 1), .ref (mr 2), .ref (mr 3), .ref (mr 4), .ref (mr 5), .ref (mr 6), .ref (mr 7), .ref (mr 8), .ref (mr 9), .int (nI (pMk P)), .int (nI (pRs P)), .ref (mr 10), .ref (mr 11), .ref (mr 12), .ref (mr 13), .ref (mr 14), .ref (mr 15), .ref (mr 16), .ref (mr 17), .ref (mr 18), .ref (mr 19), .ref (mr 20), .int (nI nse), .int (nI npa), .int (nI nbo), .ref (mr 21), .int (nI tn), .ref (mr 22), .int (nI ik), .int (j0), .int (j1), .ref (mr 23), .int (j2), .ref (mr 24), .ref (mr 25), .int (j3), .ref (mr 26), .int (j4), .ref (mr 27), .ref (mr 28), .ref (mr 29), .ref (mr 30)])), (mr 11, .inl (cy 1, 24, .inl rl9)), (mr 12, .inl (cy 1, 24, .inl fa9))]) (List.append_nil _) ?_
        refine x_goto C (tgt := 38) dX10_odds_32 (by decide) ?_
        refine x_lret C hA hQ hr dX10_odds_38 (Nat.le_of_ble_eq_true rfl) ?_
        refine ⟨?_, rfl⟩
        unfold oddA
        rfl
  · skip
    obtain ⟨rfl, rfl, hc8⟩ := hp1
    refine x_ws (ws' := [(mo, .inr (9, [.int (nI cols), .int (nI lc), .int (nI smp), .int (ky), .ref (mr 0), .ref (mr 1), .ref (mr 2), .ref (mr 3), .ref (mr 4), .ref (mr 5), .ref (mr 6), .ref (mr 7), .ref (mr 8), .ref (mr 9), .int (nI (pMk P)), .int (nI (pRs P)), .ref (mr 10), .ref (mr 11), .ref (mr 12), .ref (mr 13), .ref (mr 14), .ref (mr 15), .ref (mr 16), .ref (mr 17), .ref (mr 18), .ref (mr 19), .ref (mr 20), .int (nI nse), .int (nI npa), .int (nI nbo), .ref (mr 21), .int (nI tn), .ref (mr 22), .int (nI ik), .int (j0), .int (j1), .ref (mr 23), .int (j2), .ref (mr 24), .ref (mr 25), .int (j3), .ref (mr 26), .int (j4), .ref (mr 27), .ref (mr 28), .ref (mr 29), .ref (mr 30)])), (mr 11, .inl (cy 1, 24, .inl rl9)), (mr 12, .inl (cy 1, 24, .inl fa9))]) (List.append_nil _) ?_
    refine x_if_eq C (tgt := 35) dX10_odds_7 (by decide) (q := 10) rfl (a := 0) rfl (fun h9 => ?_) (fun h9 => (by omega : False).elim)
    refine x_ldc2 C (v := (-9223372036854775808)) hw2 dX10_odds_35 (q := 38) rfl ?_
    refine x_lret C hA hQ hr dX10_odds_38 (Nat.le_of_ble_eq_true rfl) ?_
    refine ⟨?_, rfl⟩
    unfold oddA lowA
    rw [if_pos (by omega)]

set_option maxHeartbeats 400000 in
set_option maxRecDepth 100000 in
/-- mean -/
theorem c_X10_mean (l : Launch) (D : va_G) (cy : Nat → ClassId) (mo : Nat) (mr : Nat → Nat) (cols : Nat) (lc : Nat) (smp : Nat) (nse : Nat) (npa : Nat) (nbo : Nat) (tn : Nat) (ik : Nat) (ky : Int32) (j0 : Int32) (j1 : Int32) (j2 : Int32) (j3 : Int32) (j4 : Int32) (P : PS) (fn : Nat → Nat) (fo : Nat → Nat) (ex : Nat → Int64) (wo : Nat → Int64) (st9 : Nat → Nat) (lr9 : Nat → Nat) (rl9 : Nat → Int32) (fa9 : Nat → Int32) (ca9 : Nat → Int32) (dc9 : Nat → Int32) (ld : LD) (tl9 : Nat → Nat) (ga : Nat → Int64) (x : Int32) (w : Int32) (hml : MdL ld lc fn fo ex wo) (hfo4 : ∀ q, fo q ≤ 4) (hfn : ∀ q, fn q ≤ 61) (hlc : lc ≤ 24) (hF : InvF ld cols lc P) (hmp : MdP cols P st9 lr9 rl9 fa9 ca9 dc9) (hcols : cols ≤ 5) (hlr9 : ∀ k, lr9 k < 24) (hst9 : ∀ k, st9 k ≤ 4) (hshk : ∀ r c, r < pRs P → c < cols → shK ld (pLr P r) c (pSt P c)) (htl9 : ∀ k, tl9 k ≤ 4) (hsmp : smp ≤ 24) : xMet l D cy xT yX10_mean wsX10_mean ({ frames := 6, cells := 0, slots := 0, locals := 900 } : Room) [.ref mo, .int (x), .int (w)] [(mo, .inr (9, [.int (nI cols), .int (nI lc), .int (nI smp), .int (ky), .ref (mr 0), .ref (mr 1), .ref (mr 2), .ref (mr 3), .ref (mr 4), .ref (mr 5), .ref (mr 6), .ref (mr 7), .ref (mr 8), .ref (mr 9), .int (nI (pMk P)), .int (nI (pRs P)), .ref (mr 10), .ref (mr 11), .ref (mr 12), .ref (mr 13), .ref (mr 14), .ref (mr 15), .ref (mr 16), .ref (mr 17), .ref (mr 18), .ref (mr 19), .ref (mr 20), .int (nI nse), .int (nI npa), .int (nI nbo), .ref (mr 21), .int (nI tn), .ref (mr 22), .int (nI ik), .int (j0), .int (j1), .ref (mr 23), .int (j2), .ref (mr 24), .ref (mr 25), .int (j3), .ref (mr 26), .int (j4), .ref (mr 27), .ref (mr 28), .ref (mr 29), .ref (mr 30)])), (mr 10, .inl (cy 1, 24, .inl (fun k => nI (lr9 k)))), (mr 3, .inl (cy 1, 5, .inl (fun k => nI (st9 k)))), (mr 6, .inl (cy 1, 24, .inl (fun k => nI (fn k)))), (mr 7, .inl (cy 1, 120, .inl (fun k => nI (fo k)))), (mr 8, .inl (cy 2, 120, .inr (.inl ex))), (mr 9, .inl (cy 2, 120, .inr (.inl wo))), (mr 2, .inl (cy 1, 5, .inl (fun k => nI (tl9 k))))] [] (fun (v9 : Option Value) (w9 : va_W) => (v9 = some (.long (meaA ld cols tl9 (min smp lc) P ga x.toInt w.toInt)) ∧ w9 = [(mo, .inr (9, [.int (nI cols), .int (nI lc), .int (nI smp), .int (ky), .ref (mr 0), .ref (mr 1), .ref (mr 2), .ref (mr 3), .ref (mr 4), .ref (mr 5), .ref (mr 6), .ref (mr 7), .ref (mr 8), .ref (mr 9), .int (nI (pMk P)), .int (nI (pRs P)), .ref (mr 10), .ref (mr 11), .ref (mr 12), .ref (mr 13), .ref (mr 14), .ref (mr 15), .ref (mr 16), .ref (mr 17), .ref (mr 18), .ref (mr 19), .ref (mr 20), .int (nI nse), .int (nI npa), .int (nI nbo), .ref (mr 21), .int (nI tn), .ref (mr 22), .int (nI ik), .int (j0), .int (j1), .ref (mr 23), .int (j2), .ref (mr 24), .ref (mr 25), .int (j3), .ref (mr 26), .int (j4), .ref (mr 27), .ref (mr 28), .ref (mr 29), .ref (mr 30)])), (mr 10, .inl (cy 1, 24, .inl (fun k => nI (lr9 k)))), (mr 3, .inl (cy 1, 5, .inl (fun k => nI (st9 k)))), (mr 6, .inl (cy 1, 24, .inl (fun k => nI (fn k)))), (mr 7, .inl (cy 1, 120, .inl (fun k => nI (fo k)))), (mr 8, .inl (cy 2, 120, .inr (.inl ex))), (mr 9, .inl (cy 2, 120, .inr (.inl wo))), (mr 2, .inl (cy 1, 5, .inl (fun k => nI (tl9 k))))])) := by
  refine xMet_of (cc := cX10_mean) (maxL := 6) (ret := (some .long)) (by decide) rfl (Nat.le_of_ble_eq_true rfl) (fun p e s m args below meth c A R Q hA hR hQ C hr hnm hro hX => ?_)
  have hw0 : Jvm.Cond.constantLong RX10 245 (-9223372036854775808) ∈ wsX10_mean := by decide +kernel
  have hw1 : ∀ w ∈ u_ws RX10 TX10 47, w ∈ wsX10_mean := by decide +kernel
  have hw2 : Cond.fieldLink RX10 128 (TX10 15).1 (TX10 15).2.1 (TX10 15).2.2.1 ∈ wsX10_mean := by decide +kernel
  refine x_L (L' := [(0, .ref mo), (1, .int (x)), (2, .int (w))]) [0, 1, 2] rfl ?_
  have hIP := hF.1
  have hP1 := hIP.1
  have hP2 := hIP.2.1
  have hg9 := gaN_le ld (pLr P) (x.toInt.toNat) (pRs P)
  refine x_aload_n C dX10_mean_0 (q := 1) rfl rfl 0 rfl ?_
  refine x_iload_n C dX10_mean_1 (q := 2) rfl rfl 1 rfl ?_
  refine x_callV C (roW := []) (roR := []) (c_X10_isColumn l D cy mo mr cols lc smp (pMk P) (pRs P) nse npa nbo tn ik ky j0 j1 j2 j3 j4 x (by first | assumption | omega | (simp only []; omega))) (cwV 1 C.2.2.2.2.1 gX10_mean_X10_isColumn rfl rfl rfl (by decide +kernel) (by rw [hR]; exact ⟨Nat.le_of_ble_eq_true rfl, Nat.le_of_ble_eq_true rfl⟩)) [0] [] rfl (by decide) rfl (by decide) xro_nil (List.mem_of_getElem? (i := 0) rfl) (ci := 9) rfl xT_bl (fun _ _ _ _ _ _ _ => trivial) rfl rfl dX10_mean_2 rfl rfl (Nat.le_of_ble_eq_true rfl) (q := 5) rfl (k' := 0) rfl (n' := 0) rfl (by rw [hR]; exact ⟨Nat.le_of_ble_eq_true rfl, Nat.le_of_ble_eq_true rfl⟩) (fun v1 w1 hp1 => ?_)
  rcases hp1 with hp1 | hp1
  · skip
    obtain ⟨rfl, rfl, hc2, hc3⟩ := hp1
    refine x_ws (ws' := [(mo, .inr (9, [.int (nI cols), .int (nI lc), .int (nI smp), .int (ky), .ref (mr 0), .ref (mr 1), .ref (mr 2), .ref (mr 3), .ref (mr 4), .ref (mr 5), .ref (mr 6), .ref (mr 7), .ref (mr 8), .ref (mr 9), .int (nI (pMk P)), .int (nI (pRs P)), .ref (mr 10), .ref (mr 11), .ref (mr 12), .ref (mr 13), .ref (mr 14), .ref (mr 15), .ref (mr 16), .ref (mr 17), .ref (mr 18), .ref (mr 19), .ref (mr 20), .int (nI nse), .int (nI npa), .int (nI nbo), .ref (mr 21), .int (nI tn), .ref (mr 22), .int (nI ik), .int (j0), .int (j1), .ref (mr 23), .int (j2), .ref (mr 24), .ref (mr 25), .int (j3), .ref (mr 26), .int (j4), .ref (mr 27), .ref (mr 28), .ref (mr 29), .ref (mr 30)])), (mr 10, .inl (cy 1, 24, .inl (fun k => nI (lr9 k)))), (mr 3, .inl (cy 1, 5, .inl (fun k => nI (st9 k)))), (mr 6, .inl (cy 1, 24, .inl (fun k => nI (fn k)))), (mr 7, .inl (cy 1, 120, .inl (fun k => nI (fo k)))), (mr 8, .inl (cy 2, 120, .inr (.inl ex))), (mr 9, .inl (cy 2, 120, .inr (.inl wo))), (mr 2, .inl (cy 1, 5, .inl (fun k => nI (tl9 k))))]) rfl ?_
    refine x_if_eq C (tgt := 35) dX10_mean_5 (by decide) (q := 8) rfl (a := 1) rfl (fun h4 => (by omega : False).elim) (fun h4 => ?_)
    refine x_iload_n C dX10_mean_8 (q := 9) rfl rfl 2 rfl ?_
    refine x_i2l C dX10_mean_9 (q := 10) rfl (v := w.toInt64) (rfl) ?_
    refine x_lconst C dX10_mean_10 (q := 11) rfl (v := lN 0) rfl ?_
    refine x_lconst C dX10_mean_11 (q := 12) rfl (v := lN 1) rfl ?_
    refine x_callS C (roW := []) (roR := []) (c_X10_in l D cy w.toInt64 (lN 0) (lN 1) w.toInt 0 1 (xl_wide rfl) rfl rfl) (cwS 3 C.2.2.2.2.1 gX10_mean_X10_in rfl rfl rfl (by decide +kernel) (by rw [hR]; exact ⟨Nat.le_of_ble_eq_true rfl, Nat.le_of_ble_eq_true rfl⟩)) [] [] rfl (by decide) rfl (by decide) xro_nil xT_bl (fun _ _ _ _ _ _ _ => trivial) rfl rfl dX10_mean_12 rfl rfl (Nat.le_of_ble_eq_true rfl) (q := 15) rfl (k' := 0) rfl (n' := 0) rfl (by rw [hR]; exact ⟨Nat.le_of_ble_eq_true rfl, Nat.le_of_ble_eq_true rfl⟩) (fun v5 w5 hp5 => ?_)
    rcases hp5 with hp5 | hp5
    · skip
      obtain ⟨rfl, rfl, hc6, hc7⟩ := hp5
      refine x_ws (ws' := [(mo, .inr (9, [.int (nI cols), .int (nI lc), .int (nI smp), .int (ky), .ref (mr 0), .ref (mr 1), .ref (mr 2), .ref (mr 3), .ref (mr 4), .ref (mr 5), .ref (mr 6), .ref (mr 7), .ref (mr 8), .ref (mr 9), .int (nI (pMk P)), .int (nI (pRs P)), .ref (mr 10), .ref (mr 11), .ref (mr 12), .ref (mr 13), .ref (mr 14), .ref (mr 15), .ref (mr 16), .ref (mr 17), .ref (mr 18), .ref (mr 19), .ref (mr 20), .int (nI nse), .int (nI npa), .int (nI nbo), .ref (mr 21), .int (nI tn), .ref (mr 22), .int (nI ik), .int (j0), .int (j1), .ref (mr 23), .int (j2), .ref (mr 24), .ref (mr 25), .int (j3), .ref (mr 26), .int (j4), .ref (mr 27), .ref (mr 28), .ref (mr 29), .ref (mr 30)])), (mr 10, .inl (cy 1, 24, .inl (fun k => nI (lr9 k)))), (mr 3, .inl (cy 1, 5, .inl (fun k => nI (st9 k)))), (mr 6, .inl (cy 1, 24, .inl (fun k => nI (fn k)))), (mr 7, .inl (cy 1, 120, .inl (fun k => nI (fo k)))), (mr 8, .inl (cy 2, 120, .inr (.inl ex))), (mr 9, .inl (cy 2, 120, .inr (.inl wo))), (mr 2, .inl (cy 1, 5, .inl (fun k => nI (tl9 k))))]) (List.append_nil _) ?_
      refine x_if_eq C (tgt := 35) dX10_mean_15 (by decide) (q := 18) rfl (a := 1) rfl (fun h8 => (by omega : False).elim) (fun h8 => ?_)
      refine x_aload_n C dX10_mean_18 (q := 19) rfl rfl 0 rfl ?_
      refine x_iload_n C dX10_mean_19 (q := 20) rfl rfl 1 rfl ?_
      refine x_st (st' := [.int (nI x.toInt.toNat), .ref mo]) (congrArg (fun z9 => ([.int z9, .ref mo] : List Value)) (xi_nat (by omega))) ?_
      refine x_callV C (roW := []) (roR := []) (c_X10_type l D cy mo mr cols lc smp (pMk P) (pRs P) nse npa nbo tn ik ky j0 j1 j2 j3 j4 fn fo ex wo tl9 st9 ld x.toInt.toNat (by assumption) (by assumption) (by assumption) (by first | assumption | omega | (simp only []; omega)) (by first | assumption | omega | (simp only []; omega)) (by first | assumption | omega | (simp only []; omega)) (by assumption) (by assumption)) (cwV 1 C.2.2.2.2.1 gX10_mean_X10_type rfl rfl rfl (by decide +kernel) (by rw [hR]; exact ⟨Nat.le_of_ble_eq_true rfl, Nat.le_of_ble_eq_true rfl⟩)) [0, 3, 4, 5, 6, 7, 2] [] rfl (by decide) rfl (by decide) xro_nil (List.mem_of_getElem? (i := 0) rfl) (ci := 9) rfl xT_bl (fun _ _ _ _ _ _ _ => trivial) rfl rfl dX10_mean_20 rfl rfl (Nat.le_of_ble_eq_true rfl) (q := 23) rfl (k' := 0) rfl (n' := 0) rfl (by rw [hR]; exact ⟨Nat.le_of_ble_eq_true rfl, Nat.le_of_ble_eq_true rfl⟩) (fun v9 w9 hp9 => ?_)
      obtain ⟨rfl, rfl⟩ := hp9
      refine x_ws (ws' := [(mo, .inr (9, [.int (nI cols), .int (nI lc), .int (nI smp), .int (ky), .ref (mr 0), .ref (mr 1), .ref (mr 2), .ref (mr 3), .ref (mr 4), .ref (mr 5), .ref (mr 6), .ref (mr 7), .ref (mr 8), .ref (mr 9), .int (nI (pMk P)), .int (nI (pRs P)), .ref (mr 10), .ref (mr 11), .ref (mr 12), .ref (mr 13), .ref (mr 14), .ref (mr 15), .ref (mr 16), .ref (mr 17), .ref (mr 18), .ref (mr 19), .ref (mr 20), .int (nI nse), .int (nI npa), .int (nI nbo), .ref (mr 21), .int (nI tn), .ref (mr 22), .int (nI ik), .int (j0), .int (j1), .ref (mr 23), .int (j2), .ref (mr 24), .ref (mr 25), .int (j3), .ref (mr 26), .int (j4), .ref (mr 27), .ref (mr 28), .ref (mr 29), .ref (mr 30)])), (mr 10, .inl (cy 1, 24, .inl (fun k => nI (lr9 k)))), (mr 3, .inl (cy 1, 5, .inl (fun k => nI (st9 k)))), (mr 6, .inl (cy 1, 24, .inl (fun k => nI (fn k)))), (mr 7, .inl (cy 1, 120, .inl (fun k => nI (fo k)))), (mr 8, .inl (cy 2, 120, .inr (.inl ex))), (mr 9, .inl (cy 2, 120, .inr (.inl wo))), (mr 2, .inl (cy 1, 5, .inl (fun k => nI (tl9 k))))]) rfl ?_
      have hty4 := tyS_le (st := st9) (tl := tl9) (ld := ld) (c := x.toInt.toNat) (z := min smp lc) hst9 htl9
      refine x_iconst C dX10_mean_23 (q := 24) rfl (v := nI 4) (by decide) ?_
      refine x_icmp_eq C (tgt := 35) dX10_mean_24 (by decide) (q := 27) rfl (a := ((tyS st9 tl9 ld x.toInt.toNat (min smp lc) : Nat) : Int)) (b := 4) (nI_toInt (by omega)) rfl (fun h10 => ?_) (fun h10 => ?_)
      · first
        | (exfalso; omega)
        |
          refine x_ldc2 C (v := (-9223372036854775808)) hw0 dX10_mean_35 (q := 38) rfl ?_
          refine x_lret C hA hQ hr dX10_mean_38 (Nat.le_of_ble_eq_true rfl) ?_
          refine ⟨?_, rfl⟩
          unfold meaA lowA
          by_cases e9 : x.toInt < 0 ∨ (cols : Int) ≤ x.toInt ∨ tyS (pSt P) tl9 ld x.toInt.toNat (min smp lc) = 4
          · rw [if_pos e9]
          · rw [if_neg e9, if_pos (by first | omega | (exfalso; have e8 := tyS_congr (tl := tl9) (ld := ld) (z := min smp lc) (hmp.1.1 x.toInt.toNat (by omega)); omega))]
      · first
        | (exfalso; omega)
        |
          refine x_aload_n C dX10_mean_27 (q := 28) rfl rfl 0 rfl ?_
          refine x_iload_n C dX10_mean_28 (q := 29) rfl rfl 1 rfl ?_
          refine x_callV C (roW := []) (roR := []) (c_X10_havers l D cy mo mr cols lc smp nse npa nbo tn ik ky j0 j1 j2 j3 j4 P fn fo ex wo st9 lr9 rl9 fa9 ca9 dc9 ld x (by assumption) (by assumption) (by assumption) (by first | assumption | omega | (simp only []; omega)) (by assumption) (by assumption) (by first | assumption | omega | (simp only []; omega)) (by assumption) (by assumption) (by first | assumption | omega | (simp only []; omega)) (by first | assumption | omega | (simp only []; omega))) (cwV 1 C.2.2.2.2.1 gX10_mean_X10_havers rfl rfl rfl (by decide +kernel) (by rw [hR]; exact ⟨Nat.le_of_ble_eq_true rfl, Nat.le_of_ble_eq_true rfl⟩)) [0, 1, 2, 3, 4, 5, 6] [] rfl (by decide) rfl (by decide) xro_nil (List.mem_of_getElem? (i := 0) rfl) (ci := 9) rfl xT_bl (fun _ _ _ _ _ _ _ => trivial) rfl rfl dX10_mean_29 rfl rfl (Nat.le_of_ble_eq_true rfl) (q := 32) rfl (k' := 0) rfl (n' := 0) rfl (by rw [hR]; exact ⟨Nat.le_of_ble_eq_true rfl, Nat.le_of_ble_eq_true rfl⟩) (fun v11 w11 hp11 => ?_)
          obtain ⟨rfl, rfl⟩ := hp11
          refine x_ws (ws' := [(mo, .inr (9, [.int (nI cols), .int (nI lc), .int (nI smp), .int (ky), .ref (mr 0), .ref (mr 1), .ref (mr 2), .ref (mr 3), .ref (mr 4), .ref (mr 5), .ref (mr 6), .ref (mr 7), .ref (mr 8), .ref (mr 9), .int (nI (pMk P)), .int (nI (pRs P)), .ref (mr 10), .ref (mr 11), .ref (mr 12), .ref (mr 13), .ref (mr 14), .ref (mr 15), .ref (mr 16), .ref (mr 17), .ref (mr 18), .ref (mr 19), .ref (mr 20), .int (nI nse), .int (nI npa), .int (nI nbo), .ref (mr 21), .int (nI tn), .ref (mr 22), .int (nI ik), .int (j0), .int (j1), .ref (mr 23), .int (j2), .ref (mr 24), .ref (mr 25), .int (j3), .ref (mr 26), .int (j4), .ref (mr 27), .ref (mr 28), .ref (mr 29), .ref (mr 30)])), (mr 10, .inl (cy 1, 24, .inl (fun k => nI (lr9 k)))), (mr 3, .inl (cy 1, 5, .inl (fun k => nI (st9 k)))), (mr 6, .inl (cy 1, 24, .inl (fun k => nI (fn k)))), (mr 7, .inl (cy 1, 120, .inl (fun k => nI (fo k)))), (mr 8, .inl (cy 2, 120, .inr (.inl ex))), (mr 9, .inl (cy 2, 120, .inr (.inl wo))), (mr 2, .inl (cy 1, 5, .inl (fun k => nI (tl9 k))))]) rfl ?_
          refine x_if_ne C (tgt := 39) dX10_mean_32 (by decide) (q := 35) rfl (a := ((gaN ld (pLr P) x.toInt.toNat (pRs P) : Nat) : Int)) (nI_toInt (by omega)) (fun h12 => ?_) (fun h12 => ?_)
          · first
            | (exfalso; omega)
            |
              refine x_lconst C dX10_mean_39 (q := 40) rfl (v := lN 0) rfl ?_
              refine x_lstore_n C (L' := [(3, .long (lN 0)), (0, .ref mo), (1, .int (x)), (2, .int (w))]) dX10_mean_40 (q := 41) rfl rfl (by decide) rfl ?_
              refine x_iconst C dX10_mean_41 (q := 42) rfl (v := nI 0) (by decide) ?_
              refine x_istore C (L' := [(5, .int (nI 0)), (3, .long (lN 0)), (0, .ref mo), (1, .int (x)), (2, .int (w))]) dX10_mean_42 (q := 44) rfl (by decide) rfl ?_
              have cut44 : ∀ (fuel : Nat) (r : Nat) (v : Int64), (r ≤ pRs P) → (v = smS (gaF ld (pLr P) (pSt P x.toInt.toNat) x.toInt.toNat ga (pRs P)) (gaN ld (pLr P) x.toInt.toNat r)) → (v.toInt.natAbs ≤ 1000000000 * r) → pRs P - r < fuel → xG p l e R s m args below meth c Q D A 6 [(mo, .inr (9, [.int (nI cols), .int (nI lc), .int (nI smp), .int (ky), .ref (mr 0), .ref (mr 1), .ref (mr 2), .ref (mr 3), .ref (mr 4), .ref (mr 5), .ref (mr 6), .ref (mr 7), .ref (mr 8), .ref (mr 9), .int (nI (pMk P)), .int (nI (pRs P)), .ref (mr 10), .ref (mr 11), .ref (mr 12), .ref (mr 13), .ref (mr 14), .ref (mr 15), .ref (mr 16), .ref (mr 17), .ref (mr 18), .ref (mr 19), .ref (mr 20), .int (nI nse), .int (nI npa), .int (nI nbo), .ref (mr 21), .int (nI tn), .ref (mr 22), .int (nI ik), .int (j0), .int (j1), .ref (mr 23), .int (j2), .ref (mr 24), .ref (mr 25), .int (j3), .ref (mr 26), .int (j4), .ref (mr 27), .ref (mr 28), .ref (mr 29), .ref (mr 30)])), (mr 10, .inl (cy 1, 24, .inl (fun k => nI (lr9 k)))), (mr 3, .inl (cy 1, 5, .inl (fun k => nI (st9 k)))), (mr 6, .inl (cy 1, 24, .inl (fun k => nI (fn k)))), (mr 7, .inl (cy 1, 120, .inl (fun k => nI (fo k)))), (mr 8, .inl (cy 2, 120, .inr (.inl ex))), (mr 9, .inl (cy 2, 120, .inr (.inl wo))), (mr 2, .inl (cy 1, 5, .inl (fun k => nI (tl9 k))))] 0 0 44 [(0, .ref mo), (1, .int (x)), (2, .int (w)), (3, .long (v)), (5, .int (nI r))] [] := by
                intro fuel
                induction fuel with
                | zero =>
                  intro r v hrr hv hvb hmu
                  exact absurd hmu (Nat.not_lt_zero _)
                | succ fuel ih =>
                  intro r v hrr hv hvb hmu
                  have e8 := tyS_congr (tl := tl9) (ld := ld) (z := min smp lc) (hmp.1.1 x.toInt.toNat (by omega))
                  have e7 := fun h => tyS_s (tl := tl9) (ld := ld) (z := min smp lc) (hF.2.1 h x.toInt.toNat (by omega))
                  have ih44 := ih
                  clear ih
                  refine x_iload C dX10_mean_44 (q := 46) rfl 4 rfl ?_
                  refine x_aload_n C dX10_mean_46 (q := 47) rfl rfl 0 rfl ?_
                  refine x_get C (ci := 9) (v := .int (nI (pRs P))) hw1 0 rfl rfl 15 (by decide) hw2 rfl dX10_mean_47 (q := 50) rfl ?_
                  refine x_icmp_ge C (tgt := 83) dX10_mean_50 (by decide) (q := 53) rfl (a := ((r : Nat) : Int)) (b := ((pRs P : Nat) : Int)) (nI_toInt (by omega)) (nI_toInt (by omega)) (fun h13 => ?_) (fun h13 => ?_)
                  · first
                    | (exfalso; omega)
                    |
                      refine x_lload_n C dX10_mean_83 (q := 84) rfl rfl 3 rfl ?_
                      refine x_aload_n C dX10_mean_84 (q := 85) rfl rfl 0 rfl ?_
                      refine x_iload_n C dX10_mean_85 (q := 86) rfl rfl 1 rfl ?_
                      refine x_callV C (roW := []) (roR := []) (c_X10_havers l D cy mo mr cols lc smp nse npa nbo tn ik ky j0 j1 j2 j3 j4 P fn fo ex wo st9 lr9 rl9 fa9 ca9 dc9 ld x (by assumption) (by assumption) (by assumption) (by first | assumption | omega | (simp only []; omega)) (by assumption) (by assumption) (by first | assumption | omega | (simp only []; omega)) (by assumption) (by assumption) (by first | assumption | omega | (simp only []; omega)) (by first | assumption | omega | (simp only []; omega))) (cwV 1 C.2.2.2.2.1 gX10_mean_X10_havers rfl rfl rfl (by decide +kernel) (by rw [hR]; exact ⟨Nat.le_of_ble_eq_true rfl, Nat.le_of_ble_eq_true rfl⟩)) [0, 1, 2, 3, 4, 5, 6] [] rfl (by decide) rfl (by decide) xro_nil (List.mem_of_getElem? (i := 0) rfl) (ci := 9) rfl xT_bl (fun _ _ _ _ _ _ _ => trivial) rfl rfl dX10_mean_86 rfl rfl (Nat.le_of_ble_eq_true rfl) (q := 89) rfl (k' := 0) rfl (n' := 0) rfl (by rw [hR]; exact ⟨Nat.le_of_ble_eq_true rfl, Nat.le_of_ble_eq_true rfl⟩) (fun v14 w14 hp14 => ?_)
                      obtain ⟨rfl, rfl⟩ := hp14
                      refine x_ws (ws' := [(mo, .inr (9, [.int (nI cols), .int (nI lc), .int (nI smp), .int (ky), .ref (mr 0), .ref (mr 1), .ref (mr 2), .ref (mr 3), .ref (mr 4), .ref (mr 5), .ref (mr 6), .ref (mr 7), .ref (mr 8), .ref (mr 9), .int (nI (pMk P)), .int (nI (pRs P)), .ref (mr 10), .ref (mr 11), .ref (mr 12), .ref (mr 13), .ref (mr 14), .ref (mr 15), .ref (mr 16), .ref (mr 17), .ref (mr 18), .ref (mr 19), .ref (mr 20), .int (nI nse), .int (nI npa), .int (nI nbo), .ref (mr 21), .int (nI tn), .ref (mr 22), .int (nI ik), .int (j0), .int (j1), .ref (mr 23), .int (j2), .ref (mr 24), .ref (mr 25), .int (j3), .ref (mr 26), .int (j4), .ref (mr 27), .ref (mr 28), .ref (mr 29), .ref (mr 30)])), (mr 10, .inl (cy 1, 24, .inl (fun k => nI (lr9 k)))), (mr 3, .inl (cy 1, 5, .inl (fun k => nI (st9 k)))), (mr 6, .inl (cy 1, 24, .inl (fun k => nI (fn k)))), (mr 7, .inl (cy 1, 120, .inl (fun k => nI (fo k)))), (mr 8, .inl (cy 2, 120, .inr (.inl ex))), (mr 9, .inl (cy 2, 120, .inr (.inl wo))), (mr 2, .inl (cy 1, 5, .inl (fun k => nI (tl9 k))))]) rfl ?_
                      refine x_i2l C dX10_mean_89 (q := 90) rfl (v := lN (gaN ld (pLr P) x.toInt.toNat (pRs P))) (nI_l (by omega)) ?_
                      refine x_iload_n C dX10_mean_90 (q := 91) rfl rfl 2 rfl ?_
                      refine x_callS C (roW := []) (roR := []) (c_X10_lowest l D cy v (gaN ld (pLr P) x.toInt.toNat (pRs P)) w (by first | assumption | omega | (simp only []; omega)) (by omega) (by first | assumption | omega | (simp only []; omega))) (cwS 3 C.2.2.2.2.1 gX10_mean_X10_lowest rfl rfl rfl (by decide +kernel) (by rw [hR]; exact ⟨Nat.le_of_ble_eq_true rfl, Nat.le_of_ble_eq_true rfl⟩)) [] [] rfl (by decide) rfl (by decide) xro_nil xT_bl (fun _ _ _ _ _ _ _ => trivial) rfl rfl dX10_mean_91 rfl rfl (Nat.le_of_ble_eq_true rfl) (q := 94) rfl (k' := 0) rfl (n' := 0) rfl (by rw [hR]; exact ⟨Nat.le_of_ble_eq_true rfl, Nat.le_of_ble_eq_true rfl⟩) (fun v15 w15 hp15 => ?_)
                      obtain ⟨rfl, rfl⟩ := hp15
                      refine x_ws (ws' := [(mo, .inr (9, [.int (nI cols), .int (nI lc), .int (nI smp), .int (ky), .ref (mr 0), .ref (mr 1), .ref (mr 2), .ref (mr 3), .ref (mr 4), .ref (mr 5), .ref (mr 6), .ref (mr 7), .ref (mr 8), .ref (mr 9), .int (nI (pMk P)), .int (nI (pRs P)), .ref (mr 10), .ref (mr 11), .ref (mr 12), .ref (mr 13), .ref (mr 14), .ref (mr 15), .ref (mr 16), .ref (mr 17), .ref (mr 18), .ref (mr 19), .ref (mr 20), .int (nI nse), .int (nI npa), .int (nI nbo), .ref (mr 21), .int (nI tn), .ref (mr 22), .int (nI ik), .int (j0), .int (j1), .ref (mr 23), .int (j2), .ref (mr 24), .ref (mr 25), .int (j3), .ref (mr 26), .int (j4), .ref (mr 27), .ref (mr 28), .ref (mr 29), .ref (mr 30)])), (mr 10, .inl (cy 1, 24, .inl (fun k => nI (lr9 k)))), (mr 3, .inl (cy 1, 5, .inl (fun k => nI (st9 k)))), (mr 6, .inl (cy 1, 24, .inl (fun k => nI (fn k)))), (mr 7, .inl (cy 1, 120, .inl (fun k => nI (fo k)))), (mr 8, .inl (cy 2, 120, .inr (.inl ex))), (mr 9, .inl (cy 2, 120, .inr (.inl wo))), (mr 2, .inl (cy 1, 5, .inl (fun k => nI (tl9 k))))]) (List.append_nil _) ?_
                      refine x_lret C hA hQ hr dX10_mean_94 (Nat.le_of_ble_eq_true rfl) ?_
                      have e9 : r = pRs P := by omega
                      have e8 := tyS_congr (tl := tl9) (ld := ld) (z := min smp lc) (hmp.1.1 x.toInt.toNat (by omega))
                      have e7 := tyS_s (tl := tl9) (ld := ld) (z := min smp lc) (hF.2.1 (by omega) x.toInt.toNat (by omega))
                      refine ⟨?_, rfl⟩
                      unfold meaA
                      rw [if_neg (by omega), e7, hv, e9]
                  · first
                    | (exfalso; omega)
                    |
                      refine x_lload_n C dX10_mean_53 (q := 54) rfl rfl 3 rfl ?_
                      refine x_aload_n C dX10_mean_54 (q := 55) rfl rfl 0 rfl ?_
                      refine x_iload C dX10_mean_55 (q := 57) rfl 4 rfl ?_
                      refine x_iload_n C dX10_mean_57 (q := 58) rfl rfl 1 rfl ?_
                      refine x_callV C (roW := []) (roR := []) (c_X10_hasValue_n l D cy mo mr cols lc smp nse npa nbo tn ik ky j0 j1 j2 j3 j4 P fn fo ex wo st9 lr9 rl9 fa9 ca9 dc9 ld r x (by assumption) (by assumption) (by assumption) (by first | assumption | omega | (simp only []; omega)) (by assumption) (by assumption) (by first | assumption | omega | (simp only []; omega)) (by assumption) (by assumption) (by first | assumption | omega | (simp only []; omega)) (by first | assumption | omega | (simp only []; omega)) (by first | assumption | omega | (simp only []; omega))) (cwV 2 C.2.2.2.2.1 gX10_mean_X10_hasValue rfl rfl rfl (by decide +kernel) (by rw [hR]; exact ⟨Nat.le_of_ble_eq_true rfl, Nat.le_of_ble_eq_true rfl⟩)) [0, 1, 2, 3, 4, 5, 6] [] rfl (by decide) rfl (by decide) xro_nil (List.mem_of_getElem? (i := 0) rfl) (ci := 9) rfl xT_bl (fun _ _ _ _ _ _ _ => trivial) rfl rfl dX10_mean_58 rfl rfl (Nat.le_of_ble_eq_true rfl) (q := 61) rfl (k' := 0) rfl (n' := 0) rfl (by rw [hR]; exact ⟨Nat.le_of_ble_eq_true rfl, Nat.le_of_ble_eq_true rfl⟩) (fun v16 w16 hp16 => ?_)
                      rcases hp16 with hp16 | hp16
                      · skip
                        obtain ⟨rfl, rfl, hc17⟩ := hp16
                        refine x_ws (ws' := [(mo, .inr (9, [.int (nI cols), .int (nI lc), .int (nI smp), .int (ky), .ref (mr 0), .ref (mr 1), .ref (mr 2), .ref (mr 3), .ref (mr 4), .ref (mr 5), .ref (mr 6), .ref (mr 7), .ref (mr 8), .ref (mr 9), .int (nI (pMk P)), .int (nI (pRs P)), .ref (mr 10), .ref (mr 11), .ref (mr 12), .ref (mr 13), .ref (mr 14), .ref (mr 15), .ref (mr 16), .ref (mr 17), .ref (mr 18), .ref (mr 19), .ref (mr 20), .int (nI nse), .int (nI npa), .int (nI nbo), .ref (mr 21), .int (nI tn), .ref (mr 22), .int (nI ik), .int (j0), .int (j1), .ref (mr 23), .int (j2), .ref (mr 24), .ref (mr 25), .int (j3), .ref (mr 26), .int (j4), .ref (mr 27), .ref (mr 28), .ref (mr 29), .ref (mr 30)])), (mr 10, .inl (cy 1, 24, .inl (fun k => nI (lr9 k)))), (mr 3, .inl (cy 1, 5, .inl (fun k => nI (st9 k)))), (mr 6, .inl (cy 1, 24, .inl (fun k => nI (fn k)))), (mr 7, .inl (cy 1, 120, .inl (fun k => nI (fo k)))), (mr 8, .inl (cy 2, 120, .inr (.inl ex))), (mr 9, .inl (cy 2, 120, .inr (.inl wo))), (mr 2, .inl (cy 1, 5, .inl (fun k => nI (tl9 k))))]) rfl ?_
                        refine x_if_eq C (tgt := 74) dX10_mean_61 (by decide) (q := 64) rfl (a := 1) rfl (fun h18 => (by omega : False).elim) (fun h18 => ?_)
                        refine x_aload_n C dX10_mean_64 (q := 65) rfl rfl 0 rfl ?_
                        refine x_iload C dX10_mean_65 (q := 67) rfl 4 rfl ?_
                        refine x_iload_n C dX10_mean_67 (q := 68) rfl rfl 1 rfl ?_
                        refine x_callV C (roW := []) (roR := []) (c_X10_its l D cy mo mr cols lc smp nse npa nbo tn ik ky j0 j1 j2 j3 j4 P fn fo ex wo st9 lr9 rl9 fa9 ca9 dc9 ld r x (by assumption) (by assumption) (by assumption) (by first | assumption | omega | (simp only []; omega)) (by assumption) (by assumption) (by first | assumption | omega | (simp only []; omega)) (by assumption) (by assumption) (by first | assumption | omega | (simp only []; omega)) (by first | assumption | omega | (simp only []; omega)) (by first | assumption | omega | (simp only []; omega)) (by first | assumption | omega | (simp only []; omega))) (cwV 2 C.2.2.2.2.1 gX10_mean_X10_its rfl rfl rfl (by decide +kernel) (by rw [hR]; exact ⟨Nat.le_of_ble_eq_true rfl, Nat.le_of_ble_eq_true rfl⟩)) [0, 1, 2, 3, 4, 5, 6] [] rfl (by decide) rfl (by decide) xro_nil (List.mem_of_getElem? (i := 0) rfl) (ci := 9) rfl xT_bl (fun _ _ _ _ _ _ _ => trivial) rfl rfl dX10_mean_68 rfl rfl (Nat.le_of_ble_eq_true rfl) (q := 71) rfl (k' := 0) rfl (n' := 0) rfl (by rw [hR]; exact ⟨Nat.le_of_ble_eq_true rfl, Nat.le_of_ble_eq_true rfl⟩) (fun v19 w19 hp19 => ?_)
                        obtain ⟨rfl, rfl⟩ := hp19
                        refine x_ws (ws' := [(mo, .inr (9, [.int (nI cols), .int (nI lc), .int (nI smp), .int (ky), .ref (mr 0), .ref (mr 1), .ref (mr 2), .ref (mr 3), .ref (mr 4), .ref (mr 5), .ref (mr 6), .ref (mr 7), .ref (mr 8), .ref (mr 9), .int (nI (pMk P)), .int (nI (pRs P)), .ref (mr 10), .ref (mr 11), .ref (mr 12), .ref (mr 13), .ref (mr 14), .ref (mr 15), .ref (mr 16), .ref (mr 17), .ref (mr 18), .ref (mr 19), .ref (mr 20), .int (nI nse), .int (nI npa), .int (nI nbo), .ref (mr 21), .int (nI tn), .ref (mr 22), .int (nI ik), .int (j0), .int (j1), .ref (mr 23), .int (j2), .ref (mr 24), .ref (mr 25), .int (j3), .ref (mr 26), .int (j4), .ref (mr 27), .ref (mr 28), .ref (mr 29), .ref (mr 30)])), (mr 10, .inl (cy 1, 24, .inl (fun k => nI (lr9 k)))), (mr 3, .inl (cy 1, 5, .inl (fun k => nI (st9 k)))), (mr 6, .inl (cy 1, 24, .inl (fun k => nI (fn k)))), (mr 7, .inl (cy 1, 120, .inl (fun k => nI (fo k)))), (mr 8, .inl (cy 2, 120, .inr (.inl ex))), (mr 9, .inl (cy 2, 120, .inr (.inl wo))), (mr 2, .inl (cy 1, 5, .inl (fun k => nI (tl9 k))))]) rfl ?_
                        refine x_goto C (tgt := 75) dX10_mean_71 (by decide) ?_
                        refine x_ladd C dX10_mean_75 (q := 76) rfl (z := v + (vlS ld (pSt P x.toInt.toNat) (pLr P r) x.toInt.toNat)) (rfl) ?_
                        refine x_lstore_n C (L' := [(3, .long (v + (vlS ld (pSt P x.toInt.toNat) (pLr P r) x.toInt.toNat))), (0, .ref mo), (1, .int (x)), (2, .int (w)), (5, .int (nI r))]) dX10_mean_76 (q := 77) rfl rfl (by decide) rfl ?_
                        refine x_iinc C (L' := [(5, .int (nI (r + 1))), (3, .long (v + (vlS ld (pSt P x.toInt.toNat) (pLr P r) x.toInt.toNat))), (0, .ref mo), (1, .int (x)), (2, .int (w))]) dX10_mean_77 (q := 80) rfl 4 rfl (v := nI (r + 1)) (nI_add r 1) (by decide) rfl ?_
                        refine x_goto C (tgt := 44) dX10_mean_80 (by decide) ?_
                        refine x_L (L' := [(0, .ref mo), (1, .int (x)), (2, .int (w)), (3, .long (v + (vlS ld (pSt P x.toInt.toNat) (pLr P r) x.toInt.toNat))), (5, .int (nI (r + 1)))]) [2, 3, 4, 1, 0] rfl ?_
                        exact ih44 (r + 1) (v + (vlS ld (pSt P x.toInt.toNat) (pLr P r) x.toInt.toNat)) (by first | omega | assumption) (by first | (rw [gaN_n (by assumption), ← hv]; exact xl_add0 v) | (rw [gaN_y (by assumption)]; show _ = smS (gaF ld (pLr P) (pSt P x.toInt.toNat) x.toInt.toNat ga (pRs P)) (gaN ld (pLr P) x.toInt.toNat r) + (gaF ld (pLr P) (pSt P x.toInt.toNat) x.toInt.toNat ga (pRs P)) (gaN ld (pLr P) x.toInt.toNat r); rw [gaF_at (ld := ld) (lr := pLr P) (ty := pSt P (x.toInt.toNat)) (c := x.toInt.toNat) (g := ga) (r := r) (by assumption) (m := pRs P) (by omega), ← hv])) (by first | (with_reducible exact hvb_0 hvb) | (have e6 := (hshk r x.toInt.toNat (by omega) (by omega)).2.2; have e5 := e7 (by omega); have e3 : ¬ pSt P (x.toInt.toNat) = 4 := (by omega); have e4 : (vlS ld (pSt P (x.toInt.toNat)) (pLr P r) (x.toInt.toNat)).toInt.natAbs < 1000000000 := (e6.resolve_left (by assumption)).1 e3; exact hvb_1 hvb e4 (by omega))) (by omega)
                      · skip
                        obtain ⟨rfl, rfl, hc20⟩ := hp16
                        refine x_ws (ws' := [(mo, .inr (9, [.int (nI cols), .int (nI lc), .int (nI smp), .int (ky), .ref (mr 0), .ref (mr 1), .ref (mr 2), .ref (mr 3), .ref (mr 4), .ref (mr 5), .ref (mr 6), .ref (mr 7), .ref (mr 8), .ref (mr 9), .int (nI (pMk P)), .int (nI (pRs P)), .ref (mr 10), .ref (mr 11), .ref (mr 12), .ref (mr 13), .ref (mr 14), .ref (mr 15), .ref (mr 16), .ref (mr 17), .ref (mr 18), .ref (mr 19), .ref (mr 20), .int (nI nse), .int (nI npa), .int (nI nbo), .ref (mr 21), .int (nI tn), .ref (mr 22), .int (nI ik), .int (j0), .int (j1), .ref (mr 23), .int (j2), .ref (mr 24), .ref (mr 25), .int (j3), .ref (mr 26), .int (j4), .ref (mr 27), .ref (mr 28), .ref (mr 29), .ref (mr 30)])), (mr 10, .inl (cy 1, 24, .inl (fun k => nI (lr9 k)))), (mr 3, .inl (cy 1, 5, .inl (fun k => nI (st9 k)))), (mr 6, .inl (cy 1, 24, .inl (fun k => nI (fn k)))), (mr 7, .inl (cy 1, 120, .inl (fun k => nI (fo k)))), (mr 8, .inl (cy 2, 120, .inr (.inl ex))), (mr 9, .inl (cy 2, 120, .inr (.inl wo))), (mr 2, .inl (cy 1, 5, .inl (fun k => nI (tl9 k))))]) rfl ?_
                        refine x_if_eq C (tgt := 74) dX10_mean_61 (by decide) (q := 64) rfl (a := 0) rfl (fun h21 => ?_) (fun h21 => (by omega : False).elim)
                        refine x_lconst C dX10_mean_74 (q := 75) rfl (v := lN 0) rfl ?_
                        refine x_ladd C dX10_mean_75 (q := 76) rfl (z := v + (lN 0)) (rfl) ?_
                        refine x_lstore_n C (L' := [(3, .long (v + (lN 0))), (0, .ref mo), (1, .int (x)), (2, .int (w)), (5, .int (nI r))]) dX10_mean_76 (q := 77) rfl rfl (by decide) rfl ?_
                        refine x_iinc C (L' := [(5, .int (nI (r + 1))), (3, .long (v + (lN 0))), (0, .ref mo), (1, .int (x)), (2, .int (w))]) dX10_mean_77 (q := 80) rfl 4 rfl (v := nI (r + 1)) (nI_add r 1) (by decide) rfl ?_
                        refine x_goto C (tgt := 44) dX10_mean_80 (by decide) ?_
                        refine x_L (L' := [(0, .ref mo), (1, .int (x)), (2, .int (w)), (3, .long (v + (lN 0))), (5, .int (nI (r + 1)))]) [2, 3, 4, 1, 0] rfl ?_
                        exact ih44 (r + 1) (v + (lN 0)) (by first | omega | assumption) (by first | (rw [gaN_n (by assumption), ← hv]; exact xl_add0 v) | (rw [gaN_y (by assumption)]; show _ = smS (gaF ld (pLr P) (pSt P x.toInt.toNat) x.toInt.toNat ga (pRs P)) (gaN ld (pLr P) x.toInt.toNat r) + (gaF ld (pLr P) (pSt P x.toInt.toNat) x.toInt.toNat ga (pRs P)) (gaN ld (pLr P) x.toInt.toNat r); rw [gaF_at (ld := ld) (lr := pLr P) (ty := pSt P (x.toInt.toNat)) (c := x.toInt.toNat) (g := ga) (r := r) (by assumption) (m := pRs P) (by omega), ← hv])) (by first | (with_reducible exact hvb_0 hvb) | (have e6 := (hshk r x.toInt.toNat (by omega) (by omega)).2.2; have e5 := e7 (by omega); have e3 : ¬ pSt P (x.toInt.toNat) = 4 := (by omega); have e4 : (vlS ld (pSt P (x.toInt.toNat)) (pLr P r) (x.toInt.toNat)).toInt.natAbs < 1000000000 := (e6.resolve_left (by assumption)).1 e3; exact hvb_1 hvb e4 (by omega))) (by omega)
              refine x_L (L' := [(0, .ref mo), (1, .int (x)), (2, .int (w)), (3, .long (lN 0)), (5, .int (nI 0))]) [2, 3, 4, 1, 0] rfl ?_
              exact cut44 (pRs P - 0 + 1) 0 (lN 0) (by first | omega | assumption) (by rfl) (by decide) (by omega)
          · first
            | (exfalso; omega)
            |
              refine x_ldc2 C (v := (-9223372036854775808)) hw0 dX10_mean_35 (q := 38) rfl ?_
              refine x_lret C hA hQ hr dX10_mean_38 (Nat.le_of_ble_eq_true rfl) ?_
              refine ⟨?_, rfl⟩
              unfold meaA lowA
              by_cases e9 : x.toInt < 0 ∨ (cols : Int) ≤ x.toInt ∨ tyS (pSt P) tl9 ld x.toInt.toNat (min smp lc) = 4
              · rw [if_pos e9]
              · rw [if_neg e9, if_pos (by first | omega | (exfalso; have e8 := tyS_congr (tl := tl9) (ld := ld) (z := min smp lc) (hmp.1.1 x.toInt.toNat (by omega)); omega))]
    · skip
      obtain ⟨rfl, rfl, hc22⟩ := hp5
      refine x_ws (ws' := [(mo, .inr (9, [.int (nI cols), .int (nI lc), .int (nI smp), .int (ky), .ref (mr 0), .ref (mr 1), .ref (mr 2), .ref (mr 3), .ref (mr 4), .ref (mr 5), .ref (mr 6), .ref (mr 7), .ref (mr 8), .ref (mr 9), .int (nI (pMk P)), .int (nI (pRs P)), .ref (mr 10), .ref (mr 11), .ref (mr 12), .ref (mr 13), .ref (mr 14), .ref (mr 15), .ref (mr 16), .ref (mr 17), .ref (mr 18), .ref (mr 19), .ref (mr 20), .int (nI nse), .int (nI npa), .int (nI nbo), .ref (mr 21), .int (nI tn), .ref (mr 22), .int (nI ik), .int (j0), .int (j1), .ref (mr 23), .int (j2), .ref (mr 24), .ref (mr 25), .int (j3), .ref (mr 26), .int (j4), .ref (mr 27), .ref (mr 28), .ref (mr 29), .ref (mr 30)])), (mr 10, .inl (cy 1, 24, .inl (fun k => nI (lr9 k)))), (mr 3, .inl (cy 1, 5, .inl (fun k => nI (st9 k)))), (mr 6, .inl (cy 1, 24, .inl (fun k => nI (fn k)))), (mr 7, .inl (cy 1, 120, .inl (fun k => nI (fo k)))), (mr 8, .inl (cy 2, 120, .inr (.inl ex))), (mr 9, .inl (cy 2, 120, .inr (.inl wo))), (mr 2, .inl (cy 1, 5, .inl (fun k => nI (tl9 k))))]) (List.append_nil _) ?_
      refine x_if_eq C (tgt := 35) dX10_mean_15 (by decide) (q := 18) rfl (a := 0) rfl (fun h23 => ?_) (fun h23 => (by omega : False).elim)
      refine x_ldc2 C (v := (-9223372036854775808)) hw0 dX10_mean_35 (q := 38) rfl ?_
      refine x_lret C hA hQ hr dX10_mean_38 (Nat.le_of_ble_eq_true rfl) ?_
      refine ⟨?_, rfl⟩
      unfold meaA lowA
      by_cases e9 : x.toInt < 0 ∨ (cols : Int) ≤ x.toInt ∨ tyS (pSt P) tl9 ld x.toInt.toNat (min smp lc) = 4
      · rw [if_pos e9]
      · rw [if_neg e9, if_pos (by first | omega | (exfalso; have e8 := tyS_congr (tl := tl9) (ld := ld) (z := min smp lc) (hmp.1.1 x.toInt.toNat (by omega)); omega))]
  · skip
    obtain ⟨rfl, rfl, hc24⟩ := hp1
    refine x_ws (ws' := [(mo, .inr (9, [.int (nI cols), .int (nI lc), .int (nI smp), .int (ky), .ref (mr 0), .ref (mr 1), .ref (mr 2), .ref (mr 3), .ref (mr 4), .ref (mr 5), .ref (mr 6), .ref (mr 7), .ref (mr 8), .ref (mr 9), .int (nI (pMk P)), .int (nI (pRs P)), .ref (mr 10), .ref (mr 11), .ref (mr 12), .ref (mr 13), .ref (mr 14), .ref (mr 15), .ref (mr 16), .ref (mr 17), .ref (mr 18), .ref (mr 19), .ref (mr 20), .int (nI nse), .int (nI npa), .int (nI nbo), .ref (mr 21), .int (nI tn), .ref (mr 22), .int (nI ik), .int (j0), .int (j1), .ref (mr 23), .int (j2), .ref (mr 24), .ref (mr 25), .int (j3), .ref (mr 26), .int (j4), .ref (mr 27), .ref (mr 28), .ref (mr 29), .ref (mr 30)])), (mr 10, .inl (cy 1, 24, .inl (fun k => nI (lr9 k)))), (mr 3, .inl (cy 1, 5, .inl (fun k => nI (st9 k)))), (mr 6, .inl (cy 1, 24, .inl (fun k => nI (fn k)))), (mr 7, .inl (cy 1, 120, .inl (fun k => nI (fo k)))), (mr 8, .inl (cy 2, 120, .inr (.inl ex))), (mr 9, .inl (cy 2, 120, .inr (.inl wo))), (mr 2, .inl (cy 1, 5, .inl (fun k => nI (tl9 k))))]) rfl ?_
    refine x_if_eq C (tgt := 35) dX10_mean_5 (by decide) (q := 8) rfl (a := 0) rfl (fun h25 => ?_) (fun h25 => (by omega : False).elim)
    refine x_ldc2 C (v := (-9223372036854775808)) hw0 dX10_mean_35 (q := 38) rfl ?_
    refine x_lret C hA hQ hr dX10_mean_38 (Nat.le_of_ble_eq_true rfl) ?_
    refine ⟨?_, rfl⟩
    unfold meaA lowA
    by_cases e9 : x.toInt < 0 ∨ (cols : Int) ≤ x.toInt ∨ tyS (pSt P) tl9 ld x.toInt.toNat (min smp lc) = 4
    · rw [if_pos e9]
    · rw [if_neg e9, if_pos (by first | omega | (exfalso; have e8 := tyS_congr (tl := tl9) (ld := ld) (z := min smp lc) (hmp.1.1 x.toInt.toNat (by omega)); omega))]

set_option maxHeartbeats 400000 in
set_option maxRecDepth 100000 in
/-- count -/
theorem c_X10_count (l : Launch) (D : va_G) (cy : Nat → ClassId) (mo : Nat) (mr : Nat → Nat) (cols : Nat) (lc : Nat) (smp : Nat) (mk : Nat) (rs : Nat) (nse : Nat) (npa : Nat) (nbo : Nat) (tn : Nat) (ik : Nat) (ky : Int32) (j0 : Int32) (j1 : Int32) (j2 : Int32) (j3 : Int32) (j4 : Int32) (x : Int32)  : xMet l D cy xT yX10_count wsX10_count ({ frames := 1, cells := 0, slots := 0, locals := 0 } : Room) [.ref mo, .int (x)] [(mo, .inr (9, [.int (nI cols), .int (nI lc), .int (nI smp), .int (ky), .ref (mr 0), .ref (mr 1), .ref (mr 2), .ref (mr 3), .ref (mr 4), .ref (mr 5), .ref (mr 6), .ref (mr 7), .ref (mr 8), .ref (mr 9), .int (nI mk), .int (nI rs), .ref (mr 10), .ref (mr 11), .ref (mr 12), .ref (mr 13), .ref (mr 14), .ref (mr 15), .ref (mr 16), .ref (mr 17), .ref (mr 18), .ref (mr 19), .ref (mr 20), .int (nI nse), .int (nI npa), .int (nI nbo), .ref (mr 21), .int (nI tn), .ref (mr 22), .int (nI ik), .int (j0), .int (j1), .ref (mr 23), .int (j2), .ref (mr 24), .ref (mr 25), .int (j3), .ref (mr 26), .int (j4), .ref (mr 27), .ref (mr 28), .ref (mr 29), .ref (mr 30)]))] [] (fun (v9 : Option Value) (w9 : va_W) => (v9 = some (.int (couA lc nse npa nbo tn x)) ∧ w9 = [(mo, .inr (9, [.int (nI cols), .int (nI lc), .int (nI smp), .int (ky), .ref (mr 0), .ref (mr 1), .ref (mr 2), .ref (mr 3), .ref (mr 4), .ref (mr 5), .ref (mr 6), .ref (mr 7), .ref (mr 8), .ref (mr 9), .int (nI mk), .int (nI rs), .ref (mr 10), .ref (mr 11), .ref (mr 12), .ref (mr 13), .ref (mr 14), .ref (mr 15), .ref (mr 16), .ref (mr 17), .ref (mr 18), .ref (mr 19), .ref (mr 20), .int (nI nse), .int (nI npa), .int (nI nbo), .ref (mr 21), .int (nI tn), .ref (mr 22), .int (nI ik), .int (j0), .int (j1), .ref (mr 23), .int (j2), .ref (mr 24), .ref (mr 25), .int (j3), .ref (mr 26), .int (j4), .ref (mr 27), .ref (mr 28), .ref (mr 29), .ref (mr 30)]))])) := by
  refine xMet_of (cc := cX10_count) (maxL := 2) (ret := (some .int)) (by decide) rfl (Nat.le_of_ble_eq_true rfl) (fun p e s m args below meth c A R Q hA hR hQ C hr hnm hro hX => ?_)
  have hw0 : ∀ w ∈ u_ws RX10 TX10 47, w ∈ wsX10_count := by decide +kernel
  have hw1 : Cond.fieldLink RX10 125 (TX10 1).1 (TX10 1).2.1 (TX10 1).2.2.1 ∈ wsX10_count := by decide +kernel
  have hw2 : Cond.fieldLink RX10 145 (TX10 27).1 (TX10 27).2.1 (TX10 27).2.2.1 ∈ wsX10_count := by decide +kernel
  have hw3 : Cond.fieldLink RX10 148 (TX10 28).1 (TX10 28).2.1 (TX10 28).2.2.1 ∈ wsX10_count := by decide +kernel
  have hw4 : Cond.fieldLink RX10 151 (TX10 29).1 (TX10 29).2.1 (TX10 29).2.2.1 ∈ wsX10_count := by decide +kernel
  have hw5 : Cond.fieldLink RX10 178 (TX10 31).1 (TX10 31).2.1 (TX10 31).2.2.1 ∈ wsX10_count := by decide +kernel
  refine x_L (L' := [(0, .ref mo), (1, .int (x))]) [0, 1] rfl ?_
  refine x_iload_n C dX10_count_0 (q := 1) rfl rfl 1 rfl ?_
  by_cases hs1 : x.toInt < 0 ∨ 4 < x.toInt
  · refine x_tableOut C (tgt := 61) dX10_count_1 hs1 (by decide) ?_
    refine x_bipush C dX10_count_61 (q := 63) rfl (v := (-2)) (by decide) ?_
    refine x_iret C hA hQ hr dX10_count_63 (Nat.le_of_ble_eq_true rfl) ?_
    refine ⟨?_, rfl⟩
    unfold couA
    repeat (first | rw [if_pos (by omega)] | rw [if_neg (by omega)])
  · have hs1' : x.toInt = 0 ∨ x.toInt = 1 ∨ x.toInt = 2 ∨ x.toInt = 3 ∨ x.toInt = 4 := by omega
    rcases hs1' with hs1e | hs1e | hs1e | hs1e | hs1e
    · refine x_tableIn C (tgt := 36) (0 : Int) ((rfl : (x : Int32).toInt = x.toInt).trans hs1e) dX10_count_1 (by decide) (by decide) rfl (by decide) ?_
      refine x_aload_n C dX10_count_36 (q := 37) rfl rfl 0 rfl ?_
      refine x_get C (ci := 9) (v := .int (nI lc)) hw0 0 rfl rfl 1 (by decide) hw1 rfl dX10_count_37 (q := 40) rfl ?_
      refine x_iret C hA hQ hr dX10_count_40 (Nat.le_of_ble_eq_true rfl) ?_
      refine ⟨?_, rfl⟩
      unfold couA
      repeat (first | rw [if_pos (by omega)] | rw [if_neg (by omega)])
    · refine x_tableIn C (tgt := 41) (1 : Int) ((rfl : (x : Int32).toInt = x.toInt).trans hs1e) dX10_count_1 (by decide) (by decide) rfl (by decide) ?_
      refine x_aload_n C dX10_count_41 (q := 42) rfl rfl 0 rfl ?_
      refine x_get C (ci := 9) (v := .int (nI nse)) hw0 0 rfl rfl 27 (by decide) hw2 rfl dX10_count_42 (q := 45) rfl ?_
      refine x_iret C hA hQ hr dX10_count_45 (Nat.le_of_ble_eq_true rfl) ?_
      refine ⟨?_, rfl⟩
      unfold couA
      repeat (first | rw [if_pos (by omega)] | rw [if_neg (by omega)])
    · refine x_tableIn C (tgt := 46) (2 : Int) ((rfl : (x : Int32).toInt = x.toInt).trans hs1e) dX10_count_1 (by decide) (by decide) rfl (by decide) ?_
      refine x_aload_n C dX10_count_46 (q := 47) rfl rfl 0 rfl ?_
      refine x_get C (ci := 9) (v := .int (nI npa)) hw0 0 rfl rfl 28 (by decide) hw3 rfl dX10_count_47 (q := 50) rfl ?_
      refine x_iret C hA hQ hr dX10_count_50 (Nat.le_of_ble_eq_true rfl) ?_
      refine ⟨?_, rfl⟩
      unfold couA
      repeat (first | rw [if_pos (by omega)] | rw [if_neg (by omega)])
    · refine x_tableIn C (tgt := 51) (3 : Int) ((rfl : (x : Int32).toInt = x.toInt).trans hs1e) dX10_count_1 (by decide) (by decide) rfl (by decide) ?_
      refine x_aload_n C dX10_count_51 (q := 52) rfl rfl 0 rfl ?_
      refine x_get C (ci := 9) (v := .int (nI nbo)) hw0 0 rfl rfl 29 (by decide) hw4 rfl dX10_count_52 (q := 55) rfl ?_
      refine x_iret C hA hQ hr dX10_count_55 (Nat.le_of_ble_eq_true rfl) ?_
      refine ⟨?_, rfl⟩
      unfold couA
      repeat (first | rw [if_pos (by omega)] | rw [if_neg (by omega)])
    · refine x_tableIn C (tgt := 56) (4 : Int) ((rfl : (x : Int32).toInt = x.toInt).trans hs1e) dX10_count_1 (by decide) (by decide) rfl (by decide) ?_
      refine x_aload_n C dX10_count_56 (q := 57) rfl rfl 0 rfl ?_
      refine x_get C (ci := 9) (v := .int (nI tn)) hw0 0 rfl rfl 31 (by decide) hw5 rfl dX10_count_57 (q := 60) rfl ?_
      refine x_iret C hA hQ hr dX10_count_60 (Nat.le_of_ble_eq_true rfl) ?_
      refine ⟨?_, rfl⟩
      unfold couA
      repeat (first | rw [if_pos (by omega)] | rw [if_neg (by omega)])

set_option maxHeartbeats 400000 in
set_option maxRecDepth 100000 in
/-- plan -/
theorem c_X10_plan (l : Launch) (D : va_G) (cy : Nat → ClassId) (mo : Nat) (mr : Nat → Nat) (cols : Nat) (lc : Nat) (smp : Nat) (mk : Nat) (rs : Nat) (nse : Nat) (npa : Nat) (nbo : Nat) (tn : Nat) (ik : Nat) (ky : Int32) (j0 : Int32) (j1 : Int32) (j2 : Int32) (j3 : Int32) (j4 : Int32) (fp9 : Nat → Int32) (gp9 : Nat → Int32) (x : Int32) (y : Int32) (hcols : cols ≤ 5) (hnpa : npa ≤ 8) : xMet l D cy xT yX10_plan wsX10_plan ({ frames := 3, cells := 0, slots := 0, locals := 400 } : Room) [.ref mo, .int (x), .int (y)] [(mo, .inr (9, [.int (nI cols), .int (nI lc), .int (nI smp), .int (ky), .ref (mr 0), .ref (mr 1), .ref (mr 2), .ref (mr 3), .ref (mr 4), .ref (mr 5), .ref (mr 6), .ref (mr 7), .ref (mr 8), .ref (mr 9), .int (nI mk), .int (nI rs), .ref (mr 10), .ref (mr 11), .ref (mr 12), .ref (mr 13), .ref (mr 14), .ref (mr 15), .ref (mr 16), .ref (mr 17), .ref (mr 18), .ref (mr 19), .ref (mr 20), .int (nI nse), .int (nI npa), .int (nI nbo), .ref (mr 21), .int (nI tn), .ref (mr 22), .int (nI ik), .int (j0), .int (j1), .ref (mr 23), .int (j2), .ref (mr 24), .ref (mr 25), .int (j3), .ref (mr 26), .int (j4), .ref (mr 27), .ref (mr 28), .ref (mr 29), .ref (mr 30)])), (mr 17, .inl (cy 1, 8, .inl fp9)), (mr 18, .inl (cy 1, 8, .inl gp9))] [] (fun (v9 : Option Value) (w9 : va_W) => (v9 = some (.int (plaA cols (npa, fp9, gp9) x y)) ∧ w9 = [(mo, .inr (9, [.int (nI cols), .int (nI lc), .int (nI smp), .int (ky), .ref (mr 0), .ref (mr 1), .ref (mr 2), .ref (mr 3), .ref (mr 4), .ref (mr 5), .ref (mr 6), .ref (mr 7), .ref (mr 8), .ref (mr 9), .int (nI mk), .int (nI rs), .ref (mr 10), .ref (mr 11), .ref (mr 12), .ref (mr 13), .ref (mr 14), .ref (mr 15), .ref (mr 16), .ref (mr 17), .ref (mr 18), .ref (mr 19), .ref (mr 20), .int (nI nse), .int (nI ((plaN cols (npa, fp9, gp9) x y).1)), .int (nI nbo), .ref (mr 21), .int (nI tn), .ref (mr 22), .int (nI ik), .int (j0), .int (j1), .ref (mr 23), .int (j2), .ref (mr 24), .ref (mr 25), .int (j3), .ref (mr 26), .int (j4), .ref (mr 27), .ref (mr 28), .ref (mr 29), .ref (mr 30)])), (mr 17, .inl (cy 1, 8, .inl ((plaN cols (npa, fp9, gp9) x y).2.1))), (mr 18, .inl (cy 1, 8, .inl ((plaN cols (npa, fp9, gp9) x y).2.2)))])) := by
  refine xMet_of (cc := cX10_plan) (maxL := 3) (ret := (some .int)) (by decide) rfl (Nat.le_of_ble_eq_true rfl) (fun p e s m args below meth c A R Q hA hR hQ C hr hnm hro hX => ?_)
  have hw0 : Jvm.Cond.constantLong RX10 379 (2) ∈ wsX10_plan := by decide +kernel
  have hw1 : ∀ w ∈ u_ws RX10 TX10 47, w ∈ wsX10_plan := by decide +kernel
  have hw2 : Cond.fieldLink RX10 148 (TX10 28).1 (TX10 28).2.1 (TX10 28).2.2.1 ∈ wsX10_plan := by decide +kernel
  have hw3 : Cond.fieldLink RX10 71 (TX10 23).1 (TX10 23).2.1 (TX10 23).2.2.1 ∈ wsX10_plan := by decide +kernel
  have hw4 : Cond.fieldLink RX10 74 (TX10 24).1 (TX10 24).2.1 (TX10 24).2.2.1 ∈ wsX10_plan := by decide +kernel
  have hw5 : Jvm.Cond.constantLong RX10 277 (24) ∈ wsX10_plan := by decide +kernel
  refine x_L (L' := [(0, .ref mo), (1, .int (x)), (2, .int (y))]) [0, 1, 2] rfl ?_
  refine x_iload_n C dX10_plan_0 (q := 1) rfl rfl 1 rfl ?_
  refine x_iconst C dX10_plan_1 (q := 2) rfl (v := (-1)) (by decide) ?_
  refine x_icmp_ne C (tgt := 12) dX10_plan_2 (by decide) (q := 5) rfl (a := x.toInt) (b := (-1)) rfl rfl (fun h1 => ?_) (fun h1 => ?_)
  · first
    | (exfalso; omega)
    |
      refine x_iload_n C dX10_plan_12 (q := 13) rfl rfl 1 rfl ?_
      refine x_i2l C dX10_plan_13 (q := 14) rfl (v := x.toInt64) (rfl) ?_
      refine x_lconst C dX10_plan_14 (q := 15) rfl (v := lN 0) rfl ?_
      refine x_ldc2 C (v := lN 2) hw0 dX10_plan_15 (q := 18) rfl ?_
      refine x_callS C (roW := []) (roR := []) (c_X10_in l D cy x.toInt64 (lN 0) (lN 2) x.toInt 0 2 (xl_wide rfl) rfl rfl) (cwS 3 C.2.2.2.2.1 gX10_plan_X10_in rfl rfl rfl (by decide +kernel) (by rw [hR]; exact ⟨Nat.le_of_ble_eq_true rfl, Nat.le_of_ble_eq_true rfl⟩)) [] [] rfl (by decide) rfl (by decide) xro_nil xT_bl (fun _ _ _ _ _ _ _ => trivial) rfl rfl dX10_plan_18 rfl rfl (Nat.le_of_ble_eq_true rfl) (q := 21) rfl (k' := 0) rfl (n' := 0) rfl (by rw [hR]; exact ⟨Nat.le_of_ble_eq_true rfl, Nat.le_of_ble_eq_true rfl⟩) (fun v2 w2 hp2 => ?_)
      rcases hp2 with hp2 | hp2
      · skip
        obtain ⟨rfl, rfl, hc3, hc4⟩ := hp2
        refine x_ws (ws' := [(mo, .inr (9, [.int (nI cols), .int (nI lc), .int (nI smp), .int (ky), .ref (mr 0), .ref (mr 1), .ref (mr 2), .ref (mr 3), .ref (mr 4), .ref (mr 5), .ref (mr 6), .ref (mr 7), .ref (mr 8), .ref (mr 9), .int (nI mk), .int (nI rs), .ref (mr 10), .ref (mr 11), .ref (mr 12), .ref (mr 13), .ref (mr 14), .ref (mr 15), .ref (mr 16), .ref (mr 17), .ref (mr 18), .ref (mr 19), .ref (mr 20), .int (nI nse), .int (nI npa), .int (nI nbo), .ref (mr 21), .int (nI tn), .ref (mr 22), .int (nI ik), .int (j0), .int (j1), .ref (mr 23), .int (j2), .ref (mr 24), .ref (mr 25), .int (j3), .ref (mr 26), .int (j4), .ref (mr 27), .ref (mr 28), .ref (mr 29), .ref (mr 30)])), (mr 17, .inl (cy 1, 8, .inl fp9)), (mr 18, .inl (cy 1, 8, .inl gp9))]) (List.append_nil _) ?_
        refine x_if_eq C (tgt := 42) dX10_plan_21 (by decide) (q := 24) rfl (a := 1) rfl (fun h5 => (by omega : False).elim) (fun h5 => ?_)
        have cut44 : (¬ (x.toInt = 1 ∧ ¬ y.toInt = -1 ∧ (y.toInt < 0 ∨ cols ≤ y.toInt))) → xG p l e R s m args below meth c Q D A 3 [(mo, .inr (9, [.int (nI cols), .int (nI lc), .int (nI smp), .int (ky), .ref (mr 0), .ref (mr 1), .ref (mr 2), .ref (mr 3), .ref (mr 4), .ref (mr 5), .ref (mr 6), .ref (mr 7), .ref (mr 8), .ref (mr 9), .int (nI mk), .int (nI rs), .ref (mr 10), .ref (mr 11), .ref (mr 12), .ref (mr 13), .ref (mr 14), .ref (mr 15), .ref (mr 16), .ref (mr 17), .ref (mr 18), .ref (mr 19), .ref (mr 20), .int (nI nse), .int (nI npa), .int (nI nbo), .ref (mr 21), .int (nI tn), .ref (mr 22), .int (nI ik), .int (j0), .int (j1), .ref (mr 23), .int (j2), .ref (mr 24), .ref (mr 25), .int (j3), .ref (mr 26), .int (j4), .ref (mr 27), .ref (mr 28), .ref (mr 29), .ref (mr 30)])), (mr 17, .inl (cy 1, 8, .inl fp9)), (mr 18, .inl (cy 1, 8, .inl gp9))] 0 0 44 [(0, .ref mo), (1, .int (x)), (2, .int (y))] [] := by
          intro  h50
          refine x_iload_n C dX10_plan_44 (q := 45) rfl rfl 1 rfl ?_
          have cut63 : (¬ (x.toInt = 0 ∧ (y.toInt < 0 ∨ 24 < y.toInt))) → xG p l e R s m args below meth c Q D A 3 [(mo, .inr (9, [.int (nI cols), .int (nI lc), .int (nI smp), .int (ky), .ref (mr 0), .ref (mr 1), .ref (mr 2), .ref (mr 3), .ref (mr 4), .ref (mr 5), .ref (mr 6), .ref (mr 7), .ref (mr 8), .ref (mr 9), .int (nI mk), .int (nI rs), .ref (mr 10), .ref (mr 11), .ref (mr 12), .ref (mr 13), .ref (mr 14), .ref (mr 15), .ref (mr 16), .ref (mr 17), .ref (mr 18), .ref (mr 19), .ref (mr 20), .int (nI nse), .int (nI npa), .int (nI nbo), .ref (mr 21), .int (nI tn), .ref (mr 22), .int (nI ik), .int (j0), .int (j1), .ref (mr 23), .int (j2), .ref (mr 24), .ref (mr 25), .int (j3), .ref (mr 26), .int (j4), .ref (mr 27), .ref (mr 28), .ref (mr 29), .ref (mr 30)])), (mr 17, .inl (cy 1, 8, .inl fp9)), (mr 18, .inl (cy 1, 8, .inl gp9))] 0 0 63 [(0, .ref mo), (1, .int (x)), (2, .int (y))] [] := by
            intro  h67
            refine x_aload_n C dX10_plan_63 (q := 64) rfl rfl 0 rfl ?_
            refine x_get C (ci := 9) (v := .int (nI npa)) hw1 0 rfl rfl 28 (by decide) hw2 rfl dX10_plan_64 (q := 67) rfl ?_
            refine x_bipush C dX10_plan_67 (q := 69) rfl (v := nI 8) (by decide) ?_
            refine x_icmp_ne C (tgt := 75) dX10_plan_69 (by decide) (q := 72) rfl (a := ((npa : Nat) : Int)) (b := 8) (nI_toInt (by omega)) rfl (fun h6 => ?_) (fun h6 => ?_)
            · first
              | (exfalso; omega)
              |
                refine x_aload_n C dX10_plan_75 (q := 76) rfl rfl 0 rfl ?_
                refine x_get C (ci := 9) (v := .ref (mr 17)) hw1 0 rfl rfl 23 (by decide) hw3 rfl dX10_plan_76 (q := 79) rfl ?_
                refine x_aload_n C dX10_plan_79 (q := 80) rfl rfl 0 rfl ?_
                refine x_get C (ci := 9) (v := .int (nI npa)) hw1 0 rfl rfl 28 (by decide) hw2 rfl dX10_plan_80 (q := 83) rfl ?_
                refine x_iload_n C dX10_plan_83 (q := 84) rfl rfl 1 rfl ?_
                refine x_iast C (ws' := [(mo, .inr (9, [.int (nI cols), .int (nI lc), .int (nI smp), .int (ky), .ref (mr 0), .ref (mr 1), .ref (mr 2), .ref (mr 3), .ref (mr 4), .ref (mr 5), .ref (mr 6), .ref (mr 7), .ref (mr 8), .ref (mr 9), .int (nI mk), .int (nI rs), .ref (mr 10), .ref (mr 11), .ref (mr 12), .ref (mr 13), .ref (mr 14), .ref (mr 15), .ref (mr 16), .ref (mr 17), .ref (mr 18), .ref (mr 19), .ref (mr 20), .int (nI nse), .int (nI npa), .int (nI nbo), .ref (mr 21), .int (nI tn), .ref (mr 22), .int (nI ik), .int (j0), .int (j1), .ref (mr 23), .int (j2), .ref (mr 24), .ref (mr 25), .int (j3), .ref (mr 26), .int (j4), .ref (mr 27), .ref (mr 28), .ref (mr 29), .ref (mr 30)])), (mr 17, .inl (cy 1, 8, .inl (va_up fp9 npa x))), (mr 18, .inl (cy 1, 8, .inl gp9))]) 1 rfl (j := npa) (nI_toInt (by omega)) (by omega) (rfl) rfl dX10_plan_84 (q := 85) rfl ?_
                refine x_aload_n C dX10_plan_85 (q := 86) rfl rfl 0 rfl ?_
                refine x_get C (ci := 9) (v := .ref (mr 18)) hw1 0 rfl rfl 24 (by decide) hw4 rfl dX10_plan_86 (q := 89) rfl ?_
                refine x_aload_n C dX10_plan_89 (q := 90) rfl rfl 0 rfl ?_
                refine x_get C (ci := 9) (v := .int (nI npa)) hw1 0 rfl rfl 28 (by decide) hw2 rfl dX10_plan_90 (q := 93) rfl ?_
                refine x_iload_n C dX10_plan_93 (q := 94) rfl rfl 2 rfl ?_
                refine x_iast C (ws' := [(mo, .inr (9, [.int (nI cols), .int (nI lc), .int (nI smp), .int (ky), .ref (mr 0), .ref (mr 1), .ref (mr 2), .ref (mr 3), .ref (mr 4), .ref (mr 5), .ref (mr 6), .ref (mr 7), .ref (mr 8), .ref (mr 9), .int (nI mk), .int (nI rs), .ref (mr 10), .ref (mr 11), .ref (mr 12), .ref (mr 13), .ref (mr 14), .ref (mr 15), .ref (mr 16), .ref (mr 17), .ref (mr 18), .ref (mr 19), .ref (mr 20), .int (nI nse), .int (nI npa), .int (nI nbo), .ref (mr 21), .int (nI tn), .ref (mr 22), .int (nI ik), .int (j0), .int (j1), .ref (mr 23), .int (j2), .ref (mr 24), .ref (mr 25), .int (j3), .ref (mr 26), .int (j4), .ref (mr 27), .ref (mr 28), .ref (mr 29), .ref (mr 30)])), (mr 17, .inl (cy 1, 8, .inl (va_up fp9 npa x))), (mr 18, .inl (cy 1, 8, .inl (va_up gp9 npa y)))]) 2 rfl (j := npa) (nI_toInt (by omega)) (by omega) (rfl) rfl dX10_plan_94 (q := 95) rfl ?_
                refine x_aload_n C dX10_plan_95 (q := 96) rfl rfl 0 rfl ?_
                refine x_dup C dX10_plan_96 (q := 97) rfl rfl ?_
                refine x_get C (ci := 9) (v := .int (nI npa)) hw1 0 rfl rfl 28 (by decide) hw2 rfl dX10_plan_97 (q := 100) rfl ?_
                refine x_iconst C dX10_plan_100 (q := 101) rfl (v := nI 1) (by decide) ?_
                refine x_iadd C dX10_plan_101 (q := 102) rfl (z := nI (npa + 1)) (nI_add npa 1) ?_
                refine x_put C (ci := 9) (ty := .int) (ws' := [(mo, .inr (9, [.int (nI cols), .int (nI lc), .int (nI smp), .int (ky), .ref (mr 0), .ref (mr 1), .ref (mr 2), .ref (mr 3), .ref (mr 4), .ref (mr 5), .ref (mr 6), .ref (mr 7), .ref (mr 8), .ref (mr 9), .int (nI mk), .int (nI rs), .ref (mr 10), .ref (mr 11), .ref (mr 12), .ref (mr 13), .ref (mr 14), .ref (mr 15), .ref (mr 16), .ref (mr 17), .ref (mr 18), .ref (mr 19), .ref (mr 20), .int (nI nse), .int (nI (npa + 1)), .int (nI nbo), .ref (mr 21), .int (nI tn), .ref (mr 22), .int (nI ik), .int (j0), .int (j1), .ref (mr 23), .int (j2), .ref (mr 24), .ref (mr 25), .int (j3), .ref (mr 26), .int (j4), .ref (mr 27), .ref (mr 28), .ref (mr 29), .ref (mr 30)])), (mr 17, .inl (cy 1, 8, .inl (va_up fp9 npa x))), (mr 18, .inl (cy 1, 8, .inl (va_up gp9 npa y)))]) hw1 tyX10 tyX10_ok nmX10 0 rfl rfl 28 (by decide) hw2 rfl (by decide +kernel) rfl rfl (Nat.le_of_ble_eq_true rfl) rfl dX10_plan_102 (q := 105) rfl ?_
                refine x_aload_n C dX10_plan_105 (q := 106) rfl rfl 0 rfl ?_
                refine x_get C (ci := 9) (v := .int (nI (npa + 1))) hw1 0 rfl rfl 28 (by decide) hw2 rfl dX10_plan_106 (q := 109) rfl ?_
                refine x_iret C hA hQ hr dX10_plan_109 (Nat.le_of_ble_eq_true rfl) ?_
                have hb9 : plaB cols x y = 3 := by
                  unfold plaB
                  repeat (first | rw [if_pos (by omega)] | rw [if_neg (by omega)])
                unfold plaA plaN enA enN
                rw [hb9]
                repeat (first | rw [if_pos (by omega)] | rw [if_neg (by omega)])
                exact ⟨rfl, rfl⟩
            · first
              | (exfalso; omega)
              |
                refine x_bipush C dX10_plan_72 (q := 74) rfl (v := (-4)) (by decide) ?_
                refine x_iret C hA hQ hr dX10_plan_74 (Nat.le_of_ble_eq_true rfl) ?_
                have hb9 : plaB cols x y = 3 := by
                  unfold plaB
                  repeat (first | rw [if_pos (by omega)] | rw [if_neg (by omega)])
                unfold plaA plaN enA enN
                rw [hb9]
                repeat (first | rw [if_pos (by omega)] | rw [if_neg (by omega)])
                exact ⟨rfl, rfl⟩
          refine x_if_ne C (tgt := 63) dX10_plan_45 (by decide) (q := 48) rfl (a := x.toInt) rfl (fun h7 => ?_) (fun h7 => ?_)
          · first
            | (exfalso; omega)
            |
              exact cut63  (by first | omega | assumption)
          · first
            | (exfalso; omega)
            |
              refine x_iload_n C dX10_plan_48 (q := 49) rfl rfl 2 rfl ?_
              refine x_i2l C dX10_plan_49 (q := 50) rfl (v := y.toInt64) (rfl) ?_
              refine x_lconst C dX10_plan_50 (q := 51) rfl (v := lN 0) rfl ?_
              refine x_ldc2 C (v := lN 24) hw5 dX10_plan_51 (q := 54) rfl ?_
              refine x_callS C (roW := []) (roR := []) (c_X10_in l D cy y.toInt64 (lN 0) (lN 24) y.toInt 0 24 (xl_wide rfl) rfl rfl) (cwS 3 C.2.2.2.2.1 gX10_plan_X10_in rfl rfl rfl (by decide +kernel) (by rw [hR]; exact ⟨Nat.le_of_ble_eq_true rfl, Nat.le_of_ble_eq_true rfl⟩)) [] [] rfl (by decide) rfl (by decide) xro_nil xT_bl (fun _ _ _ _ _ _ _ => trivial) rfl rfl dX10_plan_54 rfl rfl (Nat.le_of_ble_eq_true rfl) (q := 57) rfl (k' := 0) rfl (n' := 0) rfl (by rw [hR]; exact ⟨Nat.le_of_ble_eq_true rfl, Nat.le_of_ble_eq_true rfl⟩) (fun v8 w8 hp8 => ?_)
              rcases hp8 with hp8 | hp8
              · skip
                obtain ⟨rfl, rfl, hc9, hc10⟩ := hp8
                refine x_ws (ws' := [(mo, .inr (9, [.int (nI cols), .int (nI lc), .int (nI smp), .int (ky), .ref (mr 0), .ref (mr 1), .ref (mr 2), .ref (mr 3), .ref (mr 4), .ref (mr 5), .ref (mr 6), .ref (mr 7), .ref (mr 8), .ref (mr 9), .int (nI mk), .int (nI rs), .ref (mr 10), .ref (mr 11), .ref (mr 12), .ref (mr 13), .ref (mr 14), .ref (mr 15), .ref (mr 16), .ref (mr 17), .ref (mr 18), .ref (mr 19), .ref (mr 20), .int (nI nse), .int (nI npa), .int (nI nbo), .ref (mr 21), .int (nI tn), .ref (mr 22), .int (nI ik), .int (j0), .int (j1), .ref (mr 23), .int (j2), .ref (mr 24), .ref (mr 25), .int (j3), .ref (mr 26), .int (j4), .ref (mr 27), .ref (mr 28), .ref (mr 29), .ref (mr 30)])), (mr 17, .inl (cy 1, 8, .inl fp9)), (mr 18, .inl (cy 1, 8, .inl gp9))]) (List.append_nil _) ?_
                refine x_if_ne C (tgt := 63) dX10_plan_57 (by decide) (q := 60) rfl (a := 1) rfl (fun h11 => ?_) (fun h11 => (by omega : False).elim)
                exact cut63  (by first | omega | assumption)
              · skip
                obtain ⟨rfl, rfl, hc12⟩ := hp8
                refine x_ws (ws' := [(mo, .inr (9, [.int (nI cols), .int (nI lc), .int (nI smp), .int (ky), .ref (mr 0), .ref (mr 1), .ref (mr 2), .ref (mr 3), .ref (mr 4), .ref (mr 5), .ref (mr 6), .ref (mr 7), .ref (mr 8), .ref (mr 9), .int (nI mk), .int (nI rs), .ref (mr 10), .ref (mr 11), .ref (mr 12), .ref (mr 13), .ref (mr 14), .ref (mr 15), .ref (mr 16), .ref (mr 17), .ref (mr 18), .ref (mr 19), .ref (mr 20), .int (nI nse), .int (nI npa), .int (nI nbo), .ref (mr 21), .int (nI tn), .ref (mr 22), .int (nI ik), .int (j0), .int (j1), .ref (mr 23), .int (j2), .ref (mr 24), .ref (mr 25), .int (j3), .ref (mr 26), .int (j4), .ref (mr 27), .ref (mr 28), .ref (mr 29), .ref (mr 30)])), (mr 17, .inl (cy 1, 8, .inl fp9)), (mr 18, .inl (cy 1, 8, .inl gp9))]) (List.append_nil _) ?_
                refine x_if_ne C (tgt := 63) dX10_plan_57 (by decide) (q := 60) rfl (a := 0) rfl (fun h13 => (by omega : False).elim) (fun h13 => ?_)
                refine x_bipush C dX10_plan_60 (q := 62) rfl (v := (-2)) (by decide) ?_
                refine x_iret C hA hQ hr dX10_plan_62 (Nat.le_of_ble_eq_true rfl) ?_
                have hb9 : plaB cols x y = 2 := by
                  unfold plaB
                  repeat (first | rw [if_pos (by omega)] | rw [if_neg (by omega)])
                unfold plaA plaN enA enN
                rw [hb9]
                repeat (first | rw [if_pos (by omega)] | rw [if_neg (by omega)])
                exact ⟨rfl, rfl⟩
        refine x_iload_n C dX10_plan_24 (q := 25) rfl rfl 1 rfl ?_
        refine x_iconst C dX10_plan_25 (q := 26) rfl (v := nI 1) (by decide) ?_
        refine x_icmp_ne C (tgt := 44) dX10_plan_26 (by decide) (q := 29) rfl (a := x.toInt) (b := 1) rfl rfl (fun h14 => ?_) (fun h14 => ?_)
        · first
          | (exfalso; omega)
          |
            exact cut44  (by first | omega | assumption)
        · first
          | (exfalso; omega)
          |
            refine x_iload_n C dX10_plan_29 (q := 30) rfl rfl 2 rfl ?_
            refine x_iconst C dX10_plan_30 (q := 31) rfl (v := (-1)) (by decide) ?_
            refine x_icmp_eq C (tgt := 44) dX10_plan_31 (by decide) (q := 34) rfl (a := y.toInt) (b := (-1)) rfl rfl (fun h15 => ?_) (fun h15 => ?_)
            · first
              | (exfalso; omega)
              |
                exact cut44  (by first | omega | assumption)
            · first
              | (exfalso; omega)
              |
                refine x_aload_n C dX10_plan_34 (q := 35) rfl rfl 0 rfl ?_
                refine x_iload_n C dX10_plan_35 (q := 36) rfl rfl 2 rfl ?_
                refine x_callV C (roW := []) (roR := []) (c_X10_isColumn l D cy mo mr cols lc smp mk rs nse npa nbo tn ik ky j0 j1 j2 j3 j4 y (by first | assumption | omega | (simp only []; omega))) (cwV 1 C.2.2.2.2.1 gX10_plan_X10_isColumn rfl rfl rfl (by decide +kernel) (by rw [hR]; exact ⟨Nat.le_of_ble_eq_true rfl, Nat.le_of_ble_eq_true rfl⟩)) [0] [] rfl (by decide) rfl (by decide) xro_nil (List.mem_of_getElem? (i := 0) rfl) (ci := 9) rfl xT_bl (fun _ _ _ _ _ _ _ => trivial) rfl rfl dX10_plan_36 rfl rfl (Nat.le_of_ble_eq_true rfl) (q := 39) rfl (k' := 0) rfl (n' := 0) rfl (by rw [hR]; exact ⟨Nat.le_of_ble_eq_true rfl, Nat.le_of_ble_eq_true rfl⟩) (fun v16 w16 hp16 => ?_)
                rcases hp16 with hp16 | hp16
                · skip
                  obtain ⟨rfl, rfl, hc17, hc18⟩ := hp16
                  refine x_ws (ws' := [(mo, .inr (9, [.int (nI cols), .int (nI lc), .int (nI smp), .int (ky), .ref (mr 0), .ref (mr 1), .ref (mr 2), .ref (mr 3), .ref (mr 4), .ref (mr 5), .ref (mr 6), .ref (mr 7), .ref (mr 8), .ref (mr 9), .int (nI mk), .int (nI rs), .ref (mr 10), .ref (mr 11), .ref (mr 12), .ref (mr 13), .ref (mr 14), .ref (mr 15), .ref (mr 16), .ref (mr 17), .ref (mr 18), .ref (mr 19), .ref (mr 20), .int (nI nse), .int (nI npa), .int (nI nbo), .ref (mr 21), .int (nI tn), .ref (mr 22), .int (nI ik), .int (j0), .int (j1), .ref (mr 23), .int (j2), .ref (mr 24), .ref (mr 25), .int (j3), .ref (mr 26), .int (j4), .ref (mr 27), .ref (mr 28), .ref (mr 29), .ref (mr 30)])), (mr 17, .inl (cy 1, 8, .inl fp9)), (mr 18, .inl (cy 1, 8, .inl gp9))]) rfl ?_
                  refine x_if_ne C (tgt := 44) dX10_plan_39 (by decide) (q := 42) rfl (a := 1) rfl (fun h19 => ?_) (fun h19 => (by omega : False).elim)
                  exact cut44  (by first | omega | assumption)
                · skip
                  obtain ⟨rfl, rfl, hc20⟩ := hp16
                  refine x_ws (ws' := [(mo, .inr (9, [.int (nI cols), .int (nI lc), .int (nI smp), .int (ky), .ref (mr 0), .ref (mr 1), .ref (mr 2), .ref (mr 3), .ref (mr 4), .ref (mr 5), .ref (mr 6), .ref (mr 7), .ref (mr 8), .ref (mr 9), .int (nI mk), .int (nI rs), .ref (mr 10), .ref (mr 11), .ref (mr 12), .ref (mr 13), .ref (mr 14), .ref (mr 15), .ref (mr 16), .ref (mr 17), .ref (mr 18), .ref (mr 19), .ref (mr 20), .int (nI nse), .int (nI npa), .int (nI nbo), .ref (mr 21), .int (nI tn), .ref (mr 22), .int (nI ik), .int (j0), .int (j1), .ref (mr 23), .int (j2), .ref (mr 24), .ref (mr 25), .int (j3), .ref (mr 26), .int (j4), .ref (mr 27), .ref (mr 28), .ref (mr 29), .ref (mr 30)])), (mr 17, .inl (cy 1, 8, .inl fp9)), (mr 18, .inl (cy 1, 8, .inl gp9))]) rfl ?_
                  refine x_if_ne C (tgt := 44) dX10_plan_39 (by decide) (q := 42) rfl (a := 0) rfl (fun h21 => (by omega : False).elim) (fun h21 => ?_)
                  refine x_iconst C dX10_plan_42 (q := 43) rfl (v := (-1)) (by decide) ?_
                  refine x_iret C hA hQ hr dX10_plan_43 (Nat.le_of_ble_eq_true rfl) ?_
                  have hb9 : plaB cols x y = 1 := by
                    unfold plaB
                    repeat (first | rw [if_pos (by omega)] | rw [if_neg (by omega)])
                  unfold plaA plaN enA enN
                  rw [hb9]
                  repeat (first | rw [if_pos (by omega)] | rw [if_neg (by omega)])
                  exact ⟨rfl, rfl⟩
      · skip
        obtain ⟨rfl, rfl, hc22⟩ := hp2
        refine x_ws (ws' := [(mo, .inr (9, [.int (nI cols), .int (nI lc), .int (nI smp), .int (ky), .ref (mr 0), .ref (mr 1), .ref (mr 2), .ref (mr 3), .ref (mr 4), .ref (mr 5), .ref (mr 6), .ref (mr 7), .ref (mr 8), .ref (mr 9), .int (nI mk), .int (nI rs), .ref (mr 10), .ref (mr 11), .ref (mr 12), .ref (mr 13), .ref (mr 14), .ref (mr 15), .ref (mr 16), .ref (mr 17), .ref (mr 18), .ref (mr 19), .ref (mr 20), .int (nI nse), .int (nI npa), .int (nI nbo), .ref (mr 21), .int (nI tn), .ref (mr 22), .int (nI ik), .int (j0), .int (j1), .ref (mr 23), .int (j2), .ref (mr 24), .ref (mr 25), .int (j3), .ref (mr 26), .int (j4), .ref (mr 27), .ref (mr 28), .ref (mr 29), .ref (mr 30)])), (mr 17, .inl (cy 1, 8, .inl fp9)), (mr 18, .inl (cy 1, 8, .inl gp9))]) (List.append_nil _) ?_
        refine x_if_eq C (tgt := 42) dX10_plan_21 (by decide) (q := 24) rfl (a := 0) rfl (fun h23 => ?_) (fun h23 => (by omega : False).elim)
        refine x_iconst C dX10_plan_42 (q := 43) rfl (v := (-1)) (by decide) ?_
        refine x_iret C hA hQ hr dX10_plan_43 (Nat.le_of_ble_eq_true rfl) ?_
        have hb9 : plaB cols x y = 1 := by
          unfold plaB
          repeat (first | rw [if_pos (by omega)] | rw [if_neg (by omega)])
        unfold plaA plaN enA enN
        rw [hb9]
        repeat (first | rw [if_pos (by omega)] | rw [if_neg (by omega)])
        exact ⟨rfl, rfl⟩
  · first
    | (exfalso; omega)
    |
      refine x_aload_n C dX10_plan_5 (q := 6) rfl rfl 0 rfl ?_
      refine x_iconst C dX10_plan_6 (q := 7) rfl (v := nI 0) (by decide) ?_
      refine x_put C (ci := 9) (ty := .int) (ws' := [(mo, .inr (9, [.int (nI cols), .int (nI lc), .int (nI smp), .int (ky), .ref (mr 0), .ref (mr 1), .ref (mr 2), .ref (mr 3), .ref (mr 4), .ref (mr 5), .ref (mr 6), .ref (mr 7), .ref (mr 8), .ref (mr 9), .int (nI mk), .int (nI rs), .ref (mr 10), .ref (mr 11), .ref (mr 12), .ref (mr 13), .ref (mr 14), .ref (mr 15), .ref (mr 16), .ref (mr 17), .ref (mr 18), .ref (mr 19), .ref (mr 20), .int (nI nse), .int (nI 0), .int (nI nbo), .ref (mr 21), .int (nI tn), .ref (mr 22), .int (nI ik), .int (j0), .int (j1), .ref (mr 23), .int (j2), .ref (mr 24), .ref (mr 25), .int (j3), .ref (mr 26), .int (j4), .ref (mr 27), .ref (mr 28), .ref (mr 29), .ref (mr 30)])), (mr 17, .inl (cy 1, 8, .inl fp9)), (mr 18, .inl (cy 1, 8, .inl gp9))]) hw1 tyX10 tyX10_ok nmX10 0 rfl rfl 28 (by decide) hw2 rfl (by decide +kernel) rfl rfl (Nat.le_of_ble_eq_true rfl) rfl dX10_plan_7 (q := 10) rfl ?_
      refine x_iconst C dX10_plan_10 (q := 11) rfl (v := nI 0) (by decide) ?_
      refine x_iret C hA hQ hr dX10_plan_11 (Nat.le_of_ble_eq_true rfl) ?_
      have hb9 : plaB cols x y = 0 := by
        unfold plaB
        repeat (first | rw [if_pos (by omega)] | rw [if_neg (by omega)])
      unfold plaA plaN enA enN
      rw [hb9]
      repeat (first | rw [if_pos (by omega)] | rw [if_neg (by omega)])
      exact ⟨rfl, rfl⟩

set_option maxHeartbeats 400000 in
set_option maxRecDepth 100000 in
/-- book -/
theorem c_X10_book (l : Launch) (D : va_G) (cy : Nat → ClassId) (mo : Nat) (mr : Nat → Nat) (cols : Nat) (lc : Nat) (smp : Nat) (mk : Nat) (rs : Nat) (nse : Nat) (npa : Nat) (nbo : Nat) (tn : Nat) (ik : Nat) (ky : Int32) (j0 : Int32) (j1 : Int32) (j2 : Int32) (j3 : Int32) (j4 : Int32) (fb9 : Nat → Int32) (gb9 : Nat → Int32) (x : Int32) (y : Int32) (hcols : cols ≤ 5) (hnbo : nbo ≤ 8) : xMet l D cy xT yX10_book wsX10_book ({ frames := 3, cells := 0, slots := 0, locals := 400 } : Room) [.ref mo, .int (x), .int (y)] [(mo, .inr (9, [.int (nI cols), .int (nI lc), .int (nI smp), .int (ky), .ref (mr 0), .ref (mr 1), .ref (mr 2), .ref (mr 3), .ref (mr 4), .ref (mr 5), .ref (mr 6), .ref (mr 7), .ref (mr 8), .ref (mr 9), .int (nI mk), .int (nI rs), .ref (mr 10), .ref (mr 11), .ref (mr 12), .ref (mr 13), .ref (mr 14), .ref (mr 15), .ref (mr 16), .ref (mr 17), .ref (mr 18), .ref (mr 19), .ref (mr 20), .int (nI nse), .int (nI npa), .int (nI nbo), .ref (mr 21), .int (nI tn), .ref (mr 22), .int (nI ik), .int (j0), .int (j1), .ref (mr 23), .int (j2), .ref (mr 24), .ref (mr 25), .int (j3), .ref (mr 26), .int (j4), .ref (mr 27), .ref (mr 28), .ref (mr 29), .ref (mr 30)])), (mr 19, .inl (cy 1, 8, .inl fb9)), (mr 20, .inl (cy 1, 8, .inl gb9))] [] (fun (v9 : Option Value) (w9 : va_W) => (v9 = some (.int (booA cols (nbo, fb9, gb9) x y)) ∧ w9 = [(mo, .inr (9, [.int (nI cols), .int (nI lc), .int (nI smp), .int (ky), .ref (mr 0), .ref (mr 1), .ref (mr 2), .ref (mr 3), .ref (mr 4), .ref (mr 5), .ref (mr 6), .ref (mr 7), .ref (mr 8), .ref (mr 9), .int (nI mk), .int (nI rs), .ref (mr 10), .ref (mr 11), .ref (mr 12), .ref (mr 13), .ref (mr 14), .ref (mr 15), .ref (mr 16), .ref (mr 17), .ref (mr 18), .ref (mr 19), .ref (mr 20), .int (nI nse), .int (nI npa), .int (nI ((booN cols (nbo, fb9, gb9) x y).1)), .ref (mr 21), .int (nI tn), .ref (mr 22), .int (nI ik), .int (j0), .int (j1), .ref (mr 23), .int (j2), .ref (mr 24), .ref (mr 25), .int (j3), .ref (mr 26), .int (j4), .ref (mr 27), .ref (mr 28), .ref (mr 29), .ref (mr 30)])), (mr 19, .inl (cy 1, 8, .inl ((booN cols (nbo, fb9, gb9) x y).2.1))), (mr 20, .inl (cy 1, 8, .inl ((booN cols (nbo, fb9, gb9) x y).2.2)))])) := by
  refine xMet_of (cc := cX10_book) (maxL := 3) (ret := (some .int)) (by decide) rfl (Nat.le_of_ble_eq_true rfl) (fun p e s m args below meth c A R Q hA hR hQ C hr hnm hro hX => ?_)
  have hw0 : Jvm.Cond.constantLong RX10 282 (4) ∈ wsX10_book := by decide +kernel
  have hw1 : ∀ w ∈ u_ws RX10 TX10 47, w ∈ wsX10_book := by decide +kernel
  have hw2 : Cond.fieldLink RX10 151 (TX10 29).1 (TX10 29).2.1 (TX10 29).2.2.1 ∈ wsX10_book := by decide +kernel
  have hw3 : Cond.fieldLink RX10 77 (TX10 25).1 (TX10 25).2.1 (TX10 25).2.2.1 ∈ wsX10_book := by decide +kernel
  have hw4 : Cond.fieldLink RX10 80 (TX10 26).1 (TX10 26).2.1 (TX10 26).2.2.1 ∈ wsX10_book := by decide +kernel
  refine x_L (L' := [(0, .ref mo), (1, .int (x)), (2, .int (y))]) [0, 1, 2] rfl ?_
  refine x_iload_n C dX10_book_0 (q := 1) rfl rfl 1 rfl ?_
  refine x_iconst C dX10_book_1 (q := 2) rfl (v := (-1)) (by decide) ?_
  refine x_icmp_ne C (tgt := 12) dX10_book_2 (by decide) (q := 5) rfl (a := x.toInt) (b := (-1)) rfl rfl (fun h1 => ?_) (fun h1 => ?_)
  · first
    | (exfalso; omega)
    |
      refine x_aload_n C dX10_book_12 (q := 13) rfl rfl 0 rfl ?_
      refine x_iload_n C dX10_book_13 (q := 14) rfl rfl 1 rfl ?_
      refine x_callV C (roW := []) (roR := []) (c_X10_isColumn l D cy mo mr cols lc smp mk rs nse npa nbo tn ik ky j0 j1 j2 j3 j4 x (by first | assumption | omega | (simp only []; omega))) (cwV 1 C.2.2.2.2.1 gX10_book_X10_isColumn rfl rfl rfl (by decide +kernel) (by rw [hR]; exact ⟨Nat.le_of_ble_eq_true rfl, Nat.le_of_ble_eq_true rfl⟩)) [0] [] rfl (by decide) rfl (by decide) xro_nil (List.mem_of_getElem? (i := 0) rfl) (ci := 9) rfl xT_bl (fun _ _ _ _ _ _ _ => trivial) rfl rfl dX10_book_14 rfl rfl (Nat.le_of_ble_eq_true rfl) (q := 17) rfl (k' := 0) rfl (n' := 0) rfl (by rw [hR]; exact ⟨Nat.le_of_ble_eq_true rfl, Nat.le_of_ble_eq_true rfl⟩) (fun v2 w2 hp2 => ?_)
      rcases hp2 with hp2 | hp2
      · skip
        obtain ⟨rfl, rfl, hc3, hc4⟩ := hp2
        refine x_ws (ws' := [(mo, .inr (9, [.int (nI cols), .int (nI lc), .int (nI smp), .int (ky), .ref (mr 0), .ref (mr 1), .ref (mr 2), .ref (mr 3), .ref (mr 4), .ref (mr 5), .ref (mr 6), .ref (mr 7), .ref (mr 8), .ref (mr 9), .int (nI mk), .int (nI rs), .ref (mr 10), .ref (mr 11), .ref (mr 12), .ref (mr 13), .ref (mr 14), .ref (mr 15), .ref (mr 16), .ref (mr 17), .ref (mr 18), .ref (mr 19), .ref (mr 20), .int (nI nse), .int (nI npa), .int (nI nbo), .ref (mr 21), .int (nI tn), .ref (mr 22), .int (nI ik), .int (j0), .int (j1), .ref (mr 23), .int (j2), .ref (mr 24), .ref (mr 25), .int (j3), .ref (mr 26), .int (j4), .ref (mr 27), .ref (mr 28), .ref (mr 29), .ref (mr 30)])), (mr 19, .inl (cy 1, 8, .inl fb9)), (mr 20, .inl (cy 1, 8, .inl gb9))]) rfl ?_
        refine x_if_ne C (tgt := 22) dX10_book_17 (by decide) (q := 20) rfl (a := 1) rfl (fun h5 => ?_) (fun h5 => (by omega : False).elim)
        refine x_iload_n C dX10_book_22 (q := 23) rfl rfl 2 rfl ?_
        refine x_i2l C dX10_book_23 (q := 24) rfl (v := y.toInt64) (rfl) ?_
        refine x_lconst C dX10_book_24 (q := 25) rfl (v := lN 1) rfl ?_
        refine x_ldc2 C (v := lN 4) hw0 dX10_book_25 (q := 28) rfl ?_
        refine x_callS C (roW := []) (roR := []) (c_X10_in l D cy y.toInt64 (lN 1) (lN 4) y.toInt 1 4 (xl_wide rfl) rfl rfl) (cwS 3 C.2.2.2.2.1 gX10_book_X10_in rfl rfl rfl (by decide +kernel) (by rw [hR]; exact ⟨Nat.le_of_ble_eq_true rfl, Nat.le_of_ble_eq_true rfl⟩)) [] [] rfl (by decide) rfl (by decide) xro_nil xT_bl (fun _ _ _ _ _ _ _ => trivial) rfl rfl dX10_book_28 rfl rfl (Nat.le_of_ble_eq_true rfl) (q := 31) rfl (k' := 0) rfl (n' := 0) rfl (by rw [hR]; exact ⟨Nat.le_of_ble_eq_true rfl, Nat.le_of_ble_eq_true rfl⟩) (fun v6 w6 hp6 => ?_)
        rcases hp6 with hp6 | hp6
        · skip
          obtain ⟨rfl, rfl, hc7, hc8⟩ := hp6
          refine x_ws (ws' := [(mo, .inr (9, [.int (nI cols), .int (nI lc), .int (nI smp), .int (ky), .ref (mr 0), .ref (mr 1), .ref (mr 2), .ref (mr 3), .ref (mr 4), .ref (mr 5), .ref (mr 6), .ref (mr 7), .ref (mr 8), .ref (mr 9), .int (nI mk), .int (nI rs), .ref (mr 10), .ref (mr 11), .ref (mr 12), .ref (mr 13), .ref (mr 14), .ref (mr 15), .ref (mr 16), .ref (mr 17), .ref (mr 18), .ref (mr 19), .ref (mr 20), .int (nI nse), .int (nI npa), .int (nI nbo), .ref (mr 21), .int (nI tn), .ref (mr 22), .int (nI ik), .int (j0), .int (j1), .ref (mr 23), .int (j2), .ref (mr 24), .ref (mr 25), .int (j3), .ref (mr 26), .int (j4), .ref (mr 27), .ref (mr 28), .ref (mr 29), .ref (mr 30)])), (mr 19, .inl (cy 1, 8, .inl fb9)), (mr 20, .inl (cy 1, 8, .inl gb9))]) (List.append_nil _) ?_
          refine x_if_ne C (tgt := 37) dX10_book_31 (by decide) (q := 34) rfl (a := 1) rfl (fun h9 => ?_) (fun h9 => (by omega : False).elim)
          refine x_aload_n C dX10_book_37 (q := 38) rfl rfl 0 rfl ?_
          refine x_get C (ci := 9) (v := .int (nI nbo)) hw1 0 rfl rfl 29 (by decide) hw2 rfl dX10_book_38 (q := 41) rfl ?_
          refine x_bipush C dX10_book_41 (q := 43) rfl (v := nI 8) (by decide) ?_
          refine x_icmp_ne C (tgt := 49) dX10_book_43 (by decide) (q := 46) rfl (a := ((nbo : Nat) : Int)) (b := 8) (nI_toInt (by omega)) rfl (fun h10 => ?_) (fun h10 => ?_)
          · first
            | (exfalso; omega)
            |
              refine x_aload_n C dX10_book_49 (q := 50) rfl rfl 0 rfl ?_
              refine x_get C (ci := 9) (v := .ref (mr 19)) hw1 0 rfl rfl 25 (by decide) hw3 rfl dX10_book_50 (q := 53) rfl ?_
              refine x_aload_n C dX10_book_53 (q := 54) rfl rfl 0 rfl ?_
              refine x_get C (ci := 9) (v := .int (nI nbo)) hw1 0 rfl rfl 29 (by decide) hw2 rfl dX10_book_54 (q := 57) rfl ?_
              refine x_iload_n C dX10_book_57 (q := 58) rfl rfl 1 rfl ?_
              refine x_iast C (ws' := [(mo, .inr (9, [.int (nI cols), .int (nI lc), .int (nI smp), .int (ky), .ref (mr 0), .ref (mr 1), .ref (mr 2), .ref (mr 3), .ref (mr 4), .ref (mr 5), .ref (mr 6), .ref (mr 7), .ref (mr 8), .ref (mr 9), .int (nI mk), .int (nI rs), .ref (mr 10), .ref (mr 11), .ref (mr 12), .ref (mr 13), .ref (mr 14), .ref (mr 15), .ref (mr 16), .ref (mr 17), .ref (mr 18), .ref (mr 19), .ref (mr 20), .int (nI nse), .int (nI npa), .int (nI nbo), .ref (mr 21), .int (nI tn), .ref (mr 22), .int (nI ik), .int (j0), .int (j1), .ref (mr 23), .int (j2), .ref (mr 24), .ref (mr 25), .int (j3), .ref (mr 26), .int (j4), .ref (mr 27), .ref (mr 28), .ref (mr 29), .ref (mr 30)])), (mr 19, .inl (cy 1, 8, .inl (va_up fb9 nbo x))), (mr 20, .inl (cy 1, 8, .inl gb9))]) 1 rfl (j := nbo) (nI_toInt (by omega)) (by omega) (rfl) rfl dX10_book_58 (q := 59) rfl ?_
              refine x_aload_n C dX10_book_59 (q := 60) rfl rfl 0 rfl ?_
              refine x_get C (ci := 9) (v := .ref (mr 20)) hw1 0 rfl rfl 26 (by decide) hw4 rfl dX10_book_60 (q := 63) rfl ?_
              refine x_aload_n C dX10_book_63 (q := 64) rfl rfl 0 rfl ?_
              refine x_get C (ci := 9) (v := .int (nI nbo)) hw1 0 rfl rfl 29 (by decide) hw2 rfl dX10_book_64 (q := 67) rfl ?_
              refine x_iload_n C dX10_book_67 (q := 68) rfl rfl 2 rfl ?_
              refine x_iast C (ws' := [(mo, .inr (9, [.int (nI cols), .int (nI lc), .int (nI smp), .int (ky), .ref (mr 0), .ref (mr 1), .ref (mr 2), .ref (mr 3), .ref (mr 4), .ref (mr 5), .ref (mr 6), .ref (mr 7), .ref (mr 8), .ref (mr 9), .int (nI mk), .int (nI rs), .ref (mr 10), .ref (mr 11), .ref (mr 12), .ref (mr 13), .ref (mr 14), .ref (mr 15), .ref (mr 16), .ref (mr 17), .ref (mr 18), .ref (mr 19), .ref (mr 20), .int (nI nse), .int (nI npa), .int (nI nbo), .ref (mr 21), .int (nI tn), .ref (mr 22), .int (nI ik), .int (j0), .int (j1), .ref (mr 23), .int (j2), .ref (mr 24), .ref (mr 25), .int (j3), .ref (mr 26), .int (j4), .ref (mr 27), .ref (mr 28), .ref (mr 29), .ref (mr 30)])), (mr 19, .inl (cy 1, 8, .inl (va_up fb9 nbo x))), (mr 20, .inl (cy 1, 8, .inl (va_up gb9 nbo y)))]) 2 rfl (j := nbo) (nI_toInt (by omega)) (by omega) (rfl) rfl dX10_book_68 (q := 69) rfl ?_
              refine x_aload_n C dX10_book_69 (q := 70) rfl rfl 0 rfl ?_
              refine x_dup C dX10_book_70 (q := 71) rfl rfl ?_
              refine x_get C (ci := 9) (v := .int (nI nbo)) hw1 0 rfl rfl 29 (by decide) hw2 rfl dX10_book_71 (q := 74) rfl ?_
              refine x_iconst C dX10_book_74 (q := 75) rfl (v := nI 1) (by decide) ?_
              refine x_iadd C dX10_book_75 (q := 76) rfl (z := nI (nbo + 1)) (nI_add nbo 1) ?_
              refine x_put C (ci := 9) (ty := .int) (ws' := [(mo, .inr (9, [.int (nI cols), .int (nI lc), .int (nI smp), .int (ky), .ref (mr 0), .ref (mr 1), .ref (mr 2), .ref (mr 3), .ref (mr 4), .ref (mr 5), .ref (mr 6), .ref (mr 7), .ref (mr 8), .ref (mr 9), .int (nI mk), .int (nI rs), .ref (mr 10), .ref (mr 11), .ref (mr 12), .ref (mr 13), .ref (mr 14), .ref (mr 15), .ref (mr 16), .ref (mr 17), .ref (mr 18), .ref (mr 19), .ref (mr 20), .int (nI nse), .int (nI npa), .int (nI (nbo + 1)), .ref (mr 21), .int (nI tn), .ref (mr 22), .int (nI ik), .int (j0), .int (j1), .ref (mr 23), .int (j2), .ref (mr 24), .ref (mr 25), .int (j3), .ref (mr 26), .int (j4), .ref (mr 27), .ref (mr 28), .ref (mr 29), .ref (mr 30)])), (mr 19, .inl (cy 1, 8, .inl (va_up fb9 nbo x))), (mr 20, .inl (cy 1, 8, .inl (va_up gb9 nbo y)))]) hw1 tyX10 tyX10_ok nmX10 0 rfl rfl 29 (by decide) hw2 rfl (by decide +kernel) rfl rfl (Nat.le_of_ble_eq_true rfl) rfl dX10_book_76 (q := 79) rfl ?_
              refine x_aload_n C dX10_book_79 (q := 80) rfl rfl 0 rfl ?_
              refine x_get C (ci := 9) (v := .int (nI (nbo + 1))) hw1 0 rfl rfl 29 (by decide) hw2 rfl dX10_book_80 (q := 83) rfl ?_
              refine x_iret C hA hQ hr dX10_book_83 (Nat.le_of_ble_eq_true rfl) ?_
              unfold booA booN enA enN
              dsimp only
              repeat (first | rw [if_pos (by omega)] | rw [if_neg (by omega)])
              exact ⟨rfl, rfl⟩
          · first
            | (exfalso; omega)
            |
              refine x_bipush C dX10_book_46 (q := 48) rfl (v := (-4)) (by decide) ?_
              refine x_iret C hA hQ hr dX10_book_48 (Nat.le_of_ble_eq_true rfl) ?_
              unfold booA booN enA enN
              dsimp only
              repeat (first | rw [if_pos (by omega)] | rw [if_neg (by omega)])
              exact ⟨rfl, rfl⟩
        · skip
          obtain ⟨rfl, rfl, hc11⟩ := hp6
          refine x_ws (ws' := [(mo, .inr (9, [.int (nI cols), .int (nI lc), .int (nI smp), .int (ky), .ref (mr 0), .ref (mr 1), .ref (mr 2), .ref (mr 3), .ref (mr 4), .ref (mr 5), .ref (mr 6), .ref (mr 7), .ref (mr 8), .ref (mr 9), .int (nI mk), .int (nI rs), .ref (mr 10), .ref (mr 11), .ref (mr 12), .ref (mr 13), .ref (mr 14), .ref (mr 15), .ref (mr 16), .ref (mr 17), .ref (mr 18), .ref (mr 19), .ref (mr 20), .int (nI nse), .int (nI npa), .int (nI nbo), .ref (mr 21), .int (nI tn), .ref (mr 22), .int (nI ik), .int (j0), .int (j1), .ref (mr 23), .int (j2), .ref (mr 24), .ref (mr 25), .int (j3), .ref (mr 26), .int (j4), .ref (mr 27), .ref (mr 28), .ref (mr 29), .ref (mr 30)])), (mr 19, .inl (cy 1, 8, .inl fb9)), (mr 20, .inl (cy 1, 8, .inl gb9))]) (List.append_nil _) ?_
          refine x_if_ne C (tgt := 37) dX10_book_31 (by decide) (q := 34) rfl (a := 0) rfl (fun h12 => (by omega : False).elim) (fun h12 => ?_)
          refine x_bipush C dX10_book_34 (q := 36) rfl (v := (-2)) (by decide) ?_
          refine x_iret C hA hQ hr dX10_book_36 (Nat.le_of_ble_eq_true rfl) ?_
          unfold booA booN enA enN
          dsimp only
          repeat (first | rw [if_pos (by omega)] | rw [if_neg (by omega)])
          exact ⟨rfl, rfl⟩
      · skip
        obtain ⟨rfl, rfl, hc13⟩ := hp2
        refine x_ws (ws' := [(mo, .inr (9, [.int (nI cols), .int (nI lc), .int (nI smp), .int (ky), .ref (mr 0), .ref (mr 1), .ref (mr 2), .ref (mr 3), .ref (mr 4), .ref (mr 5), .ref (mr 6), .ref (mr 7), .ref (mr 8), .ref (mr 9), .int (nI mk), .int (nI rs), .ref (mr 10), .ref (mr 11), .ref (mr 12), .ref (mr 13), .ref (mr 14), .ref (mr 15), .ref (mr 16), .ref (mr 17), .ref (mr 18), .ref (mr 19), .ref (mr 20), .int (nI nse), .int (nI npa), .int (nI nbo), .ref (mr 21), .int (nI tn), .ref (mr 22), .int (nI ik), .int (j0), .int (j1), .ref (mr 23), .int (j2), .ref (mr 24), .ref (mr 25), .int (j3), .ref (mr 26), .int (j4), .ref (mr 27), .ref (mr 28), .ref (mr 29), .ref (mr 30)])), (mr 19, .inl (cy 1, 8, .inl fb9)), (mr 20, .inl (cy 1, 8, .inl gb9))]) rfl ?_
        refine x_if_ne C (tgt := 22) dX10_book_17 (by decide) (q := 20) rfl (a := 0) rfl (fun h14 => (by omega : False).elim) (fun h14 => ?_)
        refine x_iconst C dX10_book_20 (q := 21) rfl (v := (-1)) (by decide) ?_
        refine x_iret C hA hQ hr dX10_book_21 (Nat.le_of_ble_eq_true rfl) ?_
        unfold booA booN enA enN
        dsimp only
        repeat (first | rw [if_pos (by omega)] | rw [if_neg (by omega)])
        exact ⟨rfl, rfl⟩
  · first
    | (exfalso; omega)
    |
      refine x_aload_n C dX10_book_5 (q := 6) rfl rfl 0 rfl ?_
      refine x_iconst C dX10_book_6 (q := 7) rfl (v := nI 0) (by decide) ?_
      refine x_put C (ci := 9) (ty := .int) (ws' := [(mo, .inr (9, [.int (nI cols), .int (nI lc), .int (nI smp), .int (ky), .ref (mr 0), .ref (mr 1), .ref (mr 2), .ref (mr 3), .ref (mr 4), .ref (mr 5), .ref (mr 6), .ref (mr 7), .ref (mr 8), .ref (mr 9), .int (nI mk), .int (nI rs), .ref (mr 10), .ref (mr 11), .ref (mr 12), .ref (mr 13), .ref (mr 14), .ref (mr 15), .ref (mr 16), .ref (mr 17), .ref (mr 18), .ref (mr 19), .ref (mr 20), .int (nI nse), .int (nI npa), .int (nI 0), .ref (mr 21), .int (nI tn), .ref (mr 22), .int (nI ik), .int (j0), .int (j1), .ref (mr 23), .int (j2), .ref (mr 24), .ref (mr 25), .int (j3), .ref (mr 26), .int (j4), .ref (mr 27), .ref (mr 28), .ref (mr 29), .ref (mr 30)])), (mr 19, .inl (cy 1, 8, .inl fb9)), (mr 20, .inl (cy 1, 8, .inl gb9))]) hw1 tyX10 tyX10_ok nmX10 0 rfl rfl 29 (by decide) hw2 rfl (by decide +kernel) rfl rfl (Nat.le_of_ble_eq_true rfl) rfl dX10_book_7 (q := 10) rfl ?_
      refine x_iconst C dX10_book_10 (q := 11) rfl (v := nI 0) (by decide) ?_
      refine x_iret C hA hQ hr dX10_book_11 (Nat.le_of_ble_eq_true rfl) ?_
      unfold booA booN enA enN
      dsimp only
      repeat (first | rw [if_pos (by omega)] | rw [if_neg (by omega)])
      exact ⟨rfl, rfl⟩

set_option maxHeartbeats 400000 in
set_option maxRecDepth 100000 in
/-- looked -/
theorem c_X10_looked (l : Launch) (D : va_G) (cy : Nat → ClassId) (mo : Nat) (mr : Nat → Nat) (cols : Nat) (lc : Nat) (smp : Nat) (mk : Nat) (rs : Nat) (nse : Nat) (npa : Nat) (nbo : Nat) (tn : Nat) (ik : Nat) (ky : Int32) (j0 : Int32) (j1 : Int32) (j2 : Int32) (j3 : Int32) (j4 : Int32) (fn : Nat → Nat) (fo : Nat → Nat) (ex : Nat → Int64) (wo : Nat → Int64) (tl9 : Nat → Nat) (st9 : Nat → Nat) (fb9 : Nat → Int32) (gb9 : Nat → Int32) (ld : LD) (P : PS) (hml : MdL ld lc fn fo ex wo) (hfo4 : ∀ q, fo q ≤ 4) (hfn : ∀ q, fn q ≤ 61) (hlc : lc ≤ 24) (htl9 : ∀ k, tl9 k ≤ 4) (hst9 : ∀ k, st9 k ≤ 4) (hcols : cols ≤ 5) (hsmp : smp ≤ 24) (hmq : ∀ c, c < cols → st9 c = pSt P c) (hnbo : nbo ≤ 8) (hbk : ∀ i, i < nbo → 0 ≤ (fb9 i).toInt ∧ (fb9 i).toInt < cols) : xMet l D cy xT yX10_looked wsX10_looked ({ frames := 6, cells := 0, slots := 0, locals := 900 } : Room) [.ref mo] [(mo, .inr (9, [.int (nI cols), .int (nI lc), .int (nI smp), .int (ky), .ref (mr 0), .ref (mr 1), .ref (mr 2), .ref (mr 3), .ref (mr 4), .ref (mr 5), .ref (mr 6), .ref (mr 7), .ref (mr 8), .ref (mr 9), .int (nI mk), .int (nI rs), .ref (mr 10), .ref (mr 11), .ref (mr 12), .ref (mr 13), .ref (mr 14), .ref (mr 15), .ref (mr 16), .ref (mr 17), .ref (mr 18), .ref (mr 19), .ref (mr 20), .int (nI nse), .int (nI npa), .int (nI nbo), .ref (mr 21), .int (nI tn), .ref (mr 22), .int (nI ik), .int (j0), .int (j1), .ref (mr 23), .int (j2), .ref (mr 24), .ref (mr 25), .int (j3), .ref (mr 26), .int (j4), .ref (mr 27), .ref (mr 28), .ref (mr 29), .ref (mr 30)])), (mr 6, .inl (cy 1, 24, .inl (fun k => nI (fn k)))), (mr 7, .inl (cy 1, 120, .inl (fun k => nI (fo k)))), (mr 8, .inl (cy 2, 120, .inr (.inl ex))), (mr 9, .inl (cy 2, 120, .inr (.inl wo))), (mr 2, .inl (cy 1, 5, .inl (fun k => nI (tl9 k)))), (mr 3, .inl (cy 1, 5, .inl (fun k => nI (st9 k)))), (mr 19, .inl (cy 1, 8, .inl fb9)), (mr 20, .inl (cy 1, 8, .inl gb9))] [] (fun (v9 : Option Value) (w9 : va_W) => (v9 = some (.int (looA (pSt P) tl9 ld cols (min smp lc) (nbo, fb9, gb9))) ∧ w9 = [(mo, .inr (9, [.int (nI cols), .int (nI lc), .int (nI smp), .int (ky), .ref (mr 0), .ref (mr 1), .ref (mr 2), .ref (mr 3), .ref (mr 4), .ref (mr 5), .ref (mr 6), .ref (mr 7), .ref (mr 8), .ref (mr 9), .int (nI mk), .int (nI rs), .ref (mr 10), .ref (mr 11), .ref (mr 12), .ref (mr 13), .ref (mr 14), .ref (mr 15), .ref (mr 16), .ref (mr 17), .ref (mr 18), .ref (mr 19), .ref (mr 20), .int (nI nse), .int (nI npa), .int (nI nbo), .ref (mr 21), .int (nI tn), .ref (mr 22), .int (nI ik), .int (j0), .int (j1), .ref (mr 23), .int (j2), .ref (mr 24), .ref (mr 25), .int (j3), .ref (mr 26), .int (j4), .ref (mr 27), .ref (mr 28), .ref (mr 29), .ref (mr 30)])), (mr 6, .inl (cy 1, 24, .inl (fun k => nI (fn k)))), (mr 7, .inl (cy 1, 120, .inl (fun k => nI (fo k)))), (mr 8, .inl (cy 2, 120, .inr (.inl ex))), (mr 9, .inl (cy 2, 120, .inr (.inl wo))), (mr 2, .inl (cy 1, 5, .inl (fun k => nI (tl9 k)))), (mr 3, .inl (cy 1, 5, .inl (fun k => nI (st9 k)))), (mr 19, .inl (cy 1, 8, .inl fb9)), (mr 20, .inl (cy 1, 8, .inl gb9))])) := by
  refine xMet_of (cc := cX10_looked) (maxL := 2) (ret := (some .int)) (by decide) rfl (Nat.le_of_ble_eq_true rfl) (fun p e s m args below meth c A R Q hA hR hQ C hr hnm hro hX => ?_)
  have hw0 : ∀ w ∈ u_ws RX10 TX10 47, w ∈ wsX10_looked := by decide +kernel
  have hw1 : Cond.fieldLink RX10 151 (TX10 29).1 (TX10 29).2.1 (TX10 29).2.2.1 ∈ wsX10_looked := by decide +kernel
  have hw2 : Cond.fieldLink RX10 77 (TX10 25).1 (TX10 25).2.1 (TX10 25).2.2.1 ∈ wsX10_looked := by decide +kernel
  have hw3 : Cond.fieldLink RX10 80 (TX10 26).1 (TX10 26).2.1 (TX10 26).2.2.1 ∈ wsX10_looked := by decide +kernel
  refine x_L (L' := [(0, .ref mo)]) [0] rfl ?_
  refine x_iconst C dX10_looked_0 (q := 1) rfl (v := nI 0) (by decide) ?_
  refine x_istore_n C (L' := [(1, .int (nI 0)), (0, .ref mo)]) dX10_looked_1 (q := 2) rfl rfl (by decide) rfl ?_
  have cut2 : ∀ (fuel : Nat) (i : Nat), (i ≤ nbo) → (looS (pSt P) tl9 ld cols (min smp lc) (nbo, fb9, gb9) = i + runLen (booB (pSt P) tl9 ld cols (min smp lc) fb9 gb9) nbo (nbo - i) i) → nbo - i < fuel → xG p l e R s m args below meth c Q D A 2 [(mo, .inr (9, [.int (nI cols), .int (nI lc), .int (nI smp), .int (ky), .ref (mr 0), .ref (mr 1), .ref (mr 2), .ref (mr 3), .ref (mr 4), .ref (mr 5), .ref (mr 6), .ref (mr 7), .ref (mr 8), .ref (mr 9), .int (nI mk), .int (nI rs), .ref (mr 10), .ref (mr 11), .ref (mr 12), .ref (mr 13), .ref (mr 14), .ref (mr 15), .ref (mr 16), .ref (mr 17), .ref (mr 18), .ref (mr 19), .ref (mr 20), .int (nI nse), .int (nI npa), .int (nI nbo), .ref (mr 21), .int (nI tn), .ref (mr 22), .int (nI ik), .int (j0), .int (j1), .ref (mr 23), .int (j2), .ref (mr 24), .ref (mr 25), .int (j3), .ref (mr 26), .int (j4), .ref (mr 27), .ref (mr 28), .ref (mr 29), .ref (mr 30)])), (mr 6, .inl (cy 1, 24, .inl (fun k => nI (fn k)))), (mr 7, .inl (cy 1, 120, .inl (fun k => nI (fo k)))), (mr 8, .inl (cy 2, 120, .inr (.inl ex))), (mr 9, .inl (cy 2, 120, .inr (.inl wo))), (mr 2, .inl (cy 1, 5, .inl (fun k => nI (tl9 k)))), (mr 3, .inl (cy 1, 5, .inl (fun k => nI (st9 k)))), (mr 19, .inl (cy 1, 8, .inl fb9)), (mr 20, .inl (cy 1, 8, .inl gb9))] 0 0 2 [(0, .ref mo), (1, .int (nI i))] [] := by
    intro fuel
    induction fuel with
    | zero =>
      intro i hi he hmu
      exact absurd hmu (Nat.not_lt_zero _)
    | succ fuel ih =>
      intro i hi he hmu
      have ih2 := ih
      clear ih
      refine x_iload_n C dX10_looked_2 (q := 3) rfl rfl 1 rfl ?_
      refine x_aload_n C dX10_looked_3 (q := 4) rfl rfl 0 rfl ?_
      refine x_get C (ci := 9) (v := .int (nI nbo)) hw0 0 rfl rfl 29 (by decide) hw1 rfl dX10_looked_4 (q := 7) rfl ?_
      refine x_icmp_ge C (tgt := 37) dX10_looked_7 (by decide) (q := 10) rfl (a := ((i : Nat) : Int)) (b := ((nbo : Nat) : Int)) (nI_toInt (by omega)) (nI_toInt (by omega)) (fun h1 => ?_) (fun h1 => ?_)
      · first
        | (exfalso; omega)
        |
          refine x_bipush C dX10_looked_37 (q := 39) rfl (v := (-5)) (by decide) ?_
          refine x_iret C hA hQ hr dX10_looked_39 (Nat.le_of_ble_eq_true rfl) ?_
          have h8 : nbo - i = 0 := by omega
          rw [h8] at he
          have h7 : runLen (booB (pSt P) tl9 ld cols (min smp lc) fb9 gb9) nbo 0 i = 0 := rfl
          refine ⟨?_, rfl⟩
          unfold looA
          dsimp only
          rw [if_pos (by omega)]
      · first
        | (exfalso; omega)
        |
          have hbi := hbk i (by omega)
          refine x_aload_n C dX10_looked_10 (q := 11) rfl rfl 0 rfl ?_
          refine x_aload_n C dX10_looked_11 (q := 12) rfl rfl 0 rfl ?_
          refine x_get C (ci := 9) (v := .ref (mr 19)) hw0 0 rfl rfl 25 (by decide) hw2 rfl dX10_looked_12 (q := 15) rfl ?_
          refine x_iload_n C dX10_looked_15 (q := 16) rfl rfl 1 rfl ?_
          refine x_iald C (j := i) (v := fb9 i) 7 rfl (nI_toInt (by omega)) (by omega) rfl dX10_looked_16 (q := 17) rfl ?_
          refine x_st (st' := [.int (nI ((fb9 i).toInt.toNat)), .ref mo]) (congrArg (fun z9 => ([.int z9, .ref mo] : List Value)) (xi_nat (by omega))) ?_
          refine x_callV C (roW := []) (roR := []) (c_X10_type l D cy mo mr cols lc smp mk rs nse npa nbo tn ik ky j0 j1 j2 j3 j4 fn fo ex wo tl9 st9 ld ((fb9 i).toInt.toNat) (by assumption) (by assumption) (by assumption) (by first | assumption | omega | (simp only []; omega)) (by first | assumption | omega | (simp only []; omega)) (by first | assumption | omega | (simp only []; omega)) (by assumption) (by assumption)) (cwV 1 C.2.2.2.2.1 gX10_looked_X10_type rfl rfl rfl (by decide +kernel) (by rw [hR]; exact ⟨Nat.le_of_ble_eq_true rfl, Nat.le_of_ble_eq_true rfl⟩)) [0, 1, 2, 3, 4, 5, 6] [] rfl (by decide) rfl (by decide) xro_nil (List.mem_of_getElem? (i := 0) rfl) (ci := 9) rfl xT_bl (fun _ _ _ _ _ _ _ => trivial) rfl rfl dX10_looked_17 rfl rfl (Nat.le_of_ble_eq_true rfl) (q := 20) rfl (k' := 0) rfl (n' := 0) rfl (by rw [hR]; exact ⟨Nat.le_of_ble_eq_true rfl, Nat.le_of_ble_eq_true rfl⟩) (fun v2 w2 hp2 => ?_)
          obtain ⟨rfl, rfl⟩ := hp2
          refine x_ws (ws' := [(mo, .inr (9, [.int (nI cols), .int (nI lc), .int (nI smp), .int (ky), .ref (mr 0), .ref (mr 1), .ref (mr 2), .ref (mr 3), .ref (mr 4), .ref (mr 5), .ref (mr 6), .ref (mr 7), .ref (mr 8), .ref (mr 9), .int (nI mk), .int (nI rs), .ref (mr 10), .ref (mr 11), .ref (mr 12), .ref (mr 13), .ref (mr 14), .ref (mr 15), .ref (mr 16), .ref (mr 17), .ref (mr 18), .ref (mr 19), .ref (mr 20), .int (nI nse), .int (nI npa), .int (nI nbo), .ref (mr 21), .int (nI tn), .ref (mr 22), .int (nI ik), .int (j0), .int (j1), .ref (mr 23), .int (j2), .ref (mr 24), .ref (mr 25), .int (j3), .ref (mr 26), .int (j4), .ref (mr 27), .ref (mr 28), .ref (mr 29), .ref (mr 30)])), (mr 6, .inl (cy 1, 24, .inl (fun k => nI (fn k)))), (mr 7, .inl (cy 1, 120, .inl (fun k => nI (fo k)))), (mr 8, .inl (cy 2, 120, .inr (.inl ex))), (mr 9, .inl (cy 2, 120, .inr (.inl wo))), (mr 2, .inl (cy 1, 5, .inl (fun k => nI (tl9 k)))), (mr 3, .inl (cy 1, 5, .inl (fun k => nI (st9 k)))), (mr 19, .inl (cy 1, 8, .inl fb9)), (mr 20, .inl (cy 1, 8, .inl gb9))]) rfl ?_
          have hty := tyS_congr (st := st9) (st' := pSt P) (tl := tl9) (ld := ld) (c := (fb9 i).toInt.toNat) (z := min smp lc) (hmq _ (by omega))
          have hty4 := tyS_le (st := st9) (tl := tl9) (ld := ld) (c := (fb9 i).toInt.toNat) (z := min smp lc) hst9 htl9
          refine x_aload_n C dX10_looked_20 (q := 21) rfl rfl 0 rfl ?_
          refine x_get C (ci := 9) (v := .ref (mr 20)) hw0 0 rfl rfl 26 (by decide) hw3 rfl dX10_looked_21 (q := 24) rfl ?_
          refine x_iload_n C dX10_looked_24 (q := 25) rfl rfl 1 rfl ?_
          refine x_iald C (j := i) (v := gb9 i) 8 rfl (nI_toInt (by omega)) (by omega) rfl dX10_looked_25 (q := 26) rfl ?_
          refine x_icmp_eq C (tgt := 31) dX10_looked_26 (by decide) (q := 29) rfl (a := ((tyS st9 tl9 ld ((fb9 i).toInt.toNat) (min smp lc) : Nat) : Int)) (b := (gb9 i).toInt) (nI_toInt (by omega)) rfl (fun h3 => ?_) (fun h3 => ?_)
          · first
            | (exfalso; omega)
            |
              refine x_iinc C (L' := [(1, .int (nI (i + 1))), (0, .ref mo)]) dX10_looked_31 (q := 34) rfl 1 rfl (v := nI (i + 1)) (nI_add i 1) (by decide) rfl ?_
              refine x_goto C (tgt := 2) dX10_looked_34 (by decide) ?_
              refine x_L (L' := [(0, .ref mo), (1, .int (nI (i + 1)))]) [1, 0] rfl ?_
              exact ih2 (i + 1) (by first | omega | assumption) (by have h8 := runLen_step (P := booB (pSt P) tl9 ld cols (min smp lc) fb9 gb9) (to := nbo) (k := i) (by omega) (decide_eq_true ⟨hbi.1, hbi.2, by rw [← hty]; omega⟩); omega) (by omega)
          · first
            | (exfalso; omega)
            |
              refine x_iload_n C dX10_looked_29 (q := 30) rfl rfl 1 rfl ?_
              refine x_iret C hA hQ hr dX10_looked_30 (Nat.le_of_ble_eq_true rfl) ?_
              have h8 : runLen (booB (pSt P) tl9 ld cols (min smp lc) fb9 gb9) nbo (nbo - i) i = 0 := runLen_stop _ (fun z => by have z2 := (of_decide_eq_true (show decide (0 ≤ (fb9 i).toInt ∧ (fb9 i).toInt < cols ∧ ((tyS (pSt P) tl9 ld (fb9 i).toInt.toNat (min smp lc) : Nat) : Int) = (gb9 i).toInt) = true from z.2)).2.2; rw [← hty] at z2; omega)
              refine ⟨?_, rfl⟩
              unfold looA
              dsimp only
              rw [if_neg (by omega), show looS (pSt P) tl9 ld cols (min smp lc) (nbo, fb9, gb9) = i by omega]
  refine x_L (L' := [(0, .ref mo), (1, .int (nI 0))]) [1, 0] rfl ?_
  exact cut2 (nbo - 0 + 1) 0 (by first | omega | assumption) (by rw [Nat.zero_add]; rfl) (by omega)
