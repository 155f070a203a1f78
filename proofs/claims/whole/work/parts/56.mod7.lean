
abbrev dtC (b : Nat → Nat) : Prop := (patD b ∨ patY b) ∧ 1900 ≤ yrS b ∧ yrS b ≤ 2099 ∧ 1 ≤ dyS b ∧ dyS b ≤ mLen (yrS b) (moS b)
theorem mLen_0 {y m : Nat} (h : m < 1 ∨ 12 < m) : mLen y m = 0 := if_pos h
theorem dayS_eq {b : Nat → Nat} (h : dtC b) : dayS b = (yD (yrS b) : Int) - (yD 2000 : Int) + ((msS (yrS b) (moS b - 1) + (dyS b - 1) : Nat) : Int) := by
  have hA1 : ¬ (moS b < 1 ∨ 12 < moS b) := fun z => by
    have := mLen_0 (y := yrS b) z
    omega
  have hA2 := msS_tab (yrS b) (m := moS b) (by omega) (by omega)
  unfold dayS
  rw [hA2]
  omega
theorem yD_b {y : Nat} (hA1 : 1 ≤ y) (hA2 : y ≤ 10000) : yD y ≤ 4000000 := by
  unfold yD
  omega

set_option maxHeartbeats 4000000 in
set_option maxRecDepth 100000 in
/-- day -/
theorem c_X10_day (l : Launch) (D : va_G) (cy : Nat → ClassId) (mo : Nat) (mr : Nat → Nat) (cols : Nat) (lc : Nat) (smp : Nat) (mk : Nat) (rs : Nat) (nse : Nat) (npa : Nat) (nbo : Nat) (tn : Nat) (ik : Nat) (ky : Int32) (j0 : Int32) (j1 : Int32) (j2 : Int32) (j3 : Int32) (j4 : Int32) (by9 : Nat → Nat) (fr : Nat) (b : Nat → Nat) (hby : ∀ k, by9 k < 128) (hfr : fr + 10 ≤ 1440) (hb : ∀ j, j < 10 → by9 (fr + j) = b j) : xMet l D cy xT yX10_day wsX10_day ({ frames := 3, cells := 0, slots := 0, locals := 400 } : Room) [.ref mo, .int (nI fr)] [(mo, .inr (9, [.int (nI cols), .int (nI lc), .int (nI smp), .int (ky), .ref (mr 0), .ref (mr 1), .ref (mr 2), .ref (mr 3), .ref (mr 4), .ref (mr 5), .ref (mr 6), .ref (mr 7), .ref (mr 8), .ref (mr 9), .int (nI mk), .int (nI rs), .ref (mr 10), .ref (mr 11), .ref (mr 12), .ref (mr 13), .ref (mr 14), .ref (mr 15), .ref (mr 16), .ref (mr 17), .ref (mr 18), .ref (mr 19), .ref (mr 20), .int (nI nse), .int (nI npa), .int (nI nbo), .ref (mr 21), .int (nI tn), .ref (mr 22), .int (nI ik), .int (j0), .int (j1), .ref (mr 23), .int (j2), .ref (mr 24), .ref (mr 25), .int (j3), .ref (mr 26), .int (j4), .ref (mr 27), .ref (mr 28), .ref (mr 29), .ref (mr 30)])), (mr 4, .inl (cy 1, 1440, .inl (fun k => nI (by9 k))))] [] (fun (v9 : Option Value) (w9 : va_W) => (v9 = some (.long ((Int64.ofInt (dayS b)))) ∧ w9 = [(mo, .inr (9, [.int (nI cols), .int (nI lc), .int (nI smp), .int (ky), .ref (mr 0), .ref (mr 1), .ref (mr 2), .ref (mr 3), .ref (mr 4), .ref (mr 5), .ref (mr 6), .ref (mr 7), .ref (mr 8), .ref (mr 9), .int (nI mk), .int (nI rs), .ref (mr 10), .ref (mr 11), .ref (mr 12), .ref (mr 13), .ref (mr 14), .ref (mr 15), .ref (mr 16), .ref (mr 17), .ref (mr 18), .ref (mr 19), .ref (mr 20), .int (nI nse), .int (nI npa), .int (nI nbo), .ref (mr 21), .int (nI tn), .ref (mr 22), .int (nI ik), .int (j0), .int (j1), .ref (mr 23), .int (j2), .ref (mr 24), .ref (mr 25), .int (j3), .ref (mr 26), .int (j4), .ref (mr 27), .ref (mr 28), .ref (mr 29), .ref (mr 30)])), (mr 4, .inl (cy 1, 1440, .inl (fun k => nI (by9 k))))] ∧ dtC b ∧ -10000000 ≤ dayS b ∧ dayS b ≤ 10000000) ∨ (v9 = some (.long ((-9223372036854775808))) ∧ w9 = [(mo, .inr (9, [.int (nI cols), .int (nI lc), .int (nI smp), .int (ky), .ref (mr 0), .ref (mr 1), .ref (mr 2), .ref (mr 3), .ref (mr 4), .ref (mr 5), .ref (mr 6), .ref (mr 7), .ref (mr 8), .ref (mr 9), .int (nI mk), .int (nI rs), .ref (mr 10), .ref (mr 11), .ref (mr 12), .ref (mr 13), .ref (mr 14), .ref (mr 15), .ref (mr 16), .ref (mr 17), .ref (mr 18), .ref (mr 19), .ref (mr 20), .int (nI nse), .int (nI npa), .int (nI nbo), .ref (mr 21), .int (nI tn), .ref (mr 22), .int (nI ik), .int (j0), .int (j1), .ref (mr 23), .int (j2), .ref (mr 24), .ref (mr 25), .int (j3), .ref (mr 26), .int (j4), .ref (mr 27), .ref (mr 28), .ref (mr 29), .ref (mr 30)])), (mr 4, .inl (cy 1, 1440, .inl (fun k => nI (by9 k))))] ∧ ¬ dtC b)) := by
  refine xMet_of (cc := cX10_day) (maxL := 12) (ret := (some .long)) (by decide) rfl (Nat.le_of_ble_eq_true rfl) (fun p e s m args below meth c A R Q hA hR hQ C hr hnm hro hX => ?_)
  have hw0 : ∀ w ∈ u_ws RX10 TX10 47, w ∈ wsX10_day := by decide +kernel
  have hw1 : Cond.fieldLink RX10 31 (TX10 8).1 (TX10 8).2.1 (TX10 8).2.2.1 ∈ wsX10_day := by decide +kernel
  have hw2 : Jvm.Cond.constantLong RX10 252 (1900) ∈ wsX10_day := by decide +kernel
  have hw3 : Jvm.Cond.constantLong RX10 254 (2099) ∈ wsX10_day := by decide +kernel
  have hw4 : Jvm.Cond.constantLong RX10 256 (12) ∈ wsX10_day := by decide +kernel
  have hw5 : Jvm.Cond.constantLong RX10 245 (-9223372036854775808) ∈ wsX10_day := by decide +kernel
  have hw6 : Jvm.Cond.constantLong RX10 234 (48) ∈ wsX10_day := by decide +kernel
  have hw7 : Jvm.Cond.constantLong RX10 236 (57) ∈ wsX10_day := by decide +kernel
  refine x_L (L' := [(0, .ref mo), (1, .int (nI fr))]) [0, 1] rfl ?_
  have cut234 : (dtC b) → xG p l e R s m args below meth c Q D A 12 [(mo, .inr (9, [.int (nI cols), .int (nI lc), .int (nI smp), .int (ky), .ref (mr 0), .ref (mr 1), .ref (mr 2), .ref (mr 3), .ref (mr 4), .ref (mr 5), .ref (mr 6), .ref (mr 7), .ref (mr 8), .ref (mr 9), .int (nI mk), .int (nI rs), .ref (mr 10), .ref (mr 11), .ref (mr 12), .ref (mr 13), .ref (mr 14), .ref (mr 15), .ref (mr 16), .ref (mr 17), .ref (mr 18), .ref (mr 19), .ref (mr 20), .int (nI nse), .int (nI npa), .int (nI nbo), .ref (mr 21), .int (nI tn), .ref (mr 22), .int (nI ik), .int (j0), .int (j1), .ref (mr 23), .int (j2), .ref (mr 24), .ref (mr 25), .int (j3), .ref (mr 26), .int (j4), .ref (mr 27), .ref (mr 28), .ref (mr 29), .ref (mr 30)])), (mr 4, .inl (cy 1, 1440, .inl (fun k => nI (by9 k))))] 0 0 234 [(0, .ref mo), (1, .int (nI fr)), (6, .int (nI (yrS b))), (7, .int (nI (moS b))), (8, .int (nI (dyS b)))] [] := by
    intro  hdt
    obtain ⟨hpo, hy1, hy2, hd1, hd2⟩ := hdt
    have hm12 : 1 ≤ moS b ∧ moS b ≤ 12 := by
      have := mLen_0 (y := yrS b) (m := moS b)
      omega
    have hdt : dtC b := ⟨hpo, hy1, hy2, hd1, hd2⟩
    have hd31 := mdS_le (yrS b) (moS b)
    have hdl := dyS_lt hpo
    have hms := msS_le (yrS b) (moS b - 1)
    have hyb := yD_b (y := yrS b) (by omega) (by omega)
    have e2k : yD 2000 = 730119 := rfl
    refine x_iload C dX10_day_234 (q := 236) rfl 4 rfl ?_
    refine x_iconst C dX10_day_236 (q := 237) rfl (v := nI 1) (by decide) ?_
    refine x_isub C dX10_day_237 (q := 238) rfl (z := nI (dyS b - 1)) (xi_subN (by omega) (by omega)) ?_
    refine x_i2l C dX10_day_238 (q := 239) rfl (v := lN (dyS b - 1)) (nI_l (by omega)) ?_
    refine x_lstore C (L' := [(9, .long (lN (dyS b - 1))), (0, .ref mo), (1, .int (nI fr)), (6, .int (nI (yrS b))), (7, .int (nI (moS b))), (8, .int (nI (dyS b)))]) dX10_day_239 (q := 241) rfl (by decide) rfl ?_
    refine x_iconst C dX10_day_241 (q := 242) rfl (v := nI 1) (by decide) ?_
    refine x_istore C (L' := [(11, .int (nI 1)), (9, .long (lN (dyS b - 1))), (0, .ref mo), (1, .int (nI fr)), (6, .int (nI (yrS b))), (7, .int (nI (moS b))), (8, .int (nI (dyS b)))]) dX10_day_242 (q := 244) rfl (by decide) rfl ?_
    have cut244 : ∀ (fuel : Nat) (m2 : Nat) (v2 : Nat), (1 ≤ m2) → (m2 ≤ moS b) → (v2 = dyS b - 1 + msS (yrS b) (m2 - 1)) → moS b - m2 < fuel → xG p l e R s m args below meth c Q D A 12 [(mo, .inr (9, [.int (nI cols), .int (nI lc), .int (nI smp), .int (ky), .ref (mr 0), .ref (mr 1), .ref (mr 2), .ref (mr 3), .ref (mr 4), .ref (mr 5), .ref (mr 6), .ref (mr 7), .ref (mr 8), .ref (mr 9), .int (nI mk), .int (nI rs), .ref (mr 10), .ref (mr 11), .ref (mr 12), .ref (mr 13), .ref (mr 14), .ref (mr 15), .ref (mr 16), .ref (mr 17), .ref (mr 18), .ref (mr 19), .ref (mr 20), .int (nI nse), .int (nI npa), .int (nI nbo), .ref (mr 21), .int (nI tn), .ref (mr 22), .int (nI ik), .int (j0), .int (j1), .ref (mr 23), .int (j2), .ref (mr 24), .ref (mr 25), .int (j3), .ref (mr 26), .int (j4), .ref (mr 27), .ref (mr 28), .ref (mr 29), .ref (mr 30)])), (mr 4, .inl (cy 1, 1440, .inl (fun k => nI (by9 k))))] 0 0 244 [(0, .ref mo), (1, .int (nI fr)), (6, .int (nI (yrS b))), (7, .int (nI (moS b))), (8, .int (nI (dyS b))), (9, .long (lN v2)), (11, .int (nI m2))] [] := by
      intro fuel
      induction fuel with
      | zero =>
        intro m2 v2 hA1 hA2 hv hmu
        exact absurd hmu (Nat.not_lt_zero _)
      | succ fuel ih =>
        intro m2 v2 hA1 hA2 hv hmu
        have hms2 := msS_le (yrS b) (m2 - 1)
        have hmdm := mdS_le (yrS b) m2
        have ih244 := ih
        clear ih
        refine x_iload C dX10_day_244 (q := 246) rfl 6 rfl ?_
        refine x_iload C dX10_day_246 (q := 248) rfl 3 rfl ?_
        refine x_icmp_ge C (tgt := 270) dX10_day_248 (by decide) (q := 251) rfl (a := ((m2 : Nat) : Int)) (b := ((moS b : Nat) : Int)) (nI_toInt (by omega)) (nI_toInt (by omega)) (fun h1 => ?_) (fun h1 => ?_)
        · first
          | (exfalso; omega)
          |
            refine x_sipush C dX10_day_270 (q := 273) rfl (v := nI 2000) (by decide) ?_
            refine x_istore C (L' := [(11, .int (nI 2000)), (0, .ref mo), (1, .int (nI fr)), (6, .int (nI (yrS b))), (7, .int (nI (moS b))), (8, .int (nI (dyS b))), (9, .long (lN v2))]) dX10_day_273 (q := 275) rfl (by decide) rfl ?_
            have cut275 : ∀ (fuel : Nat) (y2 : Nat) (v3 : Int64), (2000 ≤ y2) → (y2 ≤ 2000 ∨ y2 ≤ yrS b) → (v3.toInt = ((dyS b - 1 + msS (yrS b) (moS b - 1) : Nat) : Int) + yD y2 - yD 2000) → yrS b - y2 < fuel → xG p l e R s m args below meth c Q D A 12 [(mo, .inr (9, [.int (nI cols), .int (nI lc), .int (nI smp), .int (ky), .ref (mr 0), .ref (mr 1), .ref (mr 2), .ref (mr 3), .ref (mr 4), .ref (mr 5), .ref (mr 6), .ref (mr 7), .ref (mr 8), .ref (mr 9), .int (nI mk), .int (nI rs), .ref (mr 10), .ref (mr 11), .ref (mr 12), .ref (mr 13), .ref (mr 14), .ref (mr 15), .ref (mr 16), .ref (mr 17), .ref (mr 18), .ref (mr 19), .ref (mr 20), .int (nI nse), .int (nI npa), .int (nI nbo), .ref (mr 21), .int (nI tn), .ref (mr 22), .int (nI ik), .int (j0), .int (j1), .ref (mr 23), .int (j2), .ref (mr 24), .ref (mr 25), .int (j3), .ref (mr 26), .int (j4), .ref (mr 27), .ref (mr 28), .ref (mr 29), .ref (mr 30)])), (mr 4, .inl (cy 1, 1440, .inl (fun k => nI (by9 k))))] 0 0 275 [(0, .ref mo), (1, .int (nI fr)), (6, .int (nI (yrS b))), (7, .int (nI (moS b))), (8, .int (nI (dyS b))), (9, .long (v3)), (11, .int (nI y2))] [] := by
              intro fuel
              induction fuel with
              | zero =>
                intro y2 v3 hA3 hA4 hv3 hmu
                exact absurd hmu (Nat.not_lt_zero _)
              | succ fuel ih =>
                intro y2 v3 hA3 hA4 hv3 hmu
                have hyb2 := yD_b (y := y2) (by omega) (by omega)
                have hmd2 := mdS_le y2 2
                have ih275 := ih
                clear ih
                refine x_iload C dX10_day_275 (q := 277) rfl 6 rfl ?_
                refine x_iload C dX10_day_277 (q := 279) rfl 2 rfl ?_
                refine x_icmp_ge C (tgt := 304) dX10_day_279 (by decide) (q := 282) rfl (a := ((y2 : Nat) : Int)) (b := ((yrS b : Nat) : Int)) (nI_toInt (by omega)) (nI_toInt (by omega)) (fun h2 => ?_) (fun h2 => ?_)
                · first
                  | (exfalso; omega)
                  |
                    refine x_iload C dX10_day_304 (q := 306) rfl 2 rfl ?_
                    refine x_istore C (L' := [(11, .int (nI (yrS b))), (0, .ref mo), (1, .int (nI fr)), (6, .int (nI (yrS b))), (7, .int (nI (moS b))), (8, .int (nI (dyS b))), (9, .long (v3))]) dX10_day_306 (q := 308) rfl (by decide) rfl ?_
                    have cut308 : ∀ (fuel : Nat) (y3 : Nat) (v9 : Int64), (yrS b ≤ y3) → (y3 ≤ 2000 ∨ y3 ≤ yrS b) → (y3 < 2000 → v9.toInt = ((dyS b - 1 + msS (yrS b) (moS b - 1) : Nat) : Int) + yD (yrS b) - yD y3) → (2000 ≤ y3 → v9.toInt = ((dyS b - 1 + msS (yrS b) (moS b - 1) : Nat) : Int) + yD (yrS b) - yD 2000) → 2000 - y3 < fuel → xG p l e R s m args below meth c Q D A 12 [(mo, .inr (9, [.int (nI cols), .int (nI lc), .int (nI smp), .int (ky), .ref (mr 0), .ref (mr 1), .ref (mr 2), .ref (mr 3), .ref (mr 4), .ref (mr 5), .ref (mr 6), .ref (mr 7), .ref (mr 8), .ref (mr 9), .int (nI mk), .int (nI rs), .ref (mr 10), .ref (mr 11), .ref (mr 12), .ref (mr 13), .ref (mr 14), .ref (mr 15), .ref (mr 16), .ref (mr 17), .ref (mr 18), .ref (mr 19), .ref (mr 20), .int (nI nse), .int (nI npa), .int (nI nbo), .ref (mr 21), .int (nI tn), .ref (mr 22), .int (nI ik), .int (j0), .int (j1), .ref (mr 23), .int (j2), .ref (mr 24), .ref (mr 25), .int (j3), .ref (mr 26), .int (j4), .ref (mr 27), .ref (mr 28), .ref (mr 29), .ref (mr 30)])), (mr 4, .inl (cy 1, 1440, .inl (fun k => nI (by9 k))))] 0 0 308 [(0, .ref mo), (1, .int (nI fr)), (6, .int (nI (yrS b))), (7, .int (nI (moS b))), (8, .int (nI (dyS b))), (9, .long (v9)), (11, .int (nI y3))] [] := by
                      intro fuel
                      induction fuel with
                      | zero =>
                        intro y3 v9 hA5 hA6 hv4 hv5 hmu
                        exact absurd hmu (Nat.not_lt_zero _)
                      | succ fuel ih =>
                        intro y3 v9 hA5 hA6 hv4 hv5 hmu
                        have hyb3 := yD_b (y := y3) (by omega) (by omega)
                        have hmd3 := mdS_le y3 2
                        have ih308 := ih
                        clear ih
                        refine x_iload C dX10_day_308 (q := 310) rfl 6 rfl ?_
                        refine x_sipush C dX10_day_310 (q := 313) rfl (v := nI 2000) (by decide) ?_
                        refine x_icmp_ge C (tgt := 338) dX10_day_313 (by decide) (q := 316) rfl (a := ((y3 : Nat) : Int)) (b := 2000) (nI_toInt (by omega)) rfl (fun h3 => ?_) (fun h3 => ?_)
                        · first
                          | (exfalso; omega)
                          |
                            refine x_lload C dX10_day_338 (q := 340) rfl 5 rfl ?_
                            refine x_lret C hA hQ hr dX10_day_340 (Nat.le_of_ble_eq_true rfl) ?_
                            refine Or.inl ⟨?_, rfl, hdt, ?_, ?_⟩
                            · refine congrArg (fun q => some (Value.long q)) ((Int64.ofInt_toInt v9).symm.trans (congrArg Int64.ofInt ?_))
                              rw [dayS_eq hdt]
                              omega
                            · rw [dayS_eq hdt]
                              omega
                            · rw [dayS_eq hdt]
                              omega
                        · first
                          | (exfalso; omega)
                          |
                            refine x_lload C dX10_day_316 (q := 318) rfl 5 rfl ?_
                            refine x_sipush C dX10_day_318 (q := 321) rfl (v := nI 337) (by decide) ?_
                            refine x_iload C dX10_day_321 (q := 323) rfl 6 rfl ?_
                            refine x_iconst C dX10_day_323 (q := 324) rfl (v := nI 2) (by decide) ?_
                            refine x_callS C (roW := []) (roR := []) (c_X10_days l D cy y3 2 (by first | assumption | omega | (simp only []; omega)) (by first | assumption | omega | (simp only []; omega))) (cwS 2 C.2.2.2.2.1 gX10_day_X10_days rfl rfl rfl (by decide +kernel) (by rw [hR]; exact ⟨Nat.le_of_ble_eq_true rfl, Nat.le_of_ble_eq_true rfl⟩)) [] [] rfl (by decide) rfl (by decide) xro_nil xT_bl (fun _ _ _ _ _ _ _ => trivial) rfl rfl dX10_day_324 rfl rfl (Nat.le_of_ble_eq_true rfl) (q := 327) rfl (k' := 0) rfl (n' := 0) rfl (by rw [hR]; exact ⟨Nat.le_of_ble_eq_true rfl, Nat.le_of_ble_eq_true rfl⟩) (fun v4 w4 hp4 => ?_)
                            obtain ⟨rfl, rfl⟩ := hp4
                            refine x_ws (ws' := [(mo, .inr (9, [.int (nI cols), .int (nI lc), .int (nI smp), .int (ky), .ref (mr 0), .ref (mr 1), .ref (mr 2), .ref (mr 3), .ref (mr 4), .ref (mr 5), .ref (mr 6), .ref (mr 7), .ref (mr 8), .ref (mr 9), .int (nI mk), .int (nI rs), .ref (mr 10), .ref (mr 11), .ref (mr 12), .ref (mr 13), .ref (mr 14), .ref (mr 15), .ref (mr 16), .ref (mr 17), .ref (mr 18), .ref (mr 19), .ref (mr 20), .int (nI nse), .int (nI npa), .int (nI nbo), .ref (mr 21), .int (nI tn), .ref (mr 22), .int (nI ik), .int (j0), .int (j1), .ref (mr 23), .int (j2), .ref (mr 24), .ref (mr 25), .int (j3), .ref (mr 26), .int (j4), .ref (mr 27), .ref (mr 28), .ref (mr 29), .ref (mr 30)])), (mr 4, .inl (cy 1, 1440, .inl (fun k => nI (by9 k))))]) (List.append_nil _) ?_
                            refine x_iadd C dX10_day_327 (q := 328) rfl (z := nI (337 + (mdS y3 2))) (nI_add 337 (mdS y3 2)) ?_
                            refine x_i2l C dX10_day_328 (q := 329) rfl (v := lN (337 + (mdS y3 2))) (nI_l (by omega)) ?_
                            refine x_lsub C dX10_day_329 (q := 330) rfl (z := v9 - (lN (337 + (mdS y3 2)))) (rfl) ?_
                            refine x_lstore C (L' := [(9, .long (v9 - (lN (337 + (mdS y3 2))))), (0, .ref mo), (1, .int (nI fr)), (6, .int (nI (yrS b))), (7, .int (nI (moS b))), (8, .int (nI (dyS b))), (11, .int (nI y3))]) dX10_day_330 (q := 332) rfl (by decide) rfl ?_
                            refine x_iinc C (L' := [(11, .int (nI (y3 + 1))), (9, .long (v9 - (lN (337 + (mdS y3 2))))), (0, .ref mo), (1, .int (nI fr)), (6, .int (nI (yrS b))), (7, .int (nI (moS b))), (8, .int (nI (dyS b)))]) dX10_day_332 (q := 335) rfl 6 rfl (v := nI (y3 + 1)) (nI_add y3 1) (by decide) rfl ?_
                            refine x_goto C (tgt := 308) dX10_day_335 (by decide) ?_
                            refine x_L (L' := [(0, .ref mo), (1, .int (nI fr)), (6, .int (nI (yrS b))), (7, .int (nI (moS b))), (8, .int (nI (dyS b))), (9, .long (v9 - (lN (337 + (mdS y3 2))))), (11, .int (nI (y3 + 1)))]) [2, 3, 4, 5, 6, 1, 0] rfl ?_
                            exact ih308 (y3 + 1) (v9 - (lN (337 + (mdS y3 2)))) (by first | omega | assumption) (by first | omega | assumption) (by intro z; have e9 := yD_s (y := y3) (by omega); rw [xl_subI (hv4 (by omega)) (pk_lT (by omega)) (by omega) (by omega)]; omega) (by intro z; have e9 := yD_s (y := y3) (by omega); have e8 : y3 + 1 = 2000 := (by omega); rw [e8] at e9; rw [xl_subI (hv4 (by omega)) (pk_lT (by omega)) (by omega) (by omega)]; omega) (by omega)
                    refine x_L (L' := [(0, .ref mo), (1, .int (nI fr)), (6, .int (nI (yrS b))), (7, .int (nI (moS b))), (8, .int (nI (dyS b))), (9, .long (v3)), (11, .int (nI (yrS b)))]) [1, 2, 3, 4, 5, 6, 0] rfl ?_
                    exact cut308 (2000 - (yrS b) + 1) (yrS b) v3 (by first | omega | assumption) (by first | omega | assumption) (by intro z; have e9 : y2 = 2000 := (by omega); rw [hv3, e9]; omega) (by intro z; have e9 : y2 = 2000 ∨ y2 = yrS b := (by omega); (rcases e9 with e9 | e9; (rw [hv3, e9]; have e8 : yrS b = 2000 := (by omega); rw [e8]); (rw [hv3, e9]))) (by omega)
                · first
                  | (exfalso; omega)
                  |
                    refine x_lload C dX10_day_282 (q := 284) rfl 5 rfl ?_
                    refine x_sipush C dX10_day_284 (q := 287) rfl (v := nI 337) (by decide) ?_
                    refine x_iload C dX10_day_287 (q := 289) rfl 6 rfl ?_
                    refine x_iconst C dX10_day_289 (q := 290) rfl (v := nI 2) (by decide) ?_
                    refine x_callS C (roW := []) (roR := []) (c_X10_days l D cy y2 2 (by first | assumption | omega | (simp only []; omega)) (by first | assumption | omega | (simp only []; omega))) (cwS 2 C.2.2.2.2.1 gX10_day_X10_days rfl rfl rfl (by decide +kernel) (by rw [hR]; exact ⟨Nat.le_of_ble_eq_true rfl, Nat.le_of_ble_eq_true rfl⟩)) [] [] rfl (by decide) rfl (by decide) xro_nil xT_bl (fun _ _ _ _ _ _ _ => trivial) rfl rfl dX10_day_290 rfl rfl (Nat.le_of_ble_eq_true rfl) (q := 293) rfl (k' := 0) rfl (n' := 0) rfl (by rw [hR]; exact ⟨Nat.le_of_ble_eq_true rfl, Nat.le_of_ble_eq_true rfl⟩) (fun v5 w5 hp5 => ?_)
                    obtain ⟨rfl, rfl⟩ := hp5
                    refine x_ws (ws' := [(mo, .inr (9, [.int (nI cols), .int (nI lc), .int (nI smp), .int (ky), .ref (mr 0), .ref (mr 1), .ref (mr 2), .ref (mr 3), .ref (mr 4), .ref (mr 5), .ref (mr 6), .ref (mr 7), .ref (mr 8), .ref (mr 9), .int (nI mk), .int (nI rs), .ref (mr 10), .ref (mr 11), .ref (mr 12), .ref (mr 13), .ref (mr 14), .ref (mr 15), .ref (mr 16), .ref (mr 17), .ref (mr 18), .ref (mr 19), .ref (mr 20), .int (nI nse), .int (nI npa), .int (nI nbo), .ref (mr 21), .int (nI tn), .ref (mr 22), .int (nI ik), .int (j0), .int (j1), .ref (mr 23), .int (j2), .ref (mr 24), .ref (mr 25), .int (j3), .ref (mr 26), .int (j4), .ref (mr 27), .ref (mr 28), .ref (mr 29), .ref (mr 30)])), (mr 4, .inl (cy 1, 1440, .inl (fun k => nI (by9 k))))]) (List.append_nil _) ?_
                    refine x_iadd C dX10_day_293 (q := 294) rfl (z := nI (337 + (mdS y2 2))) (nI_add 337 (mdS y2 2)) ?_
                    refine x_i2l C dX10_day_294 (q := 295) rfl (v := lN (337 + (mdS y2 2))) (nI_l (by omega)) ?_
                    refine x_ladd C dX10_day_295 (q := 296) rfl (z := v3 + (lN (337 + (mdS y2 2)))) (rfl) ?_
                    refine x_lstore C (L' := [(9, .long (v3 + (lN (337 + (mdS y2 2))))), (0, .ref mo), (1, .int (nI fr)), (6, .int (nI (yrS b))), (7, .int (nI (moS b))), (8, .int (nI (dyS b))), (11, .int (nI y2))]) dX10_day_296 (q := 298) rfl (by decide) rfl ?_
                    refine x_iinc C (L' := [(11, .int (nI (y2 + 1))), (9, .long (v3 + (lN (337 + (mdS y2 2))))), (0, .ref mo), (1, .int (nI fr)), (6, .int (nI (yrS b))), (7, .int (nI (moS b))), (8, .int (nI (dyS b)))]) dX10_day_298 (q := 301) rfl 6 rfl (v := nI (y2 + 1)) (nI_add y2 1) (by decide) rfl ?_
                    refine x_goto C (tgt := 275) dX10_day_301 (by decide) ?_
                    refine x_L (L' := [(0, .ref mo), (1, .int (nI fr)), (6, .int (nI (yrS b))), (7, .int (nI (moS b))), (8, .int (nI (dyS b))), (9, .long (v3 + (lN (337 + (mdS y2 2))))), (11, .int (nI (y2 + 1)))]) [2, 3, 4, 5, 6, 1, 0] rfl ?_
                    exact ih275 (y2 + 1) (v3 + (lN (337 + (mdS y2 2)))) (by first | omega | assumption) (by first | omega | assumption) (by have e9 := yD_s (y := y2) (by omega); rw [xl_addI hv3 (pk_lT (by omega)) (by omega) (by omega)]; omega) (by omega)
            refine x_L (L' := [(0, .ref mo), (1, .int (nI fr)), (6, .int (nI (yrS b))), (7, .int (nI (moS b))), (8, .int (nI (dyS b))), (9, .long (lN v2)), (11, .int (nI 2000))]) [1, 2, 3, 4, 5, 6, 0] rfl ?_
            exact cut275 (yrS b - 2000 + 1) 2000 (lN v2) (by first | omega | assumption) (by first | omega | assumption) (by have e9 : m2 = moS b := (by omega); rw [pk_lT (by omega), hv, e9]; omega) (by omega)
        · first
          | (exfalso; omega)
          |
            refine x_lload C dX10_day_251 (q := 253) rfl 5 rfl ?_
            refine x_iload C dX10_day_253 (q := 255) rfl 2 rfl ?_
            refine x_iload C dX10_day_255 (q := 257) rfl 6 rfl ?_
            refine x_callS C (roW := []) (roR := []) (c_X10_days l D cy (yrS b) m2 (by first | assumption | omega | (simp only []; omega)) (by first | assumption | omega | (simp only []; omega))) (cwS 2 C.2.2.2.2.1 gX10_day_X10_days rfl rfl rfl (by decide +kernel) (by rw [hR]; exact ⟨Nat.le_of_ble_eq_true rfl, Nat.le_of_ble_eq_true rfl⟩)) [] [] rfl (by decide) rfl (by decide) xro_nil xT_bl (fun _ _ _ _ _ _ _ => trivial) rfl rfl dX10_day_257 rfl rfl (Nat.le_of_ble_eq_true rfl) (q := 260) rfl (k' := 0) rfl (n' := 0) rfl (by rw [hR]; exact ⟨Nat.le_of_ble_eq_true rfl, Nat.le_of_ble_eq_true rfl⟩) (fun v6 w6 hp6 => ?_)
            obtain ⟨rfl, rfl⟩ := hp6
            refine x_ws (ws' := [(mo, .inr (9, [.int (nI cols), .int (nI lc), .int (nI smp), .int (ky), .ref (mr 0), .ref (mr 1), .ref (mr 2), .ref (mr 3), .ref (mr 4), .ref (mr 5), .ref (mr 6), .ref (mr 7), .ref (mr 8), .ref (mr 9), .int (nI mk), .int (nI rs), .ref (mr 10), .ref (mr 11), .ref (mr 12), .ref (mr 13), .ref (mr 14), .ref (mr 15), .ref (mr 16), .ref (mr 17), .ref (mr 18), .ref (mr 19), .ref (mr 20), .int (nI nse), .int (nI npa), .int (nI nbo), .ref (mr 21), .int (nI tn), .ref (mr 22), .int (nI ik), .int (j0), .int (j1), .ref (mr 23), .int (j2), .ref (mr 24), .ref (mr 25), .int (j3), .ref (mr 26), .int (j4), .ref (mr 27), .ref (mr 28), .ref (mr 29), .ref (mr 30)])), (mr 4, .inl (cy 1, 1440, .inl (fun k => nI (by9 k))))]) (List.append_nil _) ?_
            refine x_i2l C dX10_day_260 (q := 261) rfl (v := lN (mdS (yrS b) m2)) (nI_l (by omega)) ?_
            refine x_ladd C dX10_day_261 (q := 262) rfl (z := lN (v2 + (mdS (yrS b) m2))) (lN_add v2 (mdS (yrS b) m2)) ?_
            refine x_lstore C (L' := [(9, .long (lN (v2 + (mdS (yrS b) m2)))), (0, .ref mo), (1, .int (nI fr)), (6, .int (nI (yrS b))), (7, .int (nI (moS b))), (8, .int (nI (dyS b))), (11, .int (nI m2))]) dX10_day_262 (q := 264) rfl (by decide) rfl ?_
            refine x_iinc C (L' := [(11, .int (nI (m2 + 1))), (9, .long (lN (v2 + (mdS (yrS b) m2)))), (0, .ref mo), (1, .int (nI fr)), (6, .int (nI (yrS b))), (7, .int (nI (moS b))), (8, .int (nI (dyS b)))]) dX10_day_264 (q := 267) rfl 6 rfl (v := nI (m2 + 1)) (nI_add m2 1) (by decide) rfl ?_
            refine x_goto C (tgt := 244) dX10_day_267 (by decide) ?_
            refine x_L (L' := [(0, .ref mo), (1, .int (nI fr)), (6, .int (nI (yrS b))), (7, .int (nI (moS b))), (8, .int (nI (dyS b))), (9, .long (lN (v2 + (mdS (yrS b) m2)))), (11, .int (nI (m2 + 1)))]) [2, 3, 4, 5, 6, 1, 0] rfl ?_
            exact ih244 (m2 + 1) (v2 + (mdS (yrS b) m2)) (by first | omega | assumption) (by first | omega | assumption) (by rw [hv, show m2 + 1 - 1 = (m2 - 1) + 1 by omega]; have e9 : msS (yrS b) (m2 - 1 + 1) = msS (yrS b) (m2 - 1) + mdS (yrS b) (m2 - 1 + 1) := rfl; rw [e9, show m2 - 1 + 1 = m2 by omega]; omega) (by omega)
    refine x_L (L' := [(0, .ref mo), (1, .int (nI fr)), (6, .int (nI (yrS b))), (7, .int (nI (moS b))), (8, .int (nI (dyS b))), (9, .long (lN (dyS b - 1))), (11, .int (nI 1))]) [2, 3, 4, 5, 6, 1, 0] rfl ?_
    exact cut244 (moS b - 1 + 1) 1 (dyS b - 1) (by first | omega | assumption) (by first | omega | assumption) (by show _ = _ + 0; omega) (by omega)
  refine x_aload_n C dX10_day_0 (q := 1) rfl rfl 0 rfl ?_
  refine x_get C (ci := 9) (v := .ref (mr 4)) hw0 0 rfl rfl 8 (by decide) hw1 rfl dX10_day_1 (q := 4) rfl ?_
  refine x_iload_n C dX10_day_4 (q := 5) rfl rfl 1 rfl ?_
  refine x_iconst C dX10_day_5 (q := 6) rfl (v := nI 4) (by decide) ?_
  refine x_iadd C dX10_day_6 (q := 7) rfl (z := nI (fr + 4)) (nI_add fr 4) ?_
  have hb7 := hby (fr + 4)
  refine x_iald C (j := fr + 4) (v := nI (by9 (fr + 4))) 1 rfl (nI_toInt (by omega)) (by omega) rfl dX10_day_7 (q := 8) rfl ?_
  refine x_bipush C dX10_day_8 (q := 10) rfl (v := nI 45) (by decide) ?_
  refine x_icmp_ne C (tgt := 17) dX10_day_10 (by decide) (q := 13) rfl (a := ((by9 (fr + 4) : Nat) : Int)) (b := 45) (nI_toInt (by omega)) rfl (fun h8 => ?_) (fun h8 => ?_)
  · first
    | (exfalso; omega)
    |
      refine x_iconst C dX10_day_17 (q := 18) rfl (v := nI 0) (by decide) ?_
      refine x_istore_n C (L' := [(2, .int (nI 0)), (0, .ref mo), (1, .int (nI fr))]) dX10_day_18 (q := 19) rfl rfl (by decide) rfl ?_
      refine x_iload_n C dX10_day_19 (q := 20) rfl rfl 0 rfl ?_
      refine x_if_eq C (tgt := 27) dX10_day_20 (by decide) (q := 23) rfl (a := 0) rfl (fun h9 => ?_) (fun h9 => (by omega : False).elim)
      refine x_iconst C dX10_day_27 (q := 28) rfl (v := nI 2) (by decide) ?_
      refine x_istore_n C (L' := [(3, .int (nI 2)), (2, .int (nI 0)), (0, .ref mo), (1, .int (nI fr))]) dX10_day_28 (q := 29) rfl rfl (by decide) rfl ?_
      refine x_iload_n C dX10_day_29 (q := 30) rfl rfl 1 rfl ?_
      refine x_if_eq C (tgt := 38) dX10_day_30 (by decide) (q := 33) rfl (a := 0) rfl (fun h10 => ?_) (fun h10 => (by omega : False).elim)
      refine x_iconst C dX10_day_38 (q := 39) rfl (v := nI 5) (by decide) ?_
      refine x_istore C (L' := [(4, .int (nI 5)), (3, .int (nI 2)), (2, .int (nI 0)), (0, .ref mo), (1, .int (nI fr))]) dX10_day_39 (q := 41) rfl (by decide) rfl ?_
      refine x_iload_n C dX10_day_41 (q := 42) rfl rfl 2 rfl ?_
      refine x_if_eq C (tgt := 50) dX10_day_42 (by decide) (q := 45) rfl (a := 0) rfl (fun h11 => ?_) (fun h11 => (by omega : False).elim)
      refine x_bipush C dX10_day_50 (q := 52) rfl (v := nI 47) (by decide) ?_
      refine x_istore C (L' := [(5, .int (nI 47)), (4, .int (nI 5)), (3, .int (nI 2)), (2, .int (nI 0)), (0, .ref mo), (1, .int (nI fr))]) dX10_day_52 (q := 54) rfl (by decide) rfl ?_
      refine x_iconst C dX10_day_54 (q := 55) rfl (v := nI 0) (by decide) ?_
      refine x_istore C (L' := [(6, .int (nI 0)), (5, .int (nI 47)), (4, .int (nI 5)), (3, .int (nI 2)), (2, .int (nI 0)), (0, .ref mo), (1, .int (nI fr))]) dX10_day_55 (q := 57) rfl (by decide) rfl ?_
      have cut57 : ∀ (fuel : Nat) (k : Nat), (k ≤ 10) → (∀ j, j < k → ((j = 2 ∨ j = 5) → b j = 47) ∧ (¬ (j = 2 ∨ j = 5) → 48 ≤ b j ∧ b j ≤ 57)) → 10 - k < fuel → xG p l e R s m args below meth c Q D A 12 [(mo, .inr (9, [.int (nI cols), .int (nI lc), .int (nI smp), .int (ky), .ref (mr 0), .ref (mr 1), .ref (mr 2), .ref (mr 3), .ref (mr 4), .ref (mr 5), .ref (mr 6), .ref (mr 7), .ref (mr 8), .ref (mr 9), .int (nI mk), .int (nI rs), .ref (mr 10), .ref (mr 11), .ref (mr 12), .ref (mr 13), .ref (mr 14), .ref (mr 15), .ref (mr 16), .ref (mr 17), .ref (mr 18), .ref (mr 19), .ref (mr 20), .int (nI nse), .int (nI npa), .int (nI nbo), .ref (mr 21), .int (nI tn), .ref (mr 22), .int (nI ik), .int (j0), .int (j1), .ref (mr 23), .int (j2), .ref (mr 24), .ref (mr 25), .int (j3), .ref (mr 26), .int (j4), .ref (mr 27), .ref (mr 28), .ref (mr 29), .ref (mr 30)])), (mr 4, .inl (cy 1, 1440, .inl (fun k => nI (by9 k))))] 0 0 57 [(0, .ref mo), (1, .int (nI fr)), (2, .int (nI 0)), (3, .int (nI 2)), (4, .int (nI 5)), (5, .int (nI 47)), (6, .int (nI k))] [] := by
        intro fuel
        induction fuel with
        | zero =>
          intro k hk hp hmu
          exact absurd hmu (Nat.not_lt_zero _)
        | succ fuel ih =>
          intro k hk hp hmu
          have hbk : k < 10 → by9 (fr + k) = b k := fun h => hb k h
          have ih57 := ih
          clear ih
          refine x_iload C dX10_day_57 (q := 59) rfl 6 rfl ?_
          refine x_bipush C dX10_day_59 (q := 61) rfl (v := nI 10) (by decide) ?_
          refine x_icmp_ge C (tgt := 126) dX10_day_61 (by decide) (q := 64) rfl (a := ((k : Nat) : Int)) (b := 10) (nI_toInt (by omega)) rfl (fun h12 => ?_) (fun h12 => ?_)
          · first
            | (exfalso; omega)
            |
              have p0 := hp 0 (by omega)
              have p1 := hp 1 (by omega)
              have p2 := hp 2 (by omega)
              have p3 := hp 3 (by omega)
              have p4 := hp 4 (by omega)
              have p5 := hp 5 (by omega)
              have p6 := hp 6 (by omega)
              have p7 := hp 7 (by omega)
              have p8 := hp 8 (by omega)
              have p9 := hp 9 (by omega)
              have b0 := hb 0 (by omega)
              have b1 := hb 1 (by omega)
              have b2 := hb 2 (by omega)
              have b3 := hb 3 (by omega)
              have b4 := hb 4 (by omega)
              have b5 := hb 5 (by omega)
              have b6 := hb 6 (by omega)
              have b7 := hb 7 (by omega)
              have b8 := hb 8 (by omega)
              have b9 := hb 9 (by omega)
              have hpt : patD b := by
                unfold patD dg1
                omega
              have hpo : patD b ∨ patY b := Or.inl hpt
              have hyl := yrS_lt hpo
              have hml := moS_lt hpo
              have hdl := dyS_lt hpo
              have hb2 : b 2 = 47 := by omega
              have ey : numD by9 (fr + 6) 4 = yrS b := by
                unfold yrS
                rw [if_pos hb2]
                exact numD_cong (b := by9) (c := b) (p := 6) (d := fr) 4 (fun j hj => (by rw [Nat.add_assoc]; exact hb (6 + j) (by omega)))
              have em : numD by9 (fr + 3) 2 = moS b := by
                unfold moS
                rw [if_pos hb2]
                exact numD_cong (b := by9) (c := b) (p := 3) (d := fr) 2 (fun j hj => (by rw [Nat.add_assoc]; exact hb (3 + j) (by omega)))
              have ed : numD by9 (fr) 2 = dyS b := by
                unfold dyS
                rw [if_pos hb2]
                exact numD_cong (b := by9) (c := b) (p := 0) (d := fr) 2 (fun j hj => (by rw [Nat.add_assoc]; exact hb (0 + j) (by omega)))
              refine x_aload_n C dX10_day_126 (q := 127) rfl rfl 0 rfl ?_
              refine x_iload_n C dX10_day_127 (q := 128) rfl rfl 2 rfl ?_
              refine x_if_eq C (tgt := 135) dX10_day_128 (by decide) (q := 131) rfl (a := 0) rfl (fun h13 => ?_) (fun h13 => (by omega : False).elim)
              refine x_iload_n C dX10_day_135 (q := 136) rfl rfl 1 rfl ?_
              refine x_bipush C dX10_day_136 (q := 138) rfl (v := nI 6) (by decide) ?_
              refine x_iadd C dX10_day_138 (q := 139) rfl (z := nI (fr + 6)) (nI_add fr 6) ?_
              refine x_iconst C dX10_day_139 (q := 140) rfl (v := nI 4) (by decide) ?_
              refine x_callV C (roW := []) (roR := []) (c_X10_digitsOf l D cy mo mr cols lc smp mk rs nse npa nbo tn ik ky j0 j1 j2 j3 j4 by9 (fr + 6) 4 (by assumption) (by first | assumption | omega | (simp only []; omega)) (by first | assumption | omega | (simp only []; omega)) (by intro j hj; have e7 : j = 0 ∨ j = 1 ∨ j = 2 ∨ j = 3 := (by omega); (rcases e7 with rfl | rfl | rfl | rfl <;> first | omega | (simp only [Nat.add_assoc, Nat.reduceAdd]; omega)))) (cwV 2 C.2.2.2.2.1 gX10_day_X10_digitsOf rfl rfl rfl (by decide +kernel) (by rw [hR]; exact ⟨Nat.le_of_ble_eq_true rfl, Nat.le_of_ble_eq_true rfl⟩)) [0, 1] [] rfl (by decide) rfl (by decide) xro_nil (List.mem_of_getElem? (i := 0) rfl) (ci := 9) rfl xT_bl (fun _ _ _ _ _ _ _ => trivial) rfl rfl dX10_day_140 rfl rfl (Nat.le_of_ble_eq_true rfl) (q := 143) rfl (k' := 0) rfl (n' := 0) rfl (by rw [hR]; exact ⟨Nat.le_of_ble_eq_true rfl, Nat.le_of_ble_eq_true rfl⟩) (fun v14 w14 hp14 => ?_)
              obtain ⟨rfl, rfl⟩ := hp14
              refine x_ws (ws' := [(mo, .inr (9, [.int (nI cols), .int (nI lc), .int (nI smp), .int (ky), .ref (mr 0), .ref (mr 1), .ref (mr 2), .ref (mr 3), .ref (mr 4), .ref (mr 5), .ref (mr 6), .ref (mr 7), .ref (mr 8), .ref (mr 9), .int (nI mk), .int (nI rs), .ref (mr 10), .ref (mr 11), .ref (mr 12), .ref (mr 13), .ref (mr 14), .ref (mr 15), .ref (mr 16), .ref (mr 17), .ref (mr 18), .ref (mr 19), .ref (mr 20), .int (nI nse), .int (nI npa), .int (nI nbo), .ref (mr 21), .int (nI tn), .ref (mr 22), .int (nI ik), .int (j0), .int (j1), .ref (mr 23), .int (j2), .ref (mr 24), .ref (mr 25), .int (j3), .ref (mr 26), .int (j4), .ref (mr 27), .ref (mr 28), .ref (mr 29), .ref (mr 30)])), (mr 4, .inl (cy 1, 1440, .inl (fun k => nI (by9 k))))]) rfl ?_
              refine x_istore C (L' := [(6, .int (nI (numD by9 (fr + 6) 4))), (0, .ref mo), (1, .int (nI fr)), (2, .int (nI 0)), (3, .int (nI 2)), (4, .int (nI 5)), (5, .int (nI 47))]) dX10_day_143 (q := 145) rfl (by decide) rfl ?_
              refine x_aload_n C dX10_day_145 (q := 146) rfl rfl 1 rfl ?_
              refine x_iload_n C dX10_day_146 (q := 147) rfl rfl 3 rfl ?_
              refine x_if_eq C (tgt := 156) dX10_day_147 (by decide) (q := 150) rfl (a := 0) rfl (fun h15 => ?_) (fun h15 => (by omega : False).elim)
              refine x_iload_n C dX10_day_156 (q := 157) rfl rfl 2 rfl ?_
              refine x_iconst C dX10_day_157 (q := 158) rfl (v := nI 3) (by decide) ?_
              refine x_iadd C dX10_day_158 (q := 159) rfl (z := nI (fr + 3)) (nI_add fr 3) ?_
              refine x_iconst C dX10_day_159 (q := 160) rfl (v := nI 2) (by decide) ?_
              refine x_callV C (roW := []) (roR := []) (c_X10_digitsOf l D cy mo mr cols lc smp mk rs nse npa nbo tn ik ky j0 j1 j2 j3 j4 by9 (fr + 3) 2 (by assumption) (by first | assumption | omega | (simp only []; omega)) (by first | assumption | omega | (simp only []; omega)) (by intro j hj; have e7 : j = 0 ∨ j = 1 := (by omega); (rcases e7 with rfl | rfl <;> first | omega | (simp only [Nat.add_assoc, Nat.reduceAdd]; omega)))) (cwV 2 C.2.2.2.2.1 gX10_day_X10_digitsOf rfl rfl rfl (by decide +kernel) (by rw [hR]; exact ⟨Nat.le_of_ble_eq_true rfl, Nat.le_of_ble_eq_true rfl⟩)) [0, 1] [] rfl (by decide) rfl (by decide) xro_nil (List.mem_of_getElem? (i := 0) rfl) (ci := 9) rfl xT_bl (fun _ _ _ _ _ _ _ => trivial) rfl rfl dX10_day_160 rfl rfl (Nat.le_of_ble_eq_true rfl) (q := 163) rfl (k' := 0) rfl (n' := 0) rfl (by rw [hR]; exact ⟨Nat.le_of_ble_eq_true rfl, Nat.le_of_ble_eq_true rfl⟩) (fun v16 w16 hp16 => ?_)
              obtain ⟨rfl, rfl⟩ := hp16
              refine x_ws (ws' := [(mo, .inr (9, [.int (nI cols), .int (nI lc), .int (nI smp), .int (ky), .ref (mr 0), .ref (mr 1), .ref (mr 2), .ref (mr 3), .ref (mr 4), .ref (mr 5), .ref (mr 6), .ref (mr 7), .ref (mr 8), .ref (mr 9), .int (nI mk), .int (nI rs), .ref (mr 10), .ref (mr 11), .ref (mr 12), .ref (mr 13), .ref (mr 14), .ref (mr 15), .ref (mr 16), .ref (mr 17), .ref (mr 18), .ref (mr 19), .ref (mr 20), .int (nI nse), .int (nI npa), .int (nI nbo), .ref (mr 21), .int (nI tn), .ref (mr 22), .int (nI ik), .int (j0), .int (j1), .ref (mr 23), .int (j2), .ref (mr 24), .ref (mr 25), .int (j3), .ref (mr 26), .int (j4), .ref (mr 27), .ref (mr 28), .ref (mr 29), .ref (mr 30)])), (mr 4, .inl (cy 1, 1440, .inl (fun k => nI (by9 k))))]) rfl ?_
              refine x_istore C (L' := [(7, .int (nI (numD by9 (fr + 3) 2))), (6, .int (nI (numD by9 (fr + 6) 4))), (0, .ref mo), (1, .int (nI fr)), (2, .int (nI 0)), (3, .int (nI 2)), (4, .int (nI 5)), (5, .int (nI 47))]) dX10_day_163 (q := 165) rfl (by decide) rfl ?_
              refine x_aload_n C dX10_day_165 (q := 166) rfl rfl 2 rfl ?_
              refine x_iload_n C dX10_day_166 (q := 167) rfl rfl 4 rfl ?_
              refine x_if_eq C (tgt := 177) dX10_day_167 (by decide) (q := 170) rfl (a := 0) rfl (fun h17 => ?_) (fun h17 => (by omega : False).elim)
              refine x_iload_n C dX10_day_177 (q := 178) rfl rfl 3 rfl ?_
              refine x_iconst C dX10_day_178 (q := 179) rfl (v := nI 2) (by decide) ?_
              refine x_callV C (roW := []) (roR := []) (c_X10_digitsOf l D cy mo mr cols lc smp mk rs nse npa nbo tn ik ky j0 j1 j2 j3 j4 by9 fr 2 (by assumption) (by first | assumption | omega | (simp only []; omega)) (by first | assumption | omega | (simp only []; omega)) (by intro j hj; have e7 : j = 0 ∨ j = 1 := (by omega); (rcases e7 with rfl | rfl <;> first | omega | (simp only [Nat.add_assoc, Nat.reduceAdd]; omega)))) (cwV 2 C.2.2.2.2.1 gX10_day_X10_digitsOf rfl rfl rfl (by decide +kernel) (by rw [hR]; exact ⟨Nat.le_of_ble_eq_true rfl, Nat.le_of_ble_eq_true rfl⟩)) [0, 1] [] rfl (by decide) rfl (by decide) xro_nil (List.mem_of_getElem? (i := 0) rfl) (ci := 9) rfl xT_bl (fun _ _ _ _ _ _ _ => trivial) rfl rfl dX10_day_179 rfl rfl (Nat.le_of_ble_eq_true rfl) (q := 182) rfl (k' := 0) rfl (n' := 0) rfl (by rw [hR]; exact ⟨Nat.le_of_ble_eq_true rfl, Nat.le_of_ble_eq_true rfl⟩) (fun v18 w18 hp18 => ?_)
              obtain ⟨rfl, rfl⟩ := hp18
              refine x_ws (ws' := [(mo, .inr (9, [.int (nI cols), .int (nI lc), .int (nI smp), .int (ky), .ref (mr 0), .ref (mr 1), .ref (mr 2), .ref (mr 3), .ref (mr 4), .ref (mr 5), .ref (mr 6), .ref (mr 7), .ref (mr 8), .ref (mr 9), .int (nI mk), .int (nI rs), .ref (mr 10), .ref (mr 11), .ref (mr 12), .ref (mr 13), .ref (mr 14), .ref (mr 15), .ref (mr 16), .ref (mr 17), .ref (mr 18), .ref (mr 19), .ref (mr 20), .int (nI nse), .int (nI npa), .int (nI nbo), .ref (mr 21), .int (nI tn), .ref (mr 22), .int (nI ik), .int (j0), .int (j1), .ref (mr 23), .int (j2), .ref (mr 24), .ref (mr 25), .int (j3), .ref (mr 26), .int (j4), .ref (mr 27), .ref (mr 28), .ref (mr 29), .ref (mr 30)])), (mr 4, .inl (cy 1, 1440, .inl (fun k => nI (by9 k))))]) rfl ?_
              refine x_istore C (L' := [(8, .int (nI (numD by9 fr 2))), (7, .int (nI (numD by9 (fr + 3) 2))), (6, .int (nI (numD by9 (fr + 6) 4))), (0, .ref mo), (1, .int (nI fr)), (2, .int (nI 0)), (3, .int (nI 2)), (4, .int (nI 5)), (5, .int (nI 47))]) dX10_day_182 (q := 184) rfl (by decide) rfl ?_
              rw [ey, em, ed]
              refine x_iload C dX10_day_184 (q := 186) rfl 2 rfl ?_
              refine x_i2l C dX10_day_186 (q := 187) rfl (v := lN (yrS b)) (nI_l (by omega)) ?_
              refine x_ldc2 C (v := lN 1900) hw2 dX10_day_187 (q := 190) rfl ?_
              refine x_ldc2 C (v := lN 2099) hw3 dX10_day_190 (q := 193) rfl ?_
              refine x_callS C (roW := []) (roR := []) (c_X10_in l D cy (lN (yrS b)) (lN 1900) (lN 2099) (((yrS b : Nat) : Int)) 1900 2099 (pk_lT (by omega)) rfl rfl) (cwS 3 C.2.2.2.2.1 gX10_day_X10_in rfl rfl rfl (by decide +kernel) (by rw [hR]; exact ⟨Nat.le_of_ble_eq_true rfl, Nat.le_of_ble_eq_true rfl⟩)) [] [] rfl (by decide) rfl (by decide) xro_nil xT_bl (fun _ _ _ _ _ _ _ => trivial) rfl rfl dX10_day_193 rfl rfl (Nat.le_of_ble_eq_true rfl) (q := 196) rfl (k' := 0) rfl (n' := 0) rfl (by rw [hR]; exact ⟨Nat.le_of_ble_eq_true rfl, Nat.le_of_ble_eq_true rfl⟩) (fun v19 w19 hp19 => ?_)
              rcases hp19 with hp19 | hp19
              · skip
                obtain ⟨rfl, rfl, hc20, hc21⟩ := hp19
                refine x_ws (ws' := [(mo, .inr (9, [.int (nI cols), .int (nI lc), .int (nI smp), .int (ky), .ref (mr 0), .ref (mr 1), .ref (mr 2), .ref (mr 3), .ref (mr 4), .ref (mr 5), .ref (mr 6), .ref (mr 7), .ref (mr 8), .ref (mr 9), .int (nI mk), .int (nI rs), .ref (mr 10), .ref (mr 11), .ref (mr 12), .ref (mr 13), .ref (mr 14), .ref (mr 15), .ref (mr 16), .ref (mr 17), .ref (mr 18), .ref (mr 19), .ref (mr 20), .int (nI nse), .int (nI npa), .int (nI nbo), .ref (mr 21), .int (nI tn), .ref (mr 22), .int (nI ik), .int (j0), .int (j1), .ref (mr 23), .int (j2), .ref (mr 24), .ref (mr 25), .int (j3), .ref (mr 26), .int (j4), .ref (mr 27), .ref (mr 28), .ref (mr 29), .ref (mr 30)])), (mr 4, .inl (cy 1, 1440, .inl (fun k => nI (by9 k))))]) (List.append_nil _) ?_
                refine x_if_eq C (tgt := 230) dX10_day_196 (by decide) (q := 199) rfl (a := 1) rfl (fun h22 => (by omega : False).elim) (fun h22 => ?_)
                refine x_iload C dX10_day_199 (q := 201) rfl 1 rfl ?_
                refine x_i2l C dX10_day_201 (q := 202) rfl (v := lN (moS b)) (nI_l (by omega)) ?_
                refine x_lconst C dX10_day_202 (q := 203) rfl (v := lN 1) rfl ?_
                refine x_ldc2 C (v := lN 12) hw4 dX10_day_203 (q := 206) rfl ?_
                refine x_callS C (roW := []) (roR := []) (c_X10_in l D cy (lN (moS b)) (lN 1) (lN 12) (((moS b : Nat) : Int)) 1 12 (pk_lT (by omega)) rfl rfl) (cwS 3 C.2.2.2.2.1 gX10_day_X10_in rfl rfl rfl (by decide +kernel) (by rw [hR]; exact ⟨Nat.le_of_ble_eq_true rfl, Nat.le_of_ble_eq_true rfl⟩)) [] [] rfl (by decide) rfl (by decide) xro_nil xT_bl (fun _ _ _ _ _ _ _ => trivial) rfl rfl dX10_day_206 rfl rfl (Nat.le_of_ble_eq_true rfl) (q := 209) rfl (k' := 0) rfl (n' := 0) rfl (by rw [hR]; exact ⟨Nat.le_of_ble_eq_true rfl, Nat.le_of_ble_eq_true rfl⟩) (fun v23 w23 hp23 => ?_)
                rcases hp23 with hp23 | hp23
                · skip
                  obtain ⟨rfl, rfl, hc24, hc25⟩ := hp23
                  refine x_ws (ws' := [(mo, .inr (9, [.int (nI cols), .int (nI lc), .int (nI smp), .int (ky), .ref (mr 0), .ref (mr 1), .ref (mr 2), .ref (mr 3), .ref (mr 4), .ref (mr 5), .ref (mr 6), .ref (mr 7), .ref (mr 8), .ref (mr 9), .int (nI mk), .int (nI rs), .ref (mr 10), .ref (mr 11), .ref (mr 12), .ref (mr 13), .ref (mr 14), .ref (mr 15), .ref (mr 16), .ref (mr 17), .ref (mr 18), .ref (mr 19), .ref (mr 20), .int (nI nse), .int (nI npa), .int (nI nbo), .ref (mr 21), .int (nI tn), .ref (mr 22), .int (nI ik), .int (j0), .int (j1), .ref (mr 23), .int (j2), .ref (mr 24), .ref (mr 25), .int (j3), .ref (mr 26), .int (j4), .ref (mr 27), .ref (mr 28), .ref (mr 29), .ref (mr 30)])), (mr 4, .inl (cy 1, 1440, .inl (fun k => nI (by9 k))))]) (List.append_nil _) ?_
                  refine x_if_eq C (tgt := 230) dX10_day_209 (by decide) (q := 212) rfl (a := 1) rfl (fun h26 => (by omega : False).elim) (fun h26 => ?_)
                  refine x_iload C dX10_day_212 (q := 214) rfl 0 rfl ?_
                  refine x_i2l C dX10_day_214 (q := 215) rfl (v := lN (dyS b)) (nI_l (by omega)) ?_
                  refine x_lconst C dX10_day_215 (q := 216) rfl (v := lN 1) rfl ?_
                  refine x_iload C dX10_day_216 (q := 218) rfl 2 rfl ?_
                  refine x_iload C dX10_day_218 (q := 220) rfl 1 rfl ?_
                  refine x_callS C (roW := []) (roR := []) (c_X10_days l D cy (yrS b) (moS b) (by first | assumption | omega | (simp only []; omega)) (by first | assumption | omega | (simp only []; omega))) (cwS 2 C.2.2.2.2.1 gX10_day_X10_days rfl rfl rfl (by decide +kernel) (by rw [hR]; exact ⟨Nat.le_of_ble_eq_true rfl, Nat.le_of_ble_eq_true rfl⟩)) [] [] rfl (by decide) rfl (by decide) xro_nil xT_bl (fun _ _ _ _ _ _ _ => trivial) rfl rfl dX10_day_220 rfl rfl (Nat.le_of_ble_eq_true rfl) (q := 223) rfl (k' := 0) rfl (n' := 0) rfl (by rw [hR]; exact ⟨Nat.le_of_ble_eq_true rfl, Nat.le_of_ble_eq_true rfl⟩) (fun v27 w27 hp27 => ?_)
                  obtain ⟨rfl, rfl⟩ := hp27
                  refine x_ws (ws' := [(mo, .inr (9, [.int (nI cols), .int (nI lc), .int (nI smp), .int (ky), .ref (mr 0), .ref (mr 1), .ref (mr 2), .ref (mr 3), .ref (mr 4), .ref (mr 5), .ref (mr 6), .ref (mr 7), .ref (mr 8), .ref (mr 9), .int (nI mk), .int (nI rs), .ref (mr 10), .ref (mr 11), .ref (mr 12), .ref (mr 13), .ref (mr 14), .ref (mr 15), .ref (mr 16), .ref (mr 17), .ref (mr 18), .ref (mr 19), .ref (mr 20), .int (nI nse), .int (nI npa), .int (nI nbo), .ref (mr 21), .int (nI tn), .ref (mr 22), .int (nI ik), .int (j0), .int (j1), .ref (mr 23), .int (j2), .ref (mr 24), .ref (mr 25), .int (j3), .ref (mr 26), .int (j4), .ref (mr 27), .ref (mr 28), .ref (mr 29), .ref (mr 30)])), (mr 4, .inl (cy 1, 1440, .inl (fun k => nI (by9 k))))]) (List.append_nil _) ?_
                  have hml12 := mdS_len (y := yrS b) (m := moS b) (by omega) (by omega)
                  have hmd31 := mdS_le (yrS b) (moS b)
                  refine x_i2l C dX10_day_223 (q := 224) rfl (v := lN (mdS (yrS b) (moS b))) (nI_l (by omega)) ?_
                  refine x_callS C (roW := []) (roR := []) (c_X10_in l D cy (lN (dyS b)) (lN 1) (lN (mdS (yrS b) (moS b))) (((dyS b : Nat) : Int)) 1 (((mdS (yrS b) (moS b) : Nat) : Int)) (pk_lT (by omega)) rfl (pk_lT (by omega))) (cwS 3 C.2.2.2.2.1 gX10_day_X10_in rfl rfl rfl (by decide +kernel) (by rw [hR]; exact ⟨Nat.le_of_ble_eq_true rfl, Nat.le_of_ble_eq_true rfl⟩)) [] [] rfl (by decide) rfl (by decide) xro_nil xT_bl (fun _ _ _ _ _ _ _ => trivial) rfl rfl dX10_day_224 rfl rfl (Nat.le_of_ble_eq_true rfl) (q := 227) rfl (k' := 0) rfl (n' := 0) rfl (by rw [hR]; exact ⟨Nat.le_of_ble_eq_true rfl, Nat.le_of_ble_eq_true rfl⟩) (fun v28 w28 hp28 => ?_)
                  rcases hp28 with hp28 | hp28
                  · skip
                    obtain ⟨rfl, rfl, hc29, hc30⟩ := hp28
                    refine x_ws (ws' := [(mo, .inr (9, [.int (nI cols), .int (nI lc), .int (nI smp), .int (ky), .ref (mr 0), .ref (mr 1), .ref (mr 2), .ref (mr 3), .ref (mr 4), .ref (mr 5), .ref (mr 6), .ref (mr 7), .ref (mr 8), .ref (mr 9), .int (nI mk), .int (nI rs), .ref (mr 10), .ref (mr 11), .ref (mr 12), .ref (mr 13), .ref (mr 14), .ref (mr 15), .ref (mr 16), .ref (mr 17), .ref (mr 18), .ref (mr 19), .ref (mr 20), .int (nI nse), .int (nI npa), .int (nI nbo), .ref (mr 21), .int (nI tn), .ref (mr 22), .int (nI ik), .int (j0), .int (j1), .ref (mr 23), .int (j2), .ref (mr 24), .ref (mr 25), .int (j3), .ref (mr 26), .int (j4), .ref (mr 27), .ref (mr 28), .ref (mr 29), .ref (mr 30)])), (mr 4, .inl (cy 1, 1440, .inl (fun k => nI (by9 k))))]) (List.append_nil _) ?_
                    refine x_if_ne C (tgt := 234) dX10_day_227 (by decide) (q := 230) rfl (a := 1) rfl (fun h31 => ?_) (fun h31 => (by omega : False).elim)
                    refine x_L (L' := [(0, .ref mo), (1, .int (nI fr)), (6, .int (nI (yrS b))), (7, .int (nI (moS b))), (8, .int (nI (dyS b)))]) [3, 4, 2, 1, 0] rfl ?_
                    exact cut234  (by first | omega | assumption)
                  · skip
                    obtain ⟨rfl, rfl, hc32⟩ := hp28
                    refine x_ws (ws' := [(mo, .inr (9, [.int (nI cols), .int (nI lc), .int (nI smp), .int (ky), .ref (mr 0), .ref (mr 1), .ref (mr 2), .ref (mr 3), .ref (mr 4), .ref (mr 5), .ref (mr 6), .ref (mr 7), .ref (mr 8), .ref (mr 9), .int (nI mk), .int (nI rs), .ref (mr 10), .ref (mr 11), .ref (mr 12), .ref (mr 13), .ref (mr 14), .ref (mr 15), .ref (mr 16), .ref (mr 17), .ref (mr 18), .ref (mr 19), .ref (mr 20), .int (nI nse), .int (nI npa), .int (nI nbo), .ref (mr 21), .int (nI tn), .ref (mr 22), .int (nI ik), .int (j0), .int (j1), .ref (mr 23), .int (j2), .ref (mr 24), .ref (mr 25), .int (j3), .ref (mr 26), .int (j4), .ref (mr 27), .ref (mr 28), .ref (mr 29), .ref (mr 30)])), (mr 4, .inl (cy 1, 1440, .inl (fun k => nI (by9 k))))]) (List.append_nil _) ?_
                    refine x_if_ne C (tgt := 234) dX10_day_227 (by decide) (q := 230) rfl (a := 0) rfl (fun h33 => (by omega : False).elim) (fun h33 => ?_)
                    refine x_ldc2 C (v := (-9223372036854775808)) hw5 dX10_day_230 (q := 233) rfl ?_
                    refine x_lret C hA hQ hr dX10_day_233 (Nat.le_of_ble_eq_true rfl) ?_
                    refine Or.inr ⟨rfl, rfl, ?_⟩
                    rintro ⟨_, z1, z2, z3, z4⟩
                    rw [ey] at *
                    rw [em] at *
                    rw [ed] at *
                    have z5 := mLen_0 (y := yrS b) (m := moS b)
                    have z6 := mdS_len (y := yrS b) (m := moS b)
                    omega
                · skip
                  obtain ⟨rfl, rfl, hc34⟩ := hp23
                  refine x_ws (ws' := [(mo, .inr (9, [.int (nI cols), .int (nI lc), .int (nI smp), .int (ky), .ref (mr 0), .ref (mr 1), .ref (mr 2), .ref (mr 3), .ref (mr 4), .ref (mr 5), .ref (mr 6), .ref (mr 7), .ref (mr 8), .ref (mr 9), .int (nI mk), .int (nI rs), .ref (mr 10), .ref (mr 11), .ref (mr 12), .ref (mr 13), .ref (mr 14), .ref (mr 15), .ref (mr 16), .ref (mr 17), .ref (mr 18), .ref (mr 19), .ref (mr 20), .int (nI nse), .int (nI npa), .int (nI nbo), .ref (mr 21), .int (nI tn), .ref (mr 22), .int (nI ik), .int (j0), .int (j1), .ref (mr 23), .int (j2), .ref (mr 24), .ref (mr 25), .int (j3), .ref (mr 26), .int (j4), .ref (mr 27), .ref (mr 28), .ref (mr 29), .ref (mr 30)])), (mr 4, .inl (cy 1, 1440, .inl (fun k => nI (by9 k))))]) (List.append_nil _) ?_
                  refine x_if_eq C (tgt := 230) dX10_day_209 (by decide) (q := 212) rfl (a := 0) rfl (fun h35 => ?_) (fun h35 => (by omega : False).elim)
                  refine x_ldc2 C (v := (-9223372036854775808)) hw5 dX10_day_230 (q := 233) rfl ?_
                  refine x_lret C hA hQ hr dX10_day_233 (Nat.le_of_ble_eq_true rfl) ?_
                  refine Or.inr ⟨rfl, rfl, ?_⟩
                  rintro ⟨_, z1, z2, z3, z4⟩
                  rw [ey] at *
                  rw [em] at *
                  rw [ed] at *
                  have z5 := mLen_0 (y := yrS b) (m := moS b)
                  have z6 := mdS_len (y := yrS b) (m := moS b)
                  omega
              · skip
                obtain ⟨rfl, rfl, hc36⟩ := hp19
                refine x_ws (ws' := [(mo, .inr (9, [.int (nI cols), .int (nI lc), .int (nI smp), .int (ky), .ref (mr 0), .ref (mr 1), .ref (mr 2), .ref (mr 3), .ref (mr 4), .ref (mr 5), .ref (mr 6), .ref (mr 7), .ref (mr 8), .ref (mr 9), .int (nI mk), .int (nI rs), .ref (mr 10), .ref (mr 11), .ref (mr 12), .ref (mr 13), .ref (mr 14), .ref (mr 15), .ref (mr 16), .ref (mr 17), .ref (mr 18), .ref (mr 19), .ref (mr 20), .int (nI nse), .int (nI npa), .int (nI nbo), .ref (mr 21), .int (nI tn), .ref (mr 22), .int (nI ik), .int (j0), .int (j1), .ref (mr 23), .int (j2), .ref (mr 24), .ref (mr 25), .int (j3), .ref (mr 26), .int (j4), .ref (mr 27), .ref (mr 28), .ref (mr 29), .ref (mr 30)])), (mr 4, .inl (cy 1, 1440, .inl (fun k => nI (by9 k))))]) (List.append_nil _) ?_
                refine x_if_eq C (tgt := 230) dX10_day_196 (by decide) (q := 199) rfl (a := 0) rfl (fun h37 => ?_) (fun h37 => (by omega : False).elim)
                refine x_ldc2 C (v := (-9223372036854775808)) hw5 dX10_day_230 (q := 233) rfl ?_
                refine x_lret C hA hQ hr dX10_day_233 (Nat.le_of_ble_eq_true rfl) ?_
                refine Or.inr ⟨rfl, rfl, ?_⟩
                rintro ⟨_, z1, z2, z3, z4⟩
                rw [ey] at *
                rw [em] at *
                rw [ed] at *
                have z5 := mLen_0 (y := yrS b) (m := moS b)
                have z6 := mdS_len (y := yrS b) (m := moS b)
                omega
          · first
            | (exfalso; omega)
            |
              refine x_iload C dX10_day_64 (q := 66) rfl 6 rfl ?_
              refine x_iload_n C dX10_day_66 (q := 67) rfl rfl 3 rfl ?_
              refine x_icmp_eq C (tgt := 77) dX10_day_67 (by decide) (q := 70) rfl (a := ((k : Nat) : Int)) (b := 2) (nI_toInt (by omega)) rfl (fun h38 => ?_) (fun h38 => ?_)
              · first
                | (exfalso; omega)
                |
                  refine x_aload_n C dX10_day_77 (q := 78) rfl rfl 0 rfl ?_
                  refine x_get C (ci := 9) (v := .ref (mr 4)) hw0 0 rfl rfl 8 (by decide) hw1 rfl dX10_day_78 (q := 81) rfl ?_
                  refine x_iload_n C dX10_day_81 (q := 82) rfl rfl 1 rfl ?_
                  refine x_iload C dX10_day_82 (q := 84) rfl 6 rfl ?_
                  refine x_iadd C dX10_day_84 (q := 85) rfl (z := nI (fr + k)) (nI_add fr k) ?_
                  have hb39 := hby (fr + k)
                  refine x_iald C (j := fr + k) (v := nI (by9 (fr + k))) 1 rfl (nI_toInt (by omega)) (by omega) rfl dX10_day_85 (q := 86) rfl ?_
                  refine x_iload C dX10_day_86 (q := 88) rfl 5 rfl ?_
                  refine x_icmp_eq C (tgt := 120) dX10_day_88 (by decide) (q := 91) rfl (a := ((by9 (fr + k) : Nat) : Int)) (b := 47) (nI_toInt (by omega)) rfl (fun h40 => ?_) (fun h40 => ?_)
                  · first
                    | (exfalso; omega)
                    |
                      refine x_iinc C (L' := [(6, .int (nI (k + 1))), (0, .ref mo), (1, .int (nI fr)), (2, .int (nI 0)), (3, .int (nI 2)), (4, .int (nI 5)), (5, .int (nI 47))]) dX10_day_120 (q := 123) rfl 6 rfl (v := nI (k + 1)) (nI_add k 1) (by decide) rfl ?_
                      refine x_goto C (tgt := 57) dX10_day_123 (by decide) ?_
                      refine x_L (L' := [(0, .ref mo), (1, .int (nI fr)), (2, .int (nI 0)), (3, .int (nI 2)), (4, .int (nI 5)), (5, .int (nI 47)), (6, .int (nI (k + 1)))]) [1, 2, 3, 4, 5, 6, 0] rfl ?_
                      exact ih57 (k + 1) (by first | omega | assumption) (by intro j hj; by_cases e9 : j = k; (subst e9; have e8 := hbk (by omega); constructor; (intro e7; omega); (intro e7; omega)); (exact hp j (by omega))) (by omega)
                  · first
                    | (exfalso; omega)
                    |
                      refine x_goto C (tgt := 116) dX10_day_91 (by decide) ?_
                      refine x_ldc2 C (v := (-9223372036854775808)) hw5 dX10_day_116 (q := 119) rfl ?_
                      refine x_lret C hA hQ hr dX10_day_119 (Nat.le_of_ble_eq_true rfl) ?_
                      refine Or.inr ⟨rfl, rfl, ?_⟩
                      rintro ⟨h, _⟩
                      have hb4 := hb 4 (by omega)
                      have e8 := hbk (by omega)
                      unfold patD patY dg1 at h
                      have e6 : k = 0 ∨ k = 1 ∨ k = 2 ∨ k = 3 ∨ k = 4 ∨ k = 5 ∨ k = 6 ∨ k = 7 ∨ k = 8 ∨ k = 9 := by omega
                      rcases e6 with rfl | rfl | rfl | rfl | rfl | rfl | rfl | rfl | rfl | rfl <;> omega
              · first
                | (exfalso; omega)
                |
                  refine x_iload C dX10_day_70 (q := 72) rfl 6 rfl ?_
                  refine x_iload C dX10_day_72 (q := 74) rfl 4 rfl ?_
                  refine x_icmp_ne C (tgt := 94) dX10_day_74 (by decide) (q := 77) rfl (a := ((k : Nat) : Int)) (b := 5) (nI_toInt (by omega)) rfl (fun h41 => ?_) (fun h41 => ?_)
                  · first
                    | (exfalso; omega)
                    |
                      refine x_aload_n C dX10_day_94 (q := 95) rfl rfl 0 rfl ?_
                      refine x_get C (ci := 9) (v := .ref (mr 4)) hw0 0 rfl rfl 8 (by decide) hw1 rfl dX10_day_95 (q := 98) rfl ?_
                      refine x_iload_n C dX10_day_98 (q := 99) rfl rfl 1 rfl ?_
                      refine x_iload C dX10_day_99 (q := 101) rfl 6 rfl ?_
                      refine x_iadd C dX10_day_101 (q := 102) rfl (z := nI (fr + k)) (nI_add fr k) ?_
                      have hb42 := hby (fr + k)
                      refine x_iald C (j := fr + k) (v := nI (by9 (fr + k))) 1 rfl (nI_toInt (by omega)) (by omega) rfl dX10_day_102 (q := 103) rfl ?_
                      refine x_i2l C dX10_day_103 (q := 104) rfl (v := lN (by9 (fr + k))) (nI_l (by omega)) ?_
                      refine x_ldc2 C (v := lN 48) hw6 dX10_day_104 (q := 107) rfl ?_
                      refine x_ldc2 C (v := lN 57) hw7 dX10_day_107 (q := 110) rfl ?_
                      refine x_callS C (roW := []) (roR := []) (c_X10_in l D cy (lN (by9 (fr + k))) (lN 48) (lN 57) (((by9 (fr + k) : Nat) : Int)) 48 57 (pk_lT (by omega)) rfl rfl) (cwS 3 C.2.2.2.2.1 gX10_day_X10_in rfl rfl rfl (by decide +kernel) (by rw [hR]; exact ⟨Nat.le_of_ble_eq_true rfl, Nat.le_of_ble_eq_true rfl⟩)) [] [] rfl (by decide) rfl (by decide) xro_nil xT_bl (fun _ _ _ _ _ _ _ => trivial) rfl rfl dX10_day_110 rfl rfl (Nat.le_of_ble_eq_true rfl) (q := 113) rfl (k' := 0) rfl (n' := 0) rfl (by rw [hR]; exact ⟨Nat.le_of_ble_eq_true rfl, Nat.le_of_ble_eq_true rfl⟩) (fun v43 w43 hp43 => ?_)
                      rcases hp43 with hp43 | hp43
                      · skip
                        obtain ⟨rfl, rfl, hc44, hc45⟩ := hp43
                        refine x_ws (ws' := [(mo, .inr (9, [.int (nI cols), .int (nI lc), .int (nI smp), .int (ky), .ref (mr 0), .ref (mr 1), .ref (mr 2), .ref (mr 3), .ref (mr 4), .ref (mr 5), .ref (mr 6), .ref (mr 7), .ref (mr 8), .ref (mr 9), .int (nI mk), .int (nI rs), .ref (mr 10), .ref (mr 11), .ref (mr 12), .ref (mr 13), .ref (mr 14), .ref (mr 15), .ref (mr 16), .ref (mr 17), .ref (mr 18), .ref (mr 19), .ref (mr 20), .int (nI nse), .int (nI npa), .int (nI nbo), .ref (mr 21), .int (nI tn), .ref (mr 22), .int (nI ik), .int (j0), .int (j1), .ref (mr 23), .int (j2), .ref (mr 24), .ref (mr 25), .int (j3), .ref (mr 26), .int (j4), .ref (mr 27), .ref (mr 28), .ref (mr 29), .ref (mr 30)])), (mr 4, .inl (cy 1, 1440, .inl (fun k => nI (by9 k))))]) (List.append_nil _) ?_
                        refine x_if_ne C (tgt := 120) dX10_day_113 (by decide) (q := 116) rfl (a := 1) rfl (fun h46 => ?_) (fun h46 => (by omega : False).elim)
                        refine x_iinc C (L' := [(6, .int (nI (k + 1))), (0, .ref mo), (1, .int (nI fr)), (2, .int (nI 0)), (3, .int (nI 2)), (4, .int (nI 5)), (5, .int (nI 47))]) dX10_day_120 (q := 123) rfl 6 rfl (v := nI (k + 1)) (nI_add k 1) (by decide) rfl ?_
                        refine x_goto C (tgt := 57) dX10_day_123 (by decide) ?_
                        refine x_L (L' := [(0, .ref mo), (1, .int (nI fr)), (2, .int (nI 0)), (3, .int (nI 2)), (4, .int (nI 5)), (5, .int (nI 47)), (6, .int (nI (k + 1)))]) [1, 2, 3, 4, 5, 6, 0] rfl ?_
                        exact ih57 (k + 1) (by first | omega | assumption) (by intro j hj; by_cases e9 : j = k; (subst e9; have e8 := hbk (by omega); constructor; (intro e7; omega); (intro e7; omega)); (exact hp j (by omega))) (by omega)
                      · skip
                        obtain ⟨rfl, rfl, hc47⟩ := hp43
                        refine x_ws (ws' := [(mo, .inr (9, [.int (nI cols), .int (nI lc), .int (nI smp), .int (ky), .ref (mr 0), .ref (mr 1), .ref (mr 2), .ref (mr 3), .ref (mr 4), .ref (mr 5), .ref (mr 6), .ref (mr 7), .ref (mr 8), .ref (mr 9), .int (nI mk), .int (nI rs), .ref (mr 10), .ref (mr 11), .ref (mr 12), .ref (mr 13), .ref (mr 14), .ref (mr 15), .ref (mr 16), .ref (mr 17), .ref (mr 18), .ref (mr 19), .ref (mr 20), .int (nI nse), .int (nI npa), .int (nI nbo), .ref (mr 21), .int (nI tn), .ref (mr 22), .int (nI ik), .int (j0), .int (j1), .ref (mr 23), .int (j2), .ref (mr 24), .ref (mr 25), .int (j3), .ref (mr 26), .int (j4), .ref (mr 27), .ref (mr 28), .ref (mr 29), .ref (mr 30)])), (mr 4, .inl (cy 1, 1440, .inl (fun k => nI (by9 k))))]) (List.append_nil _) ?_
                        refine x_if_ne C (tgt := 120) dX10_day_113 (by decide) (q := 116) rfl (a := 0) rfl (fun h48 => (by omega : False).elim) (fun h48 => ?_)
                        refine x_ldc2 C (v := (-9223372036854775808)) hw5 dX10_day_116 (q := 119) rfl ?_
                        refine x_lret C hA hQ hr dX10_day_119 (Nat.le_of_ble_eq_true rfl) ?_
                        refine Or.inr ⟨rfl, rfl, ?_⟩
                        rintro ⟨h, _⟩
                        have hb4 := hb 4 (by omega)
                        have e8 := hbk (by omega)
                        unfold patD patY dg1 at h
                        have e6 : k = 0 ∨ k = 1 ∨ k = 2 ∨ k = 3 ∨ k = 4 ∨ k = 5 ∨ k = 6 ∨ k = 7 ∨ k = 8 ∨ k = 9 := by omega
                        rcases e6 with rfl | rfl | rfl | rfl | rfl | rfl | rfl | rfl | rfl | rfl <;> omega
                  · first
                    | (exfalso; omega)
                    |
                      refine x_aload_n C dX10_day_77 (q := 78) rfl rfl 0 rfl ?_
                      refine x_get C (ci := 9) (v := .ref (mr 4)) hw0 0 rfl rfl 8 (by decide) hw1 rfl dX10_day_78 (q := 81) rfl ?_
                      refine x_iload_n C dX10_day_81 (q := 82) rfl rfl 1 rfl ?_
                      refine x_iload C dX10_day_82 (q := 84) rfl 6 rfl ?_
                      refine x_iadd C dX10_day_84 (q := 85) rfl (z := nI (fr + k)) (nI_add fr k) ?_
                      have hb49 := hby (fr + k)
                      refine x_iald C (j := fr + k) (v := nI (by9 (fr + k))) 1 rfl (nI_toInt (by omega)) (by omega) rfl dX10_day_85 (q := 86) rfl ?_
                      refine x_iload C dX10_day_86 (q := 88) rfl 5 rfl ?_
                      refine x_icmp_eq C (tgt := 120) dX10_day_88 (by decide) (q := 91) rfl (a := ((by9 (fr + k) : Nat) : Int)) (b := 47) (nI_toInt (by omega)) rfl (fun h50 => ?_) (fun h50 => ?_)
                      · first
                        | (exfalso; omega)
                        |
                          refine x_iinc C (L' := [(6, .int (nI (k + 1))), (0, .ref mo), (1, .int (nI fr)), (2, .int (nI 0)), (3, .int (nI 2)), (4, .int (nI 5)), (5, .int (nI 47))]) dX10_day_120 (q := 123) rfl 6 rfl (v := nI (k + 1)) (nI_add k 1) (by decide) rfl ?_
                          refine x_goto C (tgt := 57) dX10_day_123 (by decide) ?_
                          refine x_L (L' := [(0, .ref mo), (1, .int (nI fr)), (2, .int (nI 0)), (3, .int (nI 2)), (4, .int (nI 5)), (5, .int (nI 47)), (6, .int (nI (k + 1)))]) [1, 2, 3, 4, 5, 6, 0] rfl ?_
                          exact ih57 (k + 1) (by first | omega | assumption) (by intro j hj; by_cases e9 : j = k; (subst e9; have e8 := hbk (by omega); constructor; (intro e7; omega); (intro e7; omega)); (exact hp j (by omega))) (by omega)
                      · first
                        | (exfalso; omega)
                        |
                          refine x_goto C (tgt := 116) dX10_day_91 (by decide) ?_
                          refine x_ldc2 C (v := (-9223372036854775808)) hw5 dX10_day_116 (q := 119) rfl ?_
                          refine x_lret C hA hQ hr dX10_day_119 (Nat.le_of_ble_eq_true rfl) ?_
                          refine Or.inr ⟨rfl, rfl, ?_⟩
                          rintro ⟨h, _⟩
                          have hb4 := hb 4 (by omega)
                          have e8 := hbk (by omega)
                          unfold patD patY dg1 at h
                          have e6 : k = 0 ∨ k = 1 ∨ k = 2 ∨ k = 3 ∨ k = 4 ∨ k = 5 ∨ k = 6 ∨ k = 7 ∨ k = 8 ∨ k = 9 := by omega
                          rcases e6 with rfl | rfl | rfl | rfl | rfl | rfl | rfl | rfl | rfl | rfl <;> omega
      refine x_L (L' := [(0, .ref mo), (1, .int (nI fr)), (2, .int (nI 0)), (3, .int (nI 2)), (4, .int (nI 5)), (5, .int (nI 47)), (6, .int (nI 0))]) [5, 6, 4, 3, 2, 1, 0] rfl ?_
      exact cut57 (10 - 0 + 1) 0 (by first | omega | assumption) (by intro j hj; omega) (by omega)
  · first
    | (exfalso; omega)
    |
      refine x_iconst C dX10_day_13 (q := 14) rfl (v := nI 1) (by decide) ?_
      refine x_goto C (tgt := 18) dX10_day_14 (by decide) ?_
      refine x_istore_n C (L' := [(2, .int (nI 1)), (0, .ref mo), (1, .int (nI fr))]) dX10_day_18 (q := 19) rfl rfl (by decide) rfl ?_
      refine x_iload_n C dX10_day_19 (q := 20) rfl rfl 0 rfl ?_
      refine x_if_eq C (tgt := 27) dX10_day_20 (by decide) (q := 23) rfl (a := 1) rfl (fun h51 => (by omega : False).elim) (fun h51 => ?_)
      refine x_iconst C dX10_day_23 (q := 24) rfl (v := nI 4) (by decide) ?_
      refine x_goto C (tgt := 28) dX10_day_24 (by decide) ?_
      refine x_istore_n C (L' := [(3, .int (nI 4)), (2, .int (nI 1)), (0, .ref mo), (1, .int (nI fr))]) dX10_day_28 (q := 29) rfl rfl (by decide) rfl ?_
      refine x_iload_n C dX10_day_29 (q := 30) rfl rfl 1 rfl ?_
      refine x_if_eq C (tgt := 38) dX10_day_30 (by decide) (q := 33) rfl (a := 1) rfl (fun h52 => (by omega : False).elim) (fun h52 => ?_)
      refine x_bipush C dX10_day_33 (q := 35) rfl (v := nI 7) (by decide) ?_
      refine x_goto C (tgt := 39) dX10_day_35 (by decide) ?_
      refine x_istore C (L' := [(4, .int (nI 7)), (3, .int (nI 4)), (2, .int (nI 1)), (0, .ref mo), (1, .int (nI fr))]) dX10_day_39 (q := 41) rfl (by decide) rfl ?_
      refine x_iload_n C dX10_day_41 (q := 42) rfl rfl 2 rfl ?_
      refine x_if_eq C (tgt := 50) dX10_day_42 (by decide) (q := 45) rfl (a := 1) rfl (fun h53 => (by omega : False).elim) (fun h53 => ?_)
      refine x_bipush C dX10_day_45 (q := 47) rfl (v := nI 45) (by decide) ?_
      refine x_goto C (tgt := 52) dX10_day_47 (by decide) ?_
      refine x_istore C (L' := [(5, .int (nI 45)), (4, .int (nI 7)), (3, .int (nI 4)), (2, .int (nI 1)), (0, .ref mo), (1, .int (nI fr))]) dX10_day_52 (q := 54) rfl (by decide) rfl ?_
      refine x_iconst C dX10_day_54 (q := 55) rfl (v := nI 0) (by decide) ?_
      refine x_istore C (L' := [(6, .int (nI 0)), (5, .int (nI 45)), (4, .int (nI 7)), (3, .int (nI 4)), (2, .int (nI 1)), (0, .ref mo), (1, .int (nI fr))]) dX10_day_55 (q := 57) rfl (by decide) rfl ?_
      have cut57 : ∀ (fuel : Nat) (k : Nat), (k ≤ 10) → (∀ j, j < k → ((j = 4 ∨ j = 7) → b j = 45) ∧ (¬ (j = 4 ∨ j = 7) → 48 ≤ b j ∧ b j ≤ 57)) → 10 - k < fuel → xG p l e R s m args below meth c Q D A 12 [(mo, .inr (9, [.int (nI cols), .int (nI lc), .int (nI smp), .int (ky), .ref (mr 0), .ref (mr 1), .ref (mr 2), .ref (mr 3), .ref (mr 4), .ref (mr 5), .ref (mr 6), .ref (mr 7), .ref (mr 8), .ref (mr 9), .int (nI mk), .int (nI rs), .ref (mr 10), .ref (mr 11), .ref (mr 12), .ref (mr 13), .ref (mr 14), .ref (mr 15), .ref (mr 16), .ref (mr 17), .ref (mr 18), .ref (mr 19), .ref (mr 20), .int (nI nse), .int (nI npa), .int (nI nbo), .ref (mr 21), .int (nI tn), .ref (mr 22), .int (nI ik), .int (j0), .int (j1), .ref (mr 23), .int (j2), .ref (mr 24), .ref (mr 25), .int (j3), .ref (mr 26), .int (j4), .ref (mr 27), .ref (mr 28), .ref (mr 29), .ref (mr 30)])), (mr 4, .inl (cy 1, 1440, .inl (fun k => nI (by9 k))))] 0 0 57 [(0, .ref mo), (1, .int (nI fr)), (2, .int (nI 1)), (3, .int (nI 4)), (4, .int (nI 7)), (5, .int (nI 45)), (6, .int (nI k))] [] := by
        intro fuel
        induction fuel with
        | zero =>
          intro k hk hp hmu
          exact absurd hmu (Nat.not_lt_zero _)
        | succ fuel ih =>
          intro k hk hp hmu
          have hbk : k < 10 → by9 (fr + k) = b k := fun h => hb k h
          have ih57 := ih
          clear ih
          refine x_iload C dX10_day_57 (q := 59) rfl 6 rfl ?_
          refine x_bipush C dX10_day_59 (q := 61) rfl (v := nI 10) (by decide) ?_
          refine x_icmp_ge C (tgt := 126) dX10_day_61 (by decide) (q := 64) rfl (a := ((k : Nat) : Int)) (b := 10) (nI_toInt (by omega)) rfl (fun h54 => ?_) (fun h54 => ?_)
          · first
            | (exfalso; omega)
            |
              have p0 := hp 0 (by omega)
              have p1 := hp 1 (by omega)
              have p2 := hp 2 (by omega)
              have p3 := hp 3 (by omega)
              have p4 := hp 4 (by omega)
              have p5 := hp 5 (by omega)
              have p6 := hp 6 (by omega)
              have p7 := hp 7 (by omega)
              have p8 := hp 8 (by omega)
              have p9 := hp 9 (by omega)
              have b0 := hb 0 (by omega)
              have b1 := hb 1 (by omega)
              have b2 := hb 2 (by omega)
              have b3 := hb 3 (by omega)
              have b4 := hb 4 (by omega)
              have b5 := hb 5 (by omega)
              have b6 := hb 6 (by omega)
              have b7 := hb 7 (by omega)
              have b8 := hb 8 (by omega)
              have b9 := hb 9 (by omega)
              have hpt : patY b := by
                unfold patY dg1
                omega
              have hpo : patD b ∨ patY b := Or.inr hpt
              have hyl := yrS_lt hpo
              have hml := moS_lt hpo
              have hdl := dyS_lt hpo
              have hb2 : ¬ b 2 = 47 := by omega
              have ey : numD by9 (fr) 4 = yrS b := by
                unfold yrS
                rw [if_neg hb2]
                exact numD_cong (b := by9) (c := b) (p := 0) (d := fr) 4 (fun j hj => (by rw [Nat.add_assoc]; exact hb (0 + j) (by omega)))
              have em : numD by9 (fr + 5) 2 = moS b := by
                unfold moS
                rw [if_neg hb2]
                exact numD_cong (b := by9) (c := b) (p := 5) (d := fr) 2 (fun j hj => (by rw [Nat.add_assoc]; exact hb (5 + j) (by omega)))
              have ed : numD by9 (fr + 8) 2 = dyS b := by
                unfold dyS
                rw [if_neg hb2]
                exact numD_cong (b := by9) (c := b) (p := 8) (d := fr) 2 (fun j hj => (by rw [Nat.add_assoc]; exact hb (8 + j) (by omega)))
              refine x_aload_n C dX10_day_126 (q := 127) rfl rfl 0 rfl ?_
              refine x_iload_n C dX10_day_127 (q := 128) rfl rfl 2 rfl ?_
              refine x_if_eq C (tgt := 135) dX10_day_128 (by decide) (q := 131) rfl (a := 1) rfl (fun h55 => (by omega : False).elim) (fun h55 => ?_)
              refine x_iload_n C dX10_day_131 (q := 132) rfl rfl 1 rfl ?_
              refine x_goto C (tgt := 139) dX10_day_132 (by decide) ?_
              refine x_iconst C dX10_day_139 (q := 140) rfl (v := nI 4) (by decide) ?_
              refine x_callV C (roW := []) (roR := []) (c_X10_digitsOf l D cy mo mr cols lc smp mk rs nse npa nbo tn ik ky j0 j1 j2 j3 j4 by9 fr 4 (by assumption) (by first | assumption | omega | (simp only []; omega)) (by first | assumption | omega | (simp only []; omega)) (by intro j hj; have e7 : j = 0 ∨ j = 1 ∨ j = 2 ∨ j = 3 := (by omega); (rcases e7 with rfl | rfl | rfl | rfl <;> first | omega | (simp only [Nat.add_assoc, Nat.reduceAdd]; omega)))) (cwV 2 C.2.2.2.2.1 gX10_day_X10_digitsOf rfl rfl rfl (by decide +kernel) (by rw [hR]; exact ⟨Nat.le_of_ble_eq_true rfl, Nat.le_of_ble_eq_true rfl⟩)) [0, 1] [] rfl (by decide) rfl (by decide) xro_nil (List.mem_of_getElem? (i := 0) rfl) (ci := 9) rfl xT_bl (fun _ _ _ _ _ _ _ => trivial) rfl rfl dX10_day_140 rfl rfl (Nat.le_of_ble_eq_true rfl) (q := 143) rfl (k' := 0) rfl (n' := 0) rfl (by rw [hR]; exact ⟨Nat.le_of_ble_eq_true rfl, Nat.le_of_ble_eq_true rfl⟩) (fun v56 w56 hp56 => ?_)
              obtain ⟨rfl, rfl⟩ := hp56
              refine x_ws (ws' := [(mo, .inr (9, [.int (nI cols), .int (nI lc), .int (nI smp), .int (ky), .ref (mr 0), .ref (mr 1), .ref (mr 2), .ref (mr 3), .ref (mr 4), .ref (mr 5), .ref (mr 6), .ref (mr 7), .ref (mr 8), .ref (mr 9), .int (nI mk), .int (nI rs), .ref (mr 10), .ref (mr 11), .ref (mr 12), .ref (mr 13), .ref (mr 14), .ref (mr 15), .ref (mr 16), .ref (mr 17), .ref (mr 18), .ref (mr 19), .ref (mr 20), .int (nI nse), .int (nI npa), .int (nI nbo), .ref (mr 21), .int (nI tn), .ref (mr 22), .int (nI ik), .int (j0), .int (j1), .ref (mr 23), .int (j2), .ref (mr 24), .ref (mr 25), .int (j3), .ref (mr 26), .int (j4), .ref (mr 27), .ref (mr 28), .ref (mr 29), .ref (mr 30)])), (mr 4, .inl (cy 1, 1440, .inl (fun k => nI (by9 k))))]) rfl ?_
              refine x_istore C (L' := [(6, .int (nI (numD by9 fr 4))), (0, .ref mo), (1, .int (nI fr)), (2, .int (nI 1)), (3, .int (nI 4)), (4, .int (nI 7)), (5, .int (nI 45))]) dX10_day_143 (q := 145) rfl (by decide) rfl ?_
              refine x_aload_n C dX10_day_145 (q := 146) rfl rfl 1 rfl ?_
              refine x_iload_n C dX10_day_146 (q := 147) rfl rfl 3 rfl ?_
              refine x_if_eq C (tgt := 156) dX10_day_147 (by decide) (q := 150) rfl (a := 1) rfl (fun h57 => (by omega : False).elim) (fun h57 => ?_)
              refine x_iload_n C dX10_day_150 (q := 151) rfl rfl 2 rfl ?_
              refine x_iconst C dX10_day_151 (q := 152) rfl (v := nI 5) (by decide) ?_
              refine x_iadd C dX10_day_152 (q := 153) rfl (z := nI (fr + 5)) (nI_add fr 5) ?_
              refine x_goto C (tgt := 159) dX10_day_153 (by decide) ?_
              refine x_iconst C dX10_day_159 (q := 160) rfl (v := nI 2) (by decide) ?_
              refine x_callV C (roW := []) (roR := []) (c_X10_digitsOf l D cy mo mr cols lc smp mk rs nse npa nbo tn ik ky j0 j1 j2 j3 j4 by9 (fr + 5) 2 (by assumption) (by first | assumption | omega | (simp only []; omega)) (by first | assumption | omega | (simp only []; omega)) (by intro j hj; have e7 : j = 0 ∨ j = 1 := (by omega); (rcases e7 with rfl | rfl <;> first | omega | (simp only [Nat.add_assoc, Nat.reduceAdd]; omega)))) (cwV 2 C.2.2.2.2.1 gX10_day_X10_digitsOf rfl rfl rfl (by decide +kernel) (by rw [hR]; exact ⟨Nat.le_of_ble_eq_true rfl, Nat.le_of_ble_eq_true rfl⟩)) [0, 1] [] rfl (by decide) rfl (by decide) xro_nil (List.mem_of_getElem? (i := 0) rfl) (ci := 9) rfl xT_bl (fun _ _ _ _ _ _ _ => trivial) rfl rfl dX10_day_160 rfl rfl (Nat.le_of_ble_eq_true rfl) (q := 163) rfl (k' := 0) rfl (n' := 0) rfl (by rw [hR]; exact ⟨Nat.le_of_ble_eq_true rfl, Nat.le_of_ble_eq_true rfl⟩) (fun v58 w58 hp58 => ?_)
              obtain ⟨rfl, rfl⟩ := hp58
              refine x_ws (ws' := [(mo, .inr (9, [.int (nI cols), .int (nI lc), .int (nI smp), .int (ky), .ref (mr 0), .ref (mr 1), .ref (mr 2), .ref (mr 3), .ref (mr 4), .ref (mr 5), .ref (mr 6), .ref (mr 7), .ref (mr 8), .ref (mr 9), .int (nI mk), .int (nI rs), .ref (mr 10), .ref (mr 11), .ref (mr 12), .ref (mr 13), .ref (mr 14), .ref (mr 15), .ref (mr 16), .ref (mr 17), .ref (mr 18), .ref (mr 19), .ref (mr 20), .int (nI nse), .int (nI npa), .int (nI nbo), .ref (mr 21), .int (nI tn), .ref (mr 22), .int (nI ik), .int (j0), .int (j1), .ref (mr 23), .int (j2), .ref (mr 24), .ref (mr 25), .int (j3), .ref (mr 26), .int (j4), .ref (mr 27), .ref (mr 28), .ref (mr 29), .ref (mr 30)])), (mr 4, .inl (cy 1, 1440, .inl (fun k => nI (by9 k))))]) rfl ?_
              refine x_istore C (L' := [(7, .int (nI (numD by9 (fr + 5) 2))), (6, .int (nI (numD by9 fr 4))), (0, .ref mo), (1, .int (nI fr)), (2, .int (nI 1)), (3, .int (nI 4)), (4, .int (nI 7)), (5, .int (nI 45))]) dX10_day_163 (q := 165) rfl (by decide) rfl ?_
              refine x_aload_n C dX10_day_165 (q := 166) rfl rfl 2 rfl ?_
              refine x_iload_n C dX10_day_166 (q := 167) rfl rfl 4 rfl ?_
              refine x_if_eq C (tgt := 177) dX10_day_167 (by decide) (q := 170) rfl (a := 1) rfl (fun h59 => (by omega : False).elim) (fun h59 => ?_)
              refine x_iload_n C dX10_day_170 (q := 171) rfl rfl 3 rfl ?_
              refine x_bipush C dX10_day_171 (q := 173) rfl (v := nI 8) (by decide) ?_
              refine x_iadd C dX10_day_173 (q := 174) rfl (z := nI (fr + 8)) (nI_add fr 8) ?_
              refine x_goto C (tgt := 178) dX10_day_174 (by decide) ?_
              refine x_iconst C dX10_day_178 (q := 179) rfl (v := nI 2) (by decide) ?_
              refine x_callV C (roW := []) (roR := []) (c_X10_digitsOf l D cy mo mr cols lc smp mk rs nse npa nbo tn ik ky j0 j1 j2 j3 j4 by9 (fr + 8) 2 (by assumption) (by first | assumption | omega | (simp only []; omega)) (by first | assumption | omega | (simp only []; omega)) (by intro j hj; have e7 : j = 0 ∨ j = 1 := (by omega); (rcases e7 with rfl | rfl <;> first | omega | (simp only [Nat.add_assoc, Nat.reduceAdd]; omega)))) (cwV 2 C.2.2.2.2.1 gX10_day_X10_digitsOf rfl rfl rfl (by decide +kernel) (by rw [hR]; exact ⟨Nat.le_of_ble_eq_true rfl, Nat.le_of_ble_eq_true rfl⟩)) [0, 1] [] rfl (by decide) rfl (by decide) xro_nil (List.mem_of_getElem? (i := 0) rfl) (ci := 9) rfl xT_bl (fun _ _ _ _ _ _ _ => trivial) rfl rfl dX10_day_179 rfl rfl (Nat.le_of_ble_eq_true rfl) (q := 182) rfl (k' := 0) rfl (n' := 0) rfl (by rw [hR]; exact ⟨Nat.le_of_ble_eq_true rfl, Nat.le_of_ble_eq_true rfl⟩) (fun v60 w60 hp60 => ?_)
              obtain ⟨rfl, rfl⟩ := hp60
              refine x_ws (ws' := [(mo, .inr (9, [.int (nI cols), .int (nI lc), .int (nI smp), .int (ky), .ref (mr 0), .ref (mr 1), .ref (mr 2), .ref (mr 3), .ref (mr 4), .ref (mr 5), .ref (mr 6), .ref (mr 7), .ref (mr 8), .ref (mr 9), .int (nI mk), .int (nI rs), .ref (mr 10), .ref (mr 11), .ref (mr 12), .ref (mr 13), .ref (mr 14), .ref (mr 15), .ref (mr 16), .ref (mr 17), .ref (mr 18), .ref (mr 19), .ref (mr 20), .int (nI nse), .int (nI npa), .int (nI nbo), .ref (mr 21), .int (nI tn), .ref (mr 22), .int (nI ik), .int (j0), .int (j1), .ref (mr 23), .int (j2), .ref (mr 24), .ref (mr 25), .int (j3), .ref (mr 26), .int (j4), .ref (mr 27), .ref (mr 28), .ref (mr 29), .ref (mr 30)])), (mr 4, .inl (cy 1, 1440, .inl (fun k => nI (by9 k))))]) rfl ?_
              refine x_istore C (L' := [(8, .int (nI (numD by9 (fr + 8) 2))), (7, .int (nI (numD by9 (fr + 5) 2))), (6, .int (nI (numD by9 fr 4))), (0, .ref mo), (1, .int (nI fr)), (2, .int (nI 1)), (3, .int (nI 4)), (4, .int (nI 7)), (5, .int (nI 45))]) dX10_day_182 (q := 184) rfl (by decide) rfl ?_
              rw [ey, em, ed]
              refine x_iload C dX10_day_184 (q := 186) rfl 2 rfl ?_
              refine x_i2l C dX10_day_186 (q := 187) rfl (v := lN (yrS b)) (nI_l (by omega)) ?_
              refine x_ldc2 C (v := lN 1900) hw2 dX10_day_187 (q := 190) rfl ?_
              refine x_ldc2 C (v := lN 2099) hw3 dX10_day_190 (q := 193) rfl ?_
              refine x_callS C (roW := []) (roR := []) (c_X10_in l D cy (lN (yrS b)) (lN 1900) (lN 2099) (((yrS b : Nat) : Int)) 1900 2099 (pk_lT (by omega)) rfl rfl) (cwS 3 C.2.2.2.2.1 gX10_day_X10_in rfl rfl rfl (by decide +kernel) (by rw [hR]; exact ⟨Nat.le_of_ble_eq_true rfl, Nat.le_of_ble_eq_true rfl⟩)) [] [] rfl (by decide) rfl (by decide) xro_nil xT_bl (fun _ _ _ _ _ _ _ => trivial) rfl rfl dX10_day_193 rfl rfl (Nat.le_of_ble_eq_true rfl) (q := 196) rfl (k' := 0) rfl (n' := 0) rfl (by rw [hR]; exact ⟨Nat.le_of_ble_eq_true rfl, Nat.le_of_ble_eq_true rfl⟩) (fun v61 w61 hp61 => ?_)
              rcases hp61 with hp61 | hp61
              · skip
                obtain ⟨rfl, rfl, hc62, hc63⟩ := hp61
                refine x_ws (ws' := [(mo, .inr (9, [.int (nI cols), .int (nI lc), .int (nI smp), .int (ky), .ref (mr 0), .ref (mr 1), .ref (mr 2), .ref (mr 3), .ref (mr 4), .ref (mr 5), .ref (mr 6), .ref (mr 7), .ref (mr 8), .ref (mr 9), .int (nI mk), .int (nI rs), .ref (mr 10), .ref (mr 11), .ref (mr 12), .ref (mr 13), .ref (mr 14), .ref (mr 15), .ref (mr 16), .ref (mr 17), .ref (mr 18), .ref (mr 19), .ref (mr 20), .int (nI nse), .int (nI npa), .int (nI nbo), .ref (mr 21), .int (nI tn), .ref (mr 22), .int (nI ik), .int (j0), .int (j1), .ref (mr 23), .int (j2), .ref (mr 24), .ref (mr 25), .int (j3), .ref (mr 26), .int (j4), .ref (mr 27), .ref (mr 28), .ref (mr 29), .ref (mr 30)])), (mr 4, .inl (cy 1, 1440, .inl (fun k => nI (by9 k))))]) (List.append_nil _) ?_
                refine x_if_eq C (tgt := 230) dX10_day_196 (by decide) (q := 199) rfl (a := 1) rfl (fun h64 => (by omega : False).elim) (fun h64 => ?_)
                refine x_iload C dX10_day_199 (q := 201) rfl 1 rfl ?_
                refine x_i2l C dX10_day_201 (q := 202) rfl (v := lN (moS b)) (nI_l (by omega)) ?_
                refine x_lconst C dX10_day_202 (q := 203) rfl (v := lN 1) rfl ?_
                refine x_ldc2 C (v := lN 12) hw4 dX10_day_203 (q := 206) rfl ?_
                refine x_callS C (roW := []) (roR := []) (c_X10_in l D cy (lN (moS b)) (lN 1) (lN 12) (((moS b : Nat) : Int)) 1 12 (pk_lT (by omega)) rfl rfl) (cwS 3 C.2.2.2.2.1 gX10_day_X10_in rfl rfl rfl (by decide +kernel) (by rw [hR]; exact ⟨Nat.le_of_ble_eq_true rfl, Nat.le_of_ble_eq_true rfl⟩)) [] [] rfl (by decide) rfl (by decide) xro_nil xT_bl (fun _ _ _ _ _ _ _ => trivial) rfl rfl dX10_day_206 rfl rfl (Nat.le_of_ble_eq_true rfl) (q := 209) rfl (k' := 0) rfl (n' := 0) rfl (by rw [hR]; exact ⟨Nat.le_of_ble_eq_true rfl, Nat.le_of_ble_eq_true rfl⟩) (fun v65 w65 hp65 => ?_)
                rcases hp65 with hp65 | hp65
                · skip
                  obtain ⟨rfl, rfl, hc66, hc67⟩ := hp65
                  refine x_ws (ws' := [(mo, .inr (9, [.int (nI cols), .int (nI lc), .int (nI smp), .int (ky), .ref (mr 0), .ref (mr 1), .ref (mr 2), .ref (mr 3), .ref (mr 4), .ref (mr 5), .ref (mr 6), .ref (mr 7), .ref (mr 8), .ref (mr 9), .int (nI mk), .int (nI rs), .ref (mr 10), .ref (mr 11), .ref (mr 12), .ref (mr 13), .ref (mr 14), .ref (mr 15), .ref (mr 16), .ref (mr 17), .ref (mr 18), .ref (mr 19), .ref (mr 20), .int (nI nse), .int (nI npa), .int (nI nbo), .ref (mr 21), .int (nI tn), .ref (mr 22), .int (nI ik), .int (j0), .int (j1), .ref (mr 23), .int (j2), .ref (mr 24), .ref (mr 25), .int (j3), .ref (mr 26), .int (j4), .ref (mr 27), .ref (mr 28), .ref (mr 29), .ref (mr 30)])), (mr 4, .inl (cy 1, 1440, .inl (fun k => nI (by9 k))))]) (List.append_nil _) ?_
                  refine x_if_eq C (tgt := 230) dX10_day_209 (by decide) (q := 212) rfl (a := 1) rfl (fun h68 => (by omega : False).elim) (fun h68 => ?_)
                  refine x_iload C dX10_day_212 (q := 214) rfl 0 rfl ?_
                  refine x_i2l C dX10_day_214 (q := 215) rfl (v := lN (dyS b)) (nI_l (by omega)) ?_
                  refine x_lconst C dX10_day_215 (q := 216) rfl (v := lN 1) rfl ?_
                  refine x_iload C dX10_day_216 (q := 218) rfl 2 rfl ?_
                  refine x_iload C dX10_day_218 (q := 220) rfl 1 rfl ?_
                  refine x_callS C (roW := []) (roR := []) (c_X10_days l D cy (yrS b) (moS b) (by first | assumption | omega | (simp only []; omega)) (by first | assumption | omega | (simp only []; omega))) (cwS 2 C.2.2.2.2.1 gX10_day_X10_days rfl rfl rfl (by decide +kernel) (by rw [hR]; exact ⟨Nat.le_of_ble_eq_true rfl, Nat.le_of_ble_eq_true rfl⟩)) [] [] rfl (by decide) rfl (by decide) xro_nil xT_bl (fun _ _ _ _ _ _ _ => trivial) rfl rfl dX10_day_220 rfl rfl (Nat.le_of_ble_eq_true rfl) (q := 223) rfl (k' := 0) rfl (n' := 0) rfl (by rw [hR]; exact ⟨Nat.le_of_ble_eq_true rfl, Nat.le_of_ble_eq_true rfl⟩) (fun v69 w69 hp69 => ?_)
                  obtain ⟨rfl, rfl⟩ := hp69
                  refine x_ws (ws' := [(mo, .inr (9, [.int (nI cols), .int (nI lc), .int (nI smp), .int (ky), .ref (mr 0), .ref (mr 1), .ref (mr 2), .ref (mr 3), .ref (mr 4), .ref (mr 5), .ref (mr 6), .ref (mr 7), .ref (mr 8), .ref (mr 9), .int (nI mk), .int (nI rs), .ref (mr 10), .ref (mr 11), .ref (mr 12), .ref (mr 13), .ref (mr 14), .ref (mr 15), .ref (mr 16), .ref (mr 17), .ref (mr 18), .ref (mr 19), .ref (mr 20), .int (nI nse), .int (nI npa), .int (nI nbo), .ref (mr 21), .int (nI tn), .ref (mr 22), .int (nI ik), .int (j0), .int (j1), .ref (mr 23), .int (j2), .ref (mr 24), .ref (mr 25), .int (j3), .ref (mr 26), .int (j4), .ref (mr 27), .ref (mr 28), .ref (mr 29), .ref (mr 30)])), (mr 4, .inl (cy 1, 1440, .inl (fun k => nI (by9 k))))]) (List.append_nil _) ?_
                  have hml12 := mdS_len (y := yrS b) (m := moS b) (by omega) (by omega)
                  have hmd31 := mdS_le (yrS b) (moS b)
                  refine x_i2l C dX10_day_223 (q := 224) rfl (v := lN (mdS (yrS b) (moS b))) (nI_l (by omega)) ?_
                  refine x_callS C (roW := []) (roR := []) (c_X10_in l D cy (lN (dyS b)) (lN 1) (lN (mdS (yrS b) (moS b))) (((dyS b : Nat) : Int)) 1 (((mdS (yrS b) (moS b) : Nat) : Int)) (pk_lT (by omega)) rfl (pk_lT (by omega))) (cwS 3 C.2.2.2.2.1 gX10_day_X10_in rfl rfl rfl (by decide +kernel) (by rw [hR]; exact ⟨Nat.le_of_ble_eq_true rfl, Nat.le_of_ble_eq_true rfl⟩)) [] [] rfl (by decide) rfl (by decide) xro_nil xT_bl (fun _ _ _ _ _ _ _ => trivial) rfl rfl dX10_day_224 rfl rfl (Nat.le_of_ble_eq_true rfl) (q := 227) rfl (k' := 0) rfl (n' := 0) rfl (by rw [hR]; exact ⟨Nat.le_of_ble_eq_true rfl, Nat.le_of_ble_eq_true rfl⟩) (fun v70 w70 hp70 => ?_)
                  rcases hp70 with hp70 | hp70
                  · skip
                    obtain ⟨rfl, rfl, hc71, hc72⟩ := hp70
                    refine x_ws (ws' := [(mo, .inr (9, [.int (nI cols), .int (nI lc), .int (nI smp), .int (ky), .ref (mr 0), .ref (mr 1), .ref (mr 2), .ref (mr 3), .ref (mr 4), .ref (mr 5), .ref (mr 6), .ref (mr 7), .ref (mr 8), .ref (mr 9), .int (nI mk), .int (nI rs), .ref (mr 10), .ref (mr 11), .ref (mr 12), .ref (mr 13), .ref (mr 14), .ref (mr 15), .ref (mr 16), .ref (mr 17), .ref (mr 18), .ref (mr 19), .ref (mr 20), .int (nI nse), .int (nI npa), .int (nI nbo), .ref (mr 21), .int (nI tn), .ref (mr 22), .int (nI ik), .int (j0), .int (j1), .ref (mr 23), .int (j2), .ref (mr 24), .ref (mr 25), .int (j3), .ref (mr 26), .int (j4), .ref (mr 27), .ref (mr 28), .ref (mr 29), .ref (mr 30)])), (mr 4, .inl (cy 1, 1440, .inl (fun k => nI (by9 k))))]) (List.append_nil _) ?_
                    refine x_if_ne C (tgt := 234) dX10_day_227 (by decide) (q := 230) rfl (a := 1) rfl (fun h73 => ?_) (fun h73 => (by omega : False).elim)
                    refine x_L (L' := [(0, .ref mo), (1, .int (nI fr)), (6, .int (nI (yrS b))), (7, .int (nI (moS b))), (8, .int (nI (dyS b)))]) [3, 4, 2, 1, 0] rfl ?_
                    exact cut234  (by first | omega | assumption)
                  · skip
                    obtain ⟨rfl, rfl, hc74⟩ := hp70
                    refine x_ws (ws' := [(mo, .inr (9, [.int (nI cols), .int (nI lc), .int (nI smp), .int (ky), .ref (mr 0), .ref (mr 1), .ref (mr 2), .ref (mr 3), .ref (mr 4), .ref (mr 5), .ref (mr 6), .ref (mr 7), .ref (mr 8), .ref (mr 9), .int (nI mk), .int (nI rs), .ref (mr 10), .ref (mr 11), .ref (mr 12), .ref (mr 13), .ref (mr 14), .ref (mr 15), .ref (mr 16), .ref (mr 17), .ref (mr 18), .ref (mr 19), .ref (mr 20), .int (nI nse), .int (nI npa), .int (nI nbo), .ref (mr 21), .int (nI tn), .ref (mr 22), .int (nI ik), .int (j0), .int (j1), .ref (mr 23), .int (j2), .ref (mr 24), .ref (mr 25), .int (j3), .ref (mr 26), .int (j4), .ref (mr 27), .ref (mr 28), .ref (mr 29), .ref (mr 30)])), (mr 4, .inl (cy 1, 1440, .inl (fun k => nI (by9 k))))]) (List.append_nil _) ?_
                    refine x_if_ne C (tgt := 234) dX10_day_227 (by decide) (q := 230) rfl (a := 0) rfl (fun h75 => (by omega : False).elim) (fun h75 => ?_)
                    refine x_ldc2 C (v := (-9223372036854775808)) hw5 dX10_day_230 (q := 233) rfl ?_
                    refine x_lret C hA hQ hr dX10_day_233 (Nat.le_of_ble_eq_true rfl) ?_
                    refine Or.inr ⟨rfl, rfl, ?_⟩
                    rintro ⟨_, z1, z2, z3, z4⟩
                    rw [ey] at *
                    rw [em] at *
                    rw [ed] at *
                    have z5 := mLen_0 (y := yrS b) (m := moS b)
                    have z6 := mdS_len (y := yrS b) (m := moS b)
                    omega
                · skip
                  obtain ⟨rfl, rfl, hc76⟩ := hp65
                  refine x_ws (ws' := [(mo, .inr (9, [.int (nI cols), .int (nI lc), .int (nI smp), .int (ky), .ref (mr 0), .ref (mr 1), .ref (mr 2), .ref (mr 3), .ref (mr 4), .ref (mr 5), .ref (mr 6), .ref (mr 7), .ref (mr 8), .ref (mr 9), .int (nI mk), .int (nI rs), .ref (mr 10), .ref (mr 11), .ref (mr 12), .ref (mr 13), .ref (mr 14), .ref (mr 15), .ref (mr 16), .ref (mr 17), .ref (mr 18), .ref (mr 19), .ref (mr 20), .int (nI nse), .int (nI npa), .int (nI nbo), .ref (mr 21), .int (nI tn), .ref (mr 22), .int (nI ik), .int (j0), .int (j1), .ref (mr 23), .int (j2), .ref (mr 24), .ref (mr 25), .int (j3), .ref (mr 26), .int (j4), .ref (mr 27), .ref (mr 28), .ref (mr 29), .ref (mr 30)])), (mr 4, .inl (cy 1, 1440, .inl (fun k => nI (by9 k))))]) (List.append_nil _) ?_
                  refine x_if_eq C (tgt := 230) dX10_day_209 (by decide) (q := 212) rfl (a := 0) rfl (fun h77 => ?_) (fun h77 => (by omega : False).elim)
                  refine x_ldc2 C (v := (-9223372036854775808)) hw5 dX10_day_230 (q := 233) rfl ?_
                  refine x_lret C hA hQ hr dX10_day_233 (Nat.le_of_ble_eq_true rfl) ?_
                  refine Or.inr ⟨rfl, rfl, ?_⟩
                  rintro ⟨_, z1, z2, z3, z4⟩
                  rw [ey] at *
                  rw [em] at *
                  rw [ed] at *
                  have z5 := mLen_0 (y := yrS b) (m := moS b)
                  have z6 := mdS_len (y := yrS b) (m := moS b)
                  omega
              · skip
                obtain ⟨rfl, rfl, hc78⟩ := hp61
                refine x_ws (ws' := [(mo, .inr (9, [.int (nI cols), .int (nI lc), .int (nI smp), .int (ky), .ref (mr 0), .ref (mr 1), .ref (mr 2), .ref (mr 3), .ref (mr 4), .ref (mr 5), .ref (mr 6), .ref (mr 7), .ref (mr 8), .ref (mr 9), .int (nI mk), .int (nI rs), .ref (mr 10), .ref (mr 11), .ref (mr 12), .ref (mr 13), .ref (mr 14), .ref (mr 15), .ref (mr 16), .ref (mr 17), .ref (mr 18), .ref (mr 19), .ref (mr 20), .int (nI nse), .int (nI npa), .int (nI nbo), .ref (mr 21), .int (nI tn), .ref (mr 22), .int (nI ik), .int (j0), .int (j1), .ref (mr 23), .int (j2), .ref (mr 24), .ref (mr 25), .int (j3), .ref (mr 26), .int (j4), .ref (mr 27), .ref (mr 28), .ref (mr 29), .ref (mr 30)])), (mr 4, .inl (cy 1, 1440, .inl (fun k => nI (by9 k))))]) (List.append_nil _) ?_
                refine x_if_eq C (tgt := 230) dX10_day_196 (by decide) (q := 199) rfl (a := 0) rfl (fun h79 => ?_) (fun h79 => (by omega : False).elim)
                refine x_ldc2 C (v := (-9223372036854775808)) hw5 dX10_day_230 (q := 233) rfl ?_
                refine x_lret C hA hQ hr dX10_day_233 (Nat.le_of_ble_eq_true rfl) ?_
                refine Or.inr ⟨rfl, rfl, ?_⟩
                rintro ⟨_, z1, z2, z3, z4⟩
                rw [ey] at *
                rw [em] at *
                rw [ed] at *
                have z5 := mLen_0 (y := yrS b) (m := moS b)
                have z6 := mdS_len (y := yrS b) (m := moS b)
                omega
          · first
            | (exfalso; omega)
            |
              refine x_iload C dX10_day_64 (q := 66) rfl 6 rfl ?_
              refine x_iload_n C dX10_day_66 (q := 67) rfl rfl 3 rfl ?_
              refine x_icmp_eq C (tgt := 77) dX10_day_67 (by decide) (q := 70) rfl (a := ((k : Nat) : Int)) (b := 4) (nI_toInt (by omega)) rfl (fun h80 => ?_) (fun h80 => ?_)
              · first
                | (exfalso; omega)
                |
                  refine x_aload_n C dX10_day_77 (q := 78) rfl rfl 0 rfl ?_
                  refine x_get C (ci := 9) (v := .ref (mr 4)) hw0 0 rfl rfl 8 (by decide) hw1 rfl dX10_day_78 (q := 81) rfl ?_
                  refine x_iload_n C dX10_day_81 (q := 82) rfl rfl 1 rfl ?_
                  refine x_iload C dX10_day_82 (q := 84) rfl 6 rfl ?_
                  refine x_iadd C dX10_day_84 (q := 85) rfl (z := nI (fr + k)) (nI_add fr k) ?_
                  have hb81 := hby (fr + k)
                  refine x_iald C (j := fr + k) (v := nI (by9 (fr + k))) 1 rfl (nI_toInt (by omega)) (by omega) rfl dX10_day_85 (q := 86) rfl ?_
                  refine x_iload C dX10_day_86 (q := 88) rfl 5 rfl ?_
                  refine x_icmp_eq C (tgt := 120) dX10_day_88 (by decide) (q := 91) rfl (a := ((by9 (fr + k) : Nat) : Int)) (b := 45) (nI_toInt (by omega)) rfl (fun h82 => ?_) (fun h82 => ?_)
                  · first
                    | (exfalso; omega)
                    |
                      refine x_iinc C (L' := [(6, .int (nI (k + 1))), (0, .ref mo), (1, .int (nI fr)), (2, .int (nI 1)), (3, .int (nI 4)), (4, .int (nI 7)), (5, .int (nI 45))]) dX10_day_120 (q := 123) rfl 6 rfl (v := nI (k + 1)) (nI_add k 1) (by decide) rfl ?_
                      refine x_goto C (tgt := 57) dX10_day_123 (by decide) ?_
                      refine x_L (L' := [(0, .ref mo), (1, .int (nI fr)), (2, .int (nI 1)), (3, .int (nI 4)), (4, .int (nI 7)), (5, .int (nI 45)), (6, .int (nI (k + 1)))]) [1, 2, 3, 4, 5, 6, 0] rfl ?_
                      exact ih57 (k + 1) (by first | omega | assumption) (by intro j hj; by_cases e9 : j = k; (subst e9; have e8 := hbk (by omega); constructor; (intro e7; omega); (intro e7; omega)); (exact hp j (by omega))) (by omega)
                  · first
                    | (exfalso; omega)
                    |
                      refine x_goto C (tgt := 116) dX10_day_91 (by decide) ?_
                      refine x_ldc2 C (v := (-9223372036854775808)) hw5 dX10_day_116 (q := 119) rfl ?_
                      refine x_lret C hA hQ hr dX10_day_119 (Nat.le_of_ble_eq_true rfl) ?_
                      refine Or.inr ⟨rfl, rfl, ?_⟩
                      rintro ⟨h, _⟩
                      have hb4 := hb 4 (by omega)
                      have e8 := hbk (by omega)
                      unfold patD patY dg1 at h
                      have e6 : k = 0 ∨ k = 1 ∨ k = 2 ∨ k = 3 ∨ k = 4 ∨ k = 5 ∨ k = 6 ∨ k = 7 ∨ k = 8 ∨ k = 9 := by omega
                      rcases e6 with rfl | rfl | rfl | rfl | rfl | rfl | rfl | rfl | rfl | rfl <;> omega
              · first
                | (exfalso; omega)
                |
                  refine x_iload C dX10_day_70 (q := 72) rfl 6 rfl ?_
                  refine x_iload C dX10_day_72 (q := 74) rfl 4 rfl ?_
                  refine x_icmp_ne C (tgt := 94) dX10_day_74 (by decide) (q := 77) rfl (a := ((k : Nat) : Int)) (b := 7) (nI_toInt (by omega)) rfl (fun h83 => ?_) (fun h83 => ?_)
                  · first
                    | (exfalso; omega)
                    |
                      refine x_aload_n C dX10_day_94 (q := 95) rfl rfl 0 rfl ?_
                      refine x_get C (ci := 9) (v := .ref (mr 4)) hw0 0 rfl rfl 8 (by decide) hw1 rfl dX10_day_95 (q := 98) rfl ?_
                      refine x_iload_n C dX10_day_98 (q := 99) rfl rfl 1 rfl ?_
                      refine x_iload C dX10_day_99 (q := 101) rfl 6 rfl ?_
                      refine x_iadd C dX10_day_101 (q := 102) rfl (z := nI (fr + k)) (nI_add fr k) ?_
                      have hb84 := hby (fr + k)
                      refine x_iald C (j := fr + k) (v := nI (by9 (fr + k))) 1 rfl (nI_toInt (by omega)) (by omega) rfl dX10_day_102 (q := 103) rfl ?_
                      refine x_i2l C dX10_day_103 (q := 104) rfl (v := lN (by9 (fr + k))) (nI_l (by omega)) ?_
                      refine x_ldc2 C (v := lN 48) hw6 dX10_day_104 (q := 107) rfl ?_
                      refine x_ldc2 C (v := lN 57) hw7 dX10_day_107 (q := 110) rfl ?_
                      refine x_callS C (roW := []) (roR := []) (c_X10_in l D cy (lN (by9 (fr + k))) (lN 48) (lN 57) (((by9 (fr + k) : Nat) : Int)) 48 57 (pk_lT (by omega)) rfl rfl) (cwS 3 C.2.2.2.2.1 gX10_day_X10_in rfl rfl rfl (by decide +kernel) (by rw [hR]; exact ⟨Nat.le_of_ble_eq_true rfl, Nat.le_of_ble_eq_true rfl⟩)) [] [] rfl (by decide) rfl (by decide) xro_nil xT_bl (fun _ _ _ _ _ _ _ => trivial) rfl rfl dX10_day_110 rfl rfl (Nat.le_of_ble_eq_true rfl) (q := 113) rfl (k' := 0) rfl (n' := 0) rfl (by rw [hR]; exact ⟨Nat.le_of_ble_eq_true rfl, Nat.le_of_ble_eq_true rfl⟩) (fun v85 w85 hp85 => ?_)
                      rcases hp85 with hp85 | hp85
                      · skip
                        obtain ⟨rfl, rfl, hc86, hc87⟩ := hp85
                        refine x_ws (ws' := [(mo, .inr (9, [.int (nI cols), .int (nI lc), .int (nI smp), .int (ky), .ref (mr 0), .ref (mr 1), .ref (mr 2), .ref (mr 3), .ref (mr 4), .ref (mr 5), .ref (mr 6), .ref (mr 7), .ref (mr 8), .ref (mr 9), .int (nI mk), .int (nI rs), .ref (mr 10), .ref (mr 11), .ref (mr 12), .ref (mr 13), .ref (mr 14), .ref (mr 15), .ref (mr 16), .ref (mr 17), .ref (mr 18), .ref (mr 19), .ref (mr 20), .int (nI nse), .int (nI npa), .int (nI nbo), .ref (mr 21), .int (nI tn), .ref (mr 22), .int (nI ik), .int (j0), .int (j1), .ref (mr 23), .int (j2), .ref (mr 24), .ref (mr 25), .int (j3), .ref (mr 26), .int (j4), .ref (mr 27), .ref (mr 28), .ref (mr 29), .ref (mr 30)])), (mr 4, .inl (cy 1, 1440, .inl (fun k => nI (by9 k))))]) (List.append_nil _) ?_
                        refine x_if_ne C (tgt := 120) dX10_day_113 (by decide) (q := 116) rfl (a := 1) rfl (fun h88 => ?_) (fun h88 => (by omega : False).elim)
                        refine x_iinc C (L' := [(6, .int (nI (k + 1))), (0, .ref mo), (1, .int (nI fr)), (2, .int (nI 1)), (3, .int (nI 4)), (4, .int (nI 7)), (5, .int (nI 45))]) dX10_day_120 (q := 123) rfl 6 rfl (v := nI (k + 1)) (nI_add k 1) (by decide) rfl ?_
                        refine x_goto C (tgt := 57) dX10_day_123 (by decide) ?_
                        refine x_L (L' := [(0, .ref mo), (1, .int (nI fr)), (2, .int (nI 1)), (3, .int (nI 4)), (4, .int (nI 7)), (5, .int (nI 45)), (6, .int (nI (k + 1)))]) [1, 2, 3, 4, 5, 6, 0] rfl ?_
                        exact ih57 (k + 1) (by first | omega | assumption) (by intro j hj; by_cases e9 : j = k; (subst e9; have e8 := hbk (by omega); constructor; (intro e7; omega); (intro e7; omega)); (exact hp j (by omega))) (by omega)
                      · skip
                        obtain ⟨rfl, rfl, hc89⟩ := hp85
                        refine x_ws (ws' := [(mo, .inr (9, [.int (nI cols), .int (nI lc), .int (nI smp), .int (ky), .ref (mr 0), .ref (mr 1), .ref (mr 2), .ref (mr 3), .ref (mr 4), .ref (mr 5), .ref (mr 6), .ref (mr 7), .ref (mr 8), .ref (mr 9), .int (nI mk), .int (nI rs), .ref (mr 10), .ref (mr 11), .ref (mr 12), .ref (mr 13), .ref (mr 14), .ref (mr 15), .ref (mr 16), .ref (mr 17), .ref (mr 18), .ref (mr 19), .ref (mr 20), .int (nI nse), .int (nI npa), .int (nI nbo), .ref (mr 21), .int (nI tn), .ref (mr 22), .int (nI ik), .int (j0), .int (j1), .ref (mr 23), .int (j2), .ref (mr 24), .ref (mr 25), .int (j3), .ref (mr 26), .int (j4), .ref (mr 27), .ref (mr 28), .ref (mr 29), .ref (mr 30)])), (mr 4, .inl (cy 1, 1440, .inl (fun k => nI (by9 k))))]) (List.append_nil _) ?_
                        refine x_if_ne C (tgt := 120) dX10_day_113 (by decide) (q := 116) rfl (a := 0) rfl (fun h90 => (by omega : False).elim) (fun h90 => ?_)
                        refine x_ldc2 C (v := (-9223372036854775808)) hw5 dX10_day_116 (q := 119) rfl ?_
                        refine x_lret C hA hQ hr dX10_day_119 (Nat.le_of_ble_eq_true rfl) ?_
                        refine Or.inr ⟨rfl, rfl, ?_⟩
                        rintro ⟨h, _⟩
                        have hb4 := hb 4 (by omega)
                        have e8 := hbk (by omega)
                        unfold patD patY dg1 at h
                        have e6 : k = 0 ∨ k = 1 ∨ k = 2 ∨ k = 3 ∨ k = 4 ∨ k = 5 ∨ k = 6 ∨ k = 7 ∨ k = 8 ∨ k = 9 := by omega
                        rcases e6 with rfl | rfl | rfl | rfl | rfl | rfl | rfl | rfl | rfl | rfl <;> omega
                  · first
                    | (exfalso; omega)
                    |
                      refine x_aload_n C dX10_day_77 (q := 78) rfl rfl 0 rfl ?_
                      refine x_get C (ci := 9) (v := .ref (mr 4)) hw0 0 rfl rfl 8 (by decide) hw1 rfl dX10_day_78 (q := 81) rfl ?_
                      refine x_iload_n C dX10_day_81 (q := 82) rfl rfl 1 rfl ?_
                      refine x_iload C dX10_day_82 (q := 84) rfl 6 rfl ?_
                      refine x_iadd C dX10_day_84 (q := 85) rfl (z := nI (fr + k)) (nI_add fr k) ?_
                      have hb91 := hby (fr + k)
                      refine x_iald C (j := fr + k) (v := nI (by9 (fr + k))) 1 rfl (nI_toInt (by omega)) (by omega) rfl dX10_day_85 (q := 86) rfl ?_
                      refine x_iload C dX10_day_86 (q := 88) rfl 5 rfl ?_
                      refine x_icmp_eq C (tgt := 120) dX10_day_88 (by decide) (q := 91) rfl (a := ((by9 (fr + k) : Nat) : Int)) (b := 45) (nI_toInt (by omega)) rfl (fun h92 => ?_) (fun h92 => ?_)
                      · first
                        | (exfalso; omega)
                        |
                          refine x_iinc C (L' := [(6, .int (nI (k + 1))), (0, .ref mo), (1, .int (nI fr)), (2, .int (nI 1)), (3, .int (nI 4)), (4, .int (nI 7)), (5, .int (nI 45))]) dX10_day_120 (q := 123) rfl 6 rfl (v := nI (k + 1)) (nI_add k 1) (by decide) rfl ?_
                          refine x_goto C (tgt := 57) dX10_day_123 (by decide) ?_
                          refine x_L (L' := [(0, .ref mo), (1, .int (nI fr)), (2, .int (nI 1)), (3, .int (nI 4)), (4, .int (nI 7)), (5, .int (nI 45)), (6, .int (nI (k + 1)))]) [1, 2, 3, 4, 5, 6, 0] rfl ?_
                          exact ih57 (k + 1) (by first | omega | assumption) (by intro j hj; by_cases e9 : j = k; (subst e9; have e8 := hbk (by omega); constructor; (intro e7; omega); (intro e7; omega)); (exact hp j (by omega))) (by omega)
                      · first
                        | (exfalso; omega)
                        |
                          refine x_goto C (tgt := 116) dX10_day_91 (by decide) ?_
                          refine x_ldc2 C (v := (-9223372036854775808)) hw5 dX10_day_116 (q := 119) rfl ?_
                          refine x_lret C hA hQ hr dX10_day_119 (Nat.le_of_ble_eq_true rfl) ?_
                          refine Or.inr ⟨rfl, rfl, ?_⟩
                          rintro ⟨h, _⟩
                          have hb4 := hb 4 (by omega)
                          have e8 := hbk (by omega)
                          unfold patD patY dg1 at h
                          have e6 : k = 0 ∨ k = 1 ∨ k = 2 ∨ k = 3 ∨ k = 4 ∨ k = 5 ∨ k = 6 ∨ k = 7 ∨ k = 8 ∨ k = 9 := by omega
                          rcases e6 with rfl | rfl | rfl | rfl | rfl | rfl | rfl | rfl | rfl | rfl <;> omega
      refine x_L (L' := [(0, .ref mo), (1, .int (nI fr)), (2, .int (nI 1)), (3, .int (nI 4)), (4, .int (nI 7)), (5, .int (nI 45)), (6, .int (nI 0))]) [5, 6, 4, 3, 2, 1, 0] rfl ?_
      exact cut57 (10 - 0 + 1) 0 (by first | omega | assumption) (by intro j hj; omega) (by omega)
