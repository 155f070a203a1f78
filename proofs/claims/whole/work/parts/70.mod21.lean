
theorem cpF_wd {b sh : Nat → Nat} : ∀ j, cpF b sh 0 j = wdF b sh j
  | 0 => rfl
  | j + 1 => by
    show va_up (cpF b sh 0 j) (0 + j) (b j) = va_up (wdF b sh j) j (b j)
    rw [cpF_wd j, Nat.zero_add]
theorem dgF_1000 {a : Nat} {sh : Nat → Nat} {n : Nat} : dgF a 2 sh n 3 = dgF (a % 1000) 2 sh n 3 := by
  show va_up (va_up (va_up sh (n + 0) (48 + a / 100 % 10)) (n + 1) (48 + a / 10 % 10)) (n + 2) (48 + a / 1 % 10) = va_up (va_up (va_up sh (n + 0) (48 + a % 1000 / 100 % 10)) (n + 1) (48 + a % 1000 / 10 % 10)) (n + 2) (48 + a % 1000 / 1 % 10)
  rw [show a % 1000 / 100 % 10 = a / 100 % 10 by omega, show a % 1000 / 10 % 10 = a / 10 % 10 by omega, show a % 1000 / 1 % 10 = a / 1 % 10 by omega]

set_option maxHeartbeats 600000 in
set_option maxRecDepth 100000 in
/-- a date is shown -/
theorem c_X10_showsDate (l : Launch) (D : va_G) (cy : Nat → ClassId) (mo : Nat) (mr : Nat → Nat) (cols : Nat) (lc : Nat) (smp : Nat) (mk : Nat) (rs : Nat) (nse : Nat) (npa : Nat) (nbo : Nat) (tn : Nat) (ik : Nat) (ky : Int32) (j0 : Int32) (j1 : Int32) (j2 : Int32) (j3 : Int32) (n9 : Nat) (sh9 : Nat → Nat) (by9 : Nat → Nat) (fr : Nat) (b : Nat → Nat) (hby : ∀ k, by9 k < 128) (hfr : fr + 10 ≤ 1440) (hb : ∀ j, j < 10 → by9 (fr + j) = b j) (hn9 : n9 ≤ 12) (hpt : patD b ∨ patY b) : xMet l D cy xT yX10_showsDate wsX10_showsDate ({ frames := 3, cells := 0, slots := 0, locals := 300 } : Room) [.ref mo, .int (nI fr)] [(mo, .inr (9, [.int (nI cols), .int (nI lc), .int (nI smp), .int (ky), .ref (mr 0), .ref (mr 1), .ref (mr 2), .ref (mr 3), .ref (mr 4), .ref (mr 5), .ref (mr 6), .ref (mr 7), .ref (mr 8), .ref (mr 9), .int (nI mk), .int (nI rs), .ref (mr 10), .ref (mr 11), .ref (mr 12), .ref (mr 13), .ref (mr 14), .ref (mr 15), .ref (mr 16), .ref (mr 17), .ref (mr 18), .ref (mr 19), .ref (mr 20), .int (nI nse), .int (nI npa), .int (nI nbo), .ref (mr 21), .int (nI tn), .ref (mr 22), .int (nI ik), .int (j0), .int (j1), .ref (mr 23), .int (j2), .ref (mr 24), .ref (mr 25), .int (j3), .ref (mr 26), .int (nI n9), .ref (mr 27), .ref (mr 28), .ref (mr 29), .ref (mr 30)])), (mr 26, .inl (cy 1, 24, .inl (fun k => nI (sh9 k)))), (mr 4, .inl (cy 1, 1440, .inl (fun k => nI (by9 k))))] [] (fun (v9 : Option Value) (w9 : va_W) => (v9 = none ∧ w9 = [(mo, .inr (9, [.int (nI cols), .int (nI lc), .int (nI smp), .int (ky), .ref (mr 0), .ref (mr 1), .ref (mr 2), .ref (mr 3), .ref (mr 4), .ref (mr 5), .ref (mr 6), .ref (mr 7), .ref (mr 8), .ref (mr 9), .int (nI mk), .int (nI rs), .ref (mr 10), .ref (mr 11), .ref (mr 12), .ref (mr 13), .ref (mr 14), .ref (mr 15), .ref (mr 16), .ref (mr 17), .ref (mr 18), .ref (mr 19), .ref (mr 20), .int (nI nse), .int (nI npa), .int (nI nbo), .ref (mr 21), .int (nI tn), .ref (mr 22), .int (nI ik), .int (j0), .int (j1), .ref (mr 23), .int (j2), .ref (mr 24), .ref (mr 25), .int (j3), .ref (mr 26), .int (nI ((dgP (dyS b) 2 (adP 45 (dgP (moS b) 2 (adP 45 (dgP (yrS b) 4 (n9, sh9)))))).1)), .ref (mr 27), .ref (mr 28), .ref (mr 29), .ref (mr 30)])), (mr 26, .inl (cy 1, 24, .inl (fun k => nI (((dgP (dyS b) 2 (adP 45 (dgP (moS b) 2 (adP 45 (dgP (yrS b) 4 (n9, sh9)))))).2) k)))), (mr 4, .inl (cy 1, 1440, .inl (fun k => nI (by9 k))))])) := by
  refine xMet_of (cc := cX10_showsDate) (maxL := 3) (ret := none) (by decide) rfl (Nat.le_of_ble_eq_true rfl) (fun p e s m args below meth c A R Q hA hR hQ C hr hnm hro hX => ?_)
  have hw0 : ∀ w ∈ u_ws RX10 TX10 47, w ∈ wsX10_showsDate := by decide +kernel
  have hw1 : Cond.fieldLink RX10 31 (TX10 8).1 (TX10 8).2.1 (TX10 8).2.2.1 ∈ wsX10_showsDate := by decide +kernel
  refine x_L (L' := [(0, .ref mo), (1, .int (nI fr))]) [0, 1] rfl ?_
  refine x_aload_n C dX10_showsDate_0 (q := 1) rfl rfl 0 rfl ?_
  refine x_get C (ci := 9) (v := .ref (mr 4)) hw0 0 rfl rfl 8 (by decide) hw1 rfl dX10_showsDate_1 (q := 4) rfl ?_
  refine x_iload_n C dX10_showsDate_4 (q := 5) rfl rfl 1 rfl ?_
  refine x_iconst C dX10_showsDate_5 (q := 6) rfl (v := nI 4) (by decide) ?_
  refine x_iadd C dX10_showsDate_6 (q := 7) rfl (z := nI (fr + 4)) (nI_add fr 4) ?_
  have hb1 := hby (fr + 4)
  refine x_iald C (j := fr + 4) (v := nI (by9 (fr + 4))) 2 rfl (nI_toInt (by omega)) (by omega) rfl dX10_showsDate_7 (q := 8) rfl ?_
  refine x_bipush C dX10_showsDate_8 (q := 10) rfl (v := nI 45) (by decide) ?_
  refine x_icmp_ne C (tgt := 17) dX10_showsDate_10 (by decide) (q := 13) rfl (a := ((by9 (fr + 4) : Nat) : Int)) (b := 45) (nI_toInt (by omega)) rfl (fun h2 => ?_) (fun h2 => ?_)
  · first
    | (exfalso; omega)
    |
      refine x_iconst C dX10_showsDate_17 (q := 18) rfl (v := nI 0) (by decide) ?_
      refine x_istore_n C (L' := [(2, .int (nI 0)), (0, .ref mo), (1, .int (nI fr))]) dX10_showsDate_18 (q := 19) rfl rfl (by decide) rfl ?_
      refine x_aload_n C dX10_showsDate_19 (q := 20) rfl rfl 1 rfl ?_
      refine x_iload_n C dX10_showsDate_20 (q := 21) rfl rfl 0 rfl ?_
      refine x_if_eq C (tgt := 28) dX10_showsDate_21 (by decide) (q := 24) rfl (a := 0) rfl (fun h3 => ?_) (fun h3 => (by omega : False).elim)
      refine x_iload_n C dX10_showsDate_28 (q := 29) rfl rfl 2 rfl ?_
      refine x_bipush C dX10_showsDate_29 (q := 31) rfl (v := nI 6) (by decide) ?_
      refine x_iadd C dX10_showsDate_31 (q := 32) rfl (z := nI (fr + 6)) (nI_add fr 6) ?_
      refine x_iconst C dX10_showsDate_32 (q := 33) rfl (v := nI 4) (by decide) ?_
      refine x_callV C (roW := []) (roR := []) (c_X10_showsBytes l D cy mo mr cols lc smp mk rs nse npa nbo tn ik ky j0 j1 j2 j3 n9 sh9 by9 (fr + 6) 4 ((fun j => b (6 + j))) (by assumption) (by first | assumption | omega | (simp only []; omega)) (by first | assumption | omega | (simp only []; omega)) (by intro j hj; first | (rw [Nat.add_assoc]; exact hb (6 + j) (by omega)) | (show by9 (fr + j) = b (0 + j); rw [Nat.zero_add]; exact hb j (by omega)))) (cwV 2 C.2.2.2.2.1 gX10_showsDate_X10_showsBytes rfl rfl rfl (by decide +kernel) (by rw [hR]; exact ⟨Nat.le_of_ble_eq_true rfl, Nat.le_of_ble_eq_true rfl⟩)) [0, 1, 2] [] rfl (by decide) rfl (by decide) xro_nil (List.mem_of_getElem? (i := 0) rfl) (ci := 9) rfl xT_bl (fun _ _ _ _ _ _ _ => trivial) rfl rfl dX10_showsDate_33 rfl rfl (Nat.le_of_ble_eq_true rfl) (q := 36) rfl (k' := 0) rfl (n' := 0) rfl (by rw [hR]; exact ⟨Nat.le_of_ble_eq_true rfl, Nat.le_of_ble_eq_true rfl⟩) (fun v4 w4 hp4 => ?_)
      obtain ⟨rfl, rfl⟩ := hp4
      refine x_ws (ws' := [(mo, .inr (9, [.int (nI cols), .int (nI lc), .int (nI smp), .int (ky), .ref (mr 0), .ref (mr 1), .ref (mr 2), .ref (mr 3), .ref (mr 4), .ref (mr 5), .ref (mr 6), .ref (mr 7), .ref (mr 8), .ref (mr 9), .int (nI mk), .int (nI rs), .ref (mr 10), .ref (mr 11), .ref (mr 12), .ref (mr 13), .ref (mr 14), .ref (mr 15), .ref (mr 16), .ref (mr 17), .ref (mr 18), .ref (mr 19), .ref (mr 20), .int (nI nse), .int (nI npa), .int (nI nbo), .ref (mr 21), .int (nI tn), .ref (mr 22), .int (nI ik), .int (j0), .int (j1), .ref (mr 23), .int (j2), .ref (mr 24), .ref (mr 25), .int (j3), .ref (mr 26), .int (nI (n9 + 4)), .ref (mr 27), .ref (mr 28), .ref (mr 29), .ref (mr 30)])), (mr 26, .inl (cy 1, 24, .inl (fun k => nI ((cpF ((fun j => b (6 + j))) sh9 n9 4) k)))), (mr 4, .inl (cy 1, 1440, .inl (fun k => nI (by9 k))))]) rfl ?_
      refine x_aload_n C dX10_showsDate_36 (q := 37) rfl rfl 1 rfl ?_
      refine x_bipush C dX10_showsDate_37 (q := 39) rfl (v := nI 45) (by decide) ?_
      refine x_callV C (roW := []) (roR := []) (c_X10_shows l D cy mo mr cols lc smp mk rs nse npa nbo tn ik ky j0 j1 j2 j3 (n9 + 4) (cpF ((fun j => b (6 + j))) sh9 n9 4) 45 (by first | assumption | omega | (simp only []; omega))) (cwV 1 C.2.2.2.2.1 gX10_showsDate_X10_shows rfl rfl rfl (by decide +kernel) (by rw [hR]; exact ⟨Nat.le_of_ble_eq_true rfl, Nat.le_of_ble_eq_true rfl⟩)) [0, 1] [] rfl (by decide) rfl (by decide) xro_nil (List.mem_of_getElem? (i := 0) rfl) (ci := 9) rfl xT_bl (fun _ _ _ _ _ _ _ => trivial) rfl rfl dX10_showsDate_39 rfl rfl (Nat.le_of_ble_eq_true rfl) (q := 42) rfl (k' := 0) rfl (n' := 0) rfl (by rw [hR]; exact ⟨Nat.le_of_ble_eq_true rfl, Nat.le_of_ble_eq_true rfl⟩) (fun v5 w5 hp5 => ?_)
      obtain ⟨rfl, rfl⟩ := hp5
      refine x_ws (ws' := [(mo, .inr (9, [.int (nI cols), .int (nI lc), .int (nI smp), .int (ky), .ref (mr 0), .ref (mr 1), .ref (mr 2), .ref (mr 3), .ref (mr 4), .ref (mr 5), .ref (mr 6), .ref (mr 7), .ref (mr 8), .ref (mr 9), .int (nI mk), .int (nI rs), .ref (mr 10), .ref (mr 11), .ref (mr 12), .ref (mr 13), .ref (mr 14), .ref (mr 15), .ref (mr 16), .ref (mr 17), .ref (mr 18), .ref (mr 19), .ref (mr 20), .int (nI nse), .int (nI npa), .int (nI nbo), .ref (mr 21), .int (nI tn), .ref (mr 22), .int (nI ik), .int (j0), .int (j1), .ref (mr 23), .int (j2), .ref (mr 24), .ref (mr 25), .int (j3), .ref (mr 26), .int (nI ((n9 + 4) + 1)), .ref (mr 27), .ref (mr 28), .ref (mr 29), .ref (mr 30)])), (mr 26, .inl (cy 1, 24, .inl (fun k => nI ((va_up (cpF ((fun j => b (6 + j))) sh9 n9 4) (n9 + 4) 45) k)))), (mr 4, .inl (cy 1, 1440, .inl (fun k => nI (by9 k))))]) rfl ?_
      refine x_aload_n C dX10_showsDate_42 (q := 43) rfl rfl 1 rfl ?_
      refine x_iload_n C dX10_showsDate_43 (q := 44) rfl rfl 0 rfl ?_
      refine x_if_eq C (tgt := 53) dX10_showsDate_44 (by decide) (q := 47) rfl (a := 0) rfl (fun h6 => ?_) (fun h6 => (by omega : False).elim)
      refine x_iload_n C dX10_showsDate_53 (q := 54) rfl rfl 2 rfl ?_
      refine x_iconst C dX10_showsDate_54 (q := 55) rfl (v := nI 3) (by decide) ?_
      refine x_iadd C dX10_showsDate_55 (q := 56) rfl (z := nI (fr + 3)) (nI_add fr 3) ?_
      refine x_iconst C dX10_showsDate_56 (q := 57) rfl (v := nI 2) (by decide) ?_
      refine x_callV C (roW := []) (roR := []) (c_X10_showsBytes l D cy mo mr cols lc smp mk rs nse npa nbo tn ik ky j0 j1 j2 j3 ((n9 + 4) + 1) (va_up (cpF ((fun j => b (6 + j))) sh9 n9 4) (n9 + 4) 45) by9 (fr + 3) 2 ((fun j => b (3 + j))) (by assumption) (by first | assumption | omega | (simp only []; omega)) (by first | assumption | omega | (simp only []; omega)) (by intro j hj; first | (rw [Nat.add_assoc]; exact hb (3 + j) (by omega)) | (show by9 (fr + j) = b (0 + j); rw [Nat.zero_add]; exact hb j (by omega)))) (cwV 2 C.2.2.2.2.1 gX10_showsDate_X10_showsBytes rfl rfl rfl (by decide +kernel) (by rw [hR]; exact ⟨Nat.le_of_ble_eq_true rfl, Nat.le_of_ble_eq_true rfl⟩)) [0, 1, 2] [] rfl (by decide) rfl (by decide) xro_nil (List.mem_of_getElem? (i := 0) rfl) (ci := 9) rfl xT_bl (fun _ _ _ _ _ _ _ => trivial) rfl rfl dX10_showsDate_57 rfl rfl (Nat.le_of_ble_eq_true rfl) (q := 60) rfl (k' := 0) rfl (n' := 0) rfl (by rw [hR]; exact ⟨Nat.le_of_ble_eq_true rfl, Nat.le_of_ble_eq_true rfl⟩) (fun v7 w7 hp7 => ?_)
      obtain ⟨rfl, rfl⟩ := hp7
      refine x_ws (ws' := [(mo, .inr (9, [.int (nI cols), .int (nI lc), .int (nI smp), .int (ky), .ref (mr 0), .ref (mr 1), .ref (mr 2), .ref (mr 3), .ref (mr 4), .ref (mr 5), .ref (mr 6), .ref (mr 7), .ref (mr 8), .ref (mr 9), .int (nI mk), .int (nI rs), .ref (mr 10), .ref (mr 11), .ref (mr 12), .ref (mr 13), .ref (mr 14), .ref (mr 15), .ref (mr 16), .ref (mr 17), .ref (mr 18), .ref (mr 19), .ref (mr 20), .int (nI nse), .int (nI npa), .int (nI nbo), .ref (mr 21), .int (nI tn), .ref (mr 22), .int (nI ik), .int (j0), .int (j1), .ref (mr 23), .int (j2), .ref (mr 24), .ref (mr 25), .int (j3), .ref (mr 26), .int (nI (((n9 + 4) + 1) + 2)), .ref (mr 27), .ref (mr 28), .ref (mr 29), .ref (mr 30)])), (mr 26, .inl (cy 1, 24, .inl (fun k => nI ((cpF ((fun j => b (3 + j))) (va_up (cpF ((fun j => b (6 + j))) sh9 n9 4) (n9 + 4) 45) ((n9 + 4) + 1) 2) k)))), (mr 4, .inl (cy 1, 1440, .inl (fun k => nI (by9 k))))]) rfl ?_
      refine x_aload_n C dX10_showsDate_60 (q := 61) rfl rfl 1 rfl ?_
      refine x_bipush C dX10_showsDate_61 (q := 63) rfl (v := nI 45) (by decide) ?_
      refine x_callV C (roW := []) (roR := []) (c_X10_shows l D cy mo mr cols lc smp mk rs nse npa nbo tn ik ky j0 j1 j2 j3 (((n9 + 4) + 1) + 2) (cpF ((fun j => b (3 + j))) (va_up (cpF ((fun j => b (6 + j))) sh9 n9 4) (n9 + 4) 45) ((n9 + 4) + 1) 2) 45 (by first | assumption | omega | (simp only []; omega))) (cwV 1 C.2.2.2.2.1 gX10_showsDate_X10_shows rfl rfl rfl (by decide +kernel) (by rw [hR]; exact ⟨Nat.le_of_ble_eq_true rfl, Nat.le_of_ble_eq_true rfl⟩)) [0, 1] [] rfl (by decide) rfl (by decide) xro_nil (List.mem_of_getElem? (i := 0) rfl) (ci := 9) rfl xT_bl (fun _ _ _ _ _ _ _ => trivial) rfl rfl dX10_showsDate_63 rfl rfl (Nat.le_of_ble_eq_true rfl) (q := 66) rfl (k' := 0) rfl (n' := 0) rfl (by rw [hR]; exact ⟨Nat.le_of_ble_eq_true rfl, Nat.le_of_ble_eq_true rfl⟩) (fun v8 w8 hp8 => ?_)
      obtain ⟨rfl, rfl⟩ := hp8
      refine x_ws (ws' := [(mo, .inr (9, [.int (nI cols), .int (nI lc), .int (nI smp), .int (ky), .ref (mr 0), .ref (mr 1), .ref (mr 2), .ref (mr 3), .ref (mr 4), .ref (mr 5), .ref (mr 6), .ref (mr 7), .ref (mr 8), .ref (mr 9), .int (nI mk), .int (nI rs), .ref (mr 10), .ref (mr 11), .ref (mr 12), .ref (mr 13), .ref (mr 14), .ref (mr 15), .ref (mr 16), .ref (mr 17), .ref (mr 18), .ref (mr 19), .ref (mr 20), .int (nI nse), .int (nI npa), .int (nI nbo), .ref (mr 21), .int (nI tn), .ref (mr 22), .int (nI ik), .int (j0), .int (j1), .ref (mr 23), .int (j2), .ref (mr 24), .ref (mr 25), .int (j3), .ref (mr 26), .int (nI ((((n9 + 4) + 1) + 2) + 1)), .ref (mr 27), .ref (mr 28), .ref (mr 29), .ref (mr 30)])), (mr 26, .inl (cy 1, 24, .inl (fun k => nI ((va_up (cpF ((fun j => b (3 + j))) (va_up (cpF ((fun j => b (6 + j))) sh9 n9 4) (n9 + 4) 45) ((n9 + 4) + 1) 2) (((n9 + 4) + 1) + 2) 45) k)))), (mr 4, .inl (cy 1, 1440, .inl (fun k => nI (by9 k))))]) rfl ?_
      refine x_aload_n C dX10_showsDate_66 (q := 67) rfl rfl 1 rfl ?_
      refine x_iload_n C dX10_showsDate_67 (q := 68) rfl rfl 0 rfl ?_
      refine x_if_eq C (tgt := 78) dX10_showsDate_68 (by decide) (q := 71) rfl (a := 0) rfl (fun h9 => ?_) (fun h9 => (by omega : False).elim)
      refine x_iload_n C dX10_showsDate_78 (q := 79) rfl rfl 2 rfl ?_
      refine x_iconst C dX10_showsDate_79 (q := 80) rfl (v := nI 2) (by decide) ?_
      refine x_callV C (roW := []) (roR := []) (c_X10_showsBytes l D cy mo mr cols lc smp mk rs nse npa nbo tn ik ky j0 j1 j2 j3 ((((n9 + 4) + 1) + 2) + 1) (va_up (cpF ((fun j => b (3 + j))) (va_up (cpF ((fun j => b (6 + j))) sh9 n9 4) (n9 + 4) 45) ((n9 + 4) + 1) 2) (((n9 + 4) + 1) + 2) 45) by9 fr 2 ((fun j => b (0 + j))) (by assumption) (by first | assumption | omega | (simp only []; omega)) (by first | assumption | omega | (simp only []; omega)) (by intro j hj; first | (rw [Nat.add_assoc]; exact hb (0 + j) (by omega)) | (show by9 (fr + j) = b (0 + j); rw [Nat.zero_add]; exact hb j (by omega)))) (cwV 2 C.2.2.2.2.1 gX10_showsDate_X10_showsBytes rfl rfl rfl (by decide +kernel) (by rw [hR]; exact ⟨Nat.le_of_ble_eq_true rfl, Nat.le_of_ble_eq_true rfl⟩)) [0, 1, 2] [] rfl (by decide) rfl (by decide) xro_nil (List.mem_of_getElem? (i := 0) rfl) (ci := 9) rfl xT_bl (fun _ _ _ _ _ _ _ => trivial) rfl rfl dX10_showsDate_80 rfl rfl (Nat.le_of_ble_eq_true rfl) (q := 83) rfl (k' := 0) rfl (n' := 0) rfl (by rw [hR]; exact ⟨Nat.le_of_ble_eq_true rfl, Nat.le_of_ble_eq_true rfl⟩) (fun v10 w10 hp10 => ?_)
      obtain ⟨rfl, rfl⟩ := hp10
      refine x_ws (ws' := [(mo, .inr (9, [.int (nI cols), .int (nI lc), .int (nI smp), .int (ky), .ref (mr 0), .ref (mr 1), .ref (mr 2), .ref (mr 3), .ref (mr 4), .ref (mr 5), .ref (mr 6), .ref (mr 7), .ref (mr 8), .ref (mr 9), .int (nI mk), .int (nI rs), .ref (mr 10), .ref (mr 11), .ref (mr 12), .ref (mr 13), .ref (mr 14), .ref (mr 15), .ref (mr 16), .ref (mr 17), .ref (mr 18), .ref (mr 19), .ref (mr 20), .int (nI nse), .int (nI npa), .int (nI nbo), .ref (mr 21), .int (nI tn), .ref (mr 22), .int (nI ik), .int (j0), .int (j1), .ref (mr 23), .int (j2), .ref (mr 24), .ref (mr 25), .int (j3), .ref (mr 26), .int (nI (((((n9 + 4) + 1) + 2) + 1) + 2)), .ref (mr 27), .ref (mr 28), .ref (mr 29), .ref (mr 30)])), (mr 26, .inl (cy 1, 24, .inl (fun k => nI ((cpF ((fun j => b (0 + j))) (va_up (cpF ((fun j => b (3 + j))) (va_up (cpF ((fun j => b (6 + j))) sh9 n9 4) (n9 + 4) 45) ((n9 + 4) + 1) 2) (((n9 + 4) + 1) + 2) 45) ((((n9 + 4) + 1) + 2) + 1) 2) k)))), (mr 4, .inl (cy 1, 1440, .inl (fun k => nI (by9 k))))]) rfl ?_
      refine x_vret C hA hQ hr dX10_showsDate_83 (Nat.le_of_ble_eq_true rfl) ?_
      have hpb : patD b := by
        have hb4 := hb 4 (by omega)
        unfold patD patY dg1 at *
        omega
      have hyl := yrS_lt hpt
      have hml := moS_lt hpt
      have hdl := dyS_lt hpt
      have hb2 : b 2 = 47 := by
        unfold patD dg1 at hpb
        omega
      have ey : yrS b = numD b 6 4 := if_pos hb2
      have em : moS b = numD b 3 2 := if_pos hb2
      have ed : dyS b = numD b 0 2 := if_pos hb2
      have e1 : dgE (yrS b) 4 17 0 = 3 := dgE_w (m := 3) rfl (show yrS b < 10000 from hyl) 17 0 (by decide) (by decide)
      have e2 : dgE (moS b) 2 17 0 = 1 := dgE_w (m := 1) rfl (show moS b < 100 from hml) 17 0 (by decide) (by decide)
      have e3 : dgE (dyS b) 2 17 0 = 1 := dgE_w (m := 1) rfl (show dyS b < 100 from hdl) 17 0 (by decide) (by decide)
      unfold patD dg1 at hpb
      rw [cpF_dg4 (b := b) (p := 6) (show dg1 b 6 from ⟨by omega, by omega⟩) (show dg1 b 7 from ⟨by omega, by omega⟩) (show dg1 b 8 from ⟨by omega, by omega⟩) (show dg1 b 9 from ⟨by omega, by omega⟩), cpF_dg2 (b := b) (p := 3) (show dg1 b 3 from ⟨by omega, by omega⟩) (show dg1 b 4 from ⟨by omega, by omega⟩), cpF_dg2 (b := b) (p := 0) (show dg1 b 0 from ⟨by omega, by omega⟩) (show dg1 b 1 from ⟨by omega, by omega⟩)]
      simp only [dgP, adP, e1, e2, e3]
      rw [← ey, ← em, ← ed]
      exact ⟨trivial, rfl⟩
  · first
    | (exfalso; omega)
    |
      refine x_iconst C dX10_showsDate_13 (q := 14) rfl (v := nI 1) (by decide) ?_
      refine x_goto C (tgt := 18) dX10_showsDate_14 (by decide) ?_
      refine x_istore_n C (L' := [(2, .int (nI 1)), (0, .ref mo), (1, .int (nI fr))]) dX10_showsDate_18 (q := 19) rfl rfl (by decide) rfl ?_
      refine x_aload_n C dX10_showsDate_19 (q := 20) rfl rfl 1 rfl ?_
      refine x_iload_n C dX10_showsDate_20 (q := 21) rfl rfl 0 rfl ?_
      refine x_if_eq C (tgt := 28) dX10_showsDate_21 (by decide) (q := 24) rfl (a := 1) rfl (fun h11 => (by omega : False).elim) (fun h11 => ?_)
      refine x_iload_n C dX10_showsDate_24 (q := 25) rfl rfl 2 rfl ?_
      refine x_goto C (tgt := 32) dX10_showsDate_25 (by decide) ?_
      refine x_iconst C dX10_showsDate_32 (q := 33) rfl (v := nI 4) (by decide) ?_
      refine x_callV C (roW := []) (roR := []) (c_X10_showsBytes l D cy mo mr cols lc smp mk rs nse npa nbo tn ik ky j0 j1 j2 j3 n9 sh9 by9 fr 4 ((fun j => b (0 + j))) (by assumption) (by first | assumption | omega | (simp only []; omega)) (by first | assumption | omega | (simp only []; omega)) (by intro j hj; first | (rw [Nat.add_assoc]; exact hb (0 + j) (by omega)) | (show by9 (fr + j) = b (0 + j); rw [Nat.zero_add]; exact hb j (by omega)))) (cwV 2 C.2.2.2.2.1 gX10_showsDate_X10_showsBytes rfl rfl rfl (by decide +kernel) (by rw [hR]; exact ⟨Nat.le_of_ble_eq_true rfl, Nat.le_of_ble_eq_true rfl⟩)) [0, 1, 2] [] rfl (by decide) rfl (by decide) xro_nil (List.mem_of_getElem? (i := 0) rfl) (ci := 9) rfl xT_bl (fun _ _ _ _ _ _ _ => trivial) rfl rfl dX10_showsDate_33 rfl rfl (Nat.le_of_ble_eq_true rfl) (q := 36) rfl (k' := 0) rfl (n' := 0) rfl (by rw [hR]; exact ⟨Nat.le_of_ble_eq_true rfl, Nat.le_of_ble_eq_true rfl⟩) (fun v12 w12 hp12 => ?_)
      obtain ⟨rfl, rfl⟩ := hp12
      refine x_ws (ws' := [(mo, .inr (9, [.int (nI cols), .int (nI lc), .int (nI smp), .int (ky), .ref (mr 0), .ref (mr 1), .ref (mr 2), .ref (mr 3), .ref (mr 4), .ref (mr 5), .ref (mr 6), .ref (mr 7), .ref (mr 8), .ref (mr 9), .int (nI mk), .int (nI rs), .ref (mr 10), .ref (mr 11), .ref (mr 12), .ref (mr 13), .ref (mr 14), .ref (mr 15), .ref (mr 16), .ref (mr 17), .ref (mr 18), .ref (mr 19), .ref (mr 20), .int (nI nse), .int (nI npa), .int (nI nbo), .ref (mr 21), .int (nI tn), .ref (mr 22), .int (nI ik), .int (j0), .int (j1), .ref (mr 23), .int (j2), .ref (mr 24), .ref (mr 25), .int (j3), .ref (mr 26), .int (nI (n9 + 4)), .ref (mr 27), .ref (mr 28), .ref (mr 29), .ref (mr 30)])), (mr 26, .inl (cy 1, 24, .inl (fun k => nI ((cpF ((fun j => b (0 + j))) sh9 n9 4) k)))), (mr 4, .inl (cy 1, 1440, .inl (fun k => nI (by9 k))))]) rfl ?_
      refine x_aload_n C dX10_showsDate_36 (q := 37) rfl rfl 1 rfl ?_
      refine x_bipush C dX10_showsDate_37 (q := 39) rfl (v := nI 45) (by decide) ?_
      refine x_callV C (roW := []) (roR := []) (c_X10_shows l D cy mo mr cols lc smp mk rs nse npa nbo tn ik ky j0 j1 j2 j3 (n9 + 4) (cpF ((fun j => b (0 + j))) sh9 n9 4) 45 (by first | assumption | omega | (simp only []; omega))) (cwV 1 C.2.2.2.2.1 gX10_showsDate_X10_shows rfl rfl rfl (by decide +kernel) (by rw [hR]; exact ⟨Nat.le_of_ble_eq_true rfl, Nat.le_of_ble_eq_true rfl⟩)) [0, 1] [] rfl (by decide) rfl (by decide) xro_nil (List.mem_of_getElem? (i := 0) rfl) (ci := 9) rfl xT_bl (fun _ _ _ _ _ _ _ => trivial) rfl rfl dX10_showsDate_39 rfl rfl (Nat.le_of_ble_eq_true rfl) (q := 42) rfl (k' := 0) rfl (n' := 0) rfl (by rw [hR]; exact ⟨Nat.le_of_ble_eq_true rfl, Nat.le_of_ble_eq_true rfl⟩) (fun v13 w13 hp13 => ?_)
      obtain ⟨rfl, rfl⟩ := hp13
      refine x_ws (ws' := [(mo, .inr (9, [.int (nI cols), .int (nI lc), .int (nI smp), .int (ky), .ref (mr 0), .ref (mr 1), .ref (mr 2), .ref (mr 3), .ref (mr 4), .ref (mr 5), .ref (mr 6), .ref (mr 7), .ref (mr 8), .ref (mr 9), .int (nI mk), .int (nI rs), .ref (mr 10), .ref (mr 11), .ref (mr 12), .ref (mr 13), .ref (mr 14), .ref (mr 15), .ref (mr 16), .ref (mr 17), .ref (mr 18), .ref (mr 19), .ref (mr 20), .int (nI nse), .int (nI npa), .int (nI nbo), .ref (mr 21), .int (nI tn), .ref (mr 22), .int (nI ik), .int (j0), .int (j1), .ref (mr 23), .int (j2), .ref (mr 24), .ref (mr 25), .int (j3), .ref (mr 26), .int (nI ((n9 + 4) + 1)), .ref (mr 27), .ref (mr 28), .ref (mr 29), .ref (mr 30)])), (mr 26, .inl (cy 1, 24, .inl (fun k => nI ((va_up (cpF ((fun j => b (0 + j))) sh9 n9 4) (n9 + 4) 45) k)))), (mr 4, .inl (cy 1, 1440, .inl (fun k => nI (by9 k))))]) rfl ?_
      refine x_aload_n C dX10_showsDate_42 (q := 43) rfl rfl 1 rfl ?_
      refine x_iload_n C dX10_showsDate_43 (q := 44) rfl rfl 0 rfl ?_
      refine x_if_eq C (tgt := 53) dX10_showsDate_44 (by decide) (q := 47) rfl (a := 1) rfl (fun h14 => (by omega : False).elim) (fun h14 => ?_)
      refine x_iload_n C dX10_showsDate_47 (q := 48) rfl rfl 2 rfl ?_
      refine x_iconst C dX10_showsDate_48 (q := 49) rfl (v := nI 5) (by decide) ?_
      refine x_iadd C dX10_showsDate_49 (q := 50) rfl (z := nI (fr + 5)) (nI_add fr 5) ?_
      refine x_goto C (tgt := 56) dX10_showsDate_50 (by decide) ?_
      refine x_iconst C dX10_showsDate_56 (q := 57) rfl (v := nI 2) (by decide) ?_
      refine x_callV C (roW := []) (roR := []) (c_X10_showsBytes l D cy mo mr cols lc smp mk rs nse npa nbo tn ik ky j0 j1 j2 j3 ((n9 + 4) + 1) (va_up (cpF ((fun j => b (0 + j))) sh9 n9 4) (n9 + 4) 45) by9 (fr + 5) 2 ((fun j => b (5 + j))) (by assumption) (by first | assumption | omega | (simp only []; omega)) (by first | assumption | omega | (simp only []; omega)) (by intro j hj; first | (rw [Nat.add_assoc]; exact hb (5 + j) (by omega)) | (show by9 (fr + j) = b (0 + j); rw [Nat.zero_add]; exact hb j (by omega)))) (cwV 2 C.2.2.2.2.1 gX10_showsDate_X10_showsBytes rfl rfl rfl (by decide +kernel) (by rw [hR]; exact ⟨Nat.le_of_ble_eq_true rfl, Nat.le_of_ble_eq_true rfl⟩)) [0, 1, 2] [] rfl (by decide) rfl (by decide) xro_nil (List.mem_of_getElem? (i := 0) rfl) (ci := 9) rfl xT_bl (fun _ _ _ _ _ _ _ => trivial) rfl rfl dX10_showsDate_57 rfl rfl (Nat.le_of_ble_eq_true rfl) (q := 60) rfl (k' := 0) rfl (n' := 0) rfl (by rw [hR]; exact ⟨Nat.le_of_ble_eq_true rfl, Nat.le_of_ble_eq_true rfl⟩) (fun v15 w15 hp15 => ?_)
      obtain ⟨rfl, rfl⟩ := hp15
      refine x_ws (ws' := [(mo, .inr (9, [.int (nI cols), .int (nI lc), .int (nI smp), .int (ky), .ref (mr 0), .ref (mr 1), .ref (mr 2), .ref (mr 3), .ref (mr 4), .ref (mr 5), .ref (mr 6), .ref (mr 7), .ref (mr 8), .ref (mr 9), .int (nI mk), .int (nI rs), .ref (mr 10), .ref (mr 11), .ref (mr 12), .ref (mr 13), .ref (mr 14), .ref (mr 15), .ref (mr 16), .ref (mr 17), .ref (mr 18), .ref (mr 19), .ref (mr 20), .int (nI nse), .int (nI npa), .int (nI nbo), .ref (mr 21), .int (nI tn), .ref (mr 22), .int (nI ik), .int (j0), .int (j1), .ref (mr 23), .int (j2), .ref (mr 24), .ref (mr 25), .int (j3), .ref (mr 26), .int (nI (((n9 + 4) + 1) + 2)), .ref (mr 27), .ref (mr 28), .ref (mr 29), .ref (mr 30)])), (mr 26, .inl (cy 1, 24, .inl (fun k => nI ((cpF ((fun j => b (5 + j))) (va_up (cpF ((fun j => b (0 + j))) sh9 n9 4) (n9 + 4) 45) ((n9 + 4) + 1) 2) k)))), (mr 4, .inl (cy 1, 1440, .inl (fun k => nI (by9 k))))]) rfl ?_
      refine x_aload_n C dX10_showsDate_60 (q := 61) rfl rfl 1 rfl ?_
      refine x_bipush C dX10_showsDate_61 (q := 63) rfl (v := nI 45) (by decide) ?_
      refine x_callV C (roW := []) (roR := []) (c_X10_shows l D cy mo mr cols lc smp mk rs nse npa nbo tn ik ky j0 j1 j2 j3 (((n9 + 4) + 1) + 2) (cpF ((fun j => b (5 + j))) (va_up (cpF ((fun j => b (0 + j))) sh9 n9 4) (n9 + 4) 45) ((n9 + 4) + 1) 2) 45 (by first | assumption | omega | (simp only []; omega))) (cwV 1 C.2.2.2.2.1 gX10_showsDate_X10_shows rfl rfl rfl (by decide +kernel) (by rw [hR]; exact ⟨Nat.le_of_ble_eq_true rfl, Nat.le_of_ble_eq_true rfl⟩)) [0, 1] [] rfl (by decide) rfl (by decide) xro_nil (List.mem_of_getElem? (i := 0) rfl) (ci := 9) rfl xT_bl (fun _ _ _ _ _ _ _ => trivial) rfl rfl dX10_showsDate_63 rfl rfl (Nat.le_of_ble_eq_true rfl) (q := 66) rfl (k' := 0) rfl (n' := 0) rfl (by rw [hR]; exact ⟨Nat.le_of_ble_eq_true rfl, Nat.le_of_ble_eq_true rfl⟩) (fun v16 w16 hp16 => ?_)
      obtain ⟨rfl, rfl⟩ := hp16
      refine x_ws (ws' := [(mo, .inr (9, [.int (nI cols), .int (nI lc), .int (nI smp), .int (ky), .ref (mr 0), .ref (mr 1), .ref (mr 2), .ref (mr 3), .ref (mr 4), .ref (mr 5), .ref (mr 6), .ref (mr 7), .ref (mr 8), .ref (mr 9), .int (nI mk), .int (nI rs), .ref (mr 10), .ref (mr 11), .ref (mr 12), .ref (mr 13), .ref (mr 14), .ref (mr 15), .ref (mr 16), .ref (mr 17), .ref (mr 18), .ref (mr 19), .ref (mr 20), .int (nI nse), .int (nI npa), .int (nI nbo), .ref (mr 21), .int (nI tn), .ref (mr 22), .int (nI ik), .int (j0), .int (j1), .ref (mr 23), .int (j2), .ref (mr 24), .ref (mr 25), .int (j3), .ref (mr 26), .int (nI ((((n9 + 4) + 1) + 2) + 1)), .ref (mr 27), .ref (mr 28), .ref (mr 29), .ref (mr 30)])), (mr 26, .inl (cy 1, 24, .inl (fun k => nI ((va_up (cpF ((fun j => b (5 + j))) (va_up (cpF ((fun j => b (0 + j))) sh9 n9 4) (n9 + 4) 45) ((n9 + 4) + 1) 2) (((n9 + 4) + 1) + 2) 45) k)))), (mr 4, .inl (cy 1, 1440, .inl (fun k => nI (by9 k))))]) rfl ?_
      refine x_aload_n C dX10_showsDate_66 (q := 67) rfl rfl 1 rfl ?_
      refine x_iload_n C dX10_showsDate_67 (q := 68) rfl rfl 0 rfl ?_
      refine x_if_eq C (tgt := 78) dX10_showsDate_68 (by decide) (q := 71) rfl (a := 1) rfl (fun h17 => (by omega : False).elim) (fun h17 => ?_)
      refine x_iload_n C dX10_showsDate_71 (q := 72) rfl rfl 2 rfl ?_
      refine x_bipush C dX10_showsDate_72 (q := 74) rfl (v := nI 8) (by decide) ?_
      refine x_iadd C dX10_showsDate_74 (q := 75) rfl (z := nI (fr + 8)) (nI_add fr 8) ?_
      refine x_goto C (tgt := 79) dX10_showsDate_75 (by decide) ?_
      refine x_iconst C dX10_showsDate_79 (q := 80) rfl (v := nI 2) (by decide) ?_
      refine x_callV C (roW := []) (roR := []) (c_X10_showsBytes l D cy mo mr cols lc smp mk rs nse npa nbo tn ik ky j0 j1 j2 j3 ((((n9 + 4) + 1) + 2) + 1) (va_up (cpF ((fun j => b (5 + j))) (va_up (cpF ((fun j => b (0 + j))) sh9 n9 4) (n9 + 4) 45) ((n9 + 4) + 1) 2) (((n9 + 4) + 1) + 2) 45) by9 (fr + 8) 2 ((fun j => b (8 + j))) (by assumption) (by first | assumption | omega | (simp only []; omega)) (by first | assumption | omega | (simp only []; omega)) (by intro j hj; first | (rw [Nat.add_assoc]; exact hb (8 + j) (by omega)) | (show by9 (fr + j) = b (0 + j); rw [Nat.zero_add]; exact hb j (by omega)))) (cwV 2 C.2.2.2.2.1 gX10_showsDate_X10_showsBytes rfl rfl rfl (by decide +kernel) (by rw [hR]; exact ⟨Nat.le_of_ble_eq_true rfl, Nat.le_of_ble_eq_true rfl⟩)) [0, 1, 2] [] rfl (by decide) rfl (by decide) xro_nil (List.mem_of_getElem? (i := 0) rfl) (ci := 9) rfl xT_bl (fun _ _ _ _ _ _ _ => trivial) rfl rfl dX10_showsDate_80 rfl rfl (Nat.le_of_ble_eq_true rfl) (q := 83) rfl (k' := 0) rfl (n' := 0) rfl (by rw [hR]; exact ⟨Nat.le_of_ble_eq_true rfl, Nat.le_of_ble_eq_true rfl⟩) (fun v18 w18 hp18 => ?_)
      obtain ⟨rfl, rfl⟩ := hp18
      refine x_ws (ws' := [(mo, .inr (9, [.int (nI cols), .int (nI lc), .int (nI smp), .int (ky), .ref (mr 0), .ref (mr 1), .ref (mr 2), .ref (mr 3), .ref (mr 4), .ref (mr 5), .ref (mr 6), .ref (mr 7), .ref (mr 8), .ref (mr 9), .int (nI mk), .int (nI rs), .ref (mr 10), .ref (mr 11), .ref (mr 12), .ref (mr 13), .ref (mr 14), .ref (mr 15), .ref (mr 16), .ref (mr 17), .ref (mr 18), .ref (mr 19), .ref (mr 20), .int (nI nse), .int (nI npa), .int (nI nbo), .ref (mr 21), .int (nI tn), .ref (mr 22), .int (nI ik), .int (j0), .int (j1), .ref (mr 23), .int (j2), .ref (mr 24), .ref (mr 25), .int (j3), .ref (mr 26), .int (nI (((((n9 + 4) + 1) + 2) + 1) + 2)), .ref (mr 27), .ref (mr 28), .ref (mr 29), .ref (mr 30)])), (mr 26, .inl (cy 1, 24, .inl (fun k => nI ((cpF ((fun j => b (8 + j))) (va_up (cpF ((fun j => b (5 + j))) (va_up (cpF ((fun j => b (0 + j))) sh9 n9 4) (n9 + 4) 45) ((n9 + 4) + 1) 2) (((n9 + 4) + 1) + 2) 45) ((((n9 + 4) + 1) + 2) + 1) 2) k)))), (mr 4, .inl (cy 1, 1440, .inl (fun k => nI (by9 k))))]) rfl ?_
      refine x_vret C hA hQ hr dX10_showsDate_83 (Nat.le_of_ble_eq_true rfl) ?_
      have hpb : patY b := by
        have hb4 := hb 4 (by omega)
        unfold patD patY dg1 at *
        omega
      have hyl := yrS_lt hpt
      have hml := moS_lt hpt
      have hdl := dyS_lt hpt
      have hb2 : ¬ b 2 = 47 := by
        unfold patY dg1 at hpb
        omega
      have ey : yrS b = numD b 0 4 := if_neg hb2
      have em : moS b = numD b 5 2 := if_neg hb2
      have ed : dyS b = numD b 8 2 := if_neg hb2
      have e1 : dgE (yrS b) 4 17 0 = 3 := dgE_w (m := 3) rfl (show yrS b < 10000 from hyl) 17 0 (by decide) (by decide)
      have e2 : dgE (moS b) 2 17 0 = 1 := dgE_w (m := 1) rfl (show moS b < 100 from hml) 17 0 (by decide) (by decide)
      have e3 : dgE (dyS b) 2 17 0 = 1 := dgE_w (m := 1) rfl (show dyS b < 100 from hdl) 17 0 (by decide) (by decide)
      unfold patY dg1 at hpb
      rw [cpF_dg4 (b := b) (p := 0) (show dg1 b 0 from ⟨by omega, by omega⟩) (show dg1 b 1 from ⟨by omega, by omega⟩) (show dg1 b 2 from ⟨by omega, by omega⟩) (show dg1 b 3 from ⟨by omega, by omega⟩), cpF_dg2 (b := b) (p := 5) (show dg1 b 5 from ⟨by omega, by omega⟩) (show dg1 b 6 from ⟨by omega, by omega⟩), cpF_dg2 (b := b) (p := 8) (show dg1 b 8 from ⟨by omega, by omega⟩) (show dg1 b 9 from ⟨by omega, by omega⟩)]
      simp only [dgP, adP, e1, e2, e3]
      rw [← ey, ← em, ← ed]
      exact ⟨trivial, rfl⟩

set_option maxHeartbeats 600000 in
set_option maxRecDepth 100000 in
/-- a number is shown -/
theorem c_X10_showsNumber (l : Launch) (D : va_G) (cy : Nat → ClassId) (mo : Nat) (mr : Nat → Nat) (cols : Nat) (lc : Nat) (smp : Nat) (mk : Nat) (rs : Nat) (nse : Nat) (npa : Nat) (nbo : Nat) (tn : Nat) (ik : Nat) (ky : Int32) (j0 : Int32) (j1 : Int32) (j2 : Int32) (j3 : Int32) (sh9 : Nat → Nat) (nm : Int64) (fl : Nat) (hnm : nm.toInt.natAbs < 1000000000) (hfl : fl ≤ 1) : xMet l D cy xT yX10_showsNumber wsX10_showsNumber ({ frames := 13, cells := 0, slots := 0, locals := 1500 } : Room) [.ref mo, .long (nm), .int (nI fl)] [(mo, .inr (9, [.int (nI cols), .int (nI lc), .int (nI smp), .int (ky), .ref (mr 0), .ref (mr 1), .ref (mr 2), .ref (mr 3), .ref (mr 4), .ref (mr 5), .ref (mr 6), .ref (mr 7), .ref (mr 8), .ref (mr 9), .int (nI mk), .int (nI rs), .ref (mr 10), .ref (mr 11), .ref (mr 12), .ref (mr 13), .ref (mr 14), .ref (mr 15), .ref (mr 16), .ref (mr 17), .ref (mr 18), .ref (mr 19), .ref (mr 20), .int (nI nse), .int (nI npa), .int (nI nbo), .ref (mr 21), .int (nI tn), .ref (mr 22), .int (nI ik), .int (j0), .int (j1), .ref (mr 23), .int (j2), .ref (mr 24), .ref (mr 25), .int (j3), .ref (mr 26), .int (nI 0), .ref (mr 27), .ref (mr 28), .ref (mr 29), .ref (mr 30)])), (mr 26, .inl (cy 1, 24, .inl (fun k => nI (sh9 k))))] [] (fun (v9 : Option Value) (w9 : va_W) => (v9 = none ∧ w9 = [(mo, .inr (9, [.int (nI cols), .int (nI lc), .int (nI smp), .int (ky), .ref (mr 0), .ref (mr 1), .ref (mr 2), .ref (mr 3), .ref (mr 4), .ref (mr 5), .ref (mr 6), .ref (mr 7), .ref (mr 8), .ref (mr 9), .int (nI mk), .int (nI rs), .ref (mr 10), .ref (mr 11), .ref (mr 12), .ref (mr 13), .ref (mr 14), .ref (mr 15), .ref (mr 16), .ref (mr 17), .ref (mr 18), .ref (mr 19), .ref (mr 20), .int (nI nse), .int (nI npa), .int (nI nbo), .ref (mr 21), .int (nI tn), .ref (mr 22), .int (nI ik), .int (j0), .int (j1), .ref (mr 23), .int (j2), .ref (mr 24), .ref (mr 25), .int (j3), .ref (mr 26), .int (nI ((wnP nm fl sh9).1)), .ref (mr 27), .ref (mr 28), .ref (mr 29), .ref (mr 30)])), (mr 26, .inl (cy 1, 24, .inl (fun k => nI (((wnP nm fl sh9).2) k))))])) := by
  refine xMet_of (cc := cX10_showsNumber) (maxL := 8) (ret := none) (by decide) rfl (Nat.le_of_ble_eq_true rfl) (fun p e s m args below meth c A R Q hA hR hQ C hr hnm hro hX => ?_)
  have hw0 : Cond.methodLink RX10 341 Lib.MathLoose.abs_long.x ∈ wsX10_showsNumber := by decide +kernel
  have hw1 : Cond.static Lib.MathLoose.abs_long.x ∈ wsX10_showsNumber := by decide +kernel
  have hw2 : Cond.initialized "java/lang/Math" ∈ wsX10_showsNumber := by decide +kernel
  have hw3 : Cond.code Lib.MathLoose.abs_long.x Lib.MathLoose.abs_long.code 2 (some .long) ∈ wsX10_showsNumber := by decide +kernel
  have hw4 : Jvm.Cond.constantLong RX10 247 (10) ∈ wsX10_showsNumber := by decide +kernel
  have hw5 : Jvm.Cond.constantLong RX10 346 (100) ∈ wsX10_showsNumber := by decide +kernel
  have hw6 : Jvm.Cond.constantLong RX10 291 (1000) ∈ wsX10_showsNumber := by decide +kernel
  refine x_L (L' := [(0, .ref mo), (1, .long (nm)), (3, .int (nI fl))]) [0, 1, 2] rfl ?_
  have cut12 : ∀ (n0 : Nat) (t0 : Nat → Nat), (n0 = (wnB nm sh9).1) → (t0 = (wnB nm sh9).2) → (n0 ≤ 1) → xG p l e R s m args below meth c Q D A 8 [(mo, .inr (9, [.int (nI cols), .int (nI lc), .int (nI smp), .int (ky), .ref (mr 0), .ref (mr 1), .ref (mr 2), .ref (mr 3), .ref (mr 4), .ref (mr 5), .ref (mr 6), .ref (mr 7), .ref (mr 8), .ref (mr 9), .int (nI mk), .int (nI rs), .ref (mr 10), .ref (mr 11), .ref (mr 12), .ref (mr 13), .ref (mr 14), .ref (mr 15), .ref (mr 16), .ref (mr 17), .ref (mr 18), .ref (mr 19), .ref (mr 20), .int (nI nse), .int (nI npa), .int (nI nbo), .ref (mr 21), .int (nI tn), .ref (mr 22), .int (nI ik), .int (j0), .int (j1), .ref (mr 23), .int (j2), .ref (mr 24), .ref (mr 25), .int (j3), .ref (mr 26), .int (nI n0), .ref (mr 27), .ref (mr 28), .ref (mr 29), .ref (mr 30)])), (mr 26, .inl (cy 1, 24, .inl (fun k => nI (t0 k))))] 0 0 12 [(0, .ref mo), (1, .long (nm)), (3, .int (nI fl))] [] := by
    intro n0 t0 hn0 ht0 hn1
    have hd1 := dgE_lt (v := nm.toInt.natAbs / 1000) (wd := 1) (m := 5) (by show _ < 1000000; omega) (by decide) 17 0 (by decide)
    have hd3 := dgE_lt (v := nm.toInt.natAbs) (wd := 1) (m := 8) (by show _ < 1000000000; omega) (by decide) 17 0 (by decide)
    have hd2 : dgE (nm.toInt.natAbs % 1000) 3 17 0 = 2 := dgE_w (m := 2) rfl (show nm.toInt.natAbs % 1000 < 1000 by omega) 17 0 (by decide) (by decide)
    refine x_lload_n C dX10_showsNumber_12 (q := 13) rfl rfl 1 rfl ?_
    refine x_mabsl C hw0 hw1 hw2 hw3 (by rw [hR]; exact Nat.le_of_ble_eq_true rfl) (by rw [hR]; exact Nat.le_of_ble_eq_true rfl) (by rw [hR]; exact ⟨Nat.le_of_ble_eq_true rfl, Nat.le_of_ble_eq_true rfl⟩) (z := lN nm.toInt.natAbs) (xl_abs (by omega)) dX10_showsNumber_13 (q := 16) rfl ?_
    refine x_lstore C (L' := [(4, .long (lN nm.toInt.natAbs)), (0, .ref mo), (1, .long (nm)), (3, .int (nI fl))]) dX10_showsNumber_16 (q := 18) rfl (by decide) rfl ?_
    refine x_aload_n C dX10_showsNumber_18 (q := 19) rfl rfl 1 rfl ?_
    refine x_iload_n C dX10_showsNumber_19 (q := 20) rfl rfl 3 rfl ?_
    refine x_if_eq C (tgt := 32) dX10_showsNumber_20 (by decide) (q := 23) rfl (a := ((fl : Nat) : Int)) (nI_toInt (by omega)) (fun h1 => ?_) (fun h1 => ?_)
    · first
      | (exfalso; omega)
      |
        refine x_lload C dX10_showsNumber_32 (q := 34) rfl 0 rfl ?_
        refine x_callV C (roW := []) (roR := []) (c_X10_showsDigits_9 l D cy mo mr cols lc smp mk rs nse npa nbo tn ik ky j0 j1 j2 j3 n0 t0 nm.toInt.natAbs (by first | assumption | omega | (simp only []; omega)) (by first | assumption | omega | (simp only []; omega))) (cwV 1 C.2.2.2.2.1 gX10_showsNumber_X10_showsDigits rfl rfl rfl (by decide +kernel) (by rw [hR]; exact ⟨Nat.le_of_ble_eq_true rfl, Nat.le_of_ble_eq_true rfl⟩)) [0, 1] [] rfl (by decide) rfl (by decide) xro_nil (List.mem_of_getElem? (i := 0) rfl) (ci := 9) rfl xT_bl (fun _ _ _ _ _ _ _ => trivial) rfl rfl dX10_showsNumber_34 rfl rfl (Nat.le_of_ble_eq_true rfl) (q := 37) rfl (k' := 0) rfl (n' := 0) rfl (by rw [hR]; exact ⟨Nat.le_of_ble_eq_true rfl, Nat.le_of_ble_eq_true rfl⟩) (fun v2 w2 hp2 => ?_)
        obtain ⟨rfl, rfl⟩ := hp2
        refine x_ws (ws' := [(mo, .inr (9, [.int (nI cols), .int (nI lc), .int (nI smp), .int (ky), .ref (mr 0), .ref (mr 1), .ref (mr 2), .ref (mr 3), .ref (mr 4), .ref (mr 5), .ref (mr 6), .ref (mr 7), .ref (mr 8), .ref (mr 9), .int (nI mk), .int (nI rs), .ref (mr 10), .ref (mr 11), .ref (mr 12), .ref (mr 13), .ref (mr 14), .ref (mr 15), .ref (mr 16), .ref (mr 17), .ref (mr 18), .ref (mr 19), .ref (mr 20), .int (nI nse), .int (nI npa), .int (nI nbo), .ref (mr 21), .int (nI tn), .ref (mr 22), .int (nI ik), .int (j0), .int (j1), .ref (mr 23), .int (j2), .ref (mr 24), .ref (mr 25), .int (j3), .ref (mr 26), .int (nI (n0 + (dgE nm.toInt.natAbs 1 17 0 + 1))), .ref (mr 27), .ref (mr 28), .ref (mr 29), .ref (mr 30)])), (mr 26, .inl (cy 1, 24, .inl (fun k => nI ((dgF nm.toInt.natAbs (dgE nm.toInt.natAbs 1 17 0) t0 n0 (dgE nm.toInt.natAbs 1 17 0 + 1)) k))))]) rfl ?_
        refine x_iload_n C dX10_showsNumber_37 (q := 38) rfl rfl 3 rfl ?_
        refine x_if_eq C (tgt := 87) dX10_showsNumber_38 (by decide) (q := 41) rfl (a := ((fl : Nat) : Int)) (nI_toInt (by omega)) (fun h3 => ?_) (fun h3 => ?_)
        · first
          | (exfalso; omega)
          |
            refine x_vret C hA hQ hr dX10_showsNumber_87 (Nat.le_of_ble_eq_true rfl) ?_
            refine ⟨rfl, ?_⟩
            unfold wnP
            repeat (first | rw [if_pos (by omega)] | rw [if_neg (by omega)])
            rw [hn0, ht0]
            rfl
        · first
          | (exfalso; omega)
          |
            have cut52 : ∀ (fuel : Nat) (j : Nat) (u : Nat) (nq : Nat) (sq : Nat → Nat), (j ≤ 3) → ((j ≤ 2 ∧ u = p10 (2 - j)) ∨ (j = 2 + 1 ∧ u = 0)) → (u ≤ 100) → (nq = n0 + (dgE (nm.toInt.natAbs / 1000) 1 17 0 + 1) + 1 + j) → (sq = dgF nm.toInt.natAbs 2 (va_up (dgF (nm.toInt.natAbs / 1000) (dgE (nm.toInt.natAbs / 1000) 1 17 0) t0 n0 (dgE (nm.toInt.natAbs / 1000) 1 17 0 + 1)) (n0 + (dgE (nm.toInt.natAbs / 1000) 1 17 0 + 1)) 46) (n0 + (dgE (nm.toInt.natAbs / 1000) 1 17 0 + 1) + 1) j) → 3 - j < fuel → xG p l e R s m args below meth c Q D A 8 [(mo, .inr (9, [.int (nI cols), .int (nI lc), .int (nI smp), .int (ky), .ref (mr 0), .ref (mr 1), .ref (mr 2), .ref (mr 3), .ref (mr 4), .ref (mr 5), .ref (mr 6), .ref (mr 7), .ref (mr 8), .ref (mr 9), .int (nI mk), .int (nI rs), .ref (mr 10), .ref (mr 11), .ref (mr 12), .ref (mr 13), .ref (mr 14), .ref (mr 15), .ref (mr 16), .ref (mr 17), .ref (mr 18), .ref (mr 19), .ref (mr 20), .int (nI nse), .int (nI npa), .int (nI nbo), .ref (mr 21), .int (nI tn), .ref (mr 22), .int (nI ik), .int (j0), .int (j1), .ref (mr 23), .int (j2), .ref (mr 24), .ref (mr 25), .int (j3), .ref (mr 26), .int (nI nq), .ref (mr 27), .ref (mr 28), .ref (mr 29), .ref (mr 30)])), (mr 26, .inl (cy 1, 24, .inl (fun k => nI (sq k))))] 0 0 52 [(0, .ref mo), (1, .long (nm)), (3, .int (nI fl)), (4, .long (lN nm.toInt.natAbs)), (6, .long (lN u))] [] := by
              intro fuel
              induction fuel with
              | zero =>
                intro j u nq sq hj hu hu9 hnq hsq hmu
                exact absurd hmu (Nat.not_lt_zero _)
              | succ fuel ih =>
                intro j u nq sq hj hu hu9 hnq hsq hmu
                have hpos := p10_pos (2 - j)
                have hdv := Nat.div_le_self (nm.toInt.natAbs) u
                have ih52 := ih
                clear ih
                refine x_lload C dX10_showsNumber_52 (q := 54) rfl 4 rfl ?_
                refine x_lconst C dX10_showsNumber_54 (q := 55) rfl (v := lN 0) rfl ?_
                refine x_lcmp_le C (tgt := 87) dX10_showsNumber_55 dX10_showsNumber_56 (by decide) (q := 59) rfl (a := ((u : Nat) : Int)) (b := 0) (pk_lT (by omega)) rfl (fun h4 => ?_) (fun h4 => ?_)
                · first
                  | (exfalso; omega)
                  |
                    refine x_vret C hA hQ hr dX10_showsNumber_87 (Nat.le_of_ble_eq_true rfl) ?_
                    have e9 : j = 3 := by omega
                    refine ⟨rfl, ?_⟩
                    unfold wnP
                    repeat (first | rw [if_pos (by omega)] | rw [if_neg (by omega)])
                    rw [hnq, hsq, e9, dgF_1000]
                    simp only [dgP, adP, hd2]
                    rw [hn0, ht0]
                · first
                  | (exfalso; omega)
                  |
                    refine x_aload_n C dX10_showsNumber_59 (q := 60) rfl rfl 0 rfl ?_
                    refine x_bipush C dX10_showsNumber_60 (q := 62) rfl (v := nI 48) (by decide) ?_
                    refine x_lload C dX10_showsNumber_62 (q := 64) rfl 3 rfl ?_
                    refine x_lload C dX10_showsNumber_64 (q := 66) rfl 4 rfl ?_
                    refine x_ldiv C dX10_showsNumber_66 (q := 67) rfl (xl_ne0 (b := ((u : Nat) : Int)) (pk_lT (by omega)) (by omega)) (z := lN (nm.toInt.natAbs / u)) (pk_lDiv (by omega) (by omega) (by omega)) ?_
                    refine x_ldc2 C (v := lN 10) hw4 dX10_showsNumber_67 (q := 70) rfl ?_
                    refine x_lrem C dX10_showsNumber_70 (q := 71) rfl (xl_ne0 (b := 10) rfl (by omega)) (z := lN ((nm.toInt.natAbs / u) % 10)) (pk_lRem (by omega) (by omega) (by omega)) ?_
                    refine x_l2i C dX10_showsNumber_71 (q := 72) rfl (v := nI ((nm.toInt.natAbs / u) % 10)) (lN_i ((nm.toInt.natAbs / u) % 10)) ?_
                    refine x_iadd C dX10_showsNumber_72 (q := 73) rfl (z := nI (48 + ((nm.toInt.natAbs / u) % 10))) (nI_add 48 ((nm.toInt.natAbs / u) % 10)) ?_
                    refine x_callV C (roW := []) (roR := []) (c_X10_shows l D cy mo mr cols lc smp mk rs nse npa nbo tn ik ky j0 j1 j2 j3 nq sq (48 + ((nm.toInt.natAbs / u) % 10)) (by first | assumption | omega | (simp only []; omega))) (cwV 1 C.2.2.2.2.1 gX10_showsNumber_X10_shows rfl rfl rfl (by decide +kernel) (by rw [hR]; exact ⟨Nat.le_of_ble_eq_true rfl, Nat.le_of_ble_eq_true rfl⟩)) [0, 1] [] rfl (by decide) rfl (by decide) xro_nil (List.mem_of_getElem? (i := 0) rfl) (ci := 9) rfl xT_bl (fun _ _ _ _ _ _ _ => trivial) rfl rfl dX10_showsNumber_73 rfl rfl (Nat.le_of_ble_eq_true rfl) (q := 76) rfl (k' := 0) rfl (n' := 0) rfl (by rw [hR]; exact ⟨Nat.le_of_ble_eq_true rfl, Nat.le_of_ble_eq_true rfl⟩) (fun v5 w5 hp5 => ?_)
                    obtain ⟨rfl, rfl⟩ := hp5
                    refine x_ws (ws' := [(mo, .inr (9, [.int (nI cols), .int (nI lc), .int (nI smp), .int (ky), .ref (mr 0), .ref (mr 1), .ref (mr 2), .ref (mr 3), .ref (mr 4), .ref (mr 5), .ref (mr 6), .ref (mr 7), .ref (mr 8), .ref (mr 9), .int (nI mk), .int (nI rs), .ref (mr 10), .ref (mr 11), .ref (mr 12), .ref (mr 13), .ref (mr 14), .ref (mr 15), .ref (mr 16), .ref (mr 17), .ref (mr 18), .ref (mr 19), .ref (mr 20), .int (nI nse), .int (nI npa), .int (nI nbo), .ref (mr 21), .int (nI tn), .ref (mr 22), .int (nI ik), .int (j0), .int (j1), .ref (mr 23), .int (j2), .ref (mr 24), .ref (mr 25), .int (j3), .ref (mr 26), .int (nI (nq + 1)), .ref (mr 27), .ref (mr 28), .ref (mr 29), .ref (mr 30)])), (mr 26, .inl (cy 1, 24, .inl (fun k => nI ((va_up sq nq (48 + ((nm.toInt.natAbs / u) % 10))) k))))]) rfl ?_
                    refine x_lload C dX10_showsNumber_76 (q := 78) rfl 4 rfl ?_
                    refine x_ldc2 C (v := lN 10) hw4 dX10_showsNumber_78 (q := 81) rfl ?_
                    refine x_ldiv C dX10_showsNumber_81 (q := 82) rfl (xl_ne0 (b := 10) rfl (by omega)) (z := lN (u / 10)) (pk_lDiv (by omega) (by omega) (by omega)) ?_
                    refine x_lstore C (L' := [(6, .long (lN (u / 10))), (0, .ref mo), (1, .long (nm)), (3, .int (nI fl)), (4, .long (lN nm.toInt.natAbs))]) dX10_showsNumber_82 (q := 84) rfl (by decide) rfl ?_
                    refine x_goto C (tgt := 52) dX10_showsNumber_84 (by decide) ?_
                    refine x_L (L' := [(0, .ref mo), (1, .long (nm)), (3, .int (nI fl)), (4, .long (lN nm.toInt.natAbs)), (6, .long (lN (u / 10)))]) [1, 2, 3, 4, 0] rfl ?_
                    exact ih52 (j + 1) (u / 10) (nq + 1) (va_up sq nq (48 + ((nm.toInt.natAbs / u) % 10))) (by first | omega | assumption) (by exact p10_dn hu (by omega)) (by first | omega | assumption) (by first | omega | assumption) (by rw [hsq, hnq, p10_u hu (by omega)]; rfl) (by omega)
            refine x_aload_n C dX10_showsNumber_41 (q := 42) rfl rfl 1 rfl ?_
            refine x_bipush C dX10_showsNumber_42 (q := 44) rfl (v := nI 46) (by decide) ?_
            refine x_callV C (roW := []) (roR := []) (c_X10_shows l D cy mo mr cols lc smp mk rs nse npa nbo tn ik ky j0 j1 j2 j3 (n0 + (dgE nm.toInt.natAbs 1 17 0 + 1)) (dgF nm.toInt.natAbs (dgE nm.toInt.natAbs 1 17 0) t0 n0 (dgE nm.toInt.natAbs 1 17 0 + 1)) 46 (by first | assumption | omega | (simp only []; omega))) (cwV 1 C.2.2.2.2.1 gX10_showsNumber_X10_shows rfl rfl rfl (by decide +kernel) (by rw [hR]; exact ⟨Nat.le_of_ble_eq_true rfl, Nat.le_of_ble_eq_true rfl⟩)) [0, 1] [] rfl (by decide) rfl (by decide) xro_nil (List.mem_of_getElem? (i := 0) rfl) (ci := 9) rfl xT_bl (fun _ _ _ _ _ _ _ => trivial) rfl rfl dX10_showsNumber_44 rfl rfl (Nat.le_of_ble_eq_true rfl) (q := 47) rfl (k' := 0) rfl (n' := 0) rfl (by rw [hR]; exact ⟨Nat.le_of_ble_eq_true rfl, Nat.le_of_ble_eq_true rfl⟩) (fun v6 w6 hp6 => ?_)
            obtain ⟨rfl, rfl⟩ := hp6
            refine x_ws (ws' := [(mo, .inr (9, [.int (nI cols), .int (nI lc), .int (nI smp), .int (ky), .ref (mr 0), .ref (mr 1), .ref (mr 2), .ref (mr 3), .ref (mr 4), .ref (mr 5), .ref (mr 6), .ref (mr 7), .ref (mr 8), .ref (mr 9), .int (nI mk), .int (nI rs), .ref (mr 10), .ref (mr 11), .ref (mr 12), .ref (mr 13), .ref (mr 14), .ref (mr 15), .ref (mr 16), .ref (mr 17), .ref (mr 18), .ref (mr 19), .ref (mr 20), .int (nI nse), .int (nI npa), .int (nI nbo), .ref (mr 21), .int (nI tn), .ref (mr 22), .int (nI ik), .int (j0), .int (j1), .ref (mr 23), .int (j2), .ref (mr 24), .ref (mr 25), .int (j3), .ref (mr 26), .int (nI ((n0 + (dgE nm.toInt.natAbs 1 17 0 + 1)) + 1)), .ref (mr 27), .ref (mr 28), .ref (mr 29), .ref (mr 30)])), (mr 26, .inl (cy 1, 24, .inl (fun k => nI ((va_up (dgF nm.toInt.natAbs (dgE nm.toInt.natAbs 1 17 0) t0 n0 (dgE nm.toInt.natAbs 1 17 0 + 1)) (n0 + (dgE nm.toInt.natAbs 1 17 0 + 1)) 46) k))))]) rfl ?_
            refine x_ldc2 C (v := lN 100) hw5 dX10_showsNumber_47 (q := 50) rfl ?_
            refine x_lstore C (L' := [(6, .long (lN 100)), (4, .long (lN nm.toInt.natAbs)), (0, .ref mo), (1, .long (nm)), (3, .int (nI fl))]) dX10_showsNumber_50 (q := 52) rfl (by decide) rfl ?_
            refine x_L (L' := [(0, .ref mo), (1, .long (nm)), (3, .int (nI fl)), (4, .long (lN nm.toInt.natAbs)), (6, .long (lN 100))]) [2, 3, 4, 1, 0] rfl ?_
            exact cut52 (3 - 0 + 1) 0 100 ((n0 + (dgE nm.toInt.natAbs 1 17 0 + 1)) + 1) (va_up (dgF nm.toInt.natAbs (dgE nm.toInt.natAbs 1 17 0) t0 n0 (dgE nm.toInt.natAbs 1 17 0 + 1)) (n0 + (dgE nm.toInt.natAbs 1 17 0 + 1)) 46) (by first | omega | assumption) (by exact Or.inl ⟨by decide, rfl⟩) (by first | omega | assumption) (by first | omega | assumption) (by rfl) (by omega)
    · first
      | (exfalso; omega)
      |
        refine x_lload C dX10_showsNumber_23 (q := 25) rfl 0 rfl ?_
        refine x_ldc2 C (v := lN 1000) hw6 dX10_showsNumber_25 (q := 28) rfl ?_
        refine x_ldiv C dX10_showsNumber_28 (q := 29) rfl (xl_ne0 (b := 1000) rfl (by omega)) (z := lN (nm.toInt.natAbs / 1000)) (pk_lDiv (by omega) (by omega) (by omega)) ?_
        refine x_goto C (tgt := 34) dX10_showsNumber_29 (by decide) ?_
        refine x_callV C (roW := []) (roR := []) (c_X10_showsDigits_9 l D cy mo mr cols lc smp mk rs nse npa nbo tn ik ky j0 j1 j2 j3 n0 t0 (nm.toInt.natAbs / 1000) (by first | assumption | omega | (simp only []; omega)) (by first | assumption | omega | (simp only []; omega))) (cwV 1 C.2.2.2.2.1 gX10_showsNumber_X10_showsDigits rfl rfl rfl (by decide +kernel) (by rw [hR]; exact ⟨Nat.le_of_ble_eq_true rfl, Nat.le_of_ble_eq_true rfl⟩)) [0, 1] [] rfl (by decide) rfl (by decide) xro_nil (List.mem_of_getElem? (i := 0) rfl) (ci := 9) rfl xT_bl (fun _ _ _ _ _ _ _ => trivial) rfl rfl dX10_showsNumber_34 rfl rfl (Nat.le_of_ble_eq_true rfl) (q := 37) rfl (k' := 0) rfl (n' := 0) rfl (by rw [hR]; exact ⟨Nat.le_of_ble_eq_true rfl, Nat.le_of_ble_eq_true rfl⟩) (fun v7 w7 hp7 => ?_)
        obtain ⟨rfl, rfl⟩ := hp7
        refine x_ws (ws' := [(mo, .inr (9, [.int (nI cols), .int (nI lc), .int (nI smp), .int (ky), .ref (mr 0), .ref (mr 1), .ref (mr 2), .ref (mr 3), .ref (mr 4), .ref (mr 5), .ref (mr 6), .ref (mr 7), .ref (mr 8), .ref (mr 9), .int (nI mk), .int (nI rs), .ref (mr 10), .ref (mr 11), .ref (mr 12), .ref (mr 13), .ref (mr 14), .ref (mr 15), .ref (mr 16), .ref (mr 17), .ref (mr 18), .ref (mr 19), .ref (mr 20), .int (nI nse), .int (nI npa), .int (nI nbo), .ref (mr 21), .int (nI tn), .ref (mr 22), .int (nI ik), .int (j0), .int (j1), .ref (mr 23), .int (j2), .ref (mr 24), .ref (mr 25), .int (j3), .ref (mr 26), .int (nI (n0 + (dgE (nm.toInt.natAbs / 1000) 1 17 0 + 1))), .ref (mr 27), .ref (mr 28), .ref (mr 29), .ref (mr 30)])), (mr 26, .inl (cy 1, 24, .inl (fun k => nI ((dgF (nm.toInt.natAbs / 1000) (dgE (nm.toInt.natAbs / 1000) 1 17 0) t0 n0 (dgE (nm.toInt.natAbs / 1000) 1 17 0 + 1)) k))))]) rfl ?_
        refine x_iload_n C dX10_showsNumber_37 (q := 38) rfl rfl 3 rfl ?_
        refine x_if_eq C (tgt := 87) dX10_showsNumber_38 (by decide) (q := 41) rfl (a := ((fl : Nat) : Int)) (nI_toInt (by omega)) (fun h8 => ?_) (fun h8 => ?_)
        · first
          | (exfalso; omega)
          |
            refine x_vret C hA hQ hr dX10_showsNumber_87 (Nat.le_of_ble_eq_true rfl) ?_
            refine ⟨rfl, ?_⟩
            unfold wnP
            repeat (first | rw [if_pos (by omega)] | rw [if_neg (by omega)])
            rw [hn0, ht0]
            rfl
        · first
          | (exfalso; omega)
          |
            have cut52 : ∀ (fuel : Nat) (j : Nat) (u : Nat) (nq : Nat) (sq : Nat → Nat), (j ≤ 3) → ((j ≤ 2 ∧ u = p10 (2 - j)) ∨ (j = 2 + 1 ∧ u = 0)) → (u ≤ 100) → (nq = n0 + (dgE (nm.toInt.natAbs / 1000) 1 17 0 + 1) + 1 + j) → (sq = dgF nm.toInt.natAbs 2 (va_up (dgF (nm.toInt.natAbs / 1000) (dgE (nm.toInt.natAbs / 1000) 1 17 0) t0 n0 (dgE (nm.toInt.natAbs / 1000) 1 17 0 + 1)) (n0 + (dgE (nm.toInt.natAbs / 1000) 1 17 0 + 1)) 46) (n0 + (dgE (nm.toInt.natAbs / 1000) 1 17 0 + 1) + 1) j) → 3 - j < fuel → xG p l e R s m args below meth c Q D A 8 [(mo, .inr (9, [.int (nI cols), .int (nI lc), .int (nI smp), .int (ky), .ref (mr 0), .ref (mr 1), .ref (mr 2), .ref (mr 3), .ref (mr 4), .ref (mr 5), .ref (mr 6), .ref (mr 7), .ref (mr 8), .ref (mr 9), .int (nI mk), .int (nI rs), .ref (mr 10), .ref (mr 11), .ref (mr 12), .ref (mr 13), .ref (mr 14), .ref (mr 15), .ref (mr 16), .ref (mr 17), .ref (mr 18), .ref (mr 19), .ref (mr 20), .int (nI nse), .int (nI npa), .int (nI nbo), .ref (mr 21), .int (nI tn), .ref (mr 22), .int (nI ik), .int (j0), .int (j1), .ref (mr 23), .int (j2), .ref (mr 24), .ref (mr 25), .int (j3), .ref (mr 26), .int (nI nq), .ref (mr 27), .ref (mr 28), .ref (mr 29), .ref (mr 30)])), (mr 26, .inl (cy 1, 24, .inl (fun k => nI (sq k))))] 0 0 52 [(0, .ref mo), (1, .long (nm)), (3, .int (nI fl)), (4, .long (lN nm.toInt.natAbs)), (6, .long (lN u))] [] := by
              intro fuel
              induction fuel with
              | zero =>
                intro j u nq sq hj hu hu9 hnq hsq hmu
                exact absurd hmu (Nat.not_lt_zero _)
              | succ fuel ih =>
                intro j u nq sq hj hu hu9 hnq hsq hmu
                have hpos := p10_pos (2 - j)
                have hdv := Nat.div_le_self (nm.toInt.natAbs) u
                have ih52 := ih
                clear ih
                refine x_lload C dX10_showsNumber_52 (q := 54) rfl 4 rfl ?_
                refine x_lconst C dX10_showsNumber_54 (q := 55) rfl (v := lN 0) rfl ?_
                refine x_lcmp_le C (tgt := 87) dX10_showsNumber_55 dX10_showsNumber_56 (by decide) (q := 59) rfl (a := ((u : Nat) : Int)) (b := 0) (pk_lT (by omega)) rfl (fun h9 => ?_) (fun h9 => ?_)
                · first
                  | (exfalso; omega)
                  |
                    refine x_vret C hA hQ hr dX10_showsNumber_87 (Nat.le_of_ble_eq_true rfl) ?_
                    have e9 : j = 3 := by omega
                    refine ⟨rfl, ?_⟩
                    unfold wnP
                    repeat (first | rw [if_pos (by omega)] | rw [if_neg (by omega)])
                    rw [hnq, hsq, e9, dgF_1000]
                    simp only [dgP, adP, hd2]
                    rw [hn0, ht0]
                · first
                  | (exfalso; omega)
                  |
                    refine x_aload_n C dX10_showsNumber_59 (q := 60) rfl rfl 0 rfl ?_
                    refine x_bipush C dX10_showsNumber_60 (q := 62) rfl (v := nI 48) (by decide) ?_
                    refine x_lload C dX10_showsNumber_62 (q := 64) rfl 3 rfl ?_
                    refine x_lload C dX10_showsNumber_64 (q := 66) rfl 4 rfl ?_
                    refine x_ldiv C dX10_showsNumber_66 (q := 67) rfl (xl_ne0 (b := ((u : Nat) : Int)) (pk_lT (by omega)) (by omega)) (z := lN (nm.toInt.natAbs / u)) (pk_lDiv (by omega) (by omega) (by omega)) ?_
                    refine x_ldc2 C (v := lN 10) hw4 dX10_showsNumber_67 (q := 70) rfl ?_
                    refine x_lrem C dX10_showsNumber_70 (q := 71) rfl (xl_ne0 (b := 10) rfl (by omega)) (z := lN ((nm.toInt.natAbs / u) % 10)) (pk_lRem (by omega) (by omega) (by omega)) ?_
                    refine x_l2i C dX10_showsNumber_71 (q := 72) rfl (v := nI ((nm.toInt.natAbs / u) % 10)) (lN_i ((nm.toInt.natAbs / u) % 10)) ?_
                    refine x_iadd C dX10_showsNumber_72 (q := 73) rfl (z := nI (48 + ((nm.toInt.natAbs / u) % 10))) (nI_add 48 ((nm.toInt.natAbs / u) % 10)) ?_
                    refine x_callV C (roW := []) (roR := []) (c_X10_shows l D cy mo mr cols lc smp mk rs nse npa nbo tn ik ky j0 j1 j2 j3 nq sq (48 + ((nm.toInt.natAbs / u) % 10)) (by first | assumption | omega | (simp only []; omega))) (cwV 1 C.2.2.2.2.1 gX10_showsNumber_X10_shows rfl rfl rfl (by decide +kernel) (by rw [hR]; exact ⟨Nat.le_of_ble_eq_true rfl, Nat.le_of_ble_eq_true rfl⟩)) [0, 1] [] rfl (by decide) rfl (by decide) xro_nil (List.mem_of_getElem? (i := 0) rfl) (ci := 9) rfl xT_bl (fun _ _ _ _ _ _ _ => trivial) rfl rfl dX10_showsNumber_73 rfl rfl (Nat.le_of_ble_eq_true rfl) (q := 76) rfl (k' := 0) rfl (n' := 0) rfl (by rw [hR]; exact ⟨Nat.le_of_ble_eq_true rfl, Nat.le_of_ble_eq_true rfl⟩) (fun v10 w10 hp10 => ?_)
                    obtain ⟨rfl, rfl⟩ := hp10
                    refine x_ws (ws' := [(mo, .inr (9, [.int (nI cols), .int (nI lc), .int (nI smp), .int (ky), .ref (mr 0), .ref (mr 1), .ref (mr 2), .ref (mr 3), .ref (mr 4), .ref (mr 5), .ref (mr 6), .ref (mr 7), .ref (mr 8), .ref (mr 9), .int (nI mk), .int (nI rs), .ref (mr 10), .ref (mr 11), .ref (mr 12), .ref (mr 13), .ref (mr 14), .ref (mr 15), .ref (mr 16), .ref (mr 17), .ref (mr 18), .ref (mr 19), .ref (mr 20), .int (nI nse), .int (nI npa), .int (nI nbo), .ref (mr 21), .int (nI tn), .ref (mr 22), .int (nI ik), .int (j0), .int (j1), .ref (mr 23), .int (j2), .ref (mr 24), .ref (mr 25), .int (j3), .ref (mr 26), .int (nI (nq + 1)), .ref (mr 27), .ref (mr 28), .ref (mr 29), .ref (mr 30)])), (mr 26, .inl (cy 1, 24, .inl (fun k => nI ((va_up sq nq (48 + ((nm.toInt.natAbs / u) % 10))) k))))]) rfl ?_
                    refine x_lload C dX10_showsNumber_76 (q := 78) rfl 4 rfl ?_
                    refine x_ldc2 C (v := lN 10) hw4 dX10_showsNumber_78 (q := 81) rfl ?_
                    refine x_ldiv C dX10_showsNumber_81 (q := 82) rfl (xl_ne0 (b := 10) rfl (by omega)) (z := lN (u / 10)) (pk_lDiv (by omega) (by omega) (by omega)) ?_
                    refine x_lstore C (L' := [(6, .long (lN (u / 10))), (0, .ref mo), (1, .long (nm)), (3, .int (nI fl)), (4, .long (lN nm.toInt.natAbs))]) dX10_showsNumber_82 (q := 84) rfl (by decide) rfl ?_
                    refine x_goto C (tgt := 52) dX10_showsNumber_84 (by decide) ?_
                    refine x_L (L' := [(0, .ref mo), (1, .long (nm)), (3, .int (nI fl)), (4, .long (lN nm.toInt.natAbs)), (6, .long (lN (u / 10)))]) [1, 2, 3, 4, 0] rfl ?_
                    exact ih52 (j + 1) (u / 10) (nq + 1) (va_up sq nq (48 + ((nm.toInt.natAbs / u) % 10))) (by first | omega | assumption) (by exact p10_dn hu (by omega)) (by first | omega | assumption) (by first | omega | assumption) (by rw [hsq, hnq, p10_u hu (by omega)]; rfl) (by omega)
            refine x_aload_n C dX10_showsNumber_41 (q := 42) rfl rfl 1 rfl ?_
            refine x_bipush C dX10_showsNumber_42 (q := 44) rfl (v := nI 46) (by decide) ?_
            refine x_callV C (roW := []) (roR := []) (c_X10_shows l D cy mo mr cols lc smp mk rs nse npa nbo tn ik ky j0 j1 j2 j3 (n0 + (dgE (nm.toInt.natAbs / 1000) 1 17 0 + 1)) (dgF (nm.toInt.natAbs / 1000) (dgE (nm.toInt.natAbs / 1000) 1 17 0) t0 n0 (dgE (nm.toInt.natAbs / 1000) 1 17 0 + 1)) 46 (by first | assumption | omega | (simp only []; omega))) (cwV 1 C.2.2.2.2.1 gX10_showsNumber_X10_shows rfl rfl rfl (by decide +kernel) (by rw [hR]; exact ⟨Nat.le_of_ble_eq_true rfl, Nat.le_of_ble_eq_true rfl⟩)) [0, 1] [] rfl (by decide) rfl (by decide) xro_nil (List.mem_of_getElem? (i := 0) rfl) (ci := 9) rfl xT_bl (fun _ _ _ _ _ _ _ => trivial) rfl rfl dX10_showsNumber_44 rfl rfl (Nat.le_of_ble_eq_true rfl) (q := 47) rfl (k' := 0) rfl (n' := 0) rfl (by rw [hR]; exact ⟨Nat.le_of_ble_eq_true rfl, Nat.le_of_ble_eq_true rfl⟩) (fun v11 w11 hp11 => ?_)
            obtain ⟨rfl, rfl⟩ := hp11
            refine x_ws (ws' := [(mo, .inr (9, [.int (nI cols), .int (nI lc), .int (nI smp), .int (ky), .ref (mr 0), .ref (mr 1), .ref (mr 2), .ref (mr 3), .ref (mr 4), .ref (mr 5), .ref (mr 6), .ref (mr 7), .ref (mr 8), .ref (mr 9), .int (nI mk), .int (nI rs), .ref (mr 10), .ref (mr 11), .ref (mr 12), .ref (mr 13), .ref (mr 14), .ref (mr 15), .ref (mr 16), .ref (mr 17), .ref (mr 18), .ref (mr 19), .ref (mr 20), .int (nI nse), .int (nI npa), .int (nI nbo), .ref (mr 21), .int (nI tn), .ref (mr 22), .int (nI ik), .int (j0), .int (j1), .ref (mr 23), .int (j2), .ref (mr 24), .ref (mr 25), .int (j3), .ref (mr 26), .int (nI ((n0 + (dgE (nm.toInt.natAbs / 1000) 1 17 0 + 1)) + 1)), .ref (mr 27), .ref (mr 28), .ref (mr 29), .ref (mr 30)])), (mr 26, .inl (cy 1, 24, .inl (fun k => nI ((va_up (dgF (nm.toInt.natAbs / 1000) (dgE (nm.toInt.natAbs / 1000) 1 17 0) t0 n0 (dgE (nm.toInt.natAbs / 1000) 1 17 0 + 1)) (n0 + (dgE (nm.toInt.natAbs / 1000) 1 17 0 + 1)) 46) k))))]) rfl ?_
            refine x_ldc2 C (v := lN 100) hw5 dX10_showsNumber_47 (q := 50) rfl ?_
            refine x_lstore C (L' := [(6, .long (lN 100)), (4, .long (lN nm.toInt.natAbs)), (0, .ref mo), (1, .long (nm)), (3, .int (nI fl))]) dX10_showsNumber_50 (q := 52) rfl (by decide) rfl ?_
            refine x_L (L' := [(0, .ref mo), (1, .long (nm)), (3, .int (nI fl)), (4, .long (lN nm.toInt.natAbs)), (6, .long (lN 100))]) [2, 3, 4, 1, 0] rfl ?_
            exact cut52 (3 - 0 + 1) 0 100 ((n0 + (dgE (nm.toInt.natAbs / 1000) 1 17 0 + 1)) + 1) (va_up (dgF (nm.toInt.natAbs / 1000) (dgE (nm.toInt.natAbs / 1000) 1 17 0) t0 n0 (dgE (nm.toInt.natAbs / 1000) 1 17 0 + 1)) (n0 + (dgE (nm.toInt.natAbs / 1000) 1 17 0 + 1)) 46) (by first | omega | assumption) (by exact Or.inl ⟨by decide, rfl⟩) (by first | omega | assumption) (by first | omega | assumption) (by rfl) (by omega)
  refine x_lload_n C dX10_showsNumber_0 (q := 1) rfl rfl 1 rfl ?_
  refine x_lconst C dX10_showsNumber_1 (q := 2) rfl (v := lN 0) rfl ?_
  refine x_lcmp_ge C (tgt := 12) dX10_showsNumber_2 dX10_showsNumber_3 (by decide) (q := 6) rfl (a := nm.toInt) (b := 0) rfl rfl (fun h12 => ?_) (fun h12 => ?_)
  · first
    | (exfalso; omega)
    |
      exact cut12 0 sh9 (by first | rw [wnB_n (by omega)] | rw [wnB_p (by omega)]) (by first | rw [wnB_n (by omega)] | rw [wnB_p (by omega)]) (by first | omega | assumption)
  · first
    | (exfalso; omega)
    |
      refine x_aload_n C dX10_showsNumber_6 (q := 7) rfl rfl 0 rfl ?_
      refine x_bipush C dX10_showsNumber_7 (q := 9) rfl (v := nI 45) (by decide) ?_
      refine x_callV C (roW := []) (roR := []) (c_X10_shows l D cy mo mr cols lc smp mk rs nse npa nbo tn ik ky j0 j1 j2 j3 0 sh9 45 (by first | assumption | omega | (simp only []; omega))) (cwV 1 C.2.2.2.2.1 gX10_showsNumber_X10_shows rfl rfl rfl (by decide +kernel) (by rw [hR]; exact ⟨Nat.le_of_ble_eq_true rfl, Nat.le_of_ble_eq_true rfl⟩)) [0, 1] [] rfl (by decide) rfl (by decide) xro_nil (List.mem_of_getElem? (i := 0) rfl) (ci := 9) rfl xT_bl (fun _ _ _ _ _ _ _ => trivial) rfl rfl dX10_showsNumber_9 rfl rfl (Nat.le_of_ble_eq_true rfl) (q := 12) rfl (k' := 0) rfl (n' := 0) rfl (by rw [hR]; exact ⟨Nat.le_of_ble_eq_true rfl, Nat.le_of_ble_eq_true rfl⟩) (fun v13 w13 hp13 => ?_)
      obtain ⟨rfl, rfl⟩ := hp13
      refine x_ws (ws' := [(mo, .inr (9, [.int (nI cols), .int (nI lc), .int (nI smp), .int (ky), .ref (mr 0), .ref (mr 1), .ref (mr 2), .ref (mr 3), .ref (mr 4), .ref (mr 5), .ref (mr 6), .ref (mr 7), .ref (mr 8), .ref (mr 9), .int (nI mk), .int (nI rs), .ref (mr 10), .ref (mr 11), .ref (mr 12), .ref (mr 13), .ref (mr 14), .ref (mr 15), .ref (mr 16), .ref (mr 17), .ref (mr 18), .ref (mr 19), .ref (mr 20), .int (nI nse), .int (nI npa), .int (nI nbo), .ref (mr 21), .int (nI tn), .ref (mr 22), .int (nI ik), .int (j0), .int (j1), .ref (mr 23), .int (j2), .ref (mr 24), .ref (mr 25), .int (j3), .ref (mr 26), .int (nI 1), .ref (mr 27), .ref (mr 28), .ref (mr 29), .ref (mr 30)])), (mr 26, .inl (cy 1, 24, .inl (fun k => nI ((va_up sh9 0 45) k))))]) rfl ?_
      exact cut12 1 (va_up sh9 0 45) (by first | rw [wnB_n (by omega)] | rw [wnB_p (by omega)]) (by first | rw [wnB_n (by omega)] | rw [wnB_p (by omega)]) (by first | omega | assumption)


theorem va_up_b {tx : Nat → Nat} {n v : Nat} (h : ∀ k, tx k < 1000) (hv : v < 1000) : ∀ k, va_up tx n v k < 1000 := fun k => by
  unfold va_up
  split
  · exact hv
  · exact h k
theorem cpF_b {b sh : Nat → Nat} (h : ∀ k, sh k < 1000) (hb : ∀ k, b k < 128) (n : Nat) : ∀ j k, cpF b sh n j k < 1000
  | 0, k => h k
  | j + 1, k => va_up_b (cpF_b h hb n j) (by have := hb j; omega) k
theorem dgF_b {v e : Nat} {tx : Nat → Nat} {n : Nat} (h : ∀ k, tx k < 1000) : ∀ j k, dgF v e tx n j k < 1000
  | 0, k => h k
  | j + 1, k => va_up_b (dgF_b h j) (by omega) k
theorem dtP_b {b sh : Nat → Nat} (hpt : patD b ∨ patY b) (h : ∀ k, sh k < 1000) : (dgP (dyS b) 2 (adP 45 (dgP (moS b) 2 (adP 45 (dgP (yrS b) 4 (0, sh)))))).1 ≤ 12 ∧ ∀ k, (dgP (dyS b) 2 (adP 45 (dgP (moS b) 2 (adP 45 (dgP (yrS b) 4 (0, sh)))))).2 k < 1000 := by
  have e1 : dgE (yrS b) 4 17 0 = 3 := dgE_w (m := 3) rfl (show yrS b < 10000 from yrS_lt hpt) 17 0 (by decide) (by decide)
  have e2 : dgE (moS b) 2 17 0 = 1 := dgE_w (m := 1) rfl (show moS b < 100 from moS_lt hpt) 17 0 (by decide) (by decide)
  have e3 : dgE (dyS b) 2 17 0 = 1 := dgE_w (m := 1) rfl (show dyS b < 100 from dyS_lt hpt) 17 0 (by decide) (by decide)
  refine ⟨?_, ?_⟩
  · simp only [dgP, adP, e1, e2, e3]
    decide
  · exact dgF_b (va_up_b (dgF_b (va_up_b (dgF_b h _) (by decide)) _) (by decide)) _
theorem wnP_b {nm : Int64} {fl : Nat} {sh : Nat → Nat} (hnm : nm.toInt.natAbs < 1000000000) (h : ∀ k, sh k < 1000) : (wnP nm fl sh).1 ≤ 12 ∧ ∀ k, (wnP nm fl sh).2 k < 1000 := by
  have hd1 := dgE_lt (v := nm.toInt.natAbs / 1000) (wd := 1) (m := 5) (by show _ < 1000000; omega) (by decide) 17 0 (by decide)
  have hd3 := dgE_lt (v := nm.toInt.natAbs) (wd := 1) (m := 8) (by show _ < 1000000000; omega) (by decide) 17 0 (by decide)
  have hd2 : dgE (nm.toInt.natAbs % 1000) 3 17 0 = 2 := dgE_w (m := 2) rfl (show nm.toInt.natAbs % 1000 < 1000 by omega) 17 0 (by decide) (by decide)
  have hb : (wnB nm sh).1 ≤ 1 ∧ ∀ k, (wnB nm sh).2 k < 1000 := by
    unfold wnB
    split
    · exact ⟨Nat.le_refl 1, va_up_b h (by decide)⟩
    · exact ⟨Nat.zero_le 1, h⟩
  have hb1 := hb.1
  unfold wnP
  split
  · refine ⟨?_, dgF_b hb.2 _⟩
    show (wnB nm sh).1 + (dgE nm.toInt.natAbs 1 17 0 + 1) ≤ 12
    omega
  · refine ⟨?_, dgF_b (va_up_b (dgF_b hb.2 _) (by decide)) _⟩
    show (wnB nm sh).1 + (dgE (nm.toInt.natAbs / 1000) 1 17 0 + 1) + 1 + (dgE (nm.toInt.natAbs % 1000) 3 17 0 + 1) ≤ 12
    omega

set_option maxHeartbeats 600000 in
set_option maxRecDepth 100000 in
/-- shown -/
theorem c_X10_shown (l : Launch) (D : va_G) (cy : Nat → ClassId) (mo : Nat) (mr : Nat → Nat) (cols : Nat) (lc : Nat) (smp : Nat) (nse : Nat) (npa : Nat) (nbo : Nat) (tn : Nat) (ik : Nat) (ky : Int32) (j0 : Int32) (j1 : Int32) (j2 : Int32) (j3 : Int32) (j4 : Int32) (P : PS) (fn : Nat → Nat) (fo : Nat → Nat) (ex : Nat → Int64) (wo : Nat → Int64) (st9 : Nat → Nat) (lr9 : Nat → Nat) (rl9 : Nat → Int32) (fa9 : Nat → Int32) (ca9 : Nat → Int32) (dc9 : Nat → Int32) (ld : LD) (tl9 : Nat → Nat) (by9 : Nat → Nat) (lz : Nat → Nat) (sh9 : Nat → Nat) (lt : Nat → Nat → Nat) (ln : Nat → Nat) (x : Int32) (y : Int32) (z : Int32) (hml : MdL ld lc fn fo ex wo) (hfo4 : ∀ q, fo q ≤ 4) (hfn : ∀ q, fn q ≤ 61) (hlc : lc ≤ 24) (hF : InvF ld cols lc P) (hmp : MdP cols P st9 lr9 rl9 fa9 ca9 dc9) (hcols : cols ≤ 5) (hlr9 : ∀ k, lr9 k < 24) (hst9 : ∀ k, st9 k ≤ 4) (hshk : ∀ r c, r < pRs P → c < cols → shK ld (pLr P r) c (pSt P c)) (hby : ∀ k, by9 k < 128) (hmb : MdB ld lc by9 lz lt ln) (hlzb : ∀ q, lz q ≤ 60) (hshb : ∀ k, sh9 k < 1000) : xMet l D cy xT yX10_shown wsX10_shown ({ frames := 16, cells := 0, slots := 0, locals := 2200 } : Room) [.ref mo, .int (x), .int (y), .int (z)] [(mo, .inr (9, [.int (nI cols), .int (nI lc), .int (nI smp), .int (ky), .ref (mr 0), .ref (mr 1), .ref (mr 2), .ref (mr 3), .ref (mr 4), .ref (mr 5), .ref (mr 6), .ref (mr 7), .ref (mr 8), .ref (mr 9), .int (nI (pMk P)), .int (nI (pRs P)), .ref (mr 10), .ref (mr 11), .ref (mr 12), .ref (mr 13), .ref (mr 14), .ref (mr 15), .ref (mr 16), .ref (mr 17), .ref (mr 18), .ref (mr 19), .ref (mr 20), .int (nI nse), .int (nI npa), .int (nI nbo), .ref (mr 21), .int (nI tn), .ref (mr 22), .int (nI ik), .int (j0), .int (j1), .ref (mr 23), .int (j2), .ref (mr 24), .ref (mr 25), .int (j3), .ref (mr 26), .int (j4), .ref (mr 27), .ref (mr 28), .ref (mr 29), .ref (mr 30)])), (mr 10, .inl (cy 1, 24, .inl (fun k => nI (lr9 k)))), (mr 3, .inl (cy 1, 5, .inl (fun k => nI (st9 k)))), (mr 6, .inl (cy 1, 24, .inl (fun k => nI (fn k)))), (mr 7, .inl (cy 1, 120, .inl (fun k => nI (fo k)))), (mr 8, .inl (cy 2, 120, .inr (.inl ex))), (mr 9, .inl (cy 2, 120, .inr (.inl wo))), (mr 4, .inl (cy 1, 1440, .inl (fun k => nI (by9 k)))), (mr 5, .inl (cy 1, 24, .inl (fun k => nI (lz k)))), (mr 26, .inl (cy 1, 24, .inl (fun k => nI (sh9 k))))] [] (fun (v9 : Option Value) (w9 : va_W) => (∃ sh2 : Nat → Nat, ∃ j4' : Int32, v9 = some (.int (shoA ld cols tl9 (min smp lc) P sh9 x.toInt y.toInt z.toInt)) ∧ w9 = [(mo, .inr (9, [.int (nI cols), .int (nI lc), .int (nI smp), .int (ky), .ref (mr 0), .ref (mr 1), .ref (mr 2), .ref (mr 3), .ref (mr 4), .ref (mr 5), .ref (mr 6), .ref (mr 7), .ref (mr 8), .ref (mr 9), .int (nI (pMk P)), .int (nI (pRs P)), .ref (mr 10), .ref (mr 11), .ref (mr 12), .ref (mr 13), .ref (mr 14), .ref (mr 15), .ref (mr 16), .ref (mr 17), .ref (mr 18), .ref (mr 19), .ref (mr 20), .int (nI nse), .int (nI npa), .int (nI nbo), .ref (mr 21), .int (nI tn), .ref (mr 22), .int (nI ik), .int (j0), .int (j1), .ref (mr 23), .int (j2), .ref (mr 24), .ref (mr 25), .int (j3), .ref (mr 26), .int (j4'), .ref (mr 27), .ref (mr 28), .ref (mr 29), .ref (mr 30)])), (mr 10, .inl (cy 1, 24, .inl (fun k => nI (lr9 k)))), (mr 3, .inl (cy 1, 5, .inl (fun k => nI (st9 k)))), (mr 6, .inl (cy 1, 24, .inl (fun k => nI (fn k)))), (mr 7, .inl (cy 1, 120, .inl (fun k => nI (fo k)))), (mr 8, .inl (cy 2, 120, .inr (.inl ex))), (mr 9, .inl (cy 2, 120, .inr (.inl wo))), (mr 4, .inl (cy 1, 1440, .inl (fun k => nI (by9 k)))), (mr 5, .inl (cy 1, 24, .inl (fun k => nI (lz k)))), (mr 26, .inl (cy 1, 24, .inl (fun k => nI (sh2 k))))] ∧ (∀ k, sh2 k < 1000))) := by
  refine xMet_of (cc := cX10_shown) (maxL := 6) (ret := (some .int)) (by decide) rfl (Nat.le_of_ble_eq_true rfl) (fun p e s m args below meth c A R Q hA hR hQ C hr hnm hro hX => ?_)
  have hw0 : ∀ w ∈ u_ws RX10 TX10 47, w ∈ wsX10_shown := by decide +kernel
  have hw1 : Cond.fieldLink RX10 325 (TX10 42).1 (TX10 42).2.1 (TX10 42).2.2.1 ∈ wsX10_shown := by decide +kernel
  have hw2 : Cond.fieldLink RX10 98 (TX10 41).1 (TX10 41).2.1 (TX10 41).2.2.1 ∈ wsX10_shown := by decide +kernel
  have hw3 : Cond.fieldLink RX10 50 (TX10 16).1 (TX10 16).2.1 (TX10 16).2.2.1 ∈ wsX10_shown := by decide +kernel
  have hw4 : Cond.fieldLink RX10 28 (TX10 7).1 (TX10 7).2.1 (TX10 7).2.2.1 ∈ wsX10_shown := by decide +kernel
  refine x_L (L' := [(0, .ref mo), (1, .int (x)), (2, .int (y)), (3, .int (z))]) [0, 1, 2, 3] rfl ?_
  have hIP := hF.1
  have hP1 := hIP.1
  have hP2 := hIP.2.1
  refine x_aload_n C dX10_shown_0 (q := 1) rfl rfl 0 rfl ?_
  refine x_iconst C dX10_shown_1 (q := 2) rfl (v := nI 0) (by decide) ?_
  refine x_put C (ci := 9) (ty := .int) (ws' := [(mo, .inr (9, [.int (nI cols), .int (nI lc), .int (nI smp), .int (ky), .ref (mr 0), .ref (mr 1), .ref (mr 2), .ref (mr 3), .ref (mr 4), .ref (mr 5), .ref (mr 6), .ref (mr 7), .ref (mr 8), .ref (mr 9), .int (nI (pMk P)), .int (nI (pRs P)), .ref (mr 10), .ref (mr 11), .ref (mr 12), .ref (mr 13), .ref (mr 14), .ref (mr 15), .ref (mr 16), .ref (mr 17), .ref (mr 18), .ref (mr 19), .ref (mr 20), .int (nI nse), .int (nI npa), .int (nI nbo), .ref (mr 21), .int (nI tn), .ref (mr 22), .int (nI ik), .int (j0), .int (j1), .ref (mr 23), .int (j2), .ref (mr 24), .ref (mr 25), .int (j3), .ref (mr 26), .int (nI 0), .ref (mr 27), .ref (mr 28), .ref (mr 29), .ref (mr 30)])), (mr 10, .inl (cy 1, 24, .inl (fun k => nI (lr9 k)))), (mr 3, .inl (cy 1, 5, .inl (fun k => nI (st9 k)))), (mr 6, .inl (cy 1, 24, .inl (fun k => nI (fn k)))), (mr 7, .inl (cy 1, 120, .inl (fun k => nI (fo k)))), (mr 8, .inl (cy 2, 120, .inr (.inl ex))), (mr 9, .inl (cy 2, 120, .inr (.inl wo))), (mr 4, .inl (cy 1, 1440, .inl (fun k => nI (by9 k)))), (mr 5, .inl (cy 1, 24, .inl (fun k => nI (lz k)))), (mr 26, .inl (cy 1, 24, .inl (fun k => nI (sh9 k))))]) hw0 tyX10 tyX10_ok nmX10 0 rfl rfl 42 (by decide) hw1 rfl (by decide +kernel) rfl rfl (Nat.le_of_ble_eq_true rfl) rfl dX10_shown_2 (q := 5) rfl ?_
  have cut105 : ∀ (nq : Nat) (sq : Nat → Nat), (nq ≤ 12) → (∀ k, sq k < 1000) → (hasV ld cols P x.toInt y.toInt → nq = (shS ld (pSt P y.toInt.toNat) (pLr P x.toInt.toNat) y.toInt.toNat sh9).1 ∧ sq = (shS ld (pSt P y.toInt.toNat) (pLr P x.toInt.toNat) y.toInt.toNat sh9).2) → (¬ hasV ld cols P x.toInt y.toInt → nq = 0) → xG p l e R s m args below meth c Q D A 6 [(mo, .inr (9, [.int (nI cols), .int (nI lc), .int (nI smp), .int (ky), .ref (mr 0), .ref (mr 1), .ref (mr 2), .ref (mr 3), .ref (mr 4), .ref (mr 5), .ref (mr 6), .ref (mr 7), .ref (mr 8), .ref (mr 9), .int (nI (pMk P)), .int (nI (pRs P)), .ref (mr 10), .ref (mr 11), .ref (mr 12), .ref (mr 13), .ref (mr 14), .ref (mr 15), .ref (mr 16), .ref (mr 17), .ref (mr 18), .ref (mr 19), .ref (mr 20), .int (nI nse), .int (nI npa), .int (nI nbo), .ref (mr 21), .int (nI tn), .ref (mr 22), .int (nI ik), .int (j0), .int (j1), .ref (mr 23), .int (j2), .ref (mr 24), .ref (mr 25), .int (j3), .ref (mr 26), .int (nI nq), .ref (mr 27), .ref (mr 28), .ref (mr 29), .ref (mr 30)])), (mr 10, .inl (cy 1, 24, .inl (fun k => nI (lr9 k)))), (mr 3, .inl (cy 1, 5, .inl (fun k => nI (st9 k)))), (mr 6, .inl (cy 1, 24, .inl (fun k => nI (fn k)))), (mr 7, .inl (cy 1, 120, .inl (fun k => nI (fo k)))), (mr 8, .inl (cy 2, 120, .inr (.inl ex))), (mr 9, .inl (cy 2, 120, .inr (.inl wo))), (mr 4, .inl (cy 1, 1440, .inl (fun k => nI (by9 k)))), (mr 5, .inl (cy 1, 24, .inl (fun k => nI (lz k)))), (mr 26, .inl (cy 1, 24, .inl (fun k => nI (sq k))))] 0 0 105 [(0, .ref mo), (1, .int (x)), (2, .int (y)), (3, .int (z))] [] := by
    intro nq sq hnq hsqb hyes hno
    refine x_iload_n C dX10_shown_105 (q := 106) rfl rfl 3 rfl ?_
    refine x_i2l C dX10_shown_106 (q := 107) rfl (v := z.toInt64) (rfl) ?_
    refine x_lconst C dX10_shown_107 (q := 108) rfl (v := lN 0) rfl ?_
    refine x_aload_n C dX10_shown_108 (q := 109) rfl rfl 0 rfl ?_
    refine x_get C (ci := 9) (v := .int (nI nq)) hw0 0 rfl rfl 42 (by decide) hw1 rfl dX10_shown_109 (q := 112) rfl ?_
    refine x_iconst C dX10_shown_112 (q := 113) rfl (v := nI 1) (by decide) ?_
    refine x_isub C dX10_shown_113 (q := 114) rfl (z := (nI nq) - (nI 1)) (rfl) ?_
    refine x_i2l C dX10_shown_114 (q := 115) rfl (v := ((nI nq) - (nI 1)).toInt64) (rfl) ?_
    refine x_callS C (roW := []) (roR := []) (c_X10_in l D cy z.toInt64 (lN 0) (((nI nq) - (nI 1)).toInt64) z.toInt 0 (((nq : Nat) : Int) - 1) (xl_wide rfl) rfl (xl_wide (xi_sub2 (nI_toInt (by omega)) rfl (by omega) (by omega)))) (cwS 3 C.2.2.2.2.1 gX10_shown_X10_in rfl rfl rfl (by decide +kernel) (by rw [hR]; exact ⟨Nat.le_of_ble_eq_true rfl, Nat.le_of_ble_eq_true rfl⟩)) [] [] rfl (by decide) rfl (by decide) xro_nil xT_bl (fun _ _ _ _ _ _ _ => trivial) rfl rfl dX10_shown_115 rfl rfl (Nat.le_of_ble_eq_true rfl) (q := 118) rfl (k' := 0) rfl (n' := 0) rfl (by rw [hR]; exact ⟨Nat.le_of_ble_eq_true rfl, Nat.le_of_ble_eq_true rfl⟩) (fun v1 w1 hp1 => ?_)
    rcases hp1 with hp1 | hp1
    · skip
      obtain ⟨rfl, rfl, hc2, hc3⟩ := hp1
      refine x_ws (ws' := [(mo, .inr (9, [.int (nI cols), .int (nI lc), .int (nI smp), .int (ky), .ref (mr 0), .ref (mr 1), .ref (mr 2), .ref (mr 3), .ref (mr 4), .ref (mr 5), .ref (mr 6), .ref (mr 7), .ref (mr 8), .ref (mr 9), .int (nI (pMk P)), .int (nI (pRs P)), .ref (mr 10), .ref (mr 11), .ref (mr 12), .ref (mr 13), .ref (mr 14), .ref (mr 15), .ref (mr 16), .ref (mr 17), .ref (mr 18), .ref (mr 19), .ref (mr 20), .int (nI nse), .int (nI npa), .int (nI nbo), .ref (mr 21), .int (nI tn), .ref (mr 22), .int (nI ik), .int (j0), .int (j1), .ref (mr 23), .int (j2), .ref (mr 24), .ref (mr 25), .int (j3), .ref (mr 26), .int (nI nq), .ref (mr 27), .ref (mr 28), .ref (mr 29), .ref (mr 30)])), (mr 10, .inl (cy 1, 24, .inl (fun k => nI (lr9 k)))), (mr 3, .inl (cy 1, 5, .inl (fun k => nI (st9 k)))), (mr 6, .inl (cy 1, 24, .inl (fun k => nI (fn k)))), (mr 7, .inl (cy 1, 120, .inl (fun k => nI (fo k)))), (mr 8, .inl (cy 2, 120, .inr (.inl ex))), (mr 9, .inl (cy 2, 120, .inr (.inl wo))), (mr 4, .inl (cy 1, 1440, .inl (fun k => nI (by9 k)))), (mr 5, .inl (cy 1, 24, .inl (fun k => nI (lz k)))), (mr 26, .inl (cy 1, 24, .inl (fun k => nI (sq k))))]) (List.append_nil _) ?_
      refine x_if_eq C (tgt := 130) dX10_shown_118 (by decide) (q := 121) rfl (a := 1) rfl (fun h4 => (by omega : False).elim) (fun h4 => ?_)
      refine x_aload_n C dX10_shown_121 (q := 122) rfl rfl 0 rfl ?_
      refine x_get C (ci := 9) (v := .ref (mr 26)) hw0 0 rfl rfl 41 (by decide) hw2 rfl dX10_shown_122 (q := 125) rfl ?_
      refine x_iload_n C dX10_shown_125 (q := 126) rfl rfl 3 rfl ?_
      have hb5 := hsqb z.toInt.toNat
      refine x_iald C (j := z.toInt.toNat) (v := nI (sq z.toInt.toNat)) 9 rfl (by have h9 := (rfl : (z : Int32).toInt = z.toInt); omega) (by omega) rfl dX10_shown_126 (q := 127) rfl ?_
      refine x_goto C (tgt := 131) dX10_shown_127 (by decide) ?_
      refine x_iret C hA hQ hr dX10_shown_131 (Nat.le_of_ble_eq_true rfl) ?_
      have hh : hasV ld cols P x.toInt y.toInt := by
        by_cases hh : hasV ld cols P x.toInt y.toInt
        · exact hh
        · have n0 := hno hh
          omega
      obtain ⟨hv0, hv1, hv2, hv3, hv4⟩ := hh
      have hyy := hyes ⟨hv0, hv1, hv2, hv3, hv4⟩
      have ety := tyS_s (tl := tl9) (ld := ld) (z := min smp lc) (hF.2.1 (by omega) y.toInt.toNat (by omega))
      refine ⟨_, _, ?_, rfl, hsqb⟩
      unfold shoA
      rw [if_neg (by omega), ety, ← hyy.1, ← hyy.2, if_neg (by omega)]
    · skip
      obtain ⟨rfl, rfl, hc6⟩ := hp1
      refine x_ws (ws' := [(mo, .inr (9, [.int (nI cols), .int (nI lc), .int (nI smp), .int (ky), .ref (mr 0), .ref (mr 1), .ref (mr 2), .ref (mr 3), .ref (mr 4), .ref (mr 5), .ref (mr 6), .ref (mr 7), .ref (mr 8), .ref (mr 9), .int (nI (pMk P)), .int (nI (pRs P)), .ref (mr 10), .ref (mr 11), .ref (mr 12), .ref (mr 13), .ref (mr 14), .ref (mr 15), .ref (mr 16), .ref (mr 17), .ref (mr 18), .ref (mr 19), .ref (mr 20), .int (nI nse), .int (nI npa), .int (nI nbo), .ref (mr 21), .int (nI tn), .ref (mr 22), .int (nI ik), .int (j0), .int (j1), .ref (mr 23), .int (j2), .ref (mr 24), .ref (mr 25), .int (j3), .ref (mr 26), .int (nI nq), .ref (mr 27), .ref (mr 28), .ref (mr 29), .ref (mr 30)])), (mr 10, .inl (cy 1, 24, .inl (fun k => nI (lr9 k)))), (mr 3, .inl (cy 1, 5, .inl (fun k => nI (st9 k)))), (mr 6, .inl (cy 1, 24, .inl (fun k => nI (fn k)))), (mr 7, .inl (cy 1, 120, .inl (fun k => nI (fo k)))), (mr 8, .inl (cy 2, 120, .inr (.inl ex))), (mr 9, .inl (cy 2, 120, .inr (.inl wo))), (mr 4, .inl (cy 1, 1440, .inl (fun k => nI (by9 k)))), (mr 5, .inl (cy 1, 24, .inl (fun k => nI (lz k)))), (mr 26, .inl (cy 1, 24, .inl (fun k => nI (sq k))))]) (List.append_nil _) ?_
      refine x_if_eq C (tgt := 130) dX10_shown_118 (by decide) (q := 121) rfl (a := 0) rfl (fun h7 => ?_) (fun h7 => (by omega : False).elim)
      refine x_iconst C dX10_shown_130 (q := 131) rfl (v := (-1)) (by decide) ?_
      refine x_iret C hA hQ hr dX10_shown_131 (Nat.le_of_ble_eq_true rfl) ?_
      refine ⟨_, _, ?_, rfl, hsqb⟩
      unfold shoA
      by_cases c1 : x.toInt < 0 ∨ (pRs P : Int) ≤ x.toInt ∨ y.toInt < 0 ∨ (cols : Int) ≤ y.toInt
      · rw [if_pos c1]
      · rw [if_neg c1, if_pos]
        have ety := tyS_s (tl := tl9) (ld := ld) (z := min smp lc) (hF.2.1 (by omega) y.toInt.toNat (by omega))
        rw [ety]
        by_cases hh : hasV ld cols P x.toInt y.toInt
        · rw [← (hyes hh).1]
          omega
        · have n0 := hno hh
          have f0 : dFm ld (pLr P x.toInt.toNat) y.toInt.toNat = 0 := by
            by_cases f1 : dFm ld (pLr P x.toInt.toNat) y.toInt.toNat = 0
            · exact f1
            · exact absurd ⟨by omega, by omega, by omega, by omega, f1⟩ hh
          rw [show (shS ld (pSt P y.toInt.toNat) (pLr P x.toInt.toNat) y.toInt.toNat sh9).1 = 0 by (show (wsP (dFm ld (pLr P x.toInt.toNat) y.toInt.toNat) (dNm ld (pLr P x.toInt.toNat) y.toInt.toNat) (dWd ld (pLr P x.toInt.toNat) y.toInt.toNat) (dBl ld (pLr P x.toInt.toNat) y.toInt.toNat) (dBs ld (pLr P x.toInt.toNat) y.toInt.toNat) _ sh9).1 = 0); unfold wsP; rw [if_pos f0]]
          omega
  refine x_aload_n C dX10_shown_5 (q := 6) rfl rfl 0 rfl ?_
  refine x_iload_n C dX10_shown_6 (q := 7) rfl rfl 1 rfl ?_
  refine x_iload_n C dX10_shown_7 (q := 8) rfl rfl 2 rfl ?_
  refine x_callV C (roW := []) (roR := []) (c_X10_hasValue l D cy mo mr cols lc smp nse npa nbo tn ik ky j0 j1 j2 j3 (nI 0) P fn fo ex wo st9 lr9 rl9 fa9 ca9 dc9 ld x y (by assumption) (by assumption) (by assumption) (by first | assumption | omega | (simp only []; omega)) (by assumption) (by assumption) (by first | assumption | omega | (simp only []; omega)) (by assumption) (by assumption)) (cwV 2 C.2.2.2.2.1 gX10_shown_X10_hasValue rfl rfl rfl (by decide +kernel) (by rw [hR]; exact ⟨Nat.le_of_ble_eq_true rfl, Nat.le_of_ble_eq_true rfl⟩)) [0, 1, 2, 3, 4, 5, 6] [] rfl (by decide) rfl (by decide) xro_nil (List.mem_of_getElem? (i := 0) rfl) (ci := 9) rfl xT_bl (fun _ _ _ _ _ _ _ => trivial) rfl rfl dX10_shown_8 rfl rfl (Nat.le_of_ble_eq_true rfl) (q := 11) rfl (k' := 0) rfl (n' := 0) rfl (by rw [hR]; exact ⟨Nat.le_of_ble_eq_true rfl, Nat.le_of_ble_eq_true rfl⟩) (fun v8 w8 hp8 => ?_)
  rcases hp8 with hp8 | hp8
  · skip
    obtain ⟨rfl, rfl, hc9⟩ := hp8
    refine x_ws (ws' := [(mo, .inr (9, [.int (nI cols), .int (nI lc), .int (nI smp), .int (ky), .ref (mr 0), .ref (mr 1), .ref (mr 2), .ref (mr 3), .ref (mr 4), .ref (mr 5), .ref (mr 6), .ref (mr 7), .ref (mr 8), .ref (mr 9), .int (nI (pMk P)), .int (nI (pRs P)), .ref (mr 10), .ref (mr 11), .ref (mr 12), .ref (mr 13), .ref (mr 14), .ref (mr 15), .ref (mr 16), .ref (mr 17), .ref (mr 18), .ref (mr 19), .ref (mr 20), .int (nI nse), .int (nI npa), .int (nI nbo), .ref (mr 21), .int (nI tn), .ref (mr 22), .int (nI ik), .int (j0), .int (j1), .ref (mr 23), .int (j2), .ref (mr 24), .ref (mr 25), .int (j3), .ref (mr 26), .int (nI 0), .ref (mr 27), .ref (mr 28), .ref (mr 29), .ref (mr 30)])), (mr 10, .inl (cy 1, 24, .inl (fun k => nI (lr9 k)))), (mr 3, .inl (cy 1, 5, .inl (fun k => nI (st9 k)))), (mr 6, .inl (cy 1, 24, .inl (fun k => nI (fn k)))), (mr 7, .inl (cy 1, 120, .inl (fun k => nI (fo k)))), (mr 8, .inl (cy 2, 120, .inr (.inl ex))), (mr 9, .inl (cy 2, 120, .inr (.inl wo))), (mr 4, .inl (cy 1, 1440, .inl (fun k => nI (by9 k)))), (mr 5, .inl (cy 1, 24, .inl (fun k => nI (lz k)))), (mr 26, .inl (cy 1, 24, .inl (fun k => nI (sh9 k))))]) rfl ?_
    have hhv := hc9
    obtain ⟨hv0, hv1, hv2, hv3, hv4⟩ := hhv
    have hhv : hasV ld cols P x.toInt y.toInt := ⟨hv0, hv1, hv2, hv3, hv4⟩
    refine x_if_eq C (tgt := 105) dX10_shown_11 (by decide) (q := 14) rfl (a := 1) rfl (fun h10 => (by omega : False).elim) (fun h10 => ?_)
    refine x_aload_n C dX10_shown_14 (q := 15) rfl rfl 0 rfl ?_
    refine x_get C (ci := 9) (v := .ref (mr 10)) hw0 0 rfl rfl 16 (by decide) hw3 rfl dX10_shown_15 (q := 18) rfl ?_
    refine x_iload_n C dX10_shown_18 (q := 19) rfl rfl 1 rfl ?_
    have hb11 := hlr9 x.toInt.toNat
    refine x_iald C (j := x.toInt.toNat) (v := nI (lr9 x.toInt.toNat)) 1 rfl (by have h9 := (rfl : (x : Int32).toInt = x.toInt); omega) (by omega) rfl dX10_shown_19 (q := 20) rfl ?_
    refine x_istore C (L' := [(4, .int (nI (lr9 x.toInt.toNat))), (0, .ref mo), (1, .int (x)), (2, .int (y)), (3, .int (z))]) dX10_shown_20 (q := 22) rfl (by decide) rfl ?_
    have hlr := hmp.1.2.1 x.toInt.toNat (by omega)
    have hlv := hIP.2.2.1 x.toInt.toNat (by omega)
    have hl24 := hlr9 x.toInt.toNat
    have hmx := hmb (pLr P x.toInt.toNat) hlv.1
    have hcd : y.toInt.toNat < dNf ld (pLr P x.toInt.toNat) := (by rw [hlv.2]; omega)
    have hmf := hmx.2.2.2.2.2 y.toInt.toNat hcd
    have hst := fSt_le (tx := (lt (pLr P x.toInt.toNat))) (n := (ln (pLr P x.toInt.toNat))) (i := y.toInt.toNat) (by have zz := hmx.2.2.2.2.1; omega)
    have hen := fEnd_le (lt (pLr P x.toInt.toNat)) (ln (pLr P x.toInt.toNat)) (fSt (lt (pLr P x.toInt.toNat)) (ln (pLr P x.toInt.toNat)) y.toInt.toNat) hst
    have hge := fEnd_ge (lt (pLr P x.toInt.toNat)) (ln (pLr P x.toInt.toNat)) (fSt (lt (pLr P x.toInt.toNat)) (ln (pLr P x.toInt.toNat)) y.toInt.toNat)
    have hle : fLen (lt (pLr P x.toInt.toNat)) (ln (pLr P x.toInt.toNat)) (y.toInt.toNat) = _ - _ := rfl
    have hn60 := hmx.2.1
    have hse := hmp.1.1 y.toInt.toNat (by omega)
    have hshx := hshk x.toInt.toNat y.toInt.toNat (by omega) (by omega)
    have hs1 := hF.2.1 (by omega) y.toInt.toNat (by omega)
    rw [hlr]
    refine x_aload_n C dX10_shown_22 (q := 23) rfl rfl 1 rfl ?_
    refine x_iload C dX10_shown_23 (q := 25) rfl 0 rfl ?_
    refine x_iload_n C dX10_shown_25 (q := 26) rfl rfl 3 rfl ?_
    refine x_st (st' := [.int (nI y.toInt.toNat), .int (nI (pLr P x.toInt.toNat)), .ref mo]) (congrArg (fun z9 => ([.int z9, .int (nI (pLr P x.toInt.toNat)), .ref mo] : List Value)) (xi_nat (by omega))) ?_
    refine x_callV C (roW := []) (roR := []) (c_X10_begins l D cy mo mr cols lc smp (pMk P) (pRs P) nse npa nbo tn ik ky j0 j1 j2 j3 (nI 0) by9 (pLr P x.toInt.toNat) ((ln (pLr P x.toInt.toNat))) ((lt (pLr P x.toInt.toNat))) y.toInt.toNat (by assumption) (by first | assumption | omega | (simp only []; omega)) (by exact hmx.2.1) (by exact hmx.2.2.1) (by rw [← hmx.2.2.2.2.1]; exact hcd)) (cwV 2 C.2.2.2.2.1 gX10_shown_X10_begins rfl rfl rfl (by decide +kernel) (by rw [hR]; exact ⟨Nat.le_of_ble_eq_true rfl, Nat.le_of_ble_eq_true rfl⟩)) [0, 7] [] rfl (by decide) rfl (by decide) xro_nil (List.mem_of_getElem? (i := 0) rfl) (ci := 9) rfl xT_bl (fun _ _ _ _ _ _ _ => trivial) rfl rfl dX10_shown_26 rfl rfl (Nat.le_of_ble_eq_true rfl) (q := 29) rfl (k' := 0) rfl (n' := 0) rfl (by rw [hR]; exact ⟨Nat.le_of_ble_eq_true rfl, Nat.le_of_ble_eq_true rfl⟩) (fun v12 w12 hp12 => ?_)
    obtain ⟨rfl, rfl⟩ := hp12
    refine x_ws (ws' := [(mo, .inr (9, [.int (nI cols), .int (nI lc), .int (nI smp), .int (ky), .ref (mr 0), .ref (mr 1), .ref (mr 2), .ref (mr 3), .ref (mr 4), .ref (mr 5), .ref (mr 6), .ref (mr 7), .ref (mr 8), .ref (mr 9), .int (nI (pMk P)), .int (nI (pRs P)), .ref (mr 10), .ref (mr 11), .ref (mr 12), .ref (mr 13), .ref (mr 14), .ref (mr 15), .ref (mr 16), .ref (mr 17), .ref (mr 18), .ref (mr 19), .ref (mr 20), .int (nI nse), .int (nI npa), .int (nI nbo), .ref (mr 21), .int (nI tn), .ref (mr 22), .int (nI ik), .int (j0), .int (j1), .ref (mr 23), .int (j2), .ref (mr 24), .ref (mr 25), .int (j3), .ref (mr 26), .int (nI 0), .ref (mr 27), .ref (mr 28), .ref (mr 29), .ref (mr 30)])), (mr 10, .inl (cy 1, 24, .inl (fun k => nI (lr9 k)))), (mr 3, .inl (cy 1, 5, .inl (fun k => nI (st9 k)))), (mr 6, .inl (cy 1, 24, .inl (fun k => nI (fn k)))), (mr 7, .inl (cy 1, 120, .inl (fun k => nI (fo k)))), (mr 8, .inl (cy 2, 120, .inr (.inl ex))), (mr 9, .inl (cy 2, 120, .inr (.inl wo))), (mr 4, .inl (cy 1, 1440, .inl (fun k => nI (by9 k)))), (mr 5, .inl (cy 1, 24, .inl (fun k => nI (lz k)))), (mr 26, .inl (cy 1, 24, .inl (fun k => nI (sh9 k))))]) rfl ?_
    refine x_istore C (L' := [(5, .int (nI (60 * (pLr P x.toInt.toNat) + fSt ((lt (pLr P x.toInt.toNat))) ((ln (pLr P x.toInt.toNat))) y.toInt.toNat))), (4, .int (nI (pLr P x.toInt.toNat))), (0, .ref mo), (1, .int (x)), (2, .int (y)), (3, .int (z))]) dX10_shown_29 (q := 31) rfl (by decide) rfl ?_
    refine x_aload_n C dX10_shown_31 (q := 32) rfl rfl 2 rfl ?_
    refine x_get C (ci := 9) (v := .ref (mr 3)) hw0 0 rfl rfl 7 (by decide) hw4 rfl dX10_shown_32 (q := 35) rfl ?_
    refine x_iload_n C dX10_shown_35 (q := 36) rfl rfl 4 rfl ?_
    have hb13 := hst9 y.toInt.toNat
    refine x_iald C (j := y.toInt.toNat) (v := nI (st9 y.toInt.toNat)) 2 rfl (by have h9 := (rfl : (y : Int32).toInt = y.toInt); omega) (by omega) rfl dX10_shown_36 (q := 37) rfl ?_
    refine x_iconst C dX10_shown_37 (q := 38) rfl (v := nI 4) (by decide) ?_
    refine x_icmp_ne C (tgt := 61) dX10_shown_38 (by decide) (q := 41) rfl (a := ((st9 y.toInt.toNat : Nat) : Int)) (b := 4) (nI_toInt (by omega)) rfl (fun h14 => ?_) (fun h14 => ?_)
    · first
      | (exfalso; omega)
      |
        refine x_aload_n C dX10_shown_61 (q := 62) rfl rfl 2 rfl ?_
        refine x_get C (ci := 9) (v := .ref (mr 3)) hw0 0 rfl rfl 7 (by decide) hw4 rfl dX10_shown_62 (q := 65) rfl ?_
        refine x_iload_n C dX10_shown_65 (q := 66) rfl rfl 4 rfl ?_
        have hb15 := hst9 y.toInt.toNat
        refine x_iald C (j := y.toInt.toNat) (v := nI (st9 y.toInt.toNat)) 2 rfl (by have h9 := (rfl : (y : Int32).toInt = y.toInt); omega) (by omega) rfl dX10_shown_66 (q := 67) rfl ?_
        refine x_iconst C dX10_shown_67 (q := 68) rfl (v := nI 3) (by decide) ?_
        refine x_icmp_ne C (tgt := 80) dX10_shown_68 (by decide) (q := 71) rfl (a := ((st9 y.toInt.toNat : Nat) : Int)) (b := 3) (nI_toInt (by omega)) rfl (fun h16 => ?_) (fun h16 => ?_)
        · first
          | (exfalso; omega)
          |
            have hvb9 : (vlS ld (pSt P y.toInt.toNat) (pLr P x.toInt.toNat) y.toInt.toNat).toInt.natAbs < 1000000000 := (hshx.2.2.resolve_left hv4).1 (by omega)
            refine x_aload_n C dX10_shown_80 (q := 81) rfl rfl 2 rfl ?_
            refine x_aload_n C dX10_shown_81 (q := 82) rfl rfl 2 rfl ?_
            refine x_iload_n C dX10_shown_82 (q := 83) rfl rfl 3 rfl ?_
            refine x_iload_n C dX10_shown_83 (q := 84) rfl rfl 4 rfl ?_
            refine x_st (st' := [.int (y), .int (nI x.toInt.toNat), .ref mo, .ref mo]) (congrArg (fun z9 => ([.int (y), .int z9, .ref mo, .ref mo] : List Value)) (xi_nat (by omega))) ?_
            refine x_callV C (roW := []) (roR := []) (c_X10_its l D cy mo mr cols lc smp nse npa nbo tn ik ky j0 j1 j2 j3 (nI 0) P fn fo ex wo st9 lr9 rl9 fa9 ca9 dc9 ld x.toInt.toNat y (by assumption) (by assumption) (by assumption) (by first | assumption | omega | (simp only []; omega)) (by assumption) (by assumption) (by first | assumption | omega | (simp only []; omega)) (by assumption) (by assumption) (by first | assumption | omega | (simp only []; omega)) (by first | assumption | omega | (simp only []; omega)) (by first | assumption | omega | (simp only []; omega)) (by exact hv4)) (cwV 2 C.2.2.2.2.1 gX10_shown_X10_its rfl rfl rfl (by decide +kernel) (by rw [hR]; exact ⟨Nat.le_of_ble_eq_true rfl, Nat.le_of_ble_eq_true rfl⟩)) [0, 1, 2, 3, 4, 5, 6] [] rfl (by decide) rfl (by decide) xro_nil (List.mem_of_getElem? (i := 0) rfl) (ci := 9) rfl xT_bl (fun _ _ _ _ _ _ _ => trivial) rfl rfl dX10_shown_84 rfl rfl (Nat.le_of_ble_eq_true rfl) (q := 87) rfl (k' := 0) rfl (n' := 0) rfl (by rw [hR]; exact ⟨Nat.le_of_ble_eq_true rfl, Nat.le_of_ble_eq_true rfl⟩) (fun v17 w17 hp17 => ?_)
            obtain ⟨rfl, rfl⟩ := hp17
            refine x_ws (ws' := [(mo, .inr (9, [.int (nI cols), .int (nI lc), .int (nI smp), .int (ky), .ref (mr 0), .ref (mr 1), .ref (mr 2), .ref (mr 3), .ref (mr 4), .ref (mr 5), .ref (mr 6), .ref (mr 7), .ref (mr 8), .ref (mr 9), .int (nI (pMk P)), .int (nI (pRs P)), .ref (mr 10), .ref (mr 11), .ref (mr 12), .ref (mr 13), .ref (mr 14), .ref (mr 15), .ref (mr 16), .ref (mr 17), .ref (mr 18), .ref (mr 19), .ref (mr 20), .int (nI nse), .int (nI npa), .int (nI nbo), .ref (mr 21), .int (nI tn), .ref (mr 22), .int (nI ik), .int (j0), .int (j1), .ref (mr 23), .int (j2), .ref (mr 24), .ref (mr 25), .int (j3), .ref (mr 26), .int (nI 0), .ref (mr 27), .ref (mr 28), .ref (mr 29), .ref (mr 30)])), (mr 10, .inl (cy 1, 24, .inl (fun k => nI (lr9 k)))), (mr 3, .inl (cy 1, 5, .inl (fun k => nI (st9 k)))), (mr 6, .inl (cy 1, 24, .inl (fun k => nI (fn k)))), (mr 7, .inl (cy 1, 120, .inl (fun k => nI (fo k)))), (mr 8, .inl (cy 2, 120, .inr (.inl ex))), (mr 9, .inl (cy 2, 120, .inr (.inl wo))), (mr 4, .inl (cy 1, 1440, .inl (fun k => nI (by9 k)))), (mr 5, .inl (cy 1, 24, .inl (fun k => nI (lz k)))), (mr 26, .inl (cy 1, 24, .inl (fun k => nI (sh9 k))))]) rfl ?_
            refine x_aload_n C dX10_shown_87 (q := 88) rfl rfl 2 rfl ?_
            refine x_get C (ci := 9) (v := .ref (mr 3)) hw0 0 rfl rfl 7 (by decide) hw4 rfl dX10_shown_88 (q := 91) rfl ?_
            refine x_iload_n C dX10_shown_91 (q := 92) rfl rfl 4 rfl ?_
            have hb18 := hst9 y.toInt.toNat
            refine x_iald C (j := y.toInt.toNat) (v := nI (st9 y.toInt.toNat)) 2 rfl (by have h9 := (rfl : (y : Int32).toInt = y.toInt); omega) (by omega) rfl dX10_shown_92 (q := 93) rfl ?_
            refine x_iconst C dX10_shown_93 (q := 94) rfl (v := nI 2) (by decide) ?_
            refine x_icmp_ne C (tgt := 101) dX10_shown_94 (by decide) (q := 97) rfl (a := ((st9 y.toInt.toNat : Nat) : Int)) (b := 2) (nI_toInt (by omega)) rfl (fun h19 => ?_) (fun h19 => ?_)
            · first
              | (exfalso; omega)
              |
                refine x_iconst C dX10_shown_101 (q := 102) rfl (v := nI 0) (by decide) ?_
                refine x_callV C (roW := []) (roR := []) (c_X10_showsNumber l D cy mo mr cols lc smp (pMk P) (pRs P) nse npa nbo tn ik ky j0 j1 j2 j3 sh9 (vlS ld (pSt P y.toInt.toNat) (pLr P x.toInt.toNat) y.toInt.toNat) 0 (by exact hvb9) (by first | assumption | omega | (simp only []; omega))) (cwV 2 C.2.2.2.2.1 gX10_shown_X10_showsNumber rfl rfl rfl (by decide +kernel) (by rw [hR]; exact ⟨Nat.le_of_ble_eq_true rfl, Nat.le_of_ble_eq_true rfl⟩)) [0, 9] [] rfl (by decide) rfl (by decide) xro_nil (List.mem_of_getElem? (i := 0) rfl) (ci := 9) rfl xT_bl (fun _ _ _ _ _ _ _ => trivial) rfl rfl dX10_shown_102 rfl rfl (Nat.le_of_ble_eq_true rfl) (q := 105) rfl (k' := 0) rfl (n' := 0) rfl (by rw [hR]; exact ⟨Nat.le_of_ble_eq_true rfl, Nat.le_of_ble_eq_true rfl⟩) (fun v20 w20 hp20 => ?_)
                obtain ⟨rfl, rfl⟩ := hp20
                refine x_ws (ws' := [(mo, .inr (9, [.int (nI cols), .int (nI lc), .int (nI smp), .int (ky), .ref (mr 0), .ref (mr 1), .ref (mr 2), .ref (mr 3), .ref (mr 4), .ref (mr 5), .ref (mr 6), .ref (mr 7), .ref (mr 8), .ref (mr 9), .int (nI (pMk P)), .int (nI (pRs P)), .ref (mr 10), .ref (mr 11), .ref (mr 12), .ref (mr 13), .ref (mr 14), .ref (mr 15), .ref (mr 16), .ref (mr 17), .ref (mr 18), .ref (mr 19), .ref (mr 20), .int (nI nse), .int (nI npa), .int (nI nbo), .ref (mr 21), .int (nI tn), .ref (mr 22), .int (nI ik), .int (j0), .int (j1), .ref (mr 23), .int (j2), .ref (mr 24), .ref (mr 25), .int (j3), .ref (mr 26), .int (nI ((wnP (vlS ld (pSt P y.toInt.toNat) (pLr P x.toInt.toNat) y.toInt.toNat) 0 sh9).1)), .ref (mr 27), .ref (mr 28), .ref (mr 29), .ref (mr 30)])), (mr 10, .inl (cy 1, 24, .inl (fun k => nI (lr9 k)))), (mr 3, .inl (cy 1, 5, .inl (fun k => nI (st9 k)))), (mr 6, .inl (cy 1, 24, .inl (fun k => nI (fn k)))), (mr 7, .inl (cy 1, 120, .inl (fun k => nI (fo k)))), (mr 8, .inl (cy 2, 120, .inr (.inl ex))), (mr 9, .inl (cy 2, 120, .inr (.inl wo))), (mr 4, .inl (cy 1, 1440, .inl (fun k => nI (by9 k)))), (mr 5, .inl (cy 1, 24, .inl (fun k => nI (lz k)))), (mr 26, .inl (cy 1, 24, .inl (fun k => nI (((wnP (vlS ld (pSt P y.toInt.toNat) (pLr P x.toInt.toNat) y.toInt.toNat) 0 sh9).2) k))))]) rfl ?_
                have hyes9 : (wnP (vlS ld (pSt P y.toInt.toNat) (pLr P x.toInt.toNat) y.toInt.toNat) 0 sh9).1 = (shS ld (pSt P y.toInt.toNat) (pLr P x.toInt.toNat) y.toInt.toNat sh9).1 ∧ (wnP (vlS ld (pSt P y.toInt.toNat) (pLr P x.toInt.toNat) y.toInt.toNat) 0 sh9).2 = (shS ld (pSt P y.toInt.toNat) (pLr P x.toInt.toNat) y.toInt.toNat sh9).2 := by
                  show _ = (wsP (dFm ld (pLr P x.toInt.toNat) y.toInt.toNat) (dNm ld (pLr P x.toInt.toNat) y.toInt.toNat) (dWd ld (pLr P x.toInt.toNat) y.toInt.toNat) (dBl ld (pLr P x.toInt.toNat) y.toInt.toNat) (dBs ld (pLr P x.toInt.toNat) y.toInt.toNat) _ sh9).1 ∧ _ = (wsP (dFm ld (pLr P x.toInt.toNat) y.toInt.toNat) (dNm ld (pLr P x.toInt.toNat) y.toInt.toNat) (dWd ld (pLr P x.toInt.toNat) y.toInt.toNat) (dBl ld (pLr P x.toInt.toNat) y.toInt.toNat) (dBs ld (pLr P x.toInt.toNat) y.toInt.toNat) _ sh9).2
                  unfold wsP
                  rw [if_neg hv4, if_neg (by omega), if_neg (by omega), if_neg (by omega)]
                  exact ⟨rfl, rfl⟩
                obtain ⟨hnq9, hsqb9⟩ := wnP_b (fl := 0) hvb9 hshb
                refine x_L (L' := [(0, .ref mo), (1, .int (x)), (2, .int (y)), (3, .int (z))]) [2, 3, 4, 5] rfl ?_
                exact cut105 ((wnP (vlS ld (pSt P y.toInt.toNat) (pLr P x.toInt.toNat) y.toInt.toNat) 0 sh9).1) ((wnP (vlS ld (pSt P y.toInt.toNat) (pLr P x.toInt.toNat) y.toInt.toNat) 0 sh9).2) (by first | omega | exact hnq9) (by first | exact hshb | exact hsqb9) (by first | (intro hh; exact absurd hh (by assumption)) | (intro hh; exact hyes9)) (by first | (intro hh; rfl) | (intro hh; exact absurd (by assumption) hh))
            · first
              | (exfalso; omega)
              |
                refine x_iconst C dX10_shown_97 (q := 98) rfl (v := nI 1) (by decide) ?_
                refine x_goto C (tgt := 102) dX10_shown_98 (by decide) ?_
                refine x_callV C (roW := []) (roR := []) (c_X10_showsNumber l D cy mo mr cols lc smp (pMk P) (pRs P) nse npa nbo tn ik ky j0 j1 j2 j3 sh9 (vlS ld (pSt P y.toInt.toNat) (pLr P x.toInt.toNat) y.toInt.toNat) 1 (by exact hvb9) (by first | assumption | omega | (simp only []; omega))) (cwV 2 C.2.2.2.2.1 gX10_shown_X10_showsNumber rfl rfl rfl (by decide +kernel) (by rw [hR]; exact ⟨Nat.le_of_ble_eq_true rfl, Nat.le_of_ble_eq_true rfl⟩)) [0, 9] [] rfl (by decide) rfl (by decide) xro_nil (List.mem_of_getElem? (i := 0) rfl) (ci := 9) rfl xT_bl (fun _ _ _ _ _ _ _ => trivial) rfl rfl dX10_shown_102 rfl rfl (Nat.le_of_ble_eq_true rfl) (q := 105) rfl (k' := 0) rfl (n' := 0) rfl (by rw [hR]; exact ⟨Nat.le_of_ble_eq_true rfl, Nat.le_of_ble_eq_true rfl⟩) (fun v21 w21 hp21 => ?_)
                obtain ⟨rfl, rfl⟩ := hp21
                refine x_ws (ws' := [(mo, .inr (9, [.int (nI cols), .int (nI lc), .int (nI smp), .int (ky), .ref (mr 0), .ref (mr 1), .ref (mr 2), .ref (mr 3), .ref (mr 4), .ref (mr 5), .ref (mr 6), .ref (mr 7), .ref (mr 8), .ref (mr 9), .int (nI (pMk P)), .int (nI (pRs P)), .ref (mr 10), .ref (mr 11), .ref (mr 12), .ref (mr 13), .ref (mr 14), .ref (mr 15), .ref (mr 16), .ref (mr 17), .ref (mr 18), .ref (mr 19), .ref (mr 20), .int (nI nse), .int (nI npa), .int (nI nbo), .ref (mr 21), .int (nI tn), .ref (mr 22), .int (nI ik), .int (j0), .int (j1), .ref (mr 23), .int (j2), .ref (mr 24), .ref (mr 25), .int (j3), .ref (mr 26), .int (nI ((wnP (vlS ld (pSt P y.toInt.toNat) (pLr P x.toInt.toNat) y.toInt.toNat) 1 sh9).1)), .ref (mr 27), .ref (mr 28), .ref (mr 29), .ref (mr 30)])), (mr 10, .inl (cy 1, 24, .inl (fun k => nI (lr9 k)))), (mr 3, .inl (cy 1, 5, .inl (fun k => nI (st9 k)))), (mr 6, .inl (cy 1, 24, .inl (fun k => nI (fn k)))), (mr 7, .inl (cy 1, 120, .inl (fun k => nI (fo k)))), (mr 8, .inl (cy 2, 120, .inr (.inl ex))), (mr 9, .inl (cy 2, 120, .inr (.inl wo))), (mr 4, .inl (cy 1, 1440, .inl (fun k => nI (by9 k)))), (mr 5, .inl (cy 1, 24, .inl (fun k => nI (lz k)))), (mr 26, .inl (cy 1, 24, .inl (fun k => nI (((wnP (vlS ld (pSt P y.toInt.toNat) (pLr P x.toInt.toNat) y.toInt.toNat) 1 sh9).2) k))))]) rfl ?_
                have hyes9 : (wnP (vlS ld (pSt P y.toInt.toNat) (pLr P x.toInt.toNat) y.toInt.toNat) 1 sh9).1 = (shS ld (pSt P y.toInt.toNat) (pLr P x.toInt.toNat) y.toInt.toNat sh9).1 ∧ (wnP (vlS ld (pSt P y.toInt.toNat) (pLr P x.toInt.toNat) y.toInt.toNat) 1 sh9).2 = (shS ld (pSt P y.toInt.toNat) (pLr P x.toInt.toNat) y.toInt.toNat sh9).2 := by
                  show _ = (wsP (dFm ld (pLr P x.toInt.toNat) y.toInt.toNat) (dNm ld (pLr P x.toInt.toNat) y.toInt.toNat) (dWd ld (pLr P x.toInt.toNat) y.toInt.toNat) (dBl ld (pLr P x.toInt.toNat) y.toInt.toNat) (dBs ld (pLr P x.toInt.toNat) y.toInt.toNat) _ sh9).1 ∧ _ = (wsP (dFm ld (pLr P x.toInt.toNat) y.toInt.toNat) (dNm ld (pLr P x.toInt.toNat) y.toInt.toNat) (dWd ld (pLr P x.toInt.toNat) y.toInt.toNat) (dBl ld (pLr P x.toInt.toNat) y.toInt.toNat) (dBs ld (pLr P x.toInt.toNat) y.toInt.toNat) _ sh9).2
                  unfold wsP
                  rw [if_neg hv4, if_neg (by omega), if_neg (by omega), if_pos (by omega)]
                  exact ⟨rfl, rfl⟩
                obtain ⟨hnq9, hsqb9⟩ := wnP_b (fl := 1) hvb9 hshb
                refine x_L (L' := [(0, .ref mo), (1, .int (x)), (2, .int (y)), (3, .int (z))]) [2, 3, 4, 5] rfl ?_
                exact cut105 ((wnP (vlS ld (pSt P y.toInt.toNat) (pLr P x.toInt.toNat) y.toInt.toNat) 1 sh9).1) ((wnP (vlS ld (pSt P y.toInt.toNat) (pLr P x.toInt.toNat) y.toInt.toNat) 1 sh9).2) (by first | omega | exact hnq9) (by first | exact hshb | exact hsqb9) (by first | (intro hh; exact absurd hh (by assumption)) | (intro hh; exact hyes9)) (by first | (intro hh; rfl) | (intro hh; exact absurd (by assumption) hh))
        · first
          | (exfalso; omega)
          |
            refine x_aload_n C dX10_shown_71 (q := 72) rfl rfl 2 rfl ?_
            have hpt9 : patD (fBy (lt (pLr P x.toInt.toNat)) (ln (pLr P x.toInt.toNat)) y.toInt.toNat) ∨ patY (fBy (lt (pLr P x.toInt.toNat)) (ln (pLr P x.toInt.toNat)) y.toInt.toNat) := (by have z9 := ((hshx.2.2.resolve_left hv4).2 (by omega)); rw [hmf.2.2.2.2.1, hmf.2.2.2.2.2] at z9; exact z9.2)
            have hl10 : fLen (lt (pLr P x.toInt.toNat)) (ln (pLr P x.toInt.toNat)) y.toInt.toNat = 10 := (by have z9 := ((hshx.2.2.resolve_left hv4).2 (by omega)); rw [hmf.2.2.2.2.1, hmf.2.2.2.2.2] at z9; exact z9.1)
            refine x_iload C dX10_shown_72 (q := 74) rfl 0 rfl ?_
            refine x_callV C (roW := []) (roR := []) (c_X10_showsDate l D cy mo mr cols lc smp (pMk P) (pRs P) nse npa nbo tn ik ky j0 j1 j2 j3 0 sh9 by9 (60 * (pLr P x.toInt.toNat) + fSt ((lt (pLr P x.toInt.toNat))) ((ln (pLr P x.toInt.toNat))) y.toInt.toNat) ((fBy (lt (pLr P x.toInt.toNat)) (ln (pLr P x.toInt.toNat)) y.toInt.toNat)) (by assumption) (by first | assumption | omega | (simp only []; omega)) (by intro j hj; rw [Nat.add_assoc]; exact hmx.2.2.1 _ (by omega)) (by first | assumption | omega | (simp only []; omega)) (by exact hpt9)) (cwV 1 C.2.2.2.2.1 gX10_shown_X10_showsDate rfl rfl rfl (by decide +kernel) (by rw [hR]; exact ⟨Nat.le_of_ble_eq_true rfl, Nat.le_of_ble_eq_true rfl⟩)) [0, 9, 7] [] rfl (by decide) rfl (by decide) xro_nil (List.mem_of_getElem? (i := 0) rfl) (ci := 9) rfl xT_bl (fun _ _ _ _ _ _ _ => trivial) rfl rfl dX10_shown_74 rfl rfl (Nat.le_of_ble_eq_true rfl) (q := 77) rfl (k' := 0) rfl (n' := 0) rfl (by rw [hR]; exact ⟨Nat.le_of_ble_eq_true rfl, Nat.le_of_ble_eq_true rfl⟩) (fun v22 w22 hp22 => ?_)
            obtain ⟨rfl, rfl⟩ := hp22
            refine x_ws (ws' := [(mo, .inr (9, [.int (nI cols), .int (nI lc), .int (nI smp), .int (ky), .ref (mr 0), .ref (mr 1), .ref (mr 2), .ref (mr 3), .ref (mr 4), .ref (mr 5), .ref (mr 6), .ref (mr 7), .ref (mr 8), .ref (mr 9), .int (nI (pMk P)), .int (nI (pRs P)), .ref (mr 10), .ref (mr 11), .ref (mr 12), .ref (mr 13), .ref (mr 14), .ref (mr 15), .ref (mr 16), .ref (mr 17), .ref (mr 18), .ref (mr 19), .ref (mr 20), .int (nI nse), .int (nI npa), .int (nI nbo), .ref (mr 21), .int (nI tn), .ref (mr 22), .int (nI ik), .int (j0), .int (j1), .ref (mr 23), .int (j2), .ref (mr 24), .ref (mr 25), .int (j3), .ref (mr 26), .int (nI ((dgP (dyS ((fBy (lt (pLr P x.toInt.toNat)) (ln (pLr P x.toInt.toNat)) y.toInt.toNat))) 2 (adP 45 (dgP (moS ((fBy (lt (pLr P x.toInt.toNat)) (ln (pLr P x.toInt.toNat)) y.toInt.toNat))) 2 (adP 45 (dgP (yrS ((fBy (lt (pLr P x.toInt.toNat)) (ln (pLr P x.toInt.toNat)) y.toInt.toNat))) 4 (0, sh9)))))).1)), .ref (mr 27), .ref (mr 28), .ref (mr 29), .ref (mr 30)])), (mr 10, .inl (cy 1, 24, .inl (fun k => nI (lr9 k)))), (mr 3, .inl (cy 1, 5, .inl (fun k => nI (st9 k)))), (mr 6, .inl (cy 1, 24, .inl (fun k => nI (fn k)))), (mr 7, .inl (cy 1, 120, .inl (fun k => nI (fo k)))), (mr 8, .inl (cy 2, 120, .inr (.inl ex))), (mr 9, .inl (cy 2, 120, .inr (.inl wo))), (mr 4, .inl (cy 1, 1440, .inl (fun k => nI (by9 k)))), (mr 5, .inl (cy 1, 24, .inl (fun k => nI (lz k)))), (mr 26, .inl (cy 1, 24, .inl (fun k => nI (((dgP (dyS ((fBy (lt (pLr P x.toInt.toNat)) (ln (pLr P x.toInt.toNat)) y.toInt.toNat))) 2 (adP 45 (dgP (moS ((fBy (lt (pLr P x.toInt.toNat)) (ln (pLr P x.toInt.toNat)) y.toInt.toNat))) 2 (adP 45 (dgP (yrS ((fBy (lt (pLr P x.toInt.toNat)) (ln (pLr P x.toInt.toNat)) y.toInt.toNat))) 4 (0, sh9)))))).2) k))))]) rfl ?_
            have hty3 : pSt P y.toInt.toNat = 3 := by omega
            have hyes9 : (dgP (dyS (fBy (lt (pLr P x.toInt.toNat)) (ln (pLr P x.toInt.toNat)) y.toInt.toNat)) 2 (adP 45 (dgP (moS (fBy (lt (pLr P x.toInt.toNat)) (ln (pLr P x.toInt.toNat)) y.toInt.toNat)) 2 (adP 45 (dgP (yrS (fBy (lt (pLr P x.toInt.toNat)) (ln (pLr P x.toInt.toNat)) y.toInt.toNat)) 4 (0, sh9)))))).1 = (shS ld (pSt P y.toInt.toNat) (pLr P x.toInt.toNat) y.toInt.toNat sh9).1 ∧ (dgP (dyS (fBy (lt (pLr P x.toInt.toNat)) (ln (pLr P x.toInt.toNat)) y.toInt.toNat)) 2 (adP 45 (dgP (moS (fBy (lt (pLr P x.toInt.toNat)) (ln (pLr P x.toInt.toNat)) y.toInt.toNat)) 2 (adP 45 (dgP (yrS (fBy (lt (pLr P x.toInt.toNat)) (ln (pLr P x.toInt.toNat)) y.toInt.toNat)) 4 (0, sh9)))))).2 = (shS ld (pSt P y.toInt.toNat) (pLr P x.toInt.toNat) y.toInt.toNat sh9).2 := by
              show _ = (wsP (dFm ld (pLr P x.toInt.toNat) y.toInt.toNat) (dNm ld (pLr P x.toInt.toNat) y.toInt.toNat) (dWd ld (pLr P x.toInt.toNat) y.toInt.toNat) (dBl ld (pLr P x.toInt.toNat) y.toInt.toNat) (dBs ld (pLr P x.toInt.toNat) y.toInt.toNat) _ sh9).1 ∧ _ = (wsP (dFm ld (pLr P x.toInt.toNat) y.toInt.toNat) (dNm ld (pLr P x.toInt.toNat) y.toInt.toNat) (dWd ld (pLr P x.toInt.toNat) y.toInt.toNat) (dBl ld (pLr P x.toInt.toNat) y.toInt.toNat) (dBs ld (pLr P x.toInt.toNat) y.toInt.toNat) _ sh9).2
              unfold wsP
              rw [if_neg hv4, if_neg (by omega), if_pos hty3, hmf.2.2.2.2.2]
              exact ⟨rfl, rfl⟩
            have hpq9 := hpt9
            obtain ⟨hnq9, hsqb9⟩ := dtP_b hpq9 hshb
            refine x_goto C (tgt := 105) dX10_shown_77 (by decide) ?_
            refine x_L (L' := [(0, .ref mo), (1, .int (x)), (2, .int (y)), (3, .int (z))]) [2, 3, 4, 5] rfl ?_
            exact cut105 ((dgP (dyS ((fBy (lt (pLr P x.toInt.toNat)) (ln (pLr P x.toInt.toNat)) y.toInt.toNat))) 2 (adP 45 (dgP (moS ((fBy (lt (pLr P x.toInt.toNat)) (ln (pLr P x.toInt.toNat)) y.toInt.toNat))) 2 (adP 45 (dgP (yrS ((fBy (lt (pLr P x.toInt.toNat)) (ln (pLr P x.toInt.toNat)) y.toInt.toNat))) 4 (0, sh9)))))).1) ((dgP (dyS ((fBy (lt (pLr P x.toInt.toNat)) (ln (pLr P x.toInt.toNat)) y.toInt.toNat))) 2 (adP 45 (dgP (moS ((fBy (lt (pLr P x.toInt.toNat)) (ln (pLr P x.toInt.toNat)) y.toInt.toNat))) 2 (adP 45 (dgP (yrS ((fBy (lt (pLr P x.toInt.toNat)) (ln (pLr P x.toInt.toNat)) y.toInt.toNat))) 4 (0, sh9)))))).2) (by first | omega | exact hnq9) (by first | exact hshb | exact hsqb9) (by first | (intro hh; exact absurd hh (by assumption)) | (intro hh; exact hyes9)) (by first | (intro hh; rfl) | (intro hh; exact absurd (by assumption) hh))
    · first
      | (exfalso; omega)
      |
        refine x_aload_n C dX10_shown_41 (q := 42) rfl rfl 2 rfl ?_
        refine x_iload C dX10_shown_42 (q := 44) rfl 0 rfl ?_
        refine x_aload_n C dX10_shown_44 (q := 45) rfl rfl 2 rfl ?_
        refine x_iload C dX10_shown_45 (q := 47) rfl 1 rfl ?_
        refine x_iload C dX10_shown_47 (q := 49) rfl 0 rfl ?_
        refine x_callV C (roW := []) (roR := []) (c_X10_ends l D cy mo mr cols lc smp (pMk P) (pRs P) nse npa nbo tn ik ky j0 j1 j2 j3 (nI 0) by9 lz (pLr P x.toInt.toNat) ((ln (pLr P x.toInt.toNat))) ((lt (pLr P x.toInt.toNat))) (60 * (pLr P x.toInt.toNat) + fSt ((lt (pLr P x.toInt.toNat))) ((ln (pLr P x.toInt.toNat))) y.toInt.toNat) (fSt (lt (pLr P x.toInt.toNat)) (ln (pLr P x.toInt.toNat)) y.toInt.toNat) (by assumption) (by first | assumption | omega | (simp only []; omega)) (by exact hmx.1) (by exact hmx.2.1) (by exact hmx.2.2.1) (by first | assumption | omega | (simp only []; omega)) (by first | assumption | omega | (simp only []; omega))) (cwV 2 C.2.2.2.2.1 gX10_shown_X10_ends rfl rfl rfl (by decide +kernel) (by rw [hR]; exact ⟨Nat.le_of_ble_eq_true rfl, Nat.le_of_ble_eq_true rfl⟩)) [0, 7, 8] [] rfl (by decide) rfl (by decide) xro_nil (List.mem_of_getElem? (i := 0) rfl) (ci := 9) rfl xT_bl (fun _ _ _ _ _ _ _ => trivial) rfl rfl dX10_shown_49 rfl rfl (Nat.le_of_ble_eq_true rfl) (q := 52) rfl (k' := 0) rfl (n' := 0) rfl (by rw [hR]; exact ⟨Nat.le_of_ble_eq_true rfl, Nat.le_of_ble_eq_true rfl⟩) (fun v23 w23 hp23 => ?_)
        obtain ⟨rfl, rfl⟩ := hp23
        refine x_ws (ws' := [(mo, .inr (9, [.int (nI cols), .int (nI lc), .int (nI smp), .int (ky), .ref (mr 0), .ref (mr 1), .ref (mr 2), .ref (mr 3), .ref (mr 4), .ref (mr 5), .ref (mr 6), .ref (mr 7), .ref (mr 8), .ref (mr 9), .int (nI (pMk P)), .int (nI (pRs P)), .ref (mr 10), .ref (mr 11), .ref (mr 12), .ref (mr 13), .ref (mr 14), .ref (mr 15), .ref (mr 16), .ref (mr 17), .ref (mr 18), .ref (mr 19), .ref (mr 20), .int (nI nse), .int (nI npa), .int (nI nbo), .ref (mr 21), .int (nI tn), .ref (mr 22), .int (nI ik), .int (j0), .int (j1), .ref (mr 23), .int (j2), .ref (mr 24), .ref (mr 25), .int (j3), .ref (mr 26), .int (nI 0), .ref (mr 27), .ref (mr 28), .ref (mr 29), .ref (mr 30)])), (mr 10, .inl (cy 1, 24, .inl (fun k => nI (lr9 k)))), (mr 3, .inl (cy 1, 5, .inl (fun k => nI (st9 k)))), (mr 6, .inl (cy 1, 24, .inl (fun k => nI (fn k)))), (mr 7, .inl (cy 1, 120, .inl (fun k => nI (fo k)))), (mr 8, .inl (cy 2, 120, .inr (.inl ex))), (mr 9, .inl (cy 2, 120, .inr (.inl wo))), (mr 4, .inl (cy 1, 1440, .inl (fun k => nI (by9 k)))), (mr 5, .inl (cy 1, 24, .inl (fun k => nI (lz k)))), (mr 26, .inl (cy 1, 24, .inl (fun k => nI (sh9 k))))]) rfl ?_
        refine x_iload C dX10_shown_52 (q := 54) rfl 0 rfl ?_
        refine x_isub C dX10_shown_54 (q := 55) rfl (z := nI (60 * (pLr P x.toInt.toNat) + fEnd ((lt (pLr P x.toInt.toNat))) ((ln (pLr P x.toInt.toNat))) (fSt (lt (pLr P x.toInt.toNat)) (ln (pLr P x.toInt.toNat)) y.toInt.toNat) - (60 * (pLr P x.toInt.toNat) + fSt ((lt (pLr P x.toInt.toNat))) ((ln (pLr P x.toInt.toNat))) y.toInt.toNat))) (xi_subN (by omega) (by omega)) ?_
        refine x_topi (y := nI (fLen (lt (pLr P x.toInt.toNat)) (ln (pLr P x.toInt.toNat)) y.toInt.toNat)) (congrArg nI (by omega)) ?_
        refine x_callV C (roW := []) (roR := []) (c_X10_showsBytes l D cy mo mr cols lc smp (pMk P) (pRs P) nse npa nbo tn ik ky j0 j1 j2 j3 0 sh9 by9 (60 * (pLr P x.toInt.toNat) + fSt ((lt (pLr P x.toInt.toNat))) ((ln (pLr P x.toInt.toNat))) y.toInt.toNat) (fLen (lt (pLr P x.toInt.toNat)) (ln (pLr P x.toInt.toNat)) y.toInt.toNat) ((fBy (lt (pLr P x.toInt.toNat)) (ln (pLr P x.toInt.toNat)) y.toInt.toNat)) (by assumption) (by first | assumption | omega | (simp only []; omega)) (by first | assumption | omega | (simp only []; omega)) (by intro j hj; rw [Nat.add_assoc]; exact hmx.2.2.1 _ (by omega))) (cwV 2 C.2.2.2.2.1 gX10_shown_X10_showsBytes rfl rfl rfl (by decide +kernel) (by rw [hR]; exact ⟨Nat.le_of_ble_eq_true rfl, Nat.le_of_ble_eq_true rfl⟩)) [0, 9, 7] [] rfl (by decide) rfl (by decide) xro_nil (List.mem_of_getElem? (i := 0) rfl) (ci := 9) rfl xT_bl (fun _ _ _ _ _ _ _ => trivial) rfl rfl dX10_shown_55 rfl rfl (Nat.le_of_ble_eq_true rfl) (q := 58) rfl (k' := 0) rfl (n' := 0) rfl (by rw [hR]; exact ⟨Nat.le_of_ble_eq_true rfl, Nat.le_of_ble_eq_true rfl⟩) (fun v24 w24 hp24 => ?_)
        obtain ⟨rfl, rfl⟩ := hp24
        refine x_ws (ws' := [(mo, .inr (9, [.int (nI cols), .int (nI lc), .int (nI smp), .int (ky), .ref (mr 0), .ref (mr 1), .ref (mr 2), .ref (mr 3), .ref (mr 4), .ref (mr 5), .ref (mr 6), .ref (mr 7), .ref (mr 8), .ref (mr 9), .int (nI (pMk P)), .int (nI (pRs P)), .ref (mr 10), .ref (mr 11), .ref (mr 12), .ref (mr 13), .ref (mr 14), .ref (mr 15), .ref (mr 16), .ref (mr 17), .ref (mr 18), .ref (mr 19), .ref (mr 20), .int (nI nse), .int (nI npa), .int (nI nbo), .ref (mr 21), .int (nI tn), .ref (mr 22), .int (nI ik), .int (j0), .int (j1), .ref (mr 23), .int (j2), .ref (mr 24), .ref (mr 25), .int (j3), .ref (mr 26), .int (nI (0 + (fLen (lt (pLr P x.toInt.toNat)) (ln (pLr P x.toInt.toNat)) y.toInt.toNat))), .ref (mr 27), .ref (mr 28), .ref (mr 29), .ref (mr 30)])), (mr 10, .inl (cy 1, 24, .inl (fun k => nI (lr9 k)))), (mr 3, .inl (cy 1, 5, .inl (fun k => nI (st9 k)))), (mr 6, .inl (cy 1, 24, .inl (fun k => nI (fn k)))), (mr 7, .inl (cy 1, 120, .inl (fun k => nI (fo k)))), (mr 8, .inl (cy 2, 120, .inr (.inl ex))), (mr 9, .inl (cy 2, 120, .inr (.inl wo))), (mr 4, .inl (cy 1, 1440, .inl (fun k => nI (by9 k)))), (mr 5, .inl (cy 1, 24, .inl (fun k => nI (lz k)))), (mr 26, .inl (cy 1, 24, .inl (fun k => nI ((cpF ((fBy (lt (pLr P x.toInt.toNat)) (ln (pLr P x.toInt.toNat)) y.toInt.toNat)) sh9 0 (fLen (lt (pLr P x.toInt.toNat)) (ln (pLr P x.toInt.toNat)) y.toInt.toNat)) k))))]) rfl ?_
        have hty4 : pSt P y.toInt.toNat = 4 := by omega
        have hyes9 : 0 + fLen (lt (pLr P x.toInt.toNat)) (ln (pLr P x.toInt.toNat)) y.toInt.toNat = (shS ld (pSt P y.toInt.toNat) (pLr P x.toInt.toNat) y.toInt.toNat sh9).1 ∧ cpF (fBy (lt (pLr P x.toInt.toNat)) (ln (pLr P x.toInt.toNat)) y.toInt.toNat) sh9 0 (fLen (lt (pLr P x.toInt.toNat)) (ln (pLr P x.toInt.toNat)) y.toInt.toNat) = (shS ld (pSt P y.toInt.toNat) (pLr P x.toInt.toNat) y.toInt.toNat sh9).2 := by
          show _ = (wsP (dFm ld (pLr P x.toInt.toNat) y.toInt.toNat) (dNm ld (pLr P x.toInt.toNat) y.toInt.toNat) (dWd ld (pLr P x.toInt.toNat) y.toInt.toNat) (dBl ld (pLr P x.toInt.toNat) y.toInt.toNat) (dBs ld (pLr P x.toInt.toNat) y.toInt.toNat) _ sh9).1 ∧ _ = (wsP (dFm ld (pLr P x.toInt.toNat) y.toInt.toNat) (dNm ld (pLr P x.toInt.toNat) y.toInt.toNat) (dWd ld (pLr P x.toInt.toNat) y.toInt.toNat) (dBl ld (pLr P x.toInt.toNat) y.toInt.toNat) (dBs ld (pLr P x.toInt.toNat) y.toInt.toNat) _ sh9).2
          unfold wsP
          rw [if_neg hv4, if_pos hty4, hmf.2.2.2.2.1, hmf.2.2.2.2.2]
          exact ⟨Nat.zero_add _, cpF_wd _⟩
        have hnq9 : fLen (lt (pLr P x.toInt.toNat)) (ln (pLr P x.toInt.toNat)) y.toInt.toNat ≤ 12 := hmf.1
        have hsqb9 := cpF_b hshb (b := fBy (lt (pLr P x.toInt.toNat)) (ln (pLr P x.toInt.toNat)) y.toInt.toNat) (fun k => hmx.2.2.2.1 _) 0 (fLen (lt (pLr P x.toInt.toNat)) (ln (pLr P x.toInt.toNat)) y.toInt.toNat)
        refine x_goto C (tgt := 105) dX10_shown_58 (by decide) ?_
        refine x_L (L' := [(0, .ref mo), (1, .int (x)), (2, .int (y)), (3, .int (z))]) [2, 3, 4, 5] rfl ?_
        exact cut105 (0 + (fLen (lt (pLr P x.toInt.toNat)) (ln (pLr P x.toInt.toNat)) y.toInt.toNat)) (cpF ((fBy (lt (pLr P x.toInt.toNat)) (ln (pLr P x.toInt.toNat)) y.toInt.toNat)) sh9 0 (fLen (lt (pLr P x.toInt.toNat)) (ln (pLr P x.toInt.toNat)) y.toInt.toNat)) (by first | omega | exact hnq9) (by first | exact hshb | exact hsqb9) (by first | (intro hh; exact absurd hh (by assumption)) | (intro hh; exact hyes9)) (by first | (intro hh; rfl) | (intro hh; exact absurd (by assumption) hh))
  · skip
    obtain ⟨rfl, rfl, hc25⟩ := hp8
    refine x_ws (ws' := [(mo, .inr (9, [.int (nI cols), .int (nI lc), .int (nI smp), .int (ky), .ref (mr 0), .ref (mr 1), .ref (mr 2), .ref (mr 3), .ref (mr 4), .ref (mr 5), .ref (mr 6), .ref (mr 7), .ref (mr 8), .ref (mr 9), .int (nI (pMk P)), .int (nI (pRs P)), .ref (mr 10), .ref (mr 11), .ref (mr 12), .ref (mr 13), .ref (mr 14), .ref (mr 15), .ref (mr 16), .ref (mr 17), .ref (mr 18), .ref (mr 19), .ref (mr 20), .int (nI nse), .int (nI npa), .int (nI nbo), .ref (mr 21), .int (nI tn), .ref (mr 22), .int (nI ik), .int (j0), .int (j1), .ref (mr 23), .int (j2), .ref (mr 24), .ref (mr 25), .int (j3), .ref (mr 26), .int (nI 0), .ref (mr 27), .ref (mr 28), .ref (mr 29), .ref (mr 30)])), (mr 10, .inl (cy 1, 24, .inl (fun k => nI (lr9 k)))), (mr 3, .inl (cy 1, 5, .inl (fun k => nI (st9 k)))), (mr 6, .inl (cy 1, 24, .inl (fun k => nI (fn k)))), (mr 7, .inl (cy 1, 120, .inl (fun k => nI (fo k)))), (mr 8, .inl (cy 2, 120, .inr (.inl ex))), (mr 9, .inl (cy 2, 120, .inr (.inl wo))), (mr 4, .inl (cy 1, 1440, .inl (fun k => nI (by9 k)))), (mr 5, .inl (cy 1, 24, .inl (fun k => nI (lz k)))), (mr 26, .inl (cy 1, 24, .inl (fun k => nI (sh9 k))))]) rfl ?_
    have hhv := hc25
    refine x_if_eq C (tgt := 105) dX10_shown_11 (by decide) (q := 14) rfl (a := 0) rfl (fun h26 => ?_) (fun h26 => (by omega : False).elim)
    exact cut105 0 sh9 (by first | omega | exact hnq9) (by first | exact hshb | exact hsqb9) (by first | (intro hh; exact absurd hh (by assumption)) | (intro hh; exact hyes9)) (by first | (intro hh; rfl) | (intro hh; exact absurd (by assumption) hh))
