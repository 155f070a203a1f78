set_option maxHeartbeats 4000000 in
set_option maxRecDepth 100000 in
/-- shift, from one TAPE to another -/
theorem c_X9_shift (l : Launch) (D : va_G) (cy : Nat → ClassId) (fi : Nat) (tO : Nat) (gO : Nat) (nO : Nat) (tb : Nat) (tb' : Nat) (trO : Nat) (gA : Nat) (tP : Nat) (kf : Nat) (tpf : Nat → Option Nat) (ta : Nat) (tb9 : Nat) (so : Int32) (n : Nat) (f : Nat → Int64) (ta2 : Nat) (tb2 : Nat) (so2 : Int32) (n2 : Nat) (f2 : Nat → Int64) (x : Int32) (y : Int32) (z : Int32) (w : Int32) (v : Int32) (htp : ∀ k, k < 6 → ∃ a, tpf k = some a) (hx0 : 0 ≤ x.toInt) (hx6 : x.toInt < 6) (hta : tpf x.toInt.toNat = some ta) (hn : n ≤ 60) (hz0 : 0 ≤ z.toInt) (hz6 : z.toInt < 6) (hta2 : tpf z.toInt.toNat = some ta2) (hn2 : n2 ≤ 60) : xMet l D cy xT yX9_shift wsX9_shift ({ frames := 3, cells := 0, slots := 0, locals := 400 } : Room) [.ref fi, .int (x), .int (y), .int (z), .int (w), .int (v)] [(fi, .inr (8, [.ref tO, .ref gO, .ref nO, .ref tb, .ref tb', .ref trO, .ref gA, .ref tP, .int (nI kf)])), (tP, .inl (cy 5, 6, .inr (.inr (.inr (.inr tpf))))), (ta, .inr (7, [.ref tb9, .int (so), .int (nI n)])), (tb9, .inl (cy 2, 60, .inr (.inl f))), (ta2, .inr (7, [.ref tb2, .int (so2), .int (nI n2)])), (tb2, .inl (cy 2, 60, .inr (.inl f2)))] [] (fun (v9 : Option Value) (w9 : va_W) => (v9 = some (.int (shiA (so, n, f) (so2, n2, f2) y w v)) ∧ w9 = [(fi, .inr (8, [.ref tO, .ref gO, .ref nO, .ref tb, .ref tb', .ref trO, .ref gA, .ref tP, .int (nI kf)])), (tP, .inl (cy 5, 6, .inr (.inr (.inr (.inr tpf))))), (ta, .inr (7, [.ref tb9, .int (so), .int (nI n)])), (tb9, .inl (cy 2, 60, .inr (.inl f))), (ta2, .inr (7, [.ref tb2, .int (so2), .int (nI n2)])), (tb2, .inl (cy 2, 60, .inr (.inl (shiN (so, n, f) (so2, n2, f2) y w v))))])) := by
  refine xMet_of (cc := cX9_shift) (maxL := 8) (ret := (some .int)) (by decide) rfl (Nat.le_of_ble_eq_true rfl) (fun p e s m args below meth c A R Q hA hR hQ C hr hnm hro hX => ?_)
  have hw0 : ∀ w ∈ u_ws RX8 TX8 3, w ∈ wsX9_shift := by decide +kernel
  have hw1 : Cond.fieldLink RX9 258 (TX8 1).1 (TX8 1).2.1 (TX8 1).2.2.1 ∈ wsX9_shift := by decide +kernel
  have hw2 : Cond.fieldLink RX9 283 (TX8 0).1 (TX8 0).2.1 (TX8 0).2.2.1 ∈ wsX9_shift := by decide +kernel
  have hw3 : Cond.methodLink RX9 286 arraycopyName ∈ wsX9_shift := by decide +kernel
  have hw4 : Cond.native arraycopyName ∈ wsX9_shift := by decide +kernel
  have hw5 : Cond.static arraycopyName ∈ wsX9_shift := by decide +kernel
  have hw6 : Cond.initialized "java/lang/System" ∈ wsX9_shift := by decide +kernel
  refine x_L (L' := [(0, .ref fi), (1, .int (x)), (2, .int (y)), (3, .int (z)), (4, .int (w)), (5, .int (v))]) [0, 1, 2, 3, 4, 5] rfl ?_
  refine x_aload_n C dX9_shift_0 (q := 1) rfl rfl 0 rfl ?_
  refine x_iload_n C dX9_shift_1 (q := 2) rfl rfl 1 rfl ?_
  refine x_callV C (roW := []) (roR := []) (c_X9_tapeAt l D cy fi tO gO nO tb tb' trO gA tP kf tpf x (by assumption)) (cwV 1 C.2.2.2.2.1 gX9_shift_X9_tapeAt rfl rfl rfl (by decide +kernel) (by rw [hR]; exact ⟨Nat.le_of_ble_eq_true rfl, Nat.le_of_ble_eq_true rfl⟩)) [0, 1] [] rfl (by decide) rfl (by decide) xro_nil (List.mem_of_getElem? (i := 0) rfl) (ci := 8) rfl xT_bl (fun _ _ _ _ _ _ _ => trivial) rfl rfl dX9_shift_2 rfl rfl (Nat.le_of_ble_eq_true rfl) (q := 5) rfl (k' := 0) rfl (n' := 0) rfl (by rw [hR]; exact ⟨Nat.le_of_ble_eq_true rfl, Nat.le_of_ble_eq_true rfl⟩) (fun v1 w1 hp1 => ?_)
  rcases hp1 with hp1 | hp1
  · skip
    obtain ⟨a_2, rfl, rfl, hc3, hc4, hc5⟩ := hp1
    refine x_ws (ws' := [(fi, .inr (8, [.ref tO, .ref gO, .ref nO, .ref tb, .ref tb', .ref trO, .ref gA, .ref tP, .int (nI kf)])), (tP, .inl (cy 5, 6, .inr (.inr (.inr (.inr tpf))))), (ta, .inr (7, [.ref tb9, .int (so), .int (nI n)])), (tb9, .inl (cy 2, 60, .inr (.inl f))), (ta2, .inr (7, [.ref tb2, .int (so2), .int (nI n2)])), (tb2, .inl (cy 2, 60, .inr (.inl f2)))]) rfl ?_
    obtain rfl : ta = a_2 := Option.some.inj (hta.symm.trans hc5)
    refine x_astore C (L' := [(6, .ref ta), (0, .ref fi), (1, .int (x)), (2, .int (y)), (3, .int (z)), (4, .int (w)), (5, .int (v))]) dX9_shift_5 (q := 7) rfl (by decide) rfl ?_
    refine x_aload_n C dX9_shift_7 (q := 8) rfl rfl 1 rfl ?_
    refine x_iload_n C dX9_shift_8 (q := 9) rfl rfl 4 rfl ?_
    refine x_callV C (roW := []) (roR := []) (c_X9_tapeAt l D cy fi tO gO nO tb tb' trO gA tP kf tpf z (by assumption)) (cwV 1 C.2.2.2.2.1 gX9_shift_X9_tapeAt rfl rfl rfl (by decide +kernel) (by rw [hR]; exact ⟨Nat.le_of_ble_eq_true rfl, Nat.le_of_ble_eq_true rfl⟩)) [0, 1] [] rfl (by decide) rfl (by decide) xro_nil (List.mem_of_getElem? (i := 0) rfl) (ci := 8) rfl xT_bl (fun _ _ _ _ _ _ _ => trivial) rfl rfl dX9_shift_9 rfl rfl (Nat.le_of_ble_eq_true rfl) (q := 12) rfl (k' := 0) rfl (n' := 0) rfl (by rw [hR]; exact ⟨Nat.le_of_ble_eq_true rfl, Nat.le_of_ble_eq_true rfl⟩) (fun v6 w6 hp6 => ?_)
    rcases hp6 with hp6 | hp6
    · skip
      obtain ⟨a_7, rfl, rfl, hc8, hc9, hc10⟩ := hp6
      refine x_ws (ws' := [(fi, .inr (8, [.ref tO, .ref gO, .ref nO, .ref tb, .ref tb', .ref trO, .ref gA, .ref tP, .int (nI kf)])), (tP, .inl (cy 5, 6, .inr (.inr (.inr (.inr tpf))))), (ta, .inr (7, [.ref tb9, .int (so), .int (nI n)])), (tb9, .inl (cy 2, 60, .inr (.inl f))), (ta2, .inr (7, [.ref tb2, .int (so2), .int (nI n2)])), (tb2, .inl (cy 2, 60, .inr (.inl f2)))]) rfl ?_
      obtain rfl : ta2 = a_7 := Option.some.inj (hta2.symm.trans hc10)
      refine x_astore C (L' := [(7, .ref ta2), (6, .ref ta), (0, .ref fi), (1, .int (x)), (2, .int (y)), (3, .int (z)), (4, .int (w)), (5, .int (v))]) dX9_shift_12 (q := 14) rfl (by decide) rfl ?_
      refine x_aload C dX9_shift_14 (q := 16) rfl 1 rfl ?_
      refine x_ifnull C dX9_shift_16 (q := 19) rfl ?_
      refine x_aload C dX9_shift_19 (q := 21) rfl 0 rfl ?_
      refine x_ifnonnull C (tgt := 26) dX9_shift_21 (by decide) ?_
      refine x_aload C dX9_shift_26 (q := 28) rfl 1 rfl ?_
      refine x_get C (ci := 7) (v := .int (so)) hw0 2 rfl rfl 1 (by decide) hw1 rfl dX9_shift_28 (q := 31) rfl ?_
      refine x_iconst C dX9_shift_31 (q := 32) rfl (v := (-1)) (by decide) ?_
      refine x_icmp_eq C (tgt := 44) dX9_shift_32 (by decide) (q := 35) rfl (a := so.toInt) (b := (-1)) rfl rfl (fun h11 => ?_) (fun h11 => ?_)
      · first
        | (exfalso; omega)
        |
          refine x_bipush C dX9_shift_44 (q := 46) rfl (v := (-11)) (by decide) ?_
          refine x_iret C hA hQ hr dX9_shift_46 (Nat.le_of_ble_eq_true rfl) ?_
          unfold shiA shiN
          dsimp only
          repeat (first | rw [if_pos (by omega)] | rw [if_neg (by omega)])
          exact ⟨rfl, rfl⟩
      · first
        | (exfalso; omega)
        |
          refine x_aload C dX9_shift_35 (q := 37) rfl 0 rfl ?_
          refine x_get C (ci := 7) (v := .int (so2)) hw0 4 rfl rfl 1 (by decide) hw1 rfl dX9_shift_37 (q := 40) rfl ?_
          refine x_iconst C dX9_shift_40 (q := 41) rfl (v := (-1)) (by decide) ?_
          refine x_icmp_ne C (tgt := 47) dX9_shift_41 (by decide) (q := 44) rfl (a := so2.toInt) (b := (-1)) rfl rfl (fun h12 => ?_) (fun h12 => ?_)
          · first
            | (exfalso; omega)
            |
              refine x_aload C dX9_shift_47 (q := 49) rfl 1 rfl ?_
              refine x_get C (ci := 7) (v := .int (so)) hw0 2 rfl rfl 1 (by decide) hw1 rfl dX9_shift_49 (q := 52) rfl ?_
              refine x_aload C dX9_shift_52 (q := 54) rfl 0 rfl ?_
              refine x_get C (ci := 7) (v := .int (so2)) hw0 4 rfl rfl 1 (by decide) hw1 rfl dX9_shift_54 (q := 57) rfl ?_
              refine x_icmp_eq C (tgt := 63) dX9_shift_57 (by decide) (q := 60) rfl (a := so.toInt) (b := so2.toInt) rfl rfl (fun h13 => ?_) (fun h13 => ?_)
              · first
                | (exfalso; omega)
                |
                  refine x_aload C dX9_shift_63 (q := 65) rfl 1 rfl ?_
                  refine x_iload_n C dX9_shift_65 (q := 66) rfl rfl 4 rfl ?_
                  refine x_iload C dX9_shift_66 (q := 68) rfl 7 rfl ?_
                  refine x_callV C (roW := [(ta, .inr (7, [.ref tb9, .int (so), .int (nI n)])), (tb9, .inl (cy 2, 60, .inr (.inl f)))]) (roR := []) (c_X8_hasStretch l D cy ta tb9 so n f y v (by first | assumption | omega | (simp only []; omega))) (cwV 2 C.2.2.2.2.1 gX9_shift_X8_hasStretch rfl rfl rfl (by decide +kernel) (by rw [hR]; exact ⟨Nat.le_of_ble_eq_true rfl, Nat.le_of_ble_eq_true rfl⟩)) [] [2, 3] rfl (by decide) rfl (by decide) xro_nil (List.mem_of_getElem? (i := 0) rfl) (ci := 7) rfl xT_bl (fun _ _ _ _ _ _ _ => trivial) rfl rfl dX9_shift_68 rfl rfl (Nat.le_of_ble_eq_true rfl) (q := 71) rfl (k' := 0) rfl (n' := 0) rfl (by rw [hR]; exact ⟨Nat.le_of_ble_eq_true rfl, Nat.le_of_ble_eq_true rfl⟩) (fun v14 w14 hp14 => ?_)
                  rcases hp14 with hp14 | hp14
                  · skip
                    obtain ⟨rfl, rfl, hc15, hc16, hc17⟩ := hp14
                    refine x_ws (ws' := [(fi, .inr (8, [.ref tO, .ref gO, .ref nO, .ref tb, .ref tb', .ref trO, .ref gA, .ref tP, .int (nI kf)])), (tP, .inl (cy 5, 6, .inr (.inr (.inr (.inr tpf))))), (ta, .inr (7, [.ref tb9, .int (so), .int (nI n)])), (tb9, .inl (cy 2, 60, .inr (.inl f))), (ta2, .inr (7, [.ref tb2, .int (so2), .int (nI n2)])), (tb2, .inl (cy 2, 60, .inr (.inl f2)))]) (List.append_nil _) ?_
                    refine x_if_eq C (tgt := 86) dX9_shift_71 (by decide) (q := 74) rfl (a := 1) rfl (fun h18 => (by omega : False).elim) (fun h18 => ?_)
                    refine x_aload C dX9_shift_74 (q := 76) rfl 0 rfl ?_
                    refine x_iload C dX9_shift_76 (q := 78) rfl 6 rfl ?_
                    refine x_iload C dX9_shift_78 (q := 80) rfl 7 rfl ?_
                    refine x_callV C (roW := [(ta2, .inr (7, [.ref tb2, .int (so2), .int (nI n2)])), (tb2, .inl (cy 2, 60, .inr (.inl f2)))]) (roR := []) (c_X8_hasStretch l D cy ta2 tb2 so2 n2 f2 w v (by first | assumption | omega | (simp only []; omega))) (cwV 2 C.2.2.2.2.1 gX9_shift_X8_hasStretch rfl rfl rfl (by decide +kernel) (by rw [hR]; exact ⟨Nat.le_of_ble_eq_true rfl, Nat.le_of_ble_eq_true rfl⟩)) [] [4, 5] rfl (by decide) rfl (by decide) xro_nil (List.mem_of_getElem? (i := 0) rfl) (ci := 7) rfl xT_bl (fun _ _ _ _ _ _ _ => trivial) rfl rfl dX9_shift_80 rfl rfl (Nat.le_of_ble_eq_true rfl) (q := 83) rfl (k' := 0) rfl (n' := 0) rfl (by rw [hR]; exact ⟨Nat.le_of_ble_eq_true rfl, Nat.le_of_ble_eq_true rfl⟩) (fun v19 w19 hp19 => ?_)
                    rcases hp19 with hp19 | hp19
                    · skip
                      obtain ⟨rfl, rfl, hc20, hc21, hc22⟩ := hp19
                      refine x_ws (ws' := [(fi, .inr (8, [.ref tO, .ref gO, .ref nO, .ref tb, .ref tb', .ref trO, .ref gA, .ref tP, .int (nI kf)])), (tP, .inl (cy 5, 6, .inr (.inr (.inr (.inr tpf))))), (ta, .inr (7, [.ref tb9, .int (so), .int (nI n)])), (tb9, .inl (cy 2, 60, .inr (.inl f))), (ta2, .inr (7, [.ref tb2, .int (so2), .int (nI n2)])), (tb2, .inl (cy 2, 60, .inr (.inl f2)))]) (List.append_nil _) ?_
                      refine x_if_ne C (tgt := 89) dX9_shift_83 (by decide) (q := 86) rfl (a := 1) rfl (fun h23 => ?_) (fun h23 => (by omega : False).elim)
                      refine x_aload C dX9_shift_89 (q := 91) rfl 1 rfl ?_
                      refine x_get C (ci := 7) (v := .ref tb9) hw0 2 rfl rfl 0 (by decide) hw2 rfl dX9_shift_91 (q := 94) rfl ?_
                      refine x_iload_n C dX9_shift_94 (q := 95) rfl rfl 4 rfl ?_
                      refine x_aload C dX9_shift_95 (q := 97) rfl 0 rfl ?_
                      refine x_get C (ci := 7) (v := .ref tb2) hw0 4 rfl rfl 0 (by decide) hw2 rfl dX9_shift_97 (q := 100) rfl ?_
                      refine x_iload C dX9_shift_100 (q := 102) rfl 6 rfl ?_
                      refine x_iload C dX9_shift_102 (q := 104) rfl 7 rfl ?_
                      refine x_copyJ C (sp := y.toInt.toNat) (dp := w.toInt.toNat) (cn := v.toInt.toNat) (ws' := [(fi, .inr (8, [.ref tO, .ref gO, .ref nO, .ref tb, .ref tb', .ref trO, .ref gA, .ref tP, .int (nI kf)])), (tP, .inl (cy 5, 6, .inr (.inr (.inr (.inr tpf))))), (ta, .inr (7, [.ref tb9, .int (so), .int (nI n)])), (tb9, .inl (cy 2, 60, .inr (.inl f))), (ta2, .inr (7, [.ref tb2, .int (so2), .int (nI n2)])), (tb2, .inl (cy 2, 60, .inr (.inl (va_cpy f f2 y.toInt.toNat w.toInt.toNat v.toInt.toNat))))]) hw3 hw4 hw5 hw6 3 5 rfl rfl (by have h9 := (rfl : (y : Int32).toInt = y.toInt); omega) (by have h9 := (rfl : (w : Int32).toInt = w.toInt); omega) (by have h9 := (rfl : (v : Int32).toInt = v.toInt); omega) (by omega) (by omega) (rfl) rfl (by rw [hR]; exact Nat.le_of_ble_eq_true rfl) (by rw [hR]; exact Nat.le_of_ble_eq_true rfl) dX9_shift_104 (q := 107) rfl ?_
                      refine x_iload C dX9_shift_107 (q := 109) rfl 7 rfl ?_
                      refine x_iret C hA hQ hr dX9_shift_109 (Nat.le_of_ble_eq_true rfl) ?_
                      unfold shiA shiN
                      dsimp only
                      repeat (first | rw [if_pos (by omega)] | rw [if_neg (by omega)])
                      exact ⟨rfl, rfl⟩
                    · skip
                      obtain ⟨rfl, rfl, hc24⟩ := hp19
                      refine x_ws (ws' := [(fi, .inr (8, [.ref tO, .ref gO, .ref nO, .ref tb, .ref tb', .ref trO, .ref gA, .ref tP, .int (nI kf)])), (tP, .inl (cy 5, 6, .inr (.inr (.inr (.inr tpf))))), (ta, .inr (7, [.ref tb9, .int (so), .int (nI n)])), (tb9, .inl (cy 2, 60, .inr (.inl f))), (ta2, .inr (7, [.ref tb2, .int (so2), .int (nI n2)])), (tb2, .inl (cy 2, 60, .inr (.inl f2)))]) (List.append_nil _) ?_
                      refine x_if_ne C (tgt := 89) dX9_shift_83 (by decide) (q := 86) rfl (a := 0) rfl (fun h25 => (by omega : False).elim) (fun h25 => ?_)
                      refine x_bipush C dX9_shift_86 (q := 88) rfl (v := (-13)) (by decide) ?_
                      refine x_iret C hA hQ hr dX9_shift_88 (Nat.le_of_ble_eq_true rfl) ?_
                      unfold shiA shiN
                      dsimp only
                      repeat (first | rw [if_pos (by omega)] | rw [if_neg (by omega)])
                      exact ⟨rfl, rfl⟩
                  · skip
                    obtain ⟨rfl, rfl, hc26⟩ := hp14
                    refine x_ws (ws' := [(fi, .inr (8, [.ref tO, .ref gO, .ref nO, .ref tb, .ref tb', .ref trO, .ref gA, .ref tP, .int (nI kf)])), (tP, .inl (cy 5, 6, .inr (.inr (.inr (.inr tpf))))), (ta, .inr (7, [.ref tb9, .int (so), .int (nI n)])), (tb9, .inl (cy 2, 60, .inr (.inl f))), (ta2, .inr (7, [.ref tb2, .int (so2), .int (nI n2)])), (tb2, .inl (cy 2, 60, .inr (.inl f2)))]) (List.append_nil _) ?_
                    refine x_if_eq C (tgt := 86) dX9_shift_71 (by decide) (q := 74) rfl (a := 0) rfl (fun h27 => ?_) (fun h27 => (by omega : False).elim)
                    refine x_bipush C dX9_shift_86 (q := 88) rfl (v := (-13)) (by decide) ?_
                    refine x_iret C hA hQ hr dX9_shift_88 (Nat.le_of_ble_eq_true rfl) ?_
                    unfold shiA shiN
                    dsimp only
                    repeat (first | rw [if_pos (by omega)] | rw [if_neg (by omega)])
                    exact ⟨rfl, rfl⟩
              · first
                | (exfalso; omega)
                |
                  refine x_bipush C dX9_shift_60 (q := 62) rfl (v := (-12)) (by decide) ?_
                  refine x_iret C hA hQ hr dX9_shift_62 (Nat.le_of_ble_eq_true rfl) ?_
                  unfold shiA shiN
                  dsimp only
                  repeat (first | rw [if_pos (by omega)] | rw [if_neg (by omega)])
                  exact ⟨rfl, rfl⟩
          · first
            | (exfalso; omega)
            |
              refine x_bipush C dX9_shift_44 (q := 46) rfl (v := (-11)) (by decide) ?_
              refine x_iret C hA hQ hr dX9_shift_46 (Nat.le_of_ble_eq_true rfl) ?_
              unfold shiA shiN
              dsimp only
              repeat (first | rw [if_pos (by omega)] | rw [if_neg (by omega)])
              exact ⟨rfl, rfl⟩
    · skip
      obtain ⟨rfl, rfl, hc28⟩ := hp6
      refine x_ws (ws' := [(fi, .inr (8, [.ref tO, .ref gO, .ref nO, .ref tb, .ref tb', .ref trO, .ref gA, .ref tP, .int (nI kf)])), (tP, .inl (cy 5, 6, .inr (.inr (.inr (.inr tpf))))), (ta, .inr (7, [.ref tb9, .int (so), .int (nI n)])), (tb9, .inl (cy 2, 60, .inr (.inl f))), (ta2, .inr (7, [.ref tb2, .int (so2), .int (nI n2)])), (tb2, .inl (cy 2, 60, .inr (.inl f2)))]) rfl ?_
      exfalso; omega
  · skip
    obtain ⟨rfl, rfl, hc29⟩ := hp1
    refine x_ws (ws' := [(fi, .inr (8, [.ref tO, .ref gO, .ref nO, .ref tb, .ref tb', .ref trO, .ref gA, .ref tP, .int (nI kf)])), (tP, .inl (cy 5, 6, .inr (.inr (.inr (.inr tpf))))), (ta, .inr (7, [.ref tb9, .int (so), .int (nI n)])), (tb9, .inl (cy 2, 60, .inr (.inl f))), (ta2, .inr (7, [.ref tb2, .int (so2), .int (nI n2)])), (tb2, .inl (cy 2, 60, .inr (.inl f2)))]) rfl ?_
    exfalso; omega

set_option maxHeartbeats 4000000 in
set_option maxRecDepth 100000 in
/-- shift, within a TAPE -/
theorem c_X9_shift_s (l : Launch) (D : va_G) (cy : Nat → ClassId) (fi : Nat) (tO : Nat) (gO : Nat) (nO : Nat) (tb : Nat) (tb' : Nat) (trO : Nat) (gA : Nat) (tP : Nat) (kf : Nat) (tpf : Nat → Option Nat) (ta : Nat) (tb9 : Nat) (so : Int32) (n : Nat) (f : Nat → Int64) (x : Int32) (y : Int32) (z : Int32) (w : Int32) (v : Int32) (htp : ∀ k, k < 6 → ∃ a, tpf k = some a) (hx0 : 0 ≤ x.toInt) (hx6 : x.toInt < 6) (hta : tpf x.toInt.toNat = some ta) (hn : n ≤ 60) (hz0 : 0 ≤ z.toInt) (hz6 : z.toInt < 6) (hta2 : tpf z.toInt.toNat = some ta) : xMet l D cy xT yX9_shift wsX9_shift ({ frames := 3, cells := 0, slots := 0, locals := 400 } : Room) [.ref fi, .int (x), .int (y), .int (z), .int (w), .int (v)] [(fi, .inr (8, [.ref tO, .ref gO, .ref nO, .ref tb, .ref tb', .ref trO, .ref gA, .ref tP, .int (nI kf)])), (tP, .inl (cy 5, 6, .inr (.inr (.inr (.inr tpf))))), (ta, .inr (7, [.ref tb9, .int (so), .int (nI n)])), (tb9, .inl (cy 2, 60, .inr (.inl f)))] [] (fun (v9 : Option Value) (w9 : va_W) => (v9 = some (.int (shiA (so, n, f) (so, n, f) y w v)) ∧ w9 = [(fi, .inr (8, [.ref tO, .ref gO, .ref nO, .ref tb, .ref tb', .ref trO, .ref gA, .ref tP, .int (nI kf)])), (tP, .inl (cy 5, 6, .inr (.inr (.inr (.inr tpf))))), (ta, .inr (7, [.ref tb9, .int (so), .int (nI n)])), (tb9, .inl (cy 2, 60, .inr (.inl (shiN (so, n, f) (so, n, f) y w v))))])) := by
  refine xMet_of (cc := cX9_shift) (maxL := 8) (ret := (some .int)) (by decide) rfl (Nat.le_of_ble_eq_true rfl) (fun p e s m args below meth c A R Q hA hR hQ C hr hnm hro hX => ?_)
  have hw0 : ∀ w ∈ u_ws RX8 TX8 3, w ∈ wsX9_shift := by decide +kernel
  have hw1 : Cond.fieldLink RX9 258 (TX8 1).1 (TX8 1).2.1 (TX8 1).2.2.1 ∈ wsX9_shift := by decide +kernel
  have hw2 : Cond.fieldLink RX9 283 (TX8 0).1 (TX8 0).2.1 (TX8 0).2.2.1 ∈ wsX9_shift := by decide +kernel
  have hw3 : Cond.methodLink RX9 286 arraycopyName ∈ wsX9_shift := by decide +kernel
  have hw4 : Cond.native arraycopyName ∈ wsX9_shift := by decide +kernel
  have hw5 : Cond.static arraycopyName ∈ wsX9_shift := by decide +kernel
  have hw6 : Cond.initialized "java/lang/System" ∈ wsX9_shift := by decide +kernel
  refine x_L (L' := [(0, .ref fi), (1, .int (x)), (2, .int (y)), (3, .int (z)), (4, .int (w)), (5, .int (v))]) [0, 1, 2, 3, 4, 5] rfl ?_
  refine x_aload_n C dX9_shift_0 (q := 1) rfl rfl 0 rfl ?_
  refine x_iload_n C dX9_shift_1 (q := 2) rfl rfl 1 rfl ?_
  refine x_callV C (roW := []) (roR := []) (c_X9_tapeAt l D cy fi tO gO nO tb tb' trO gA tP kf tpf x (by assumption)) (cwV 1 C.2.2.2.2.1 gX9_shift_X9_tapeAt rfl rfl rfl (by decide +kernel) (by rw [hR]; exact ⟨Nat.le_of_ble_eq_true rfl, Nat.le_of_ble_eq_true rfl⟩)) [0, 1] [] rfl (by decide) rfl (by decide) xro_nil (List.mem_of_getElem? (i := 0) rfl) (ci := 8) rfl xT_bl (fun _ _ _ _ _ _ _ => trivial) rfl rfl dX9_shift_2 rfl rfl (Nat.le_of_ble_eq_true rfl) (q := 5) rfl (k' := 0) rfl (n' := 0) rfl (by rw [hR]; exact ⟨Nat.le_of_ble_eq_true rfl, Nat.le_of_ble_eq_true rfl⟩) (fun v1 w1 hp1 => ?_)
  rcases hp1 with hp1 | hp1
  · skip
    obtain ⟨a_2, rfl, rfl, hc3, hc4, hc5⟩ := hp1
    refine x_ws (ws' := [(fi, .inr (8, [.ref tO, .ref gO, .ref nO, .ref tb, .ref tb', .ref trO, .ref gA, .ref tP, .int (nI kf)])), (tP, .inl (cy 5, 6, .inr (.inr (.inr (.inr tpf))))), (ta, .inr (7, [.ref tb9, .int (so), .int (nI n)])), (tb9, .inl (cy 2, 60, .inr (.inl f)))]) rfl ?_
    obtain rfl : ta = a_2 := Option.some.inj (hta.symm.trans hc5)
    refine x_astore C (L' := [(6, .ref ta), (0, .ref fi), (1, .int (x)), (2, .int (y)), (3, .int (z)), (4, .int (w)), (5, .int (v))]) dX9_shift_5 (q := 7) rfl (by decide) rfl ?_
    refine x_aload_n C dX9_shift_7 (q := 8) rfl rfl 1 rfl ?_
    refine x_iload_n C dX9_shift_8 (q := 9) rfl rfl 4 rfl ?_
    refine x_callV C (roW := []) (roR := []) (c_X9_tapeAt l D cy fi tO gO nO tb tb' trO gA tP kf tpf z (by assumption)) (cwV 1 C.2.2.2.2.1 gX9_shift_X9_tapeAt rfl rfl rfl (by decide +kernel) (by rw [hR]; exact ⟨Nat.le_of_ble_eq_true rfl, Nat.le_of_ble_eq_true rfl⟩)) [0, 1] [] rfl (by decide) rfl (by decide) xro_nil (List.mem_of_getElem? (i := 0) rfl) (ci := 8) rfl xT_bl (fun _ _ _ _ _ _ _ => trivial) rfl rfl dX9_shift_9 rfl rfl (Nat.le_of_ble_eq_true rfl) (q := 12) rfl (k' := 0) rfl (n' := 0) rfl (by rw [hR]; exact ⟨Nat.le_of_ble_eq_true rfl, Nat.le_of_ble_eq_true rfl⟩) (fun v6 w6 hp6 => ?_)
    rcases hp6 with hp6 | hp6
    · skip
      obtain ⟨a_7, rfl, rfl, hc8, hc9, hc10⟩ := hp6
      refine x_ws (ws' := [(fi, .inr (8, [.ref tO, .ref gO, .ref nO, .ref tb, .ref tb', .ref trO, .ref gA, .ref tP, .int (nI kf)])), (tP, .inl (cy 5, 6, .inr (.inr (.inr (.inr tpf))))), (ta, .inr (7, [.ref tb9, .int (so), .int (nI n)])), (tb9, .inl (cy 2, 60, .inr (.inl f)))]) rfl ?_
      obtain rfl : ta = a_7 := Option.some.inj (hta2.symm.trans hc10)
      refine x_astore C (L' := [(7, .ref ta), (6, .ref ta), (0, .ref fi), (1, .int (x)), (2, .int (y)), (3, .int (z)), (4, .int (w)), (5, .int (v))]) dX9_shift_12 (q := 14) rfl (by decide) rfl ?_
      refine x_aload C dX9_shift_14 (q := 16) rfl 1 rfl ?_
      refine x_ifnull C dX9_shift_16 (q := 19) rfl ?_
      refine x_aload C dX9_shift_19 (q := 21) rfl 0 rfl ?_
      refine x_ifnonnull C (tgt := 26) dX9_shift_21 (by decide) ?_
      refine x_aload C dX9_shift_26 (q := 28) rfl 1 rfl ?_
      refine x_get C (ci := 7) (v := .int (so)) hw0 2 rfl rfl 1 (by decide) hw1 rfl dX9_shift_28 (q := 31) rfl ?_
      refine x_iconst C dX9_shift_31 (q := 32) rfl (v := (-1)) (by decide) ?_
      refine x_icmp_eq C (tgt := 44) dX9_shift_32 (by decide) (q := 35) rfl (a := so.toInt) (b := (-1)) rfl rfl (fun h11 => ?_) (fun h11 => ?_)
      · first
        | (exfalso; omega)
        |
          refine x_bipush C dX9_shift_44 (q := 46) rfl (v := (-11)) (by decide) ?_
          refine x_iret C hA hQ hr dX9_shift_46 (Nat.le_of_ble_eq_true rfl) ?_
          unfold shiA shiN
          dsimp only
          repeat (first | rw [if_pos (by omega)] | rw [if_neg (by omega)])
          exact ⟨rfl, rfl⟩
      · first
        | (exfalso; omega)
        |
          refine x_aload C dX9_shift_35 (q := 37) rfl 0 rfl ?_
          refine x_get C (ci := 7) (v := .int (so)) hw0 2 rfl rfl 1 (by decide) hw1 rfl dX9_shift_37 (q := 40) rfl ?_
          refine x_iconst C dX9_shift_40 (q := 41) rfl (v := (-1)) (by decide) ?_
          refine x_icmp_ne C (tgt := 47) dX9_shift_41 (by decide) (q := 44) rfl (a := so.toInt) (b := (-1)) rfl rfl (fun h12 => ?_) (fun h12 => ?_)
          · first
            | (exfalso; omega)
            |
              refine x_aload C dX9_shift_47 (q := 49) rfl 1 rfl ?_
              refine x_get C (ci := 7) (v := .int (so)) hw0 2 rfl rfl 1 (by decide) hw1 rfl dX9_shift_49 (q := 52) rfl ?_
              refine x_aload C dX9_shift_52 (q := 54) rfl 0 rfl ?_
              refine x_get C (ci := 7) (v := .int (so)) hw0 2 rfl rfl 1 (by decide) hw1 rfl dX9_shift_54 (q := 57) rfl ?_
              refine x_icmp_eq C (tgt := 63) dX9_shift_57 (by decide) (q := 60) rfl (a := so.toInt) (b := so.toInt) rfl rfl (fun h13 => ?_) (fun h13 => ?_)
              · first
                | (exfalso; omega)
                |
                  refine x_aload C dX9_shift_63 (q := 65) rfl 1 rfl ?_
                  refine x_iload_n C dX9_shift_65 (q := 66) rfl rfl 4 rfl ?_
                  refine x_iload C dX9_shift_66 (q := 68) rfl 7 rfl ?_
                  refine x_callV C (roW := [(ta, .inr (7, [.ref tb9, .int (so), .int (nI n)])), (tb9, .inl (cy 2, 60, .inr (.inl f)))]) (roR := []) (c_X8_hasStretch l D cy ta tb9 so n f y v (by first | assumption | omega | (simp only []; omega))) (cwV 2 C.2.2.2.2.1 gX9_shift_X8_hasStretch rfl rfl rfl (by decide +kernel) (by rw [hR]; exact ⟨Nat.le_of_ble_eq_true rfl, Nat.le_of_ble_eq_true rfl⟩)) [] [2, 3] rfl (by decide) rfl (by decide) xro_nil (List.mem_of_getElem? (i := 0) rfl) (ci := 7) rfl xT_bl (fun _ _ _ _ _ _ _ => trivial) rfl rfl dX9_shift_68 rfl rfl (Nat.le_of_ble_eq_true rfl) (q := 71) rfl (k' := 0) rfl (n' := 0) rfl (by rw [hR]; exact ⟨Nat.le_of_ble_eq_true rfl, Nat.le_of_ble_eq_true rfl⟩) (fun v14 w14 hp14 => ?_)
                  rcases hp14 with hp14 | hp14
                  · skip
                    obtain ⟨rfl, rfl, hc15, hc16, hc17⟩ := hp14
                    refine x_ws (ws' := [(fi, .inr (8, [.ref tO, .ref gO, .ref nO, .ref tb, .ref tb', .ref trO, .ref gA, .ref tP, .int (nI kf)])), (tP, .inl (cy 5, 6, .inr (.inr (.inr (.inr tpf))))), (ta, .inr (7, [.ref tb9, .int (so), .int (nI n)])), (tb9, .inl (cy 2, 60, .inr (.inl f)))]) (List.append_nil _) ?_
                    refine x_if_eq C (tgt := 86) dX9_shift_71 (by decide) (q := 74) rfl (a := 1) rfl (fun h18 => (by omega : False).elim) (fun h18 => ?_)
                    refine x_aload C dX9_shift_74 (q := 76) rfl 0 rfl ?_
                    refine x_iload C dX9_shift_76 (q := 78) rfl 6 rfl ?_
                    refine x_iload C dX9_shift_78 (q := 80) rfl 7 rfl ?_
                    refine x_callV C (roW := [(ta, .inr (7, [.ref tb9, .int (so), .int (nI n)])), (tb9, .inl (cy 2, 60, .inr (.inl f)))]) (roR := []) (c_X8_hasStretch l D cy ta tb9 so n f w v (by first | assumption | omega | (simp only []; omega))) (cwV 2 C.2.2.2.2.1 gX9_shift_X8_hasStretch rfl rfl rfl (by decide +kernel) (by rw [hR]; exact ⟨Nat.le_of_ble_eq_true rfl, Nat.le_of_ble_eq_true rfl⟩)) [] [2, 3] rfl (by decide) rfl (by decide) xro_nil (List.mem_of_getElem? (i := 0) rfl) (ci := 7) rfl xT_bl (fun _ _ _ _ _ _ _ => trivial) rfl rfl dX9_shift_80 rfl rfl (Nat.le_of_ble_eq_true rfl) (q := 83) rfl (k' := 0) rfl (n' := 0) rfl (by rw [hR]; exact ⟨Nat.le_of_ble_eq_true rfl, Nat.le_of_ble_eq_true rfl⟩) (fun v19 w19 hp19 => ?_)
                    rcases hp19 with hp19 | hp19
                    · skip
                      obtain ⟨rfl, rfl, hc20, hc21, hc22⟩ := hp19
                      refine x_ws (ws' := [(fi, .inr (8, [.ref tO, .ref gO, .ref nO, .ref tb, .ref tb', .ref trO, .ref gA, .ref tP, .int (nI kf)])), (tP, .inl (cy 5, 6, .inr (.inr (.inr (.inr tpf))))), (ta, .inr (7, [.ref tb9, .int (so), .int (nI n)])), (tb9, .inl (cy 2, 60, .inr (.inl f)))]) (List.append_nil _) ?_
                      refine x_if_ne C (tgt := 89) dX9_shift_83 (by decide) (q := 86) rfl (a := 1) rfl (fun h23 => ?_) (fun h23 => (by omega : False).elim)
                      refine x_aload C dX9_shift_89 (q := 91) rfl 1 rfl ?_
                      refine x_get C (ci := 7) (v := .ref tb9) hw0 2 rfl rfl 0 (by decide) hw2 rfl dX9_shift_91 (q := 94) rfl ?_
                      refine x_iload_n C dX9_shift_94 (q := 95) rfl rfl 4 rfl ?_
                      refine x_aload C dX9_shift_95 (q := 97) rfl 0 rfl ?_
                      refine x_get C (ci := 7) (v := .ref tb9) hw0 2 rfl rfl 0 (by decide) hw2 rfl dX9_shift_97 (q := 100) rfl ?_
                      refine x_iload C dX9_shift_100 (q := 102) rfl 6 rfl ?_
                      refine x_iload C dX9_shift_102 (q := 104) rfl 7 rfl ?_
                      refine x_copyJ C (sp := y.toInt.toNat) (dp := w.toInt.toNat) (cn := v.toInt.toNat) (ws' := [(fi, .inr (8, [.ref tO, .ref gO, .ref nO, .ref tb, .ref tb', .ref trO, .ref gA, .ref tP, .int (nI kf)])), (tP, .inl (cy 5, 6, .inr (.inr (.inr (.inr tpf))))), (ta, .inr (7, [.ref tb9, .int (so), .int (nI n)])), (tb9, .inl (cy 2, 60, .inr (.inl (va_cpy f f y.toInt.toNat w.toInt.toNat v.toInt.toNat))))]) hw3 hw4 hw5 hw6 3 3 rfl rfl (by have h9 := (rfl : (y : Int32).toInt = y.toInt); omega) (by have h9 := (rfl : (w : Int32).toInt = w.toInt); omega) (by have h9 := (rfl : (v : Int32).toInt = v.toInt); omega) (by omega) (by omega) (rfl) rfl (by rw [hR]; exact Nat.le_of_ble_eq_true rfl) (by rw [hR]; exact Nat.le_of_ble_eq_true rfl) dX9_shift_104 (q := 107) rfl ?_
                      refine x_iload C dX9_shift_107 (q := 109) rfl 7 rfl ?_
                      refine x_iret C hA hQ hr dX9_shift_109 (Nat.le_of_ble_eq_true rfl) ?_
                      unfold shiA shiN
                      dsimp only
                      repeat (first | rw [if_pos (by omega)] | rw [if_neg (by omega)])
                      exact ⟨rfl, rfl⟩
                    · skip
                      obtain ⟨rfl, rfl, hc24⟩ := hp19
                      refine x_ws (ws' := [(fi, .inr (8, [.ref tO, .ref gO, .ref nO, .ref tb, .ref tb', .ref trO, .ref gA, .ref tP, .int (nI kf)])), (tP, .inl (cy 5, 6, .inr (.inr (.inr (.inr tpf))))), (ta, .inr (7, [.ref tb9, .int (so), .int (nI n)])), (tb9, .inl (cy 2, 60, .inr (.inl f)))]) (List.append_nil _) ?_
                      refine x_if_ne C (tgt := 89) dX9_shift_83 (by decide) (q := 86) rfl (a := 0) rfl (fun h25 => (by omega : False).elim) (fun h25 => ?_)
                      refine x_bipush C dX9_shift_86 (q := 88) rfl (v := (-13)) (by decide) ?_
                      refine x_iret C hA hQ hr dX9_shift_88 (Nat.le_of_ble_eq_true rfl) ?_
                      unfold shiA shiN
                      dsimp only
                      repeat (first | rw [if_pos (by omega)] | rw [if_neg (by omega)])
                      exact ⟨rfl, rfl⟩
                  · skip
                    obtain ⟨rfl, rfl, hc26⟩ := hp14
                    refine x_ws (ws' := [(fi, .inr (8, [.ref tO, .ref gO, .ref nO, .ref tb, .ref tb', .ref trO, .ref gA, .ref tP, .int (nI kf)])), (tP, .inl (cy 5, 6, .inr (.inr (.inr (.inr tpf))))), (ta, .inr (7, [.ref tb9, .int (so), .int (nI n)])), (tb9, .inl (cy 2, 60, .inr (.inl f)))]) (List.append_nil _) ?_
                    refine x_if_eq C (tgt := 86) dX9_shift_71 (by decide) (q := 74) rfl (a := 0) rfl (fun h27 => ?_) (fun h27 => (by omega : False).elim)
                    refine x_bipush C dX9_shift_86 (q := 88) rfl (v := (-13)) (by decide) ?_
                    refine x_iret C hA hQ hr dX9_shift_88 (Nat.le_of_ble_eq_true rfl) ?_
                    unfold shiA shiN
                    dsimp only
                    repeat (first | rw [if_pos (by omega)] | rw [if_neg (by omega)])
                    exact ⟨rfl, rfl⟩
              · first
                | (exfalso; omega)
                |
                  refine x_bipush C dX9_shift_60 (q := 62) rfl (v := (-12)) (by decide) ?_
                  refine x_iret C hA hQ hr dX9_shift_62 (Nat.le_of_ble_eq_true rfl) ?_
                  unfold shiA shiN
                  dsimp only
                  repeat (first | rw [if_pos (by omega)] | rw [if_neg (by omega)])
                  exact ⟨rfl, rfl⟩
          · first
            | (exfalso; omega)
            |
              refine x_bipush C dX9_shift_44 (q := 46) rfl (v := (-11)) (by decide) ?_
              refine x_iret C hA hQ hr dX9_shift_46 (Nat.le_of_ble_eq_true rfl) ?_
              unfold shiA shiN
              dsimp only
              repeat (first | rw [if_pos (by omega)] | rw [if_neg (by omega)])
              exact ⟨rfl, rfl⟩
    · skip
      obtain ⟨rfl, rfl, hc28⟩ := hp6
      refine x_ws (ws' := [(fi, .inr (8, [.ref tO, .ref gO, .ref nO, .ref tb, .ref tb', .ref trO, .ref gA, .ref tP, .int (nI kf)])), (tP, .inl (cy 5, 6, .inr (.inr (.inr (.inr tpf))))), (ta, .inr (7, [.ref tb9, .int (so), .int (nI n)])), (tb9, .inl (cy 2, 60, .inr (.inl f)))]) rfl ?_
      exfalso; omega
  · skip
    obtain ⟨rfl, rfl, hc29⟩ := hp1
    refine x_ws (ws' := [(fi, .inr (8, [.ref tO, .ref gO, .ref nO, .ref tb, .ref tb', .ref trO, .ref gA, .ref tP, .int (nI kf)])), (tP, .inl (cy 5, 6, .inr (.inr (.inr (.inr tpf))))), (ta, .inr (7, [.ref tb9, .int (so), .int (nI n)])), (tb9, .inl (cy 2, 60, .inr (.inl f)))]) rfl ?_
    exfalso; omega

set_option maxHeartbeats 4000000 in
set_option maxRecDepth 100000 in
/-- shift, by none -/
theorem c_X9_shift_o (l : Launch) (D : va_G) (cy : Nat → ClassId) (fi : Nat) (tO : Nat) (gO : Nat) (nO : Nat) (tb : Nat) (tb' : Nat) (trO : Nat) (gA : Nat) (tP : Nat) (kf : Nat) (tpf : Nat → Option Nat) (x : Int32) (y : Int32) (z : Int32) (w : Int32) (v : Int32) (htp : ∀ k, k < 6 → ∃ a, tpf k = some a) (hx : (x.toInt < 0 ∨ 6 ≤ x.toInt) ∨ (z.toInt < 0 ∨ 6 ≤ z.toInt)) : xMet l D cy xT yX9_shift wsX9_shift ({ frames := 3, cells := 0, slots := 0, locals := 400 } : Room) [.ref fi, .int (x), .int (y), .int (z), .int (w), .int (v)] [(fi, .inr (8, [.ref tO, .ref gO, .ref nO, .ref tb, .ref tb', .ref trO, .ref gA, .ref tP, .int (nI kf)])), (tP, .inl (cy 5, 6, .inr (.inr (.inr (.inr tpf)))))] [] (fun (v9 : Option Value) (w9 : va_W) => (v9 = some (.int ((-1))) ∧ w9 = [(fi, .inr (8, [.ref tO, .ref gO, .ref nO, .ref tb, .ref tb', .ref trO, .ref gA, .ref tP, .int (nI kf)])), (tP, .inl (cy 5, 6, .inr (.inr (.inr (.inr tpf)))))])) := by
  refine xMet_of (cc := cX9_shift) (maxL := 8) (ret := (some .int)) (by decide) rfl (Nat.le_of_ble_eq_true rfl) (fun p e s m args below meth c A R Q hA hR hQ C hr hnm hro hX => ?_)
  refine x_L (L' := [(0, .ref fi), (1, .int (x)), (2, .int (y)), (3, .int (z)), (4, .int (w)), (5, .int (v))]) [0, 1, 2, 3, 4, 5] rfl ?_
  refine x_aload_n C dX9_shift_0 (q := 1) rfl rfl 0 rfl ?_
  refine x_iload_n C dX9_shift_1 (q := 2) rfl rfl 1 rfl ?_
  refine x_callV C (roW := []) (roR := []) (c_X9_tapeAt l D cy fi tO gO nO tb tb' trO gA tP kf tpf x (by assumption)) (cwV 1 C.2.2.2.2.1 gX9_shift_X9_tapeAt rfl rfl rfl (by decide +kernel) (by rw [hR]; exact ⟨Nat.le_of_ble_eq_true rfl, Nat.le_of_ble_eq_true rfl⟩)) [0, 1] [] rfl (by decide) rfl (by decide) xro_nil (List.mem_of_getElem? (i := 0) rfl) (ci := 8) rfl xT_bl (fun _ _ _ _ _ _ _ => trivial) rfl rfl dX9_shift_2 rfl rfl (Nat.le_of_ble_eq_true rfl) (q := 5) rfl (k' := 0) rfl (n' := 0) rfl (by rw [hR]; exact ⟨Nat.le_of_ble_eq_true rfl, Nat.le_of_ble_eq_true rfl⟩) (fun v1 w1 hp1 => ?_)
  rcases hp1 with hp1 | hp1
  · skip
    obtain ⟨a_2, rfl, rfl, hc3, hc4, hc5⟩ := hp1
    refine x_ws (ws' := [(fi, .inr (8, [.ref tO, .ref gO, .ref nO, .ref tb, .ref tb', .ref trO, .ref gA, .ref tP, .int (nI kf)])), (tP, .inl (cy 5, 6, .inr (.inr (.inr (.inr tpf)))))]) rfl ?_
    refine x_astore C (L' := [(6, .ref a_2), (0, .ref fi), (1, .int (x)), (2, .int (y)), (3, .int (z)), (4, .int (w)), (5, .int (v))]) dX9_shift_5 (q := 7) rfl (by decide) rfl ?_
    refine x_aload_n C dX9_shift_7 (q := 8) rfl rfl 1 rfl ?_
    refine x_iload_n C dX9_shift_8 (q := 9) rfl rfl 4 rfl ?_
    refine x_callV C (roW := []) (roR := []) (c_X9_tapeAt l D cy fi tO gO nO tb tb' trO gA tP kf tpf z (by assumption)) (cwV 1 C.2.2.2.2.1 gX9_shift_X9_tapeAt rfl rfl rfl (by decide +kernel) (by rw [hR]; exact ⟨Nat.le_of_ble_eq_true rfl, Nat.le_of_ble_eq_true rfl⟩)) [0, 1] [] rfl (by decide) rfl (by decide) xro_nil (List.mem_of_getElem? (i := 0) rfl) (ci := 8) rfl xT_bl (fun _ _ _ _ _ _ _ => trivial) rfl rfl dX9_shift_9 rfl rfl (Nat.le_of_ble_eq_true rfl) (q := 12) rfl (k' := 0) rfl (n' := 0) rfl (by rw [hR]; exact ⟨Nat.le_of_ble_eq_true rfl, Nat.le_of_ble_eq_true rfl⟩) (fun v6 w6 hp6 => ?_)
    rcases hp6 with hp6 | hp6
    · skip
      obtain ⟨a_7, rfl, rfl, hc8, hc9, hc10⟩ := hp6
      refine x_ws (ws' := [(fi, .inr (8, [.ref tO, .ref gO, .ref nO, .ref tb, .ref tb', .ref trO, .ref gA, .ref tP, .int (nI kf)])), (tP, .inl (cy 5, 6, .inr (.inr (.inr (.inr tpf)))))]) rfl ?_
      exfalso; omega
    · skip
      obtain ⟨rfl, rfl, hc11⟩ := hp6
      refine x_ws (ws' := [(fi, .inr (8, [.ref tO, .ref gO, .ref nO, .ref tb, .ref tb', .ref trO, .ref gA, .ref tP, .int (nI kf)])), (tP, .inl (cy 5, 6, .inr (.inr (.inr (.inr tpf)))))]) rfl ?_
      refine x_astoreN C (L' := [(7, .null), (6, .ref a_2), (0, .ref fi), (1, .int (x)), (2, .int (y)), (3, .int (z)), (4, .int (w)), (5, .int (v))]) dX9_shift_12 (q := 14) rfl (by decide) rfl ?_
      refine x_aload C dX9_shift_14 (q := 16) rfl 1 rfl ?_
      refine x_ifnull C dX9_shift_16 (q := 19) rfl ?_
      refine x_aloadN C dX9_shift_19 (q := 21) rfl 0 rfl ?_
      refine x_ifnonnullN C dX9_shift_21 (q := 24) rfl ?_
      refine x_iconst C dX9_shift_24 (q := 25) rfl (v := (-1)) (by decide) ?_
      refine x_iret C hA hQ hr dX9_shift_25 (Nat.le_of_ble_eq_true rfl) ?_
      first | exact ⟨rfl, rfl⟩ | exact ⟨_, rfl, rfl, by first | rfl | omega | assumption⟩ | (refine ⟨_, rfl, rfl, ?_⟩; (first | rfl | omega | (simp only []; omega)))
  · skip
    obtain ⟨rfl, rfl, hc12⟩ := hp1
    refine x_ws (ws' := [(fi, .inr (8, [.ref tO, .ref gO, .ref nO, .ref tb, .ref tb', .ref trO, .ref gA, .ref tP, .int (nI kf)])), (tP, .inl (cy 5, 6, .inr (.inr (.inr (.inr tpf)))))]) rfl ?_
    refine x_astoreN C (L' := [(6, .null), (0, .ref fi), (1, .int (x)), (2, .int (y)), (3, .int (z)), (4, .int (w)), (5, .int (v))]) dX9_shift_5 (q := 7) rfl (by decide) rfl ?_
    refine x_aload_n C dX9_shift_7 (q := 8) rfl rfl 1 rfl ?_
    refine x_iload_n C dX9_shift_8 (q := 9) rfl rfl 4 rfl ?_
    refine x_callV C (roW := []) (roR := []) (c_X9_tapeAt l D cy fi tO gO nO tb tb' trO gA tP kf tpf z (by assumption)) (cwV 1 C.2.2.2.2.1 gX9_shift_X9_tapeAt rfl rfl rfl (by decide +kernel) (by rw [hR]; exact ⟨Nat.le_of_ble_eq_true rfl, Nat.le_of_ble_eq_true rfl⟩)) [0, 1] [] rfl (by decide) rfl (by decide) xro_nil (List.mem_of_getElem? (i := 0) rfl) (ci := 8) rfl xT_bl (fun _ _ _ _ _ _ _ => trivial) rfl rfl dX9_shift_9 rfl rfl (Nat.le_of_ble_eq_true rfl) (q := 12) rfl (k' := 0) rfl (n' := 0) rfl (by rw [hR]; exact ⟨Nat.le_of_ble_eq_true rfl, Nat.le_of_ble_eq_true rfl⟩) (fun v13 w13 hp13 => ?_)
    rcases hp13 with hp13 | hp13
    · skip
      obtain ⟨a_14, rfl, rfl, hc15, hc16, hc17⟩ := hp13
      refine x_ws (ws' := [(fi, .inr (8, [.ref tO, .ref gO, .ref nO, .ref tb, .ref tb', .ref trO, .ref gA, .ref tP, .int (nI kf)])), (tP, .inl (cy 5, 6, .inr (.inr (.inr (.inr tpf)))))]) rfl ?_
      refine x_astore C (L' := [(7, .ref a_14), (6, .null), (0, .ref fi), (1, .int (x)), (2, .int (y)), (3, .int (z)), (4, .int (w)), (5, .int (v))]) dX9_shift_12 (q := 14) rfl (by decide) rfl ?_
      refine x_aloadN C dX9_shift_14 (q := 16) rfl 1 rfl ?_
      refine x_ifnullN C (tgt := 24) dX9_shift_16 (by decide) ?_
      refine x_iconst C dX9_shift_24 (q := 25) rfl (v := (-1)) (by decide) ?_
      refine x_iret C hA hQ hr dX9_shift_25 (Nat.le_of_ble_eq_true rfl) ?_
      first | exact ⟨rfl, rfl⟩ | exact ⟨_, rfl, rfl, by first | rfl | omega | assumption⟩ | (refine ⟨_, rfl, rfl, ?_⟩; (first | rfl | omega | (simp only []; omega)))
    · skip
      obtain ⟨rfl, rfl, hc18⟩ := hp13
      refine x_ws (ws' := [(fi, .inr (8, [.ref tO, .ref gO, .ref nO, .ref tb, .ref tb', .ref trO, .ref gA, .ref tP, .int (nI kf)])), (tP, .inl (cy 5, 6, .inr (.inr (.inr (.inr tpf)))))]) rfl ?_
      refine x_astoreN C (L' := [(7, .null), (6, .null), (0, .ref fi), (1, .int (x)), (2, .int (y)), (3, .int (z)), (4, .int (w)), (5, .int (v))]) dX9_shift_12 (q := 14) rfl (by decide) rfl ?_
      refine x_aloadN C dX9_shift_14 (q := 16) rfl 1 rfl ?_
      refine x_ifnullN C (tgt := 24) dX9_shift_16 (by decide) ?_
      refine x_iconst C dX9_shift_24 (q := 25) rfl (v := (-1)) (by decide) ?_
      refine x_iret C hA hQ hr dX9_shift_25 (Nat.le_of_ble_eq_true rfl) ?_
      first | exact ⟨rfl, rfl⟩ | exact ⟨_, rfl, rfl, by first | rfl | omega | assumption⟩ | (refine ⟨_, rfl, rfl, ?_⟩; (first | rfl | omega | (simp only []; omega)))
