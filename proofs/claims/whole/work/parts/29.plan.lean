set_option maxHeartbeats 4000000 in
set_option maxRecDepth 100000 in
/-- plan -/
theorem c_X9_plan (l : Launch) (D : va_G) (cy : Nat → ClassId) (fi : Nat) (tO : Nat) (gO : Nat) (nO : Nat) (tb : Nat) (tb' : Nat) (trO : Nat) (gA : Nat) (tP : Nat) (kf : Nat) (nz : Nat) (tl : Nat) (pg : Nat) (se : Nat) (pa : Nat) (bo : Nat) (li : Nat) (ba : Nat) (cols : Nat) (lc : Nat) (smp : Nat) (p1 : Nat) (p2 : Nat) (npa : Nat) (fp : Nat → Int32) (gp : Nat → Int32) (x : Int32) (y : Int32) (hcols : cols ≤ 5) (hlc : lc ≤ 24) (hnpa : npa ≤ 8) : xMet l D cy xT yX9_plan wsX9_plan ({ frames := 4, cells := 0, slots := 0, locals := 400 } : Room) [.ref fi, .int (x), .int (y)] [(fi, .inr (8, [.ref tO, .ref gO, .ref nO, .ref tb, .ref tb', .ref trO, .ref gA, .ref tP, .int (nI kf)])), (tb, .inr (6, [.ref nz, .ref tl, .ref pg, .ref se, .ref pa, .ref bo, .ref li, .ref ba, .int (nI cols), .int (nI lc), .int (nI smp)])), (pa, .inr (1, [.ref p1, .ref p2, .int (nI npa)])), (p1, .inl (cy 1, 8, .inl fp)), (p2, .inl (cy 1, 8, .inl gp))] [] (fun (v9 : Option Value) (w9 : va_W) => (v9 = some (.int (plaA cols (npa, fp, gp) x y)) ∧ w9 = [(fi, .inr (8, [.ref tO, .ref gO, .ref nO, .ref tb, .ref tb', .ref trO, .ref gA, .ref tP, .int (nI kf)])), (tb, .inr (6, [.ref nz, .ref tl, .ref pg, .ref se, .ref pa, .ref bo, .ref li, .ref ba, .int (nI cols), .int (nI lc), .int (nI smp)])), (pa, .inr (1, [.ref p1, .ref p2, .int (nI ((plaN cols (npa, fp, gp) x y).1))])), (p1, .inl (cy 1, 8, .inl ((plaN cols (npa, fp, gp) x y).2.1))), (p2, .inl (cy 1, 8, .inl ((plaN cols (npa, fp, gp) x y).2.2)))])) := by
  refine xMet_of (cc := cX9_plan) (maxL := 3) (ret := (some .int)) (by decide) rfl (Nat.le_of_ble_eq_true rfl) (fun p e s m args below meth c A R Q hA hR hQ C hr hnm hro hX => ?_)
  have hw0 : ∀ w ∈ u_ws RX9 TX9 9, w ∈ wsX9_plan := by decide +kernel
  have hw1 : Cond.fieldLink RX9 33 (TX9 3).1 (TX9 3).2.1 (TX9 3).2.2.1 ∈ wsX9_plan := by decide +kernel
  have hw2 : ∀ w ∈ u_ws RX7 TX7 11, w ∈ wsX9_plan := by decide +kernel
  have hw3 : Cond.fieldLink RX9 234 (TX7 4).1 (TX7 4).2.1 (TX7 4).2.2.1 ∈ wsX9_plan := by decide +kernel
  refine x_L (L' := [(0, .ref fi), (1, .int (x)), (2, .int (y))]) [0, 1, 2] rfl ?_
  refine x_iload_n C dX9_plan_0 (q := 1) rfl rfl 1 rfl ?_
  refine x_iconst C dX9_plan_1 (q := 2) rfl (v := (-1)) (by decide) ?_
  refine x_icmp_ne C (tgt := 16) dX9_plan_2 (by decide) (q := 5) rfl (a := x.toInt) (b := (-1)) rfl rfl (fun h1 => ?_) (fun h1 => ?_)
  · first
    | (exfalso; omega)
    |
      refine x_iload_n C dX9_plan_16 (q := 17) rfl rfl 1 rfl ?_
      refine x_if_lt C (tgt := 25) dX9_plan_17 (by decide) (q := 20) rfl (a := x.toInt) rfl (fun h2 => ?_) (fun h2 => ?_)
      · first
        | (exfalso; omega)
        |
          refine x_iconst C dX9_plan_25 (q := 26) rfl (v := (-1)) (by decide) ?_
          refine x_iret C hA hQ hr dX9_plan_26 (Nat.le_of_ble_eq_true rfl) ?_
          have hb9 : plaB cols x y = 1 := by
            unfold plaB
            repeat (first | rw [if_pos (by omega)] | rw [if_neg (by omega)])
          unfold plaA plaN enA enN
          rw [hb9]
          repeat (first | rw [if_pos (by omega)] | rw [if_neg (by omega)])
          exact ⟨rfl, rfl⟩
      · first
        | (exfalso; omega)
        |
          refine x_iload_n C dX9_plan_20 (q := 21) rfl rfl 1 rfl ?_
          refine x_iconst C dX9_plan_21 (q := 22) rfl (v := nI 2) (by decide) ?_
          refine x_icmp_le C (tgt := 27) dX9_plan_22 (by decide) (q := 25) rfl (a := x.toInt) (b := 2) rfl rfl (fun h3 => ?_) (fun h3 => ?_)
          · first
            | (exfalso; omega)
            |
              have cut50 : (¬ (x.toInt = 1 ∧ ¬ y.toInt = -1 ∧ (y.toInt < 0 ∨ cols ≤ y.toInt))) → xG p l e R s m args below meth c Q D A 3 [(fi, .inr (8, [.ref tO, .ref gO, .ref nO, .ref tb, .ref tb', .ref trO, .ref gA, .ref tP, .int (nI kf)])), (tb, .inr (6, [.ref nz, .ref tl, .ref pg, .ref se, .ref pa, .ref bo, .ref li, .ref ba, .int (nI cols), .int (nI lc), .int (nI smp)])), (pa, .inr (1, [.ref p1, .ref p2, .int (nI npa)])), (p1, .inl (cy 1, 8, .inl fp)), (p2, .inl (cy 1, 8, .inl gp))] 0 0 50 [(0, .ref fi), (1, .int (x)), (2, .int (y))] [] := by
                intro  h50
                have cut67 : (¬ (x.toInt = 0 ∧ (y.toInt < 0 ∨ 24 < y.toInt))) → xG p l e R s m args below meth c Q D A 3 [(fi, .inr (8, [.ref tO, .ref gO, .ref nO, .ref tb, .ref tb', .ref trO, .ref gA, .ref tP, .int (nI kf)])), (tb, .inr (6, [.ref nz, .ref tl, .ref pg, .ref se, .ref pa, .ref bo, .ref li, .ref ba, .int (nI cols), .int (nI lc), .int (nI smp)])), (pa, .inr (1, [.ref p1, .ref p2, .int (nI npa)])), (p1, .inl (cy 1, 8, .inl fp)), (p2, .inl (cy 1, 8, .inl gp))] 0 0 67 [(0, .ref fi), (1, .int (x)), (2, .int (y))] [] := by
                  intro  h67
                  refine x_aload_n C dX9_plan_67 (q := 68) rfl rfl 0 rfl ?_
                  refine x_get C (ci := 8) (v := .ref tb) hw0 0 rfl rfl 3 (by decide) hw1 rfl dX9_plan_68 (q := 71) rfl ?_
                  refine x_get C (ci := 6) (v := .ref pa) hw2 1 rfl rfl 4 (by decide) hw3 rfl dX9_plan_71 (q := 74) rfl ?_
                  refine x_iload_n C dX9_plan_74 (q := 75) rfl rfl 1 rfl ?_
                  refine x_iload_n C dX9_plan_75 (q := 76) rfl rfl 2 rfl ?_
                  refine x_callV C (roW := []) (roR := []) (c_X2_enter l D cy pa p1 p2 npa 8 fp gp x y (by first | assumption | omega | (simp only []; omega)) (by first | assumption | omega | (simp only []; omega))) (cwV 2 C.2.2.2.2.1 gX9_plan_X2_enter rfl rfl rfl (by decide +kernel) (by rw [hR]; exact ⟨Nat.le_of_ble_eq_true rfl, Nat.le_of_ble_eq_true rfl⟩)) [2, 3, 4] [] rfl (by decide) rfl (by decide) xro_nil (List.mem_of_getElem? (i := 0) rfl) (ci := 1) rfl xT_bl (fun _ _ _ _ _ _ _ => trivial) rfl rfl dX9_plan_76 rfl rfl (Nat.le_of_ble_eq_true rfl) (q := 79) rfl (k' := 0) rfl (n' := 0) rfl (by rw [hR]; exact ⟨Nat.le_of_ble_eq_true rfl, Nat.le_of_ble_eq_true rfl⟩) (fun v4 w4 hp4 => ?_)
                  rcases hp4 with hp4 | hp4
                  · skip
                    obtain ⟨rfl, rfl, hc5⟩ := hp4
                    refine x_ws (ws' := [(fi, .inr (8, [.ref tO, .ref gO, .ref nO, .ref tb, .ref tb', .ref trO, .ref gA, .ref tP, .int (nI kf)])), (tb, .inr (6, [.ref nz, .ref tl, .ref pg, .ref se, .ref pa, .ref bo, .ref li, .ref ba, .int (nI cols), .int (nI lc), .int (nI smp)])), (pa, .inr (1, [.ref p1, .ref p2, .int (nI npa)])), (p1, .inl (cy 1, 8, .inl fp)), (p2, .inl (cy 1, 8, .inl gp))]) rfl ?_
                    refine x_iret C hA hQ hr dX9_plan_79 (Nat.le_of_ble_eq_true rfl) ?_
                    have hb9 : plaB cols x y = 3 := by
                      unfold plaB
                      repeat (first | rw [if_pos (by omega)] | rw [if_neg (by omega)])
                    unfold plaA plaN enA enN
                    rw [hb9]
                    repeat (first | rw [if_pos (by omega)] | rw [if_neg (by omega)])
                    exact ⟨rfl, rfl⟩
                  · skip
                    obtain ⟨rfl, rfl, hc6⟩ := hp4
                    refine x_ws (ws' := [(fi, .inr (8, [.ref tO, .ref gO, .ref nO, .ref tb, .ref tb', .ref trO, .ref gA, .ref tP, .int (nI kf)])), (tb, .inr (6, [.ref nz, .ref tl, .ref pg, .ref se, .ref pa, .ref bo, .ref li, .ref ba, .int (nI cols), .int (nI lc), .int (nI smp)])), (pa, .inr (1, [.ref p1, .ref p2, .int (nI (npa + 1))])), (p1, .inl (cy 1, 8, .inl (va_up fp npa x))), (p2, .inl (cy 1, 8, .inl (va_up gp npa y)))]) rfl ?_
                    refine x_iret C hA hQ hr dX9_plan_79 (Nat.le_of_ble_eq_true rfl) ?_
                    have hb9 : plaB cols x y = 3 := by
                      unfold plaB
                      repeat (first | rw [if_pos (by omega)] | rw [if_neg (by omega)])
                    unfold plaA plaN enA enN
                    rw [hb9]
                    repeat (first | rw [if_pos (by omega)] | rw [if_neg (by omega)])
                    exact ⟨rfl, rfl⟩
                refine x_iload_n C dX9_plan_50 (q := 51) rfl rfl 1 rfl ?_
                refine x_if_ne C (tgt := 67) dX9_plan_51 (by decide) (q := 54) rfl (a := x.toInt) rfl (fun h7 => ?_) (fun h7 => ?_)
                · first
                  | (exfalso; omega)
                  |
                    exact cut67  (by first | omega | assumption)
                · first
                  | (exfalso; omega)
                  |
                    refine x_iload_n C dX9_plan_54 (q := 55) rfl rfl 2 rfl ?_
                    refine x_if_lt C (tgt := 64) dX9_plan_55 (by decide) (q := 58) rfl (a := y.toInt) rfl (fun h8 => ?_) (fun h8 => ?_)
                    · first
                      | (exfalso; omega)
                      |
                        refine x_bipush C dX9_plan_64 (q := 66) rfl (v := (-2)) (by decide) ?_
                        refine x_iret C hA hQ hr dX9_plan_66 (Nat.le_of_ble_eq_true rfl) ?_
                        have hb9 : plaB cols x y = 2 := by
                          unfold plaB
                          repeat (first | rw [if_pos (by omega)] | rw [if_neg (by omega)])
                        unfold plaA plaN enA enN
                        rw [hb9]
                        repeat (first | rw [if_pos (by omega)] | rw [if_neg (by omega)])
                        exact ⟨rfl, rfl⟩
                    · first
                      | (exfalso; omega)
                      |
                        refine x_iload_n C dX9_plan_58 (q := 59) rfl rfl 2 rfl ?_
                        refine x_bipush C dX9_plan_59 (q := 61) rfl (v := nI 24) (by decide) ?_
                        refine x_icmp_le C (tgt := 67) dX9_plan_61 (by decide) (q := 64) rfl (a := y.toInt) (b := 24) rfl rfl (fun h9 => ?_) (fun h9 => ?_)
                        · first
                          | (exfalso; omega)
                          |
                            exact cut67  (by first | omega | assumption)
                        · first
                          | (exfalso; omega)
                          |
                            refine x_bipush C dX9_plan_64 (q := 66) rfl (v := (-2)) (by decide) ?_
                            refine x_iret C hA hQ hr dX9_plan_66 (Nat.le_of_ble_eq_true rfl) ?_
                            have hb9 : plaB cols x y = 2 := by
                              unfold plaB
                              repeat (first | rw [if_pos (by omega)] | rw [if_neg (by omega)])
                            unfold plaA plaN enA enN
                            rw [hb9]
                            repeat (first | rw [if_pos (by omega)] | rw [if_neg (by omega)])
                            exact ⟨rfl, rfl⟩
              refine x_iload_n C dX9_plan_27 (q := 28) rfl rfl 1 rfl ?_
              refine x_iconst C dX9_plan_28 (q := 29) rfl (v := nI 1) (by decide) ?_
              refine x_icmp_ne C (tgt := 50) dX9_plan_29 (by decide) (q := 32) rfl (a := x.toInt) (b := 1) rfl rfl (fun h10 => ?_) (fun h10 => ?_)
              · first
                | (exfalso; omega)
                |
                  have cut67 : (¬ (x.toInt = 0 ∧ (y.toInt < 0 ∨ 24 < y.toInt))) → xG p l e R s m args below meth c Q D A 3 [(fi, .inr (8, [.ref tO, .ref gO, .ref nO, .ref tb, .ref tb', .ref trO, .ref gA, .ref tP, .int (nI kf)])), (tb, .inr (6, [.ref nz, .ref tl, .ref pg, .ref se, .ref pa, .ref bo, .ref li, .ref ba, .int (nI cols), .int (nI lc), .int (nI smp)])), (pa, .inr (1, [.ref p1, .ref p2, .int (nI npa)])), (p1, .inl (cy 1, 8, .inl fp)), (p2, .inl (cy 1, 8, .inl gp))] 0 0 67 [(0, .ref fi), (1, .int (x)), (2, .int (y))] [] := by
                    intro  h67
                    refine x_aload_n C dX9_plan_67 (q := 68) rfl rfl 0 rfl ?_
                    refine x_get C (ci := 8) (v := .ref tb) hw0 0 rfl rfl 3 (by decide) hw1 rfl dX9_plan_68 (q := 71) rfl ?_
                    refine x_get C (ci := 6) (v := .ref pa) hw2 1 rfl rfl 4 (by decide) hw3 rfl dX9_plan_71 (q := 74) rfl ?_
                    refine x_iload_n C dX9_plan_74 (q := 75) rfl rfl 1 rfl ?_
                    refine x_iload_n C dX9_plan_75 (q := 76) rfl rfl 2 rfl ?_
                    refine x_callV C (roW := []) (roR := []) (c_X2_enter l D cy pa p1 p2 npa 8 fp gp x y (by first | assumption | omega | (simp only []; omega)) (by first | assumption | omega | (simp only []; omega))) (cwV 2 C.2.2.2.2.1 gX9_plan_X2_enter rfl rfl rfl (by decide +kernel) (by rw [hR]; exact ⟨Nat.le_of_ble_eq_true rfl, Nat.le_of_ble_eq_true rfl⟩)) [2, 3, 4] [] rfl (by decide) rfl (by decide) xro_nil (List.mem_of_getElem? (i := 0) rfl) (ci := 1) rfl xT_bl (fun _ _ _ _ _ _ _ => trivial) rfl rfl dX9_plan_76 rfl rfl (Nat.le_of_ble_eq_true rfl) (q := 79) rfl (k' := 0) rfl (n' := 0) rfl (by rw [hR]; exact ⟨Nat.le_of_ble_eq_true rfl, Nat.le_of_ble_eq_true rfl⟩) (fun v11 w11 hp11 => ?_)
                    rcases hp11 with hp11 | hp11
                    · skip
                      obtain ⟨rfl, rfl, hc12⟩ := hp11
                      refine x_ws (ws' := [(fi, .inr (8, [.ref tO, .ref gO, .ref nO, .ref tb, .ref tb', .ref trO, .ref gA, .ref tP, .int (nI kf)])), (tb, .inr (6, [.ref nz, .ref tl, .ref pg, .ref se, .ref pa, .ref bo, .ref li, .ref ba, .int (nI cols), .int (nI lc), .int (nI smp)])), (pa, .inr (1, [.ref p1, .ref p2, .int (nI npa)])), (p1, .inl (cy 1, 8, .inl fp)), (p2, .inl (cy 1, 8, .inl gp))]) rfl ?_
                      refine x_iret C hA hQ hr dX9_plan_79 (Nat.le_of_ble_eq_true rfl) ?_
                      have hb9 : plaB cols x y = 3 := by
                        unfold plaB
                        repeat (first | rw [if_pos (by omega)] | rw [if_neg (by omega)])
                      unfold plaA plaN enA enN
                      rw [hb9]
                      repeat (first | rw [if_pos (by omega)] | rw [if_neg (by omega)])
                      exact ⟨rfl, rfl⟩
                    · skip
                      obtain ⟨rfl, rfl, hc13⟩ := hp11
                      refine x_ws (ws' := [(fi, .inr (8, [.ref tO, .ref gO, .ref nO, .ref tb, .ref tb', .ref trO, .ref gA, .ref tP, .int (nI kf)])), (tb, .inr (6, [.ref nz, .ref tl, .ref pg, .ref se, .ref pa, .ref bo, .ref li, .ref ba, .int (nI cols), .int (nI lc), .int (nI smp)])), (pa, .inr (1, [.ref p1, .ref p2, .int (nI (npa + 1))])), (p1, .inl (cy 1, 8, .inl (va_up fp npa x))), (p2, .inl (cy 1, 8, .inl (va_up gp npa y)))]) rfl ?_
                      refine x_iret C hA hQ hr dX9_plan_79 (Nat.le_of_ble_eq_true rfl) ?_
                      have hb9 : plaB cols x y = 3 := by
                        unfold plaB
                        repeat (first | rw [if_pos (by omega)] | rw [if_neg (by omega)])
                      unfold plaA plaN enA enN
                      rw [hb9]
                      repeat (first | rw [if_pos (by omega)] | rw [if_neg (by omega)])
                      exact ⟨rfl, rfl⟩
                  exact cut50  (by first | omega | assumption)
              · first
                | (exfalso; omega)
                |
                  refine x_iload_n C dX9_plan_32 (q := 33) rfl rfl 2 rfl ?_
                  refine x_iconst C dX9_plan_33 (q := 34) rfl (v := (-1)) (by decide) ?_
                  refine x_icmp_eq C (tgt := 50) dX9_plan_34 (by decide) (q := 37) rfl (a := y.toInt) (b := (-1)) rfl rfl (fun h14 => ?_) (fun h14 => ?_)
                  · first
                    | (exfalso; omega)
                    |
                      have cut67 : (¬ (x.toInt = 0 ∧ (y.toInt < 0 ∨ 24 < y.toInt))) → xG p l e R s m args below meth c Q D A 3 [(fi, .inr (8, [.ref tO, .ref gO, .ref nO, .ref tb, .ref tb', .ref trO, .ref gA, .ref tP, .int (nI kf)])), (tb, .inr (6, [.ref nz, .ref tl, .ref pg, .ref se, .ref pa, .ref bo, .ref li, .ref ba, .int (nI cols), .int (nI lc), .int (nI smp)])), (pa, .inr (1, [.ref p1, .ref p2, .int (nI npa)])), (p1, .inl (cy 1, 8, .inl fp)), (p2, .inl (cy 1, 8, .inl gp))] 0 0 67 [(0, .ref fi), (1, .int (x)), (2, .int (y))] [] := by
                        intro  h67
                        refine x_aload_n C dX9_plan_67 (q := 68) rfl rfl 0 rfl ?_
                        refine x_get C (ci := 8) (v := .ref tb) hw0 0 rfl rfl 3 (by decide) hw1 rfl dX9_plan_68 (q := 71) rfl ?_
                        refine x_get C (ci := 6) (v := .ref pa) hw2 1 rfl rfl 4 (by decide) hw3 rfl dX9_plan_71 (q := 74) rfl ?_
                        refine x_iload_n C dX9_plan_74 (q := 75) rfl rfl 1 rfl ?_
                        refine x_iload_n C dX9_plan_75 (q := 76) rfl rfl 2 rfl ?_
                        refine x_callV C (roW := []) (roR := []) (c_X2_enter l D cy pa p1 p2 npa 8 fp gp x y (by first | assumption | omega | (simp only []; omega)) (by first | assumption | omega | (simp only []; omega))) (cwV 2 C.2.2.2.2.1 gX9_plan_X2_enter rfl rfl rfl (by decide +kernel) (by rw [hR]; exact ⟨Nat.le_of_ble_eq_true rfl, Nat.le_of_ble_eq_true rfl⟩)) [2, 3, 4] [] rfl (by decide) rfl (by decide) xro_nil (List.mem_of_getElem? (i := 0) rfl) (ci := 1) rfl xT_bl (fun _ _ _ _ _ _ _ => trivial) rfl rfl dX9_plan_76 rfl rfl (Nat.le_of_ble_eq_true rfl) (q := 79) rfl (k' := 0) rfl (n' := 0) rfl (by rw [hR]; exact ⟨Nat.le_of_ble_eq_true rfl, Nat.le_of_ble_eq_true rfl⟩) (fun v15 w15 hp15 => ?_)
                        rcases hp15 with hp15 | hp15
                        · skip
                          obtain ⟨rfl, rfl, hc16⟩ := hp15
                          refine x_ws (ws' := [(fi, .inr (8, [.ref tO, .ref gO, .ref nO, .ref tb, .ref tb', .ref trO, .ref gA, .ref tP, .int (nI kf)])), (tb, .inr (6, [.ref nz, .ref tl, .ref pg, .ref se, .ref pa, .ref bo, .ref li, .ref ba, .int (nI cols), .int (nI lc), .int (nI smp)])), (pa, .inr (1, [.ref p1, .ref p2, .int (nI npa)])), (p1, .inl (cy 1, 8, .inl fp)), (p2, .inl (cy 1, 8, .inl gp))]) rfl ?_
                          refine x_iret C hA hQ hr dX9_plan_79 (Nat.le_of_ble_eq_true rfl) ?_
                          have hb9 : plaB cols x y = 3 := by
                            unfold plaB
                            repeat (first | rw [if_pos (by omega)] | rw [if_neg (by omega)])
                          unfold plaA plaN enA enN
                          rw [hb9]
                          repeat (first | rw [if_pos (by omega)] | rw [if_neg (by omega)])
                          exact ⟨rfl, rfl⟩
                        · skip
                          obtain ⟨rfl, rfl, hc17⟩ := hp15
                          refine x_ws (ws' := [(fi, .inr (8, [.ref tO, .ref gO, .ref nO, .ref tb, .ref tb', .ref trO, .ref gA, .ref tP, .int (nI kf)])), (tb, .inr (6, [.ref nz, .ref tl, .ref pg, .ref se, .ref pa, .ref bo, .ref li, .ref ba, .int (nI cols), .int (nI lc), .int (nI smp)])), (pa, .inr (1, [.ref p1, .ref p2, .int (nI (npa + 1))])), (p1, .inl (cy 1, 8, .inl (va_up fp npa x))), (p2, .inl (cy 1, 8, .inl (va_up gp npa y)))]) rfl ?_
                          refine x_iret C hA hQ hr dX9_plan_79 (Nat.le_of_ble_eq_true rfl) ?_
                          have hb9 : plaB cols x y = 3 := by
                            unfold plaB
                            repeat (first | rw [if_pos (by omega)] | rw [if_neg (by omega)])
                          unfold plaA plaN enA enN
                          rw [hb9]
                          repeat (first | rw [if_pos (by omega)] | rw [if_neg (by omega)])
                          exact ⟨rfl, rfl⟩
                      exact cut50  (by first | omega | assumption)
                  · first
                    | (exfalso; omega)
                    |
                      refine x_aload_n C dX9_plan_37 (q := 38) rfl rfl 0 rfl ?_
                      refine x_get C (ci := 8) (v := .ref tb) hw0 0 rfl rfl 3 (by decide) hw1 rfl dX9_plan_38 (q := 41) rfl ?_
                      refine x_iload_n C dX9_plan_41 (q := 42) rfl rfl 2 rfl ?_
                      refine x_callV C (roW := [(tb, .inr (6, [.ref nz, .ref tl, .ref pg, .ref se, .ref pa, .ref bo, .ref li, .ref ba, .int (nI cols), .int (nI lc), .int (nI smp)]))]) (roR := []) (c_X7_hasColumn l D cy tb nz tl pg se pa bo li ba cols lc smp y (by first | assumption | omega | (simp only []; omega)) (by first | assumption | omega | (simp only []; omega))) (cwV 1 C.2.2.2.2.1 gX9_plan_X7_hasColumn rfl rfl rfl (by decide +kernel) (by rw [hR]; exact ⟨Nat.le_of_ble_eq_true rfl, Nat.le_of_ble_eq_true rfl⟩)) [] [1] rfl (by decide) rfl (by decide) xro_nil (List.mem_of_getElem? (i := 0) rfl) (ci := 6) rfl xT_bl (fun _ _ _ _ _ _ _ => trivial) rfl rfl dX9_plan_42 rfl rfl (Nat.le_of_ble_eq_true rfl) (q := 45) rfl (k' := 0) rfl (n' := 0) rfl (by rw [hR]; exact ⟨Nat.le_of_ble_eq_true rfl, Nat.le_of_ble_eq_true rfl⟩) (fun v18 w18 hp18 => ?_)
                      rcases hp18 with hp18 | hp18
                      · skip
                        obtain ⟨rfl, rfl, hc19, hc20⟩ := hp18
                        refine x_ws (ws' := [(fi, .inr (8, [.ref tO, .ref gO, .ref nO, .ref tb, .ref tb', .ref trO, .ref gA, .ref tP, .int (nI kf)])), (tb, .inr (6, [.ref nz, .ref tl, .ref pg, .ref se, .ref pa, .ref bo, .ref li, .ref ba, .int (nI cols), .int (nI lc), .int (nI smp)])), (pa, .inr (1, [.ref p1, .ref p2, .int (nI npa)])), (p1, .inl (cy 1, 8, .inl fp)), (p2, .inl (cy 1, 8, .inl gp))]) (List.append_nil _) ?_
                        refine x_if_ne C (tgt := 50) dX9_plan_45 (by decide) (q := 48) rfl (a := 1) rfl (fun h21 => ?_) (fun h21 => (by omega : False).elim)
                        have cut67 : (¬ (x.toInt = 0 ∧ (y.toInt < 0 ∨ 24 < y.toInt))) → xG p l e R s m args below meth c Q D A 3 [(fi, .inr (8, [.ref tO, .ref gO, .ref nO, .ref tb, .ref tb', .ref trO, .ref gA, .ref tP, .int (nI kf)])), (tb, .inr (6, [.ref nz, .ref tl, .ref pg, .ref se, .ref pa, .ref bo, .ref li, .ref ba, .int (nI cols), .int (nI lc), .int (nI smp)])), (pa, .inr (1, [.ref p1, .ref p2, .int (nI npa)])), (p1, .inl (cy 1, 8, .inl fp)), (p2, .inl (cy 1, 8, .inl gp))] 0 0 67 [(0, .ref fi), (1, .int (x)), (2, .int (y))] [] := by
                          intro  h67
                          refine x_aload_n C dX9_plan_67 (q := 68) rfl rfl 0 rfl ?_
                          refine x_get C (ci := 8) (v := .ref tb) hw0 0 rfl rfl 3 (by decide) hw1 rfl dX9_plan_68 (q := 71) rfl ?_
                          refine x_get C (ci := 6) (v := .ref pa) hw2 1 rfl rfl 4 (by decide) hw3 rfl dX9_plan_71 (q := 74) rfl ?_
                          refine x_iload_n C dX9_plan_74 (q := 75) rfl rfl 1 rfl ?_
                          refine x_iload_n C dX9_plan_75 (q := 76) rfl rfl 2 rfl ?_
                          refine x_callV C (roW := []) (roR := []) (c_X2_enter l D cy pa p1 p2 npa 8 fp gp x y (by first | assumption | omega | (simp only []; omega)) (by first | assumption | omega | (simp only []; omega))) (cwV 2 C.2.2.2.2.1 gX9_plan_X2_enter rfl rfl rfl (by decide +kernel) (by rw [hR]; exact ⟨Nat.le_of_ble_eq_true rfl, Nat.le_of_ble_eq_true rfl⟩)) [2, 3, 4] [] rfl (by decide) rfl (by decide) xro_nil (List.mem_of_getElem? (i := 0) rfl) (ci := 1) rfl xT_bl (fun _ _ _ _ _ _ _ => trivial) rfl rfl dX9_plan_76 rfl rfl (Nat.le_of_ble_eq_true rfl) (q := 79) rfl (k' := 0) rfl (n' := 0) rfl (by rw [hR]; exact ⟨Nat.le_of_ble_eq_true rfl, Nat.le_of_ble_eq_true rfl⟩) (fun v22 w22 hp22 => ?_)
                          rcases hp22 with hp22 | hp22
                          · skip
                            obtain ⟨rfl, rfl, hc23⟩ := hp22
                            refine x_ws (ws' := [(fi, .inr (8, [.ref tO, .ref gO, .ref nO, .ref tb, .ref tb', .ref trO, .ref gA, .ref tP, .int (nI kf)])), (tb, .inr (6, [.ref nz, .ref tl, .ref pg, .ref se, .ref pa, .ref bo, .ref li, .ref ba, .int (nI cols), .int (nI lc), .int (nI smp)])), (pa, .inr (1, [.ref p1, .ref p2, .int (nI npa)])), (p1, .inl (cy 1, 8, .inl fp)), (p2, .inl (cy 1, 8, .inl gp))]) rfl ?_
                            refine x_iret C hA hQ hr dX9_plan_79 (Nat.le_of_ble_eq_true rfl) ?_
                            have hb9 : plaB cols x y = 3 := by
                              unfold plaB
                              repeat (first | rw [if_pos (by omega)] | rw [if_neg (by omega)])
                            unfold plaA plaN enA enN
                            rw [hb9]
                            repeat (first | rw [if_pos (by omega)] | rw [if_neg (by omega)])
                            exact ⟨rfl, rfl⟩
                          · skip
                            obtain ⟨rfl, rfl, hc24⟩ := hp22
                            refine x_ws (ws' := [(fi, .inr (8, [.ref tO, .ref gO, .ref nO, .ref tb, .ref tb', .ref trO, .ref gA, .ref tP, .int (nI kf)])), (tb, .inr (6, [.ref nz, .ref tl, .ref pg, .ref se, .ref pa, .ref bo, .ref li, .ref ba, .int (nI cols), .int (nI lc), .int (nI smp)])), (pa, .inr (1, [.ref p1, .ref p2, .int (nI (npa + 1))])), (p1, .inl (cy 1, 8, .inl (va_up fp npa x))), (p2, .inl (cy 1, 8, .inl (va_up gp npa y)))]) rfl ?_
                            refine x_iret C hA hQ hr dX9_plan_79 (Nat.le_of_ble_eq_true rfl) ?_
                            have hb9 : plaB cols x y = 3 := by
                              unfold plaB
                              repeat (first | rw [if_pos (by omega)] | rw [if_neg (by omega)])
                            unfold plaA plaN enA enN
                            rw [hb9]
                            repeat (first | rw [if_pos (by omega)] | rw [if_neg (by omega)])
                            exact ⟨rfl, rfl⟩
                        exact cut50  (by first | omega | assumption)
                      · skip
                        obtain ⟨rfl, rfl, hc25⟩ := hp18
                        refine x_ws (ws' := [(fi, .inr (8, [.ref tO, .ref gO, .ref nO, .ref tb, .ref tb', .ref trO, .ref gA, .ref tP, .int (nI kf)])), (tb, .inr (6, [.ref nz, .ref tl, .ref pg, .ref se, .ref pa, .ref bo, .ref li, .ref ba, .int (nI cols), .int (nI lc), .int (nI smp)])), (pa, .inr (1, [.ref p1, .ref p2, .int (nI npa)])), (p1, .inl (cy 1, 8, .inl fp)), (p2, .inl (cy 1, 8, .inl gp))]) (List.append_nil _) ?_
                        refine x_if_ne C (tgt := 50) dX9_plan_45 (by decide) (q := 48) rfl (a := 0) rfl (fun h26 => (by omega : False).elim) (fun h26 => ?_)
                        refine x_iconst C dX9_plan_48 (q := 49) rfl (v := (-1)) (by decide) ?_
                        refine x_iret C hA hQ hr dX9_plan_49 (Nat.le_of_ble_eq_true rfl) ?_
                        have hb9 : plaB cols x y = 1 := by
                          unfold plaB
                          repeat (first | rw [if_pos (by omega)] | rw [if_neg (by omega)])
                        unfold plaA plaN enA enN
                        rw [hb9]
                        repeat (first | rw [if_pos (by omega)] | rw [if_neg (by omega)])
                        exact ⟨rfl, rfl⟩
          · first
            | (exfalso; omega)
            |
              refine x_iconst C dX9_plan_25 (q := 26) rfl (v := (-1)) (by decide) ?_
              refine x_iret C hA hQ hr dX9_plan_26 (Nat.le_of_ble_eq_true rfl) ?_
              have hb9 : plaB cols x y = 1 := by
                unfold plaB
                repeat (first | rw [if_pos (by omega)] | rw [if_neg (by omega)])
              unfold plaA plaN enA enN
              rw [hb9]
              repeat (first | rw [if_pos (by omega)] | rw [if_neg (by omega)])
              exact ⟨rfl, rfl⟩
  · first
    | (exfalso; omega)
    |
      refine x_aload_n C dX9_plan_5 (q := 6) rfl rfl 0 rfl ?_
      refine x_get C (ci := 8) (v := .ref tb) hw0 0 rfl rfl 3 (by decide) hw1 rfl dX9_plan_6 (q := 9) rfl ?_
      refine x_get C (ci := 6) (v := .ref pa) hw2 1 rfl rfl 4 (by decide) hw3 rfl dX9_plan_9 (q := 12) rfl ?_
      refine x_callV C (roW := []) (roR := []) (c_X2_clear l D cy pa p1 p2 npa ) (cwV 0 C.2.2.2.2.1 gX9_plan_X2_clear rfl rfl rfl (by decide +kernel) (by rw [hR]; exact ⟨Nat.le_of_ble_eq_true rfl, Nat.le_of_ble_eq_true rfl⟩)) [2] [] rfl (by decide) rfl (by decide) xro_nil (List.mem_of_getElem? (i := 0) rfl) (ci := 1) rfl xT_bl (fun _ _ _ _ _ _ _ => trivial) rfl rfl dX9_plan_12 rfl rfl (Nat.le_of_ble_eq_true rfl) (q := 15) rfl (k' := 0) rfl (n' := 0) rfl (by rw [hR]; exact ⟨Nat.le_of_ble_eq_true rfl, Nat.le_of_ble_eq_true rfl⟩) (fun v27 w27 hp27 => ?_)
      obtain ⟨rfl, rfl⟩ := hp27
      refine x_ws (ws' := [(fi, .inr (8, [.ref tO, .ref gO, .ref nO, .ref tb, .ref tb', .ref trO, .ref gA, .ref tP, .int (nI kf)])), (tb, .inr (6, [.ref nz, .ref tl, .ref pg, .ref se, .ref pa, .ref bo, .ref li, .ref ba, .int (nI cols), .int (nI lc), .int (nI smp)])), (pa, .inr (1, [.ref p1, .ref p2, .int (nI 0)])), (p1, .inl (cy 1, 8, .inl fp)), (p2, .inl (cy 1, 8, .inl gp))]) rfl ?_
      refine x_iret C hA hQ hr dX9_plan_15 (Nat.le_of_ble_eq_true rfl) ?_
      have hb9 : plaB cols x y = 0 := by
        unfold plaB
        repeat (first | rw [if_pos (by omega)] | rw [if_neg (by omega)])
      unfold plaA plaN enA enN
      rw [hb9]
      repeat (first | rw [if_pos (by omega)] | rw [if_neg (by omega)])
      exact ⟨rfl, rfl⟩
