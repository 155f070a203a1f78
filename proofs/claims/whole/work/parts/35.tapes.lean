
def tapA (so n : Int) : Int32 := if so < -1 ∨ 4 < so then -2 else if ¬ so = -1 ∧ 60 < n then -2 else if ¬ so = -1 ∧ n < 0 then -14 else nI 1
def tapN (t : Int32 × Nat × (Nat → Int64)) (so n : Int32) : Int32 × Nat × (Nat → Int64) := if so.toInt < -1 ∨ 4 < so.toInt then t else if ¬ so.toInt = -1 ∧ 60 < n.toInt then t else if ¬ so.toInt = -1 ∧ n.toInt < 0 then t else (so, if so.toInt = -1 then 0 else n.toInt.toNat, fun _ => lN 0)
def iteA (t : Int32 × Nat × (Nat → Int64)) (i : Int) : Int32 := if t.1.toInt = -1 then -11 else if i < 0 ∨ t.2.1 ≤ i then -13 else nI 1
def iteN (t : Int32 × Nat × (Nat → Int64)) (i : Int) (v : Int64) : Nat → Int64 := if t.1.toInt = -1 then t.2.2 else if i < 0 ∨ t.2.1 ≤ i then t.2.2 else va_up t.2.2 i.toNat (cutS t.1.toInt v)
def reaA (t : Int32 × Nat × (Nat → Int64)) (i : Int) : Int64 := if i < 0 ∨ t.2.1 ≤ i then -9223372036854775808 else t.2.2 i.toNat

set_option maxHeartbeats 4000000 in
set_option maxRecDepth 100000 in
/-- a TAPE, or null -/
theorem c_X9_tapeAt (l : Launch) (D : va_G) (cy : Nat → ClassId) (fi : Nat) (tO : Nat) (gO : Nat) (nO : Nat) (tb : Nat) (tb' : Nat) (trO : Nat) (gA : Nat) (tP : Nat) (kf : Nat) (tpf : Nat → Option Nat) (x : Int32) (htp : ∀ k, k < 6 → ∃ a, tpf k = some a) : xMet l D cy xT yX9_tapeAt wsX9_tapeAt ({ frames := 1, cells := 0, slots := 0, locals := 0 } : Room) [.ref fi, .int (x)] [(fi, .inr (8, [.ref tO, .ref gO, .ref nO, .ref tb, .ref tb', .ref trO, .ref gA, .ref tP, .int (nI kf)])), (tP, .inl (cy 5, 6, .inr (.inr (.inr (.inr tpf)))))] [] (fun (v9 : Option Value) (w9 : va_W) => (∃ a : Nat, v9 = some (.ref a) ∧ w9 = [(fi, .inr (8, [.ref tO, .ref gO, .ref nO, .ref tb, .ref tb', .ref trO, .ref gA, .ref tP, .int (nI kf)])), (tP, .inl (cy 5, 6, .inr (.inr (.inr (.inr tpf)))))] ∧ 0 ≤ x.toInt ∧ x.toInt < 6 ∧ tpf x.toInt.toNat = some a) ∨ (v9 = some (.null) ∧ w9 = [(fi, .inr (8, [.ref tO, .ref gO, .ref nO, .ref tb, .ref tb', .ref trO, .ref gA, .ref tP, .int (nI kf)])), (tP, .inl (cy 5, 6, .inr (.inr (.inr (.inr tpf)))))] ∧ (x.toInt < 0 ∨ 6 ≤ x.toInt))) := by
  refine xMet_of (cc := cX9_tapeAt) (maxL := 2) (ret := (some (.object "FeatureImport$Tape"))) (by decide) rfl (Nat.le_of_ble_eq_true rfl) (fun p e s m args below meth c A R Q hA hR hQ C hr hnm hro hX => ?_)
  have hw0 : ∀ w ∈ u_ws RX9 TX9 9, w ∈ wsX9_tapeAt := by decide +kernel
  have hw1 : Cond.fieldLink RX9 53 (TX9 7).1 (TX9 7).2.1 (TX9 7).2.2.1 ∈ wsX9_tapeAt := by decide +kernel
  refine x_L (L' := [(0, .ref fi), (1, .int (x))]) [0, 1] rfl ?_
  refine x_iload_n C dX9_tapeAt_0 (q := 1) rfl rfl 1 rfl ?_
  refine x_if_lt C (tgt := 22) dX9_tapeAt_1 (by decide) (q := 4) rfl (a := x.toInt) rfl (fun h1 => ?_) (fun h1 => ?_)
  · first
    | (exfalso; omega)
    |
      refine x_null C dX9_tapeAt_22 (q := 23) rfl ?_
      refine x_aret C hA hQ hr (Or.inl ⟨_, rfl⟩) (Or.inl rfl) dX9_tapeAt_23 (Nat.le_of_ble_eq_true rfl) ?_
      first | exact Or.inl ⟨a, rfl, rfl, by omega, by omega, ha⟩ | exact Or.inr ⟨rfl, rfl, by omega⟩
  · first
    | (exfalso; omega)
    |
      refine x_iload_n C dX9_tapeAt_4 (q := 5) rfl rfl 1 rfl ?_
      refine x_aload_n C dX9_tapeAt_5 (q := 6) rfl rfl 0 rfl ?_
      refine x_get C (ci := 8) (v := .ref tP) hw0 0 rfl rfl 7 (by decide) hw1 rfl dX9_tapeAt_6 (q := 9) rfl ?_
      refine x_alen C 1 5 rfl rfl (v := nI 6) rfl dX9_tapeAt_9 (q := 10) rfl ?_
      refine x_icmp_ge C (tgt := 22) dX9_tapeAt_10 (by decide) (q := 13) rfl (a := x.toInt) (b := 6) rfl rfl (fun h2 => ?_) (fun h2 => ?_)
      · first
        | (exfalso; omega)
        |
          refine x_null C dX9_tapeAt_22 (q := 23) rfl ?_
          refine x_aret C hA hQ hr (Or.inl ⟨_, rfl⟩) (Or.inl rfl) dX9_tapeAt_23 (Nat.le_of_ble_eq_true rfl) ?_
          first | exact Or.inl ⟨a, rfl, rfl, by omega, by omega, ha⟩ | exact Or.inr ⟨rfl, rfl, by omega⟩
      · first
        | (exfalso; omega)
        |
          refine x_aload_n C dX9_tapeAt_13 (q := 14) rfl rfl 0 rfl ?_
          refine x_get C (ci := 8) (v := .ref tP) hw0 0 rfl rfl 7 (by decide) hw1 rfl dX9_tapeAt_14 (q := 17) rfl ?_
          refine x_iload_n C dX9_tapeAt_17 (q := 18) rfl rfl 1 rfl ?_
          obtain ⟨a, ha⟩ := htp x.toInt.toNat (by omega)
          refine x_aald5 C (j := x.toInt.toNat) (v := .ref a) 1 rfl (by have h9 := (rfl : (x : Int32).toInt = x.toInt); omega) (by omega) (by rw [ha]; rfl) dX9_tapeAt_18 (q := 19) rfl ?_
          refine x_goto C (tgt := 23) dX9_tapeAt_19 (by decide) ?_
          refine x_aret C hA hQ hr (Or.inl ⟨_, rfl⟩) (Or.inr ⟨_, rfl⟩) dX9_tapeAt_23 (Nat.le_of_ble_eq_true rfl) ?_
          first | exact Or.inl ⟨a, rfl, rfl, by omega, by omega, ha⟩ | exact Or.inr ⟨rfl, rfl, by omega⟩

set_option maxHeartbeats 4000000 in
set_option maxRecDepth 100000 in
/-- tape, of a TAPE that there is -/
theorem c_X9_tape (l : Launch) (D : va_G) (cy : Nat → ClassId) (fi : Nat) (tO : Nat) (gO : Nat) (nO : Nat) (tb : Nat) (tb' : Nat) (trO : Nat) (gA : Nat) (tP : Nat) (kf : Nat) (tpf : Nat → Option Nat) (ta : Nat) (tb9 : Nat) (so : Int32) (n : Nat) (f : Nat → Int64) (x : Int32) (y : Int32) (z : Int32) (htp : ∀ k, k < 6 → ∃ a, tpf k = some a) (hx0 : 0 ≤ x.toInt) (hx6 : x.toInt < 6) (hta : tpf x.toInt.toNat = some ta) (hn : n ≤ 60) : xMet l D cy xT yX9_tape wsX9_tape ({ frames := 5, cells := 0, slots := 0, locals := 500 } : Room) [.ref fi, .int (x), .int (y), .int (z)] [(fi, .inr (8, [.ref tO, .ref gO, .ref nO, .ref tb, .ref tb', .ref trO, .ref gA, .ref tP, .int (nI kf)])), (tP, .inl (cy 5, 6, .inr (.inr (.inr (.inr tpf))))), (ta, .inr (7, [.ref tb9, .int (so), .int (nI n)])), (tb9, .inl (cy 2, 60, .inr (.inl f)))] [] (fun (v9 : Option Value) (w9 : va_W) => (v9 = some (.int (tapA y.toInt z.toInt)) ∧ w9 = [(fi, .inr (8, [.ref tO, .ref gO, .ref nO, .ref tb, .ref tb', .ref trO, .ref gA, .ref tP, .int (nI kf)])), (tP, .inl (cy 5, 6, .inr (.inr (.inr (.inr tpf))))), (ta, .inr (7, [.ref tb9, .int ((tapN (so, n, f) y z).1), .int (nI ((tapN (so, n, f) y z).2.1))])), (tb9, .inl (cy 2, 60, .inr (.inl ((tapN (so, n, f) y z).2.2))))])) := by
  refine xMet_of (cc := cX9_tape) (maxL := 5) (ret := (some .int)) (by decide) rfl (Nat.le_of_ble_eq_true rfl) (fun p e s m args below meth c A R Q hA hR hQ C hr hnm hro hX => ?_)
  refine x_L (L' := [(0, .ref fi), (1, .int (x)), (2, .int (y)), (3, .int (z))]) [0, 1, 2, 3] rfl ?_
  refine x_aload_n C dX9_tape_0 (q := 1) rfl rfl 0 rfl ?_
  refine x_iload_n C dX9_tape_1 (q := 2) rfl rfl 1 rfl ?_
  refine x_callV C (roW := []) (roR := []) (c_X9_tapeAt l D cy fi tO gO nO tb tb' trO gA tP kf tpf x (by assumption)) (cwV 1 C.2.2.2.2.1 gX9_tape_X9_tapeAt rfl rfl rfl (by decide +kernel) (by rw [hR]; exact ⟨Nat.le_of_ble_eq_true rfl, Nat.le_of_ble_eq_true rfl⟩)) [0, 1] [] rfl (by decide) rfl (by decide) xro_nil (List.mem_of_getElem? (i := 0) rfl) (ci := 8) rfl xT_bl (fun _ _ _ _ _ _ _ => trivial) rfl rfl dX9_tape_2 rfl rfl (Nat.le_of_ble_eq_true rfl) (q := 5) rfl (k' := 0) rfl (n' := 0) rfl (by rw [hR]; exact ⟨Nat.le_of_ble_eq_true rfl, Nat.le_of_ble_eq_true rfl⟩) (fun v1 w1 hp1 => ?_)
  rcases hp1 with hp1 | hp1
  · skip
    obtain ⟨a_2, rfl, rfl, hc3, hc4, hc5⟩ := hp1
    refine x_ws (ws' := [(fi, .inr (8, [.ref tO, .ref gO, .ref nO, .ref tb, .ref tb', .ref trO, .ref gA, .ref tP, .int (nI kf)])), (tP, .inl (cy 5, 6, .inr (.inr (.inr (.inr tpf))))), (ta, .inr (7, [.ref tb9, .int (so), .int (nI n)])), (tb9, .inl (cy 2, 60, .inr (.inl f)))]) rfl ?_
    obtain rfl : ta = a_2 := Option.some.inj (hta.symm.trans hc5)
    refine x_astore C (L' := [(4, .ref ta), (0, .ref fi), (1, .int (x)), (2, .int (y)), (3, .int (z))]) dX9_tape_5 (q := 7) rfl (by decide) rfl ?_
    refine x_aload C dX9_tape_7 (q := 9) rfl 0 rfl ?_
    refine x_ifnonnull C (tgt := 14) dX9_tape_9 (by decide) ?_
    refine x_iload_n C dX9_tape_14 (q := 15) rfl rfl 3 rfl ?_
    refine x_iconst C dX9_tape_15 (q := 16) rfl (v := (-1)) (by decide) ?_
    refine x_icmp_lt C (tgt := 24) dX9_tape_16 (by decide) (q := 19) rfl (a := y.toInt) (b := (-1)) rfl rfl (fun h6 => ?_) (fun h6 => ?_)
    · first
      | (exfalso; omega)
      |
        refine x_bipush C dX9_tape_24 (q := 26) rfl (v := (-2)) (by decide) ?_
        refine x_iret C hA hQ hr dX9_tape_26 (Nat.le_of_ble_eq_true rfl) ?_
        unfold tapA tapN
        repeat (first | rw [if_pos (by omega)] | rw [if_neg (by omega)])
        exact ⟨rfl, rfl⟩
    · first
      | (exfalso; omega)
      |
        refine x_iload_n C dX9_tape_19 (q := 20) rfl rfl 3 rfl ?_
        refine x_iconst C dX9_tape_20 (q := 21) rfl (v := nI 4) (by decide) ?_
        refine x_icmp_le C (tgt := 27) dX9_tape_21 (by decide) (q := 24) rfl (a := y.toInt) (b := 4) rfl rfl (fun h7 => ?_) (fun h7 => ?_)
        · first
          | (exfalso; omega)
          |
            refine x_iload_n C dX9_tape_27 (q := 28) rfl rfl 3 rfl ?_
            refine x_iconst C dX9_tape_28 (q := 29) rfl (v := (-1)) (by decide) ?_
            refine x_icmp_eq C (tgt := 41) dX9_tape_29 (by decide) (q := 32) rfl (a := y.toInt) (b := (-1)) rfl rfl (fun h8 => ?_) (fun h8 => ?_)
            · first
              | (exfalso; omega)
              |
                refine x_iload_n C dX9_tape_41 (q := 42) rfl rfl 3 rfl ?_
                refine x_iconst C dX9_tape_42 (q := 43) rfl (v := (-1)) (by decide) ?_
                refine x_icmp_eq C (tgt := 53) dX9_tape_43 (by decide) (q := 46) rfl (a := y.toInt) (b := (-1)) rfl rfl (fun h9 => ?_) (fun h9 => ?_)
                · first
                  | (exfalso; omega)
                  |
                    refine x_aload C dX9_tape_53 (q := 55) rfl 0 rfl ?_
                    refine x_iload_n C dX9_tape_55 (q := 56) rfl rfl 3 rfl ?_
                    refine x_iload_n C dX9_tape_56 (q := 57) rfl rfl 3 rfl ?_
                    refine x_iconst C dX9_tape_57 (q := 58) rfl (v := (-1)) (by decide) ?_
                    refine x_icmp_ne C (tgt := 65) dX9_tape_58 (by decide) (q := 61) rfl (a := y.toInt) (b := (-1)) rfl rfl (fun h10 => ?_) (fun h10 => ?_)
                    · first
                      | (exfalso; omega)
                      |
                        refine x_iload_n C dX9_tape_65 (q := 66) rfl rfl 4 rfl ?_
                        refine x_st (st' := [.int (nI z.toInt.toNat), .int (y), .ref ta]) (congrArg (fun z9 => ([.int z9, .int (y), .ref ta] : List Value)) (xi_nat (by omega))) ?_
                        refine x_callV C (roW := []) (roR := []) (c_X8_become l D cy ta tb9 so n f y z.toInt.toNat (by first | assumption | omega | (simp only []; omega))) (cwV 2 C.2.2.2.2.1 gX9_tape_X8_become rfl rfl rfl (by decide +kernel) (by rw [hR]; exact ⟨Nat.le_of_ble_eq_true rfl, Nat.le_of_ble_eq_true rfl⟩)) [2, 3] [] rfl (by decide) rfl (by decide) xro_nil (List.mem_of_getElem? (i := 0) rfl) (ci := 7) rfl xT_bl (fun _ _ _ _ _ _ _ => trivial) rfl rfl dX9_tape_66 rfl rfl (Nat.le_of_ble_eq_true rfl) (q := 69) rfl (k' := 0) rfl (n' := 0) rfl (by rw [hR]; exact ⟨Nat.le_of_ble_eq_true rfl, Nat.le_of_ble_eq_true rfl⟩) (fun v11 w11 hp11 => ?_)
                        obtain ⟨rfl, rfl⟩ := hp11
                        refine x_ws (ws' := [(fi, .inr (8, [.ref tO, .ref gO, .ref nO, .ref tb, .ref tb', .ref trO, .ref gA, .ref tP, .int (nI kf)])), (tP, .inl (cy 5, 6, .inr (.inr (.inr (.inr tpf))))), (ta, .inr (7, [.ref tb9, .int (y), .int (nI z.toInt.toNat)])), (tb9, .inl (cy 2, 60, .inr (.inl (fun _ => lN 0))))]) rfl ?_
                        refine x_iconst C dX9_tape_69 (q := 70) rfl (v := nI 1) (by decide) ?_
                        refine x_iret C hA hQ hr dX9_tape_70 (Nat.le_of_ble_eq_true rfl) ?_
                        unfold tapA tapN
                        repeat (first | rw [if_pos (by omega)] | rw [if_neg (by omega)])
                        exact ⟨rfl, rfl⟩
                    · first
                      | (exfalso; omega)
                      |
                        refine x_iconst C dX9_tape_61 (q := 62) rfl (v := nI 0) (by decide) ?_
                        refine x_goto C (tgt := 66) dX9_tape_62 (by decide) ?_
                        refine x_callV C (roW := []) (roR := []) (c_X8_become l D cy ta tb9 so n f y 0 (by first | assumption | omega | (simp only []; omega))) (cwV 2 C.2.2.2.2.1 gX9_tape_X8_become rfl rfl rfl (by decide +kernel) (by rw [hR]; exact ⟨Nat.le_of_ble_eq_true rfl, Nat.le_of_ble_eq_true rfl⟩)) [2, 3] [] rfl (by decide) rfl (by decide) xro_nil (List.mem_of_getElem? (i := 0) rfl) (ci := 7) rfl xT_bl (fun _ _ _ _ _ _ _ => trivial) rfl rfl dX9_tape_66 rfl rfl (Nat.le_of_ble_eq_true rfl) (q := 69) rfl (k' := 0) rfl (n' := 0) rfl (by rw [hR]; exact ⟨Nat.le_of_ble_eq_true rfl, Nat.le_of_ble_eq_true rfl⟩) (fun v12 w12 hp12 => ?_)
                        obtain ⟨rfl, rfl⟩ := hp12
                        refine x_ws (ws' := [(fi, .inr (8, [.ref tO, .ref gO, .ref nO, .ref tb, .ref tb', .ref trO, .ref gA, .ref tP, .int (nI kf)])), (tP, .inl (cy 5, 6, .inr (.inr (.inr (.inr tpf))))), (ta, .inr (7, [.ref tb9, .int (y), .int (nI 0)])), (tb9, .inl (cy 2, 60, .inr (.inl (fun _ => lN 0))))]) rfl ?_
                        refine x_iconst C dX9_tape_69 (q := 70) rfl (v := nI 1) (by decide) ?_
                        refine x_iret C hA hQ hr dX9_tape_70 (Nat.le_of_ble_eq_true rfl) ?_
                        unfold tapA tapN
                        repeat (first | rw [if_pos (by omega)] | rw [if_neg (by omega)])
                        exact ⟨rfl, rfl⟩
                · first
                  | (exfalso; omega)
                  |
                    refine x_iload_n C dX9_tape_46 (q := 47) rfl rfl 4 rfl ?_
                    refine x_if_ge C (tgt := 53) dX9_tape_47 (by decide) (q := 50) rfl (a := z.toInt) rfl (fun h13 => ?_) (fun h13 => ?_)
                    · first
                      | (exfalso; omega)
                      |
                        refine x_aload C dX9_tape_53 (q := 55) rfl 0 rfl ?_
                        refine x_iload_n C dX9_tape_55 (q := 56) rfl rfl 3 rfl ?_
                        refine x_iload_n C dX9_tape_56 (q := 57) rfl rfl 3 rfl ?_
                        refine x_iconst C dX9_tape_57 (q := 58) rfl (v := (-1)) (by decide) ?_
                        refine x_icmp_ne C (tgt := 65) dX9_tape_58 (by decide) (q := 61) rfl (a := y.toInt) (b := (-1)) rfl rfl (fun h14 => ?_) (fun h14 => ?_)
                        · first
                          | (exfalso; omega)
                          |
                            refine x_iload_n C dX9_tape_65 (q := 66) rfl rfl 4 rfl ?_
                            refine x_st (st' := [.int (nI z.toInt.toNat), .int (y), .ref ta]) (congrArg (fun z9 => ([.int z9, .int (y), .ref ta] : List Value)) (xi_nat (by omega))) ?_
                            refine x_callV C (roW := []) (roR := []) (c_X8_become l D cy ta tb9 so n f y z.toInt.toNat (by first | assumption | omega | (simp only []; omega))) (cwV 2 C.2.2.2.2.1 gX9_tape_X8_become rfl rfl rfl (by decide +kernel) (by rw [hR]; exact ⟨Nat.le_of_ble_eq_true rfl, Nat.le_of_ble_eq_true rfl⟩)) [2, 3] [] rfl (by decide) rfl (by decide) xro_nil (List.mem_of_getElem? (i := 0) rfl) (ci := 7) rfl xT_bl (fun _ _ _ _ _ _ _ => trivial) rfl rfl dX9_tape_66 rfl rfl (Nat.le_of_ble_eq_true rfl) (q := 69) rfl (k' := 0) rfl (n' := 0) rfl (by rw [hR]; exact ⟨Nat.le_of_ble_eq_true rfl, Nat.le_of_ble_eq_true rfl⟩) (fun v15 w15 hp15 => ?_)
                            obtain ⟨rfl, rfl⟩ := hp15
                            refine x_ws (ws' := [(fi, .inr (8, [.ref tO, .ref gO, .ref nO, .ref tb, .ref tb', .ref trO, .ref gA, .ref tP, .int (nI kf)])), (tP, .inl (cy 5, 6, .inr (.inr (.inr (.inr tpf))))), (ta, .inr (7, [.ref tb9, .int (y), .int (nI z.toInt.toNat)])), (tb9, .inl (cy 2, 60, .inr (.inl (fun _ => lN 0))))]) rfl ?_
                            refine x_iconst C dX9_tape_69 (q := 70) rfl (v := nI 1) (by decide) ?_
                            refine x_iret C hA hQ hr dX9_tape_70 (Nat.le_of_ble_eq_true rfl) ?_
                            unfold tapA tapN
                            repeat (first | rw [if_pos (by omega)] | rw [if_neg (by omega)])
                            exact ⟨rfl, rfl⟩
                        · first
                          | (exfalso; omega)
                          |
                            refine x_iconst C dX9_tape_61 (q := 62) rfl (v := nI 0) (by decide) ?_
                            refine x_goto C (tgt := 66) dX9_tape_62 (by decide) ?_
                            refine x_callV C (roW := []) (roR := []) (c_X8_become l D cy ta tb9 so n f y 0 (by first | assumption | omega | (simp only []; omega))) (cwV 2 C.2.2.2.2.1 gX9_tape_X8_become rfl rfl rfl (by decide +kernel) (by rw [hR]; exact ⟨Nat.le_of_ble_eq_true rfl, Nat.le_of_ble_eq_true rfl⟩)) [2, 3] [] rfl (by decide) rfl (by decide) xro_nil (List.mem_of_getElem? (i := 0) rfl) (ci := 7) rfl xT_bl (fun _ _ _ _ _ _ _ => trivial) rfl rfl dX9_tape_66 rfl rfl (Nat.le_of_ble_eq_true rfl) (q := 69) rfl (k' := 0) rfl (n' := 0) rfl (by rw [hR]; exact ⟨Nat.le_of_ble_eq_true rfl, Nat.le_of_ble_eq_true rfl⟩) (fun v16 w16 hp16 => ?_)
                            obtain ⟨rfl, rfl⟩ := hp16
                            refine x_ws (ws' := [(fi, .inr (8, [.ref tO, .ref gO, .ref nO, .ref tb, .ref tb', .ref trO, .ref gA, .ref tP, .int (nI kf)])), (tP, .inl (cy 5, 6, .inr (.inr (.inr (.inr tpf))))), (ta, .inr (7, [.ref tb9, .int (y), .int (nI 0)])), (tb9, .inl (cy 2, 60, .inr (.inl (fun _ => lN 0))))]) rfl ?_
                            refine x_iconst C dX9_tape_69 (q := 70) rfl (v := nI 1) (by decide) ?_
                            refine x_iret C hA hQ hr dX9_tape_70 (Nat.le_of_ble_eq_true rfl) ?_
                            unfold tapA tapN
                            repeat (first | rw [if_pos (by omega)] | rw [if_neg (by omega)])
                            exact ⟨rfl, rfl⟩
                    · first
                      | (exfalso; omega)
                      |
                        refine x_bipush C dX9_tape_50 (q := 52) rfl (v := (-14)) (by decide) ?_
                        refine x_iret C hA hQ hr dX9_tape_52 (Nat.le_of_ble_eq_true rfl) ?_
                        unfold tapA tapN
                        repeat (first | rw [if_pos (by omega)] | rw [if_neg (by omega)])
                        exact ⟨rfl, rfl⟩
            · first
              | (exfalso; omega)
              |
                refine x_iload_n C dX9_tape_32 (q := 33) rfl rfl 4 rfl ?_
                refine x_bipush C dX9_tape_33 (q := 35) rfl (v := nI 60) (by decide) ?_
                refine x_icmp_le C (tgt := 41) dX9_tape_35 (by decide) (q := 38) rfl (a := z.toInt) (b := 60) rfl rfl (fun h17 => ?_) (fun h17 => ?_)
                · first
                  | (exfalso; omega)
                  |
                    refine x_iload_n C dX9_tape_41 (q := 42) rfl rfl 3 rfl ?_
                    refine x_iconst C dX9_tape_42 (q := 43) rfl (v := (-1)) (by decide) ?_
                    refine x_icmp_eq C (tgt := 53) dX9_tape_43 (by decide) (q := 46) rfl (a := y.toInt) (b := (-1)) rfl rfl (fun h18 => ?_) (fun h18 => ?_)
                    · first
                      | (exfalso; omega)
                      |
                        refine x_aload C dX9_tape_53 (q := 55) rfl 0 rfl ?_
                        refine x_iload_n C dX9_tape_55 (q := 56) rfl rfl 3 rfl ?_
                        refine x_iload_n C dX9_tape_56 (q := 57) rfl rfl 3 rfl ?_
                        refine x_iconst C dX9_tape_57 (q := 58) rfl (v := (-1)) (by decide) ?_
                        refine x_icmp_ne C (tgt := 65) dX9_tape_58 (by decide) (q := 61) rfl (a := y.toInt) (b := (-1)) rfl rfl (fun h19 => ?_) (fun h19 => ?_)
                        · first
                          | (exfalso; omega)
                          |
                            refine x_iload_n C dX9_tape_65 (q := 66) rfl rfl 4 rfl ?_
                            refine x_st (st' := [.int (nI z.toInt.toNat), .int (y), .ref ta]) (congrArg (fun z9 => ([.int z9, .int (y), .ref ta] : List Value)) (xi_nat (by omega))) ?_
                            refine x_callV C (roW := []) (roR := []) (c_X8_become l D cy ta tb9 so n f y z.toInt.toNat (by first | assumption | omega | (simp only []; omega))) (cwV 2 C.2.2.2.2.1 gX9_tape_X8_become rfl rfl rfl (by decide +kernel) (by rw [hR]; exact ⟨Nat.le_of_ble_eq_true rfl, Nat.le_of_ble_eq_true rfl⟩)) [2, 3] [] rfl (by decide) rfl (by decide) xro_nil (List.mem_of_getElem? (i := 0) rfl) (ci := 7) rfl xT_bl (fun _ _ _ _ _ _ _ => trivial) rfl rfl dX9_tape_66 rfl rfl (Nat.le_of_ble_eq_true rfl) (q := 69) rfl (k' := 0) rfl (n' := 0) rfl (by rw [hR]; exact ⟨Nat.le_of_ble_eq_true rfl, Nat.le_of_ble_eq_true rfl⟩) (fun v20 w20 hp20 => ?_)
                            obtain ⟨rfl, rfl⟩ := hp20
                            refine x_ws (ws' := [(fi, .inr (8, [.ref tO, .ref gO, .ref nO, .ref tb, .ref tb', .ref trO, .ref gA, .ref tP, .int (nI kf)])), (tP, .inl (cy 5, 6, .inr (.inr (.inr (.inr tpf))))), (ta, .inr (7, [.ref tb9, .int (y), .int (nI z.toInt.toNat)])), (tb9, .inl (cy 2, 60, .inr (.inl (fun _ => lN 0))))]) rfl ?_
                            refine x_iconst C dX9_tape_69 (q := 70) rfl (v := nI 1) (by decide) ?_
                            refine x_iret C hA hQ hr dX9_tape_70 (Nat.le_of_ble_eq_true rfl) ?_
                            unfold tapA tapN
                            repeat (first | rw [if_pos (by omega)] | rw [if_neg (by omega)])
                            exact ⟨rfl, rfl⟩
                        · first
                          | (exfalso; omega)
                          |
                            refine x_iconst C dX9_tape_61 (q := 62) rfl (v := nI 0) (by decide) ?_
                            refine x_goto C (tgt := 66) dX9_tape_62 (by decide) ?_
                            refine x_callV C (roW := []) (roR := []) (c_X8_become l D cy ta tb9 so n f y 0 (by first | assumption | omega | (simp only []; omega))) (cwV 2 C.2.2.2.2.1 gX9_tape_X8_become rfl rfl rfl (by decide +kernel) (by rw [hR]; exact ⟨Nat.le_of_ble_eq_true rfl, Nat.le_of_ble_eq_true rfl⟩)) [2, 3] [] rfl (by decide) rfl (by decide) xro_nil (List.mem_of_getElem? (i := 0) rfl) (ci := 7) rfl xT_bl (fun _ _ _ _ _ _ _ => trivial) rfl rfl dX9_tape_66 rfl rfl (Nat.le_of_ble_eq_true rfl) (q := 69) rfl (k' := 0) rfl (n' := 0) rfl (by rw [hR]; exact ⟨Nat.le_of_ble_eq_true rfl, Nat.le_of_ble_eq_true rfl⟩) (fun v21 w21 hp21 => ?_)
                            obtain ⟨rfl, rfl⟩ := hp21
                            refine x_ws (ws' := [(fi, .inr (8, [.ref tO, .ref gO, .ref nO, .ref tb, .ref tb', .ref trO, .ref gA, .ref tP, .int (nI kf)])), (tP, .inl (cy 5, 6, .inr (.inr (.inr (.inr tpf))))), (ta, .inr (7, [.ref tb9, .int (y), .int (nI 0)])), (tb9, .inl (cy 2, 60, .inr (.inl (fun _ => lN 0))))]) rfl ?_
                            refine x_iconst C dX9_tape_69 (q := 70) rfl (v := nI 1) (by decide) ?_
                            refine x_iret C hA hQ hr dX9_tape_70 (Nat.le_of_ble_eq_true rfl) ?_
                            unfold tapA tapN
                            repeat (first | rw [if_pos (by omega)] | rw [if_neg (by omega)])
                            exact ⟨rfl, rfl⟩
                    · first
                      | (exfalso; omega)
                      |
                        refine x_iload_n C dX9_tape_46 (q := 47) rfl rfl 4 rfl ?_
                        refine x_if_ge C (tgt := 53) dX9_tape_47 (by decide) (q := 50) rfl (a := z.toInt) rfl (fun h22 => ?_) (fun h22 => ?_)
                        · first
                          | (exfalso; omega)
                          |
                            refine x_aload C dX9_tape_53 (q := 55) rfl 0 rfl ?_
                            refine x_iload_n C dX9_tape_55 (q := 56) rfl rfl 3 rfl ?_
                            refine x_iload_n C dX9_tape_56 (q := 57) rfl rfl 3 rfl ?_
                            refine x_iconst C dX9_tape_57 (q := 58) rfl (v := (-1)) (by decide) ?_
                            refine x_icmp_ne C (tgt := 65) dX9_tape_58 (by decide) (q := 61) rfl (a := y.toInt) (b := (-1)) rfl rfl (fun h23 => ?_) (fun h23 => ?_)
                            · first
                              | (exfalso; omega)
                              |
                                refine x_iload_n C dX9_tape_65 (q := 66) rfl rfl 4 rfl ?_
                                refine x_st (st' := [.int (nI z.toInt.toNat), .int (y), .ref ta]) (congrArg (fun z9 => ([.int z9, .int (y), .ref ta] : List Value)) (xi_nat (by omega))) ?_
                                refine x_callV C (roW := []) (roR := []) (c_X8_become l D cy ta tb9 so n f y z.toInt.toNat (by first | assumption | omega | (simp only []; omega))) (cwV 2 C.2.2.2.2.1 gX9_tape_X8_become rfl rfl rfl (by decide +kernel) (by rw [hR]; exact ⟨Nat.le_of_ble_eq_true rfl, Nat.le_of_ble_eq_true rfl⟩)) [2, 3] [] rfl (by decide) rfl (by decide) xro_nil (List.mem_of_getElem? (i := 0) rfl) (ci := 7) rfl xT_bl (fun _ _ _ _ _ _ _ => trivial) rfl rfl dX9_tape_66 rfl rfl (Nat.le_of_ble_eq_true rfl) (q := 69) rfl (k' := 0) rfl (n' := 0) rfl (by rw [hR]; exact ⟨Nat.le_of_ble_eq_true rfl, Nat.le_of_ble_eq_true rfl⟩) (fun v24 w24 hp24 => ?_)
                                obtain ⟨rfl, rfl⟩ := hp24
                                refine x_ws (ws' := [(fi, .inr (8, [.ref tO, .ref gO, .ref nO, .ref tb, .ref tb', .ref trO, .ref gA, .ref tP, .int (nI kf)])), (tP, .inl (cy 5, 6, .inr (.inr (.inr (.inr tpf))))), (ta, .inr (7, [.ref tb9, .int (y), .int (nI z.toInt.toNat)])), (tb9, .inl (cy 2, 60, .inr (.inl (fun _ => lN 0))))]) rfl ?_
                                refine x_iconst C dX9_tape_69 (q := 70) rfl (v := nI 1) (by decide) ?_
                                refine x_iret C hA hQ hr dX9_tape_70 (Nat.le_of_ble_eq_true rfl) ?_
                                unfold tapA tapN
                                repeat (first | rw [if_pos (by omega)] | rw [if_neg (by omega)])
                                exact ⟨rfl, rfl⟩
                            · first
                              | (exfalso; omega)
                              |
                                refine x_iconst C dX9_tape_61 (q := 62) rfl (v := nI 0) (by decide) ?_
                                refine x_goto C (tgt := 66) dX9_tape_62 (by decide) ?_
                                refine x_callV C (roW := []) (roR := []) (c_X8_become l D cy ta tb9 so n f y 0 (by first | assumption | omega | (simp only []; omega))) (cwV 2 C.2.2.2.2.1 gX9_tape_X8_become rfl rfl rfl (by decide +kernel) (by rw [hR]; exact ⟨Nat.le_of_ble_eq_true rfl, Nat.le_of_ble_eq_true rfl⟩)) [2, 3] [] rfl (by decide) rfl (by decide) xro_nil (List.mem_of_getElem? (i := 0) rfl) (ci := 7) rfl xT_bl (fun _ _ _ _ _ _ _ => trivial) rfl rfl dX9_tape_66 rfl rfl (Nat.le_of_ble_eq_true rfl) (q := 69) rfl (k' := 0) rfl (n' := 0) rfl (by rw [hR]; exact ⟨Nat.le_of_ble_eq_true rfl, Nat.le_of_ble_eq_true rfl⟩) (fun v25 w25 hp25 => ?_)
                                obtain ⟨rfl, rfl⟩ := hp25
                                refine x_ws (ws' := [(fi, .inr (8, [.ref tO, .ref gO, .ref nO, .ref tb, .ref tb', .ref trO, .ref gA, .ref tP, .int (nI kf)])), (tP, .inl (cy 5, 6, .inr (.inr (.inr (.inr tpf))))), (ta, .inr (7, [.ref tb9, .int (y), .int (nI 0)])), (tb9, .inl (cy 2, 60, .inr (.inl (fun _ => lN 0))))]) rfl ?_
                                refine x_iconst C dX9_tape_69 (q := 70) rfl (v := nI 1) (by decide) ?_
                                refine x_iret C hA hQ hr dX9_tape_70 (Nat.le_of_ble_eq_true rfl) ?_
                                unfold tapA tapN
                                repeat (first | rw [if_pos (by omega)] | rw [if_neg (by omega)])
                                exact ⟨rfl, rfl⟩
                        · first
                          | (exfalso; omega)
                          |
                            refine x_bipush C dX9_tape_50 (q := 52) rfl (v := (-14)) (by decide) ?_
                            refine x_iret C hA hQ hr dX9_tape_52 (Nat.le_of_ble_eq_true rfl) ?_
                            unfold tapA tapN
                            repeat (first | rw [if_pos (by omega)] | rw [if_neg (by omega)])
                            exact ⟨rfl, rfl⟩
                · first
                  | (exfalso; omega)
                  |
                    refine x_bipush C dX9_tape_38 (q := 40) rfl (v := (-2)) (by decide) ?_
                    refine x_iret C hA hQ hr dX9_tape_40 (Nat.le_of_ble_eq_true rfl) ?_
                    unfold tapA tapN
                    repeat (first | rw [if_pos (by omega)] | rw [if_neg (by omega)])
                    exact ⟨rfl, rfl⟩
        · first
          | (exfalso; omega)
          |
            refine x_bipush C dX9_tape_24 (q := 26) rfl (v := (-2)) (by decide) ?_
            refine x_iret C hA hQ hr dX9_tape_26 (Nat.le_of_ble_eq_true rfl) ?_
            unfold tapA tapN
            repeat (first | rw [if_pos (by omega)] | rw [if_neg (by omega)])
            exact ⟨rfl, rfl⟩
  · skip
    obtain ⟨rfl, rfl, hc26⟩ := hp1
    refine x_ws (ws' := [(fi, .inr (8, [.ref tO, .ref gO, .ref nO, .ref tb, .ref tb', .ref trO, .ref gA, .ref tP, .int (nI kf)])), (tP, .inl (cy 5, 6, .inr (.inr (.inr (.inr tpf))))), (ta, .inr (7, [.ref tb9, .int (so), .int (nI n)])), (tb9, .inl (cy 2, 60, .inr (.inl f)))]) rfl ?_
    exfalso; omega

set_option maxHeartbeats 4000000 in
set_option maxRecDepth 100000 in
/-- tape, of none -/
theorem c_X9_tape_o (l : Launch) (D : va_G) (cy : Nat → ClassId) (fi : Nat) (tO : Nat) (gO : Nat) (nO : Nat) (tb : Nat) (tb' : Nat) (trO : Nat) (gA : Nat) (tP : Nat) (kf : Nat) (tpf : Nat → Option Nat) (x : Int32) (y : Int32) (z : Int32) (htp : ∀ k, k < 6 → ∃ a, tpf k = some a) (hx : x.toInt < 0 ∨ 6 ≤ x.toInt) : xMet l D cy xT yX9_tape wsX9_tape ({ frames := 5, cells := 0, slots := 0, locals := 500 } : Room) [.ref fi, .int (x), .int (y), .int (z)] [(fi, .inr (8, [.ref tO, .ref gO, .ref nO, .ref tb, .ref tb', .ref trO, .ref gA, .ref tP, .int (nI kf)])), (tP, .inl (cy 5, 6, .inr (.inr (.inr (.inr tpf)))))] [] (fun (v9 : Option Value) (w9 : va_W) => (v9 = some (.int ((-1))) ∧ w9 = [(fi, .inr (8, [.ref tO, .ref gO, .ref nO, .ref tb, .ref tb', .ref trO, .ref gA, .ref tP, .int (nI kf)])), (tP, .inl (cy 5, 6, .inr (.inr (.inr (.inr tpf)))))])) := by
  refine xMet_of (cc := cX9_tape) (maxL := 5) (ret := (some .int)) (by decide) rfl (Nat.le_of_ble_eq_true rfl) (fun p e s m args below meth c A R Q hA hR hQ C hr hnm hro hX => ?_)
  refine x_L (L' := [(0, .ref fi), (1, .int (x)), (2, .int (y)), (3, .int (z))]) [0, 1, 2, 3] rfl ?_
  refine x_aload_n C dX9_tape_0 (q := 1) rfl rfl 0 rfl ?_
  refine x_iload_n C dX9_tape_1 (q := 2) rfl rfl 1 rfl ?_
  refine x_callV C (roW := []) (roR := []) (c_X9_tapeAt l D cy fi tO gO nO tb tb' trO gA tP kf tpf x (by assumption)) (cwV 1 C.2.2.2.2.1 gX9_tape_X9_tapeAt rfl rfl rfl (by decide +kernel) (by rw [hR]; exact ⟨Nat.le_of_ble_eq_true rfl, Nat.le_of_ble_eq_true rfl⟩)) [0, 1] [] rfl (by decide) rfl (by decide) xro_nil (List.mem_of_getElem? (i := 0) rfl) (ci := 8) rfl xT_bl (fun _ _ _ _ _ _ _ => trivial) rfl rfl dX9_tape_2 rfl rfl (Nat.le_of_ble_eq_true rfl) (q := 5) rfl (k' := 0) rfl (n' := 0) rfl (by rw [hR]; exact ⟨Nat.le_of_ble_eq_true rfl, Nat.le_of_ble_eq_true rfl⟩) (fun v1 w1 hp1 => ?_)
  rcases hp1 with hp1 | hp1
  · exfalso; obtain ⟨_, _, _, hc2, hc3, hc4⟩ := hp1; omega
  · skip
    obtain ⟨rfl, rfl, hc5⟩ := hp1
    refine x_ws (ws' := [(fi, .inr (8, [.ref tO, .ref gO, .ref nO, .ref tb, .ref tb', .ref trO, .ref gA, .ref tP, .int (nI kf)])), (tP, .inl (cy 5, 6, .inr (.inr (.inr (.inr tpf)))))]) rfl ?_
    refine x_astoreN C (L' := [(4, .null), (0, .ref fi), (1, .int (x)), (2, .int (y)), (3, .int (z))]) dX9_tape_5 (q := 7) rfl (by decide) rfl ?_
    refine x_aloadN C dX9_tape_7 (q := 9) rfl 0 rfl ?_
    refine x_ifnonnullN C dX9_tape_9 (q := 12) rfl ?_
    refine x_iconst C dX9_tape_12 (q := 13) rfl (v := (-1)) (by decide) ?_
    refine x_iret C hA hQ hr dX9_tape_13 (Nat.le_of_ble_eq_true rfl) ?_
    first | exact ⟨rfl, rfl⟩ | exact ⟨_, rfl, rfl, by first | rfl | omega | assumption⟩ | (refine ⟨_, rfl, rfl, ?_⟩; (first | rfl | omega | (simp only []; omega)))

set_option maxHeartbeats 4000000 in
set_option maxRecDepth 100000 in
/-- item, of a TAPE that there is -/
theorem c_X9_item (l : Launch) (D : va_G) (cy : Nat → ClassId) (fi : Nat) (tO : Nat) (gO : Nat) (nO : Nat) (tb : Nat) (tb' : Nat) (trO : Nat) (gA : Nat) (tP : Nat) (kf : Nat) (tpf : Nat → Option Nat) (ta : Nat) (tb9 : Nat) (so : Int32) (n : Nat) (f : Nat → Int64) (x : Int32) (y : Int32) (v : Int64) (htp : ∀ k, k < 6 → ∃ a, tpf k = some a) (hx0 : 0 ≤ x.toInt) (hx6 : x.toInt < 6) (hta : tpf x.toInt.toNat = some ta) (hn : n ≤ 60) : xMet l D cy xT yX9_item wsX9_item ({ frames := 5, cells := 0, slots := 0, locals := 500 } : Room) [.ref fi, .int (x), .int (y), .long (v)] [(fi, .inr (8, [.ref tO, .ref gO, .ref nO, .ref tb, .ref tb', .ref trO, .ref gA, .ref tP, .int (nI kf)])), (tP, .inl (cy 5, 6, .inr (.inr (.inr (.inr tpf))))), (ta, .inr (7, [.ref tb9, .int (so), .int (nI n)])), (tb9, .inl (cy 2, 60, .inr (.inl f)))] [] (fun (v9 : Option Value) (w9 : va_W) => (v9 = some (.int (iteA (so, n, f) y.toInt)) ∧ w9 = [(fi, .inr (8, [.ref tO, .ref gO, .ref nO, .ref tb, .ref tb', .ref trO, .ref gA, .ref tP, .int (nI kf)])), (tP, .inl (cy 5, 6, .inr (.inr (.inr (.inr tpf))))), (ta, .inr (7, [.ref tb9, .int (so), .int (nI n)])), (tb9, .inl (cy 2, 60, .inr (.inl (iteN (so, n, f) y.toInt v))))])) := by
  refine xMet_of (cc := cX9_item) (maxL := 6) (ret := (some .int)) (by decide) rfl (Nat.le_of_ble_eq_true rfl) (fun p e s m args below meth c A R Q hA hR hQ C hr hnm hro hX => ?_)
  have hw0 : ∀ w ∈ u_ws RX8 TX8 3, w ∈ wsX9_item := by decide +kernel
  have hw1 : Cond.fieldLink RX9 258 (TX8 1).1 (TX8 1).2.1 (TX8 1).2.2.1 ∈ wsX9_item := by decide +kernel
  refine x_L (L' := [(0, .ref fi), (1, .int (x)), (2, .int (y)), (3, .long (v))]) [0, 1, 2, 3] rfl ?_
  refine x_aload_n C dX9_item_0 (q := 1) rfl rfl 0 rfl ?_
  refine x_iload_n C dX9_item_1 (q := 2) rfl rfl 1 rfl ?_
  refine x_callV C (roW := []) (roR := []) (c_X9_tapeAt l D cy fi tO gO nO tb tb' trO gA tP kf tpf x (by assumption)) (cwV 1 C.2.2.2.2.1 gX9_item_X9_tapeAt rfl rfl rfl (by decide +kernel) (by rw [hR]; exact ⟨Nat.le_of_ble_eq_true rfl, Nat.le_of_ble_eq_true rfl⟩)) [0, 1] [] rfl (by decide) rfl (by decide) xro_nil (List.mem_of_getElem? (i := 0) rfl) (ci := 8) rfl xT_bl (fun _ _ _ _ _ _ _ => trivial) rfl rfl dX9_item_2 rfl rfl (Nat.le_of_ble_eq_true rfl) (q := 5) rfl (k' := 0) rfl (n' := 0) rfl (by rw [hR]; exact ⟨Nat.le_of_ble_eq_true rfl, Nat.le_of_ble_eq_true rfl⟩) (fun v1 w1 hp1 => ?_)
  rcases hp1 with hp1 | hp1
  · skip
    obtain ⟨a_2, rfl, rfl, hc3, hc4, hc5⟩ := hp1
    refine x_ws (ws' := [(fi, .inr (8, [.ref tO, .ref gO, .ref nO, .ref tb, .ref tb', .ref trO, .ref gA, .ref tP, .int (nI kf)])), (tP, .inl (cy 5, 6, .inr (.inr (.inr (.inr tpf))))), (ta, .inr (7, [.ref tb9, .int (so), .int (nI n)])), (tb9, .inl (cy 2, 60, .inr (.inl f)))]) rfl ?_
    obtain rfl : ta = a_2 := Option.some.inj (hta.symm.trans hc5)
    refine x_astore C (L' := [(5, .ref ta), (0, .ref fi), (1, .int (x)), (2, .int (y)), (3, .long (v))]) dX9_item_5 (q := 7) rfl (by decide) rfl ?_
    refine x_aload C dX9_item_7 (q := 9) rfl 0 rfl ?_
    refine x_ifnonnull C (tgt := 14) dX9_item_9 (by decide) ?_
    refine x_aload C dX9_item_14 (q := 16) rfl 0 rfl ?_
    refine x_get C (ci := 7) (v := .int (so)) hw0 2 rfl rfl 1 (by decide) hw1 rfl dX9_item_16 (q := 19) rfl ?_
    refine x_iconst C dX9_item_19 (q := 20) rfl (v := (-1)) (by decide) ?_
    refine x_icmp_ne C (tgt := 26) dX9_item_20 (by decide) (q := 23) rfl (a := so.toInt) (b := (-1)) rfl rfl (fun h6 => ?_) (fun h6 => ?_)
    · first
      | (exfalso; omega)
      |
        refine x_aload C dX9_item_26 (q := 28) rfl 0 rfl ?_
        refine x_iload_n C dX9_item_28 (q := 29) rfl rfl 3 rfl ?_
        refine x_callV C (roW := [(ta, .inr (7, [.ref tb9, .int (so), .int (nI n)])), (tb9, .inl (cy 2, 60, .inr (.inl f)))]) (roR := []) (c_X8_hasPlace l D cy ta tb9 so n f y (by first | assumption | omega | (simp only []; omega))) (cwV 1 C.2.2.2.2.1 gX9_item_X8_hasPlace rfl rfl rfl (by decide +kernel) (by rw [hR]; exact ⟨Nat.le_of_ble_eq_true rfl, Nat.le_of_ble_eq_true rfl⟩)) [] [2, 3] rfl (by decide) rfl (by decide) xro_nil (List.mem_of_getElem? (i := 0) rfl) (ci := 7) rfl xT_bl (fun _ _ _ _ _ _ _ => trivial) rfl rfl dX9_item_29 rfl rfl (Nat.le_of_ble_eq_true rfl) (q := 32) rfl (k' := 0) rfl (n' := 0) rfl (by rw [hR]; exact ⟨Nat.le_of_ble_eq_true rfl, Nat.le_of_ble_eq_true rfl⟩) (fun v7 w7 hp7 => ?_)
        rcases hp7 with hp7 | hp7
        · skip
          obtain ⟨rfl, rfl, hc8, hc9⟩ := hp7
          refine x_ws (ws' := [(fi, .inr (8, [.ref tO, .ref gO, .ref nO, .ref tb, .ref tb', .ref trO, .ref gA, .ref tP, .int (nI kf)])), (tP, .inl (cy 5, 6, .inr (.inr (.inr (.inr tpf))))), (ta, .inr (7, [.ref tb9, .int (so), .int (nI n)])), (tb9, .inl (cy 2, 60, .inr (.inl f)))]) (List.append_nil _) ?_
          refine x_if_ne C (tgt := 38) dX9_item_32 (by decide) (q := 35) rfl (a := 1) rfl (fun h10 => ?_) (fun h10 => (by omega : False).elim)
          refine x_aload C dX9_item_38 (q := 40) rfl 0 rfl ?_
          refine x_iload_n C dX9_item_40 (q := 41) rfl rfl 3 rfl ?_
          refine x_lload_n C dX9_item_41 (q := 42) rfl rfl 4 rfl ?_
          refine x_callV C (roW := []) (roR := []) (c_X8_put l D cy ta tb9 so n f y v (by first | assumption | omega | (simp only []; omega)) (by first | assumption | omega | (simp only []; omega)) (by first | assumption | omega | (simp only []; omega))) (cwV 2 C.2.2.2.2.1 gX9_item_X8_put rfl rfl rfl (by decide +kernel) (by rw [hR]; exact ⟨Nat.le_of_ble_eq_true rfl, Nat.le_of_ble_eq_true rfl⟩)) [2, 3] [] rfl (by decide) rfl (by decide) xro_nil (List.mem_of_getElem? (i := 0) rfl) (ci := 7) rfl xT_bl (fun _ _ _ _ _ _ _ => trivial) rfl rfl dX9_item_42 rfl rfl (Nat.le_of_ble_eq_true rfl) (q := 45) rfl (k' := 0) rfl (n' := 0) rfl (by rw [hR]; exact ⟨Nat.le_of_ble_eq_true rfl, Nat.le_of_ble_eq_true rfl⟩) (fun v11 w11 hp11 => ?_)
          obtain ⟨rfl, rfl⟩ := hp11
          refine x_ws (ws' := [(fi, .inr (8, [.ref tO, .ref gO, .ref nO, .ref tb, .ref tb', .ref trO, .ref gA, .ref tP, .int (nI kf)])), (tP, .inl (cy 5, 6, .inr (.inr (.inr (.inr tpf))))), (ta, .inr (7, [.ref tb9, .int (so), .int (nI n)])), (tb9, .inl (cy 2, 60, .inr (.inl (va_up f y.toInt.toNat (cutS so.toInt v)))))]) rfl ?_
          refine x_iconst C dX9_item_45 (q := 46) rfl (v := nI 1) (by decide) ?_
          refine x_iret C hA hQ hr dX9_item_46 (Nat.le_of_ble_eq_true rfl) ?_
          unfold iteA iteN
          dsimp only
          repeat (first | rw [if_pos (by omega)] | rw [if_neg (by omega)])
          exact ⟨rfl, rfl⟩
        · skip
          obtain ⟨rfl, rfl, hc12⟩ := hp7
          refine x_ws (ws' := [(fi, .inr (8, [.ref tO, .ref gO, .ref nO, .ref tb, .ref tb', .ref trO, .ref gA, .ref tP, .int (nI kf)])), (tP, .inl (cy 5, 6, .inr (.inr (.inr (.inr tpf))))), (ta, .inr (7, [.ref tb9, .int (so), .int (nI n)])), (tb9, .inl (cy 2, 60, .inr (.inl f)))]) (List.append_nil _) ?_
          refine x_if_ne C (tgt := 38) dX9_item_32 (by decide) (q := 35) rfl (a := 0) rfl (fun h13 => (by omega : False).elim) (fun h13 => ?_)
          refine x_bipush C dX9_item_35 (q := 37) rfl (v := (-13)) (by decide) ?_
          refine x_iret C hA hQ hr dX9_item_37 (Nat.le_of_ble_eq_true rfl) ?_
          unfold iteA iteN
          dsimp only
          repeat (first | rw [if_pos (by omega)] | rw [if_neg (by omega)])
          exact ⟨rfl, rfl⟩
    · first
      | (exfalso; omega)
      |
        refine x_bipush C dX9_item_23 (q := 25) rfl (v := (-11)) (by decide) ?_
        refine x_iret C hA hQ hr dX9_item_25 (Nat.le_of_ble_eq_true rfl) ?_
        unfold iteA iteN
        dsimp only
        repeat (first | rw [if_pos (by omega)] | rw [if_neg (by omega)])
        exact ⟨rfl, rfl⟩
  · skip
    obtain ⟨rfl, rfl, hc14⟩ := hp1
    refine x_ws (ws' := [(fi, .inr (8, [.ref tO, .ref gO, .ref nO, .ref tb, .ref tb', .ref trO, .ref gA, .ref tP, .int (nI kf)])), (tP, .inl (cy 5, 6, .inr (.inr (.inr (.inr tpf))))), (ta, .inr (7, [.ref tb9, .int (so), .int (nI n)])), (tb9, .inl (cy 2, 60, .inr (.inl f)))]) rfl ?_
    exfalso; omega

set_option maxHeartbeats 4000000 in
set_option maxRecDepth 100000 in
/-- item, of none -/
theorem c_X9_item_o (l : Launch) (D : va_G) (cy : Nat → ClassId) (fi : Nat) (tO : Nat) (gO : Nat) (nO : Nat) (tb : Nat) (tb' : Nat) (trO : Nat) (gA : Nat) (tP : Nat) (kf : Nat) (tpf : Nat → Option Nat) (x : Int32) (y : Int32) (v : Int64) (htp : ∀ k, k < 6 → ∃ a, tpf k = some a) (hx : x.toInt < 0 ∨ 6 ≤ x.toInt) : xMet l D cy xT yX9_item wsX9_item ({ frames := 5, cells := 0, slots := 0, locals := 500 } : Room) [.ref fi, .int (x), .int (y), .long (v)] [(fi, .inr (8, [.ref tO, .ref gO, .ref nO, .ref tb, .ref tb', .ref trO, .ref gA, .ref tP, .int (nI kf)])), (tP, .inl (cy 5, 6, .inr (.inr (.inr (.inr tpf)))))] [] (fun (v9 : Option Value) (w9 : va_W) => (v9 = some (.int ((-1))) ∧ w9 = [(fi, .inr (8, [.ref tO, .ref gO, .ref nO, .ref tb, .ref tb', .ref trO, .ref gA, .ref tP, .int (nI kf)])), (tP, .inl (cy 5, 6, .inr (.inr (.inr (.inr tpf)))))])) := by
  refine xMet_of (cc := cX9_item) (maxL := 6) (ret := (some .int)) (by decide) rfl (Nat.le_of_ble_eq_true rfl) (fun p e s m args below meth c A R Q hA hR hQ C hr hnm hro hX => ?_)
  refine x_L (L' := [(0, .ref fi), (1, .int (x)), (2, .int (y)), (3, .long (v))]) [0, 1, 2, 3] rfl ?_
  refine x_aload_n C dX9_item_0 (q := 1) rfl rfl 0 rfl ?_
  refine x_iload_n C dX9_item_1 (q := 2) rfl rfl 1 rfl ?_
  refine x_callV C (roW := []) (roR := []) (c_X9_tapeAt l D cy fi tO gO nO tb tb' trO gA tP kf tpf x (by assumption)) (cwV 1 C.2.2.2.2.1 gX9_item_X9_tapeAt rfl rfl rfl (by decide +kernel) (by rw [hR]; exact ⟨Nat.le_of_ble_eq_true rfl, Nat.le_of_ble_eq_true rfl⟩)) [0, 1] [] rfl (by decide) rfl (by decide) xro_nil (List.mem_of_getElem? (i := 0) rfl) (ci := 8) rfl xT_bl (fun _ _ _ _ _ _ _ => trivial) rfl rfl dX9_item_2 rfl rfl (Nat.le_of_ble_eq_true rfl) (q := 5) rfl (k' := 0) rfl (n' := 0) rfl (by rw [hR]; exact ⟨Nat.le_of_ble_eq_true rfl, Nat.le_of_ble_eq_true rfl⟩) (fun v1 w1 hp1 => ?_)
  rcases hp1 with hp1 | hp1
  · exfalso; obtain ⟨_, _, _, hc2, hc3, hc4⟩ := hp1; omega
  · skip
    obtain ⟨rfl, rfl, hc5⟩ := hp1
    refine x_ws (ws' := [(fi, .inr (8, [.ref tO, .ref gO, .ref nO, .ref tb, .ref tb', .ref trO, .ref gA, .ref tP, .int (nI kf)])), (tP, .inl (cy 5, 6, .inr (.inr (.inr (.inr tpf)))))]) rfl ?_
    refine x_astoreN C (L' := [(5, .null), (0, .ref fi), (1, .int (x)), (2, .int (y)), (3, .long (v))]) dX9_item_5 (q := 7) rfl (by decide) rfl ?_
    refine x_aloadN C dX9_item_7 (q := 9) rfl 0 rfl ?_
    refine x_ifnonnullN C dX9_item_9 (q := 12) rfl ?_
    refine x_iconst C dX9_item_12 (q := 13) rfl (v := (-1)) (by decide) ?_
    refine x_iret C hA hQ hr dX9_item_13 (Nat.le_of_ble_eq_true rfl) ?_
    first | exact ⟨rfl, rfl⟩ | exact ⟨_, rfl, rfl, by first | rfl | omega | assumption⟩ | (refine ⟨_, rfl, rfl, ?_⟩; (first | rfl | omega | (simp only []; omega)))

set_option maxHeartbeats 4000000 in
set_option maxRecDepth 100000 in
/-- read, of a TAPE that there is -/
theorem c_X9_read (l : Launch) (D : va_G) (cy : Nat → ClassId) (fi : Nat) (tO : Nat) (gO : Nat) (nO : Nat) (tb : Nat) (tb' : Nat) (trO : Nat) (gA : Nat) (tP : Nat) (kf : Nat) (tpf : Nat → Option Nat) (ta : Nat) (tb9 : Nat) (so : Int32) (n : Nat) (f : Nat → Int64) (x : Int32) (y : Int32) (htp : ∀ k, k < 6 → ∃ a, tpf k = some a) (hx0 : 0 ≤ x.toInt) (hx6 : x.toInt < 6) (hta : tpf x.toInt.toNat = some ta) (hn : n ≤ 60) : xMet l D cy xT yX9_read wsX9_read ({ frames := 5, cells := 0, slots := 0, locals := 500 } : Room) [.ref fi, .int (x), .int (y)] [(fi, .inr (8, [.ref tO, .ref gO, .ref nO, .ref tb, .ref tb', .ref trO, .ref gA, .ref tP, .int (nI kf)])), (tP, .inl (cy 5, 6, .inr (.inr (.inr (.inr tpf))))), (ta, .inr (7, [.ref tb9, .int (so), .int (nI n)])), (tb9, .inl (cy 2, 60, .inr (.inl f)))] [] (fun (v9 : Option Value) (w9 : va_W) => (v9 = some (.long (reaA (so, n, f) y.toInt)) ∧ w9 = [(fi, .inr (8, [.ref tO, .ref gO, .ref nO, .ref tb, .ref tb', .ref trO, .ref gA, .ref tP, .int (nI kf)])), (tP, .inl (cy 5, 6, .inr (.inr (.inr (.inr tpf))))), (ta, .inr (7, [.ref tb9, .int (so), .int (nI n)])), (tb9, .inl (cy 2, 60, .inr (.inl f)))])) := by
  refine xMet_of (cc := cX9_read) (maxL := 4) (ret := (some .long)) (by decide) rfl (Nat.le_of_ble_eq_true rfl) (fun p e s m args below meth c A R Q hA hR hQ C hr hnm hro hX => ?_)
  have hw0 : Jvm.Cond.constantLong RX9 186 (-9223372036854775808) ∈ wsX9_read := by decide +kernel
  refine x_L (L' := [(0, .ref fi), (1, .int (x)), (2, .int (y))]) [0, 1, 2] rfl ?_
  refine x_aload_n C dX9_read_0 (q := 1) rfl rfl 0 rfl ?_
  refine x_iload_n C dX9_read_1 (q := 2) rfl rfl 1 rfl ?_
  refine x_callV C (roW := []) (roR := []) (c_X9_tapeAt l D cy fi tO gO nO tb tb' trO gA tP kf tpf x (by assumption)) (cwV 1 C.2.2.2.2.1 gX9_read_X9_tapeAt rfl rfl rfl (by decide +kernel) (by rw [hR]; exact ⟨Nat.le_of_ble_eq_true rfl, Nat.le_of_ble_eq_true rfl⟩)) [0, 1] [] rfl (by decide) rfl (by decide) xro_nil (List.mem_of_getElem? (i := 0) rfl) (ci := 8) rfl xT_bl (fun _ _ _ _ _ _ _ => trivial) rfl rfl dX9_read_2 rfl rfl (Nat.le_of_ble_eq_true rfl) (q := 5) rfl (k' := 0) rfl (n' := 0) rfl (by rw [hR]; exact ⟨Nat.le_of_ble_eq_true rfl, Nat.le_of_ble_eq_true rfl⟩) (fun v1 w1 hp1 => ?_)
  rcases hp1 with hp1 | hp1
  · skip
    obtain ⟨a_2, rfl, rfl, hc3, hc4, hc5⟩ := hp1
    refine x_ws (ws' := [(fi, .inr (8, [.ref tO, .ref gO, .ref nO, .ref tb, .ref tb', .ref trO, .ref gA, .ref tP, .int (nI kf)])), (tP, .inl (cy 5, 6, .inr (.inr (.inr (.inr tpf))))), (ta, .inr (7, [.ref tb9, .int (so), .int (nI n)])), (tb9, .inl (cy 2, 60, .inr (.inl f)))]) rfl ?_
    obtain rfl : ta = a_2 := Option.some.inj (hta.symm.trans hc5)
    refine x_astore_n C (L' := [(3, .ref ta), (0, .ref fi), (1, .int (x)), (2, .int (y))]) dX9_read_5 (q := 6) rfl rfl (by decide) rfl ?_
    refine x_aload_n C dX9_read_6 (q := 7) rfl rfl 0 rfl ?_
    refine x_ifnull C dX9_read_7 (q := 10) rfl ?_
    refine x_aload_n C dX9_read_10 (q := 11) rfl rfl 0 rfl ?_
    refine x_iload_n C dX9_read_11 (q := 12) rfl rfl 3 rfl ?_
    refine x_callV C (roW := [(ta, .inr (7, [.ref tb9, .int (so), .int (nI n)])), (tb9, .inl (cy 2, 60, .inr (.inl f)))]) (roR := []) (c_X8_hasPlace l D cy ta tb9 so n f y (by first | assumption | omega | (simp only []; omega))) (cwV 1 C.2.2.2.2.1 gX9_read_X8_hasPlace rfl rfl rfl (by decide +kernel) (by rw [hR]; exact ⟨Nat.le_of_ble_eq_true rfl, Nat.le_of_ble_eq_true rfl⟩)) [] [2, 3] rfl (by decide) rfl (by decide) xro_nil (List.mem_of_getElem? (i := 0) rfl) (ci := 7) rfl xT_bl (fun _ _ _ _ _ _ _ => trivial) rfl rfl dX9_read_12 rfl rfl (Nat.le_of_ble_eq_true rfl) (q := 15) rfl (k' := 0) rfl (n' := 0) rfl (by rw [hR]; exact ⟨Nat.le_of_ble_eq_true rfl, Nat.le_of_ble_eq_true rfl⟩) (fun v6 w6 hp6 => ?_)
    rcases hp6 with hp6 | hp6
    · skip
      obtain ⟨rfl, rfl, hc7, hc8⟩ := hp6
      refine x_ws (ws' := [(fi, .inr (8, [.ref tO, .ref gO, .ref nO, .ref tb, .ref tb', .ref trO, .ref gA, .ref tP, .int (nI kf)])), (tP, .inl (cy 5, 6, .inr (.inr (.inr (.inr tpf))))), (ta, .inr (7, [.ref tb9, .int (so), .int (nI n)])), (tb9, .inl (cy 2, 60, .inr (.inl f)))]) (List.append_nil _) ?_
      refine x_if_eq C (tgt := 26) dX9_read_15 (by decide) (q := 18) rfl (a := 1) rfl (fun h9 => (by omega : False).elim) (fun h9 => ?_)
      refine x_aload_n C dX9_read_18 (q := 19) rfl rfl 0 rfl ?_
      refine x_iload_n C dX9_read_19 (q := 20) rfl rfl 3 rfl ?_
      refine x_callV C (roW := [(ta, .inr (7, [.ref tb9, .int (so), .int (nI n)])), (tb9, .inl (cy 2, 60, .inr (.inl f)))]) (roR := []) (c_X8_itemAt l D cy ta tb9 so n f y (by first | assumption | omega | (simp only []; omega)) (by first | assumption | omega | (simp only []; omega)) (by first | assumption | omega | (simp only []; omega))) (cwV 1 C.2.2.2.2.1 gX9_read_X8_itemAt rfl rfl rfl (by decide +kernel) (by rw [hR]; exact ⟨Nat.le_of_ble_eq_true rfl, Nat.le_of_ble_eq_true rfl⟩)) [] [2, 3] rfl (by decide) rfl (by decide) xro_nil (List.mem_of_getElem? (i := 0) rfl) (ci := 7) rfl xT_bl (fun _ _ _ _ _ _ _ => trivial) rfl rfl dX9_read_20 rfl rfl (Nat.le_of_ble_eq_true rfl) (q := 23) rfl (k' := 0) rfl (n' := 0) rfl (by rw [hR]; exact ⟨Nat.le_of_ble_eq_true rfl, Nat.le_of_ble_eq_true rfl⟩) (fun v10 w10 hp10 => ?_)
      obtain ⟨rfl, rfl⟩ := hp10
      refine x_ws (ws' := [(fi, .inr (8, [.ref tO, .ref gO, .ref nO, .ref tb, .ref tb', .ref trO, .ref gA, .ref tP, .int (nI kf)])), (tP, .inl (cy 5, 6, .inr (.inr (.inr (.inr tpf))))), (ta, .inr (7, [.ref tb9, .int (so), .int (nI n)])), (tb9, .inl (cy 2, 60, .inr (.inl f)))]) (List.append_nil _) ?_
      refine x_goto C (tgt := 29) dX9_read_23 (by decide) ?_
      refine x_lret C hA hQ hr dX9_read_29 (Nat.le_of_ble_eq_true rfl) ?_
      refine ⟨?_, rfl⟩
      unfold reaA
      dsimp only
      repeat (first | rw [if_pos (by omega)] | rw [if_neg (by omega)])
    · skip
      obtain ⟨rfl, rfl, hc11⟩ := hp6
      refine x_ws (ws' := [(fi, .inr (8, [.ref tO, .ref gO, .ref nO, .ref tb, .ref tb', .ref trO, .ref gA, .ref tP, .int (nI kf)])), (tP, .inl (cy 5, 6, .inr (.inr (.inr (.inr tpf))))), (ta, .inr (7, [.ref tb9, .int (so), .int (nI n)])), (tb9, .inl (cy 2, 60, .inr (.inl f)))]) (List.append_nil _) ?_
      refine x_if_eq C (tgt := 26) dX9_read_15 (by decide) (q := 18) rfl (a := 0) rfl (fun h12 => ?_) (fun h12 => (by omega : False).elim)
      refine x_ldc2 C (v := (-9223372036854775808)) hw0 dX9_read_26 (q := 29) rfl ?_
      refine x_lret C hA hQ hr dX9_read_29 (Nat.le_of_ble_eq_true rfl) ?_
      refine ⟨?_, rfl⟩
      unfold reaA
      dsimp only
      repeat (first | rw [if_pos (by omega)] | rw [if_neg (by omega)])
  · skip
    obtain ⟨rfl, rfl, hc13⟩ := hp1
    refine x_ws (ws' := [(fi, .inr (8, [.ref tO, .ref gO, .ref nO, .ref tb, .ref tb', .ref trO, .ref gA, .ref tP, .int (nI kf)])), (tP, .inl (cy 5, 6, .inr (.inr (.inr (.inr tpf))))), (ta, .inr (7, [.ref tb9, .int (so), .int (nI n)])), (tb9, .inl (cy 2, 60, .inr (.inl f)))]) rfl ?_
    exfalso; omega

set_option maxHeartbeats 4000000 in
set_option maxRecDepth 100000 in
/-- read, of none -/
theorem c_X9_read_o (l : Launch) (D : va_G) (cy : Nat → ClassId) (fi : Nat) (tO : Nat) (gO : Nat) (nO : Nat) (tb : Nat) (tb' : Nat) (trO : Nat) (gA : Nat) (tP : Nat) (kf : Nat) (tpf : Nat → Option Nat) (x : Int32) (y : Int32) (htp : ∀ k, k < 6 → ∃ a, tpf k = some a) (hx : x.toInt < 0 ∨ 6 ≤ x.toInt) : xMet l D cy xT yX9_read wsX9_read ({ frames := 5, cells := 0, slots := 0, locals := 500 } : Room) [.ref fi, .int (x), .int (y)] [(fi, .inr (8, [.ref tO, .ref gO, .ref nO, .ref tb, .ref tb', .ref trO, .ref gA, .ref tP, .int (nI kf)])), (tP, .inl (cy 5, 6, .inr (.inr (.inr (.inr tpf)))))] [] (fun (v9 : Option Value) (w9 : va_W) => (v9 = some (.long ((-9223372036854775808))) ∧ w9 = [(fi, .inr (8, [.ref tO, .ref gO, .ref nO, .ref tb, .ref tb', .ref trO, .ref gA, .ref tP, .int (nI kf)])), (tP, .inl (cy 5, 6, .inr (.inr (.inr (.inr tpf)))))])) := by
  refine xMet_of (cc := cX9_read) (maxL := 4) (ret := (some .long)) (by decide) rfl (Nat.le_of_ble_eq_true rfl) (fun p e s m args below meth c A R Q hA hR hQ C hr hnm hro hX => ?_)
  have hw0 : Jvm.Cond.constantLong RX9 186 (-9223372036854775808) ∈ wsX9_read := by decide +kernel
  refine x_L (L' := [(0, .ref fi), (1, .int (x)), (2, .int (y))]) [0, 1, 2] rfl ?_
  refine x_aload_n C dX9_read_0 (q := 1) rfl rfl 0 rfl ?_
  refine x_iload_n C dX9_read_1 (q := 2) rfl rfl 1 rfl ?_
  refine x_callV C (roW := []) (roR := []) (c_X9_tapeAt l D cy fi tO gO nO tb tb' trO gA tP kf tpf x (by assumption)) (cwV 1 C.2.2.2.2.1 gX9_read_X9_tapeAt rfl rfl rfl (by decide +kernel) (by rw [hR]; exact ⟨Nat.le_of_ble_eq_true rfl, Nat.le_of_ble_eq_true rfl⟩)) [0, 1] [] rfl (by decide) rfl (by decide) xro_nil (List.mem_of_getElem? (i := 0) rfl) (ci := 8) rfl xT_bl (fun _ _ _ _ _ _ _ => trivial) rfl rfl dX9_read_2 rfl rfl (Nat.le_of_ble_eq_true rfl) (q := 5) rfl (k' := 0) rfl (n' := 0) rfl (by rw [hR]; exact ⟨Nat.le_of_ble_eq_true rfl, Nat.le_of_ble_eq_true rfl⟩) (fun v1 w1 hp1 => ?_)
  rcases hp1 with hp1 | hp1
  · exfalso; obtain ⟨_, _, _, hc2, hc3, hc4⟩ := hp1; omega
  · skip
    obtain ⟨rfl, rfl, hc5⟩ := hp1
    refine x_ws (ws' := [(fi, .inr (8, [.ref tO, .ref gO, .ref nO, .ref tb, .ref tb', .ref trO, .ref gA, .ref tP, .int (nI kf)])), (tP, .inl (cy 5, 6, .inr (.inr (.inr (.inr tpf)))))]) rfl ?_
    refine x_astore_nN C (L' := [(3, .null), (0, .ref fi), (1, .int (x)), (2, .int (y))]) dX9_read_5 (q := 6) rfl rfl (by decide) rfl ?_
    refine x_aload_nN C dX9_read_6 (q := 7) rfl rfl 0 rfl ?_
    refine x_ifnullN C (tgt := 26) dX9_read_7 (by decide) ?_
    refine x_ldc2 C (v := (-9223372036854775808)) hw0 dX9_read_26 (q := 29) rfl ?_
    refine x_lret C hA hQ hr dX9_read_29 (Nat.le_of_ble_eq_true rfl) ?_
    first | exact ⟨rfl, rfl⟩ | exact ⟨_, rfl, rfl, by first | rfl | omega | assumption⟩ | (refine ⟨_, rfl, rfl, ?_⟩; (first | rfl | omega | (simp only []; omega)))
