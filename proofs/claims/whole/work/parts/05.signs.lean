
/-- the sign at a place, or -1 -/
def sgA (tx : Nat → Nat) (n i : Nat) : Int := if i < n then (tx i : Int) else -1
theorem sgA_in {tx : Nat → Nat} {n i : Nat} (h : i < n) : sgA tx n i = (tx i : Int) := if_pos h
theorem sgA_out {tx : Nat → Nat} {n i : Nat} (h : ¬ i < n) : sgA tx n i = -1 := if_neg h

set_option maxHeartbeats 4000000 in
set_option maxRecDepth 100000 in
/-- Signs.clear: no sign is left -/
theorem c_X6_clear (l : Launch) (D : va_G) (cy : Nat → ClassId) (o : Nat) (b : Nat) (n : Nat)  : xMet l D cy xT yX6_clear wsX6_clear ({ frames := 1, cells := 0, slots := 0, locals := 0 } : Room) [.ref o] [(o, .inr (5, [.ref b, .int (nI n)]))] [] (fun (v9 : Option Value) (w9 : va_W) => (v9 = none ∧ w9 = [(o, .inr (5, [.ref b, .int (nI 0)]))])) := by
  refine xMet_of (cc := cX6_clear) (maxL := 1) (ret := none) (by decide) rfl (Nat.le_of_ble_eq_true rfl) (fun p e s m args below meth c A R Q hA hR hQ C hr hnm hro hX => ?_)
  have hw0 : ∀ w ∈ u_ws RX6 TX6 2, w ∈ wsX6_clear := by decide +kernel
  have hw1 : Cond.fieldLink RX6 7 (TX6 1).1 (TX6 1).2.1 (TX6 1).2.2.1 ∈ wsX6_clear := by decide +kernel
  refine x_L (L' := [(0, .ref o)]) [0] rfl ?_
  refine x_aload_n C dX6_clear_0 (q := 1) rfl rfl 0 rfl ?_
  refine x_iconst C dX6_clear_1 (q := 2) rfl (v := nI 0) (by decide) ?_
  refine x_put C (ci := 5) (ty := .int) (ws' := [(o, .inr (5, [.ref b, .int (nI 0)]))]) hw0 tyX6 tyX6_ok nmX6 0 rfl rfl 1 (by decide) hw1 rfl (by decide +kernel) rfl rfl (Nat.le_of_ble_eq_true rfl) rfl dX6_clear_2 (q := 5) rfl ?_
  refine x_vret C hA hQ hr dX6_clear_5 (Nat.le_of_ble_eq_true rfl) ?_
  first | exact ⟨rfl, rfl⟩ | exact ⟨_, rfl, rfl, by first | rfl | omega | assumption⟩ | (refine ⟨_, rfl, rfl, ?_⟩; (first | rfl | omega | (simp only []; omega)))

set_option maxHeartbeats 4000000 in
set_option maxRecDepth 100000 in
/-- Signs.add: a sign comes behind the others, where there is room -/
theorem c_X6_add (l : Launch) (D : va_G) (cy : Nat → ClassId) (o : Nat) (b : Nat) (n : Nat) (cap : Nat) (tx : Nat → Nat) (v : Nat) (hn : n < cap) (hcap : cap ≤ 60) (hv : v < 128) : xMet l D cy xT yX6_add wsX6_add ({ frames := 1, cells := 0, slots := 0, locals := 0 } : Room) [.ref o, .int (nI v)] [(o, .inr (5, [.ref b, .int (nI n)])), (b, .inl (cy 0, cap, .inl (fun k => nI (tx k))))] [] (fun (v9 : Option Value) (w9 : va_W) => (v9 = none ∧ w9 = [(o, .inr (5, [.ref b, .int (nI (n + 1))])), (b, .inl (cy 0, cap, .inl (fun k => nI ((va_up tx n v) k))))])) := by
  refine xMet_of (cc := cX6_add) (maxL := 2) (ret := none) (by decide) rfl (Nat.le_of_ble_eq_true rfl) (fun p e s m args below meth c A R Q hA hR hQ C hr hnm hro hX => ?_)
  have hw0 : ∀ w ∈ u_ws RX6 TX6 2, w ∈ wsX6_add := by decide +kernel
  have hw1 : Cond.fieldLink RX6 7 (TX6 1).1 (TX6 1).2.1 (TX6 1).2.2.1 ∈ wsX6_add := by decide +kernel
  have hw2 : Cond.fieldLink RX6 19 (TX6 0).1 (TX6 0).2.1 (TX6 0).2.2.1 ∈ wsX6_add := by decide +kernel
  refine x_L (L' := [(0, .ref o), (1, .int (nI v))]) [0, 1] rfl ?_
  refine x_aload_n C dX6_add_0 (q := 1) rfl rfl 0 rfl ?_
  refine x_get C (ci := 5) (v := .int (nI n)) hw0 0 rfl rfl 1 (by decide) hw1 rfl dX6_add_1 (q := 4) rfl ?_
  refine x_aload_n C dX6_add_4 (q := 5) rfl rfl 0 rfl ?_
  refine x_get C (ci := 5) (v := .ref b) hw0 0 rfl rfl 0 (by decide) hw2 rfl dX6_add_5 (q := 8) rfl ?_
  refine x_alen C 1 0 rfl rfl (v := nI cap) rfl dX6_add_8 (q := 9) rfl ?_
  refine x_icmp_ge C (tgt := 33) dX6_add_9 (by decide) (q := 12) rfl (a := ((n : Nat) : Int)) (b := ((cap : Nat) : Int)) (nI_toInt (by omega)) (nI_toInt (by omega)) (fun h1 => ?_) (fun h1 => ?_)
  · first
    | (exfalso; omega)
    |
      refine x_vret C hA hQ hr dX6_add_33 (Nat.le_of_ble_eq_true rfl) ?_
      first | exact ⟨rfl, rfl⟩ | exact ⟨_, rfl, rfl, by first | rfl | omega | assumption⟩ | (refine ⟨_, rfl, rfl, ?_⟩; (first | rfl | omega | (simp only []; omega)))
  · first
    | (exfalso; omega)
    |
      refine x_aload_n C dX6_add_12 (q := 13) rfl rfl 0 rfl ?_
      refine x_get C (ci := 5) (v := .ref b) hw0 0 rfl rfl 0 (by decide) hw2 rfl dX6_add_13 (q := 16) rfl ?_
      refine x_aload_n C dX6_add_16 (q := 17) rfl rfl 0 rfl ?_
      refine x_get C (ci := 5) (v := .int (nI n)) hw0 0 rfl rfl 1 (by decide) hw1 rfl dX6_add_17 (q := 20) rfl ?_
      refine x_iload_n C dX6_add_20 (q := 21) rfl rfl 1 rfl ?_
      refine x_i2b C dX6_add_21 (q := 22) rfl (v := nI v) (xi_i2b (by omega)) ?_
      refine x_bast C (ws' := [(o, .inr (5, [.ref b, .int (nI n)])), (b, .inl (cy 0, cap, .inl (fun k => nI ((va_up tx n v) k))))]) 1 rfl (j := n) (nI_toInt (by omega)) (by omega) (xi_nb (by omega)) (xup_n tx n v) rfl dX6_add_22 (q := 23) rfl ?_
      refine x_aload_n C dX6_add_23 (q := 24) rfl rfl 0 rfl ?_
      refine x_dup C dX6_add_24 (q := 25) rfl rfl ?_
      refine x_get C (ci := 5) (v := .int (nI n)) hw0 0 rfl rfl 1 (by decide) hw1 rfl dX6_add_25 (q := 28) rfl ?_
      refine x_iconst C dX6_add_28 (q := 29) rfl (v := nI 1) (by decide) ?_
      refine x_iadd C dX6_add_29 (q := 30) rfl (z := nI (n + 1)) (nI_add n 1) ?_
      refine x_put C (ci := 5) (ty := .int) (ws' := [(o, .inr (5, [.ref b, .int (nI (n + 1))])), (b, .inl (cy 0, cap, .inl (fun k => nI ((va_up tx n v) k))))]) hw0 tyX6 tyX6_ok nmX6 0 rfl rfl 1 (by decide) hw1 rfl (by decide +kernel) rfl rfl (Nat.le_of_ble_eq_true rfl) rfl dX6_add_30 (q := 33) rfl ?_
      refine x_vret C hA hQ hr dX6_add_33 (Nat.le_of_ble_eq_true rfl) ?_
      first | exact ⟨rfl, rfl⟩ | exact ⟨_, rfl, rfl, by first | rfl | omega | assumption⟩ | (refine ⟨_, rfl, rfl, ?_⟩; (first | rfl | omega | (simp only []; omega)))

set_option maxHeartbeats 4000000 in
set_option maxRecDepth 100000 in
/-- Signs.at: the sign at a place, or -1 -/
theorem c_X6_at (l : Launch) (D : va_G) (cy : Nat → ClassId) (o : Nat) (b : Nat) (n : Nat) (cap : Nat) (tx : Nat → Nat) (i : Nat) (hn : n ≤ cap) (hcap : cap ≤ 60) (hi : i < 1000) (htx : ∀ k, tx k < 128) : xMet l D cy xT yX6_at wsX6_at ({ frames := 1, cells := 0, slots := 0, locals := 0 } : Room) [.ref o, .int (nI i)] [] [(o, .inr (5, [.ref b, .int (nI n)])), (b, .inl (cy 0, cap, .inl (fun k => nI (tx k))))] (fun (v9 : Option Value) (w9 : va_W) => (∃ r : Int32, v9 = some (.int (r)) ∧ w9 = [] ∧ r.toInt = sgA tx n i)) := by
  refine xMet_of (cc := cX6_at) (maxL := 2) (ret := (some .int)) (by decide) rfl (Nat.le_of_ble_eq_true rfl) (fun p e s m args below meth c A R Q hA hR hQ C hr hnm hro hX => ?_)
  have hw0 : ∀ w ∈ u_ws RX6 TX6 2, w ∈ wsX6_at := by decide +kernel
  have hw1 : Cond.fieldLink RX6 7 (TX6 1).1 (TX6 1).2.1 (TX6 1).2.2.1 ∈ wsX6_at := by decide +kernel
  have hw2 : Cond.fieldLink RX6 19 (TX6 0).1 (TX6 0).2.1 (TX6 0).2.2.1 ∈ wsX6_at := by decide +kernel
  refine x_L (L' := [(0, .ref o), (1, .int (nI i))]) [0, 1] rfl ?_
  refine x_iload_n C dX6_at_0 (q := 1) rfl rfl 1 rfl ?_
  refine x_if_lt C (tgt := 30) dX6_at_1 (by decide) (q := 4) rfl (a := ((i : Nat) : Int)) (nI_toInt (by omega)) (fun h1 => ?_) (fun h1 => ?_)
  · first
    | (exfalso; omega)
    |
      refine x_iconst C dX6_at_30 (q := 31) rfl (v := (-1)) (by decide) ?_
      refine x_iret C hA hQ hr dX6_at_31 (Nat.le_of_ble_eq_true rfl) ?_
      first | exact ⟨_, rfl, rfl, by rw [sgA_in (by omega)]; exact nI_toInt (by omega)⟩ | exact ⟨_, rfl, rfl, by rw [sgA_out (by omega)]; rfl⟩
  · first
    | (exfalso; omega)
    |
      refine x_iload_n C dX6_at_4 (q := 5) rfl rfl 1 rfl ?_
      refine x_aload_n C dX6_at_5 (q := 6) rfl rfl 0 rfl ?_
      refine x_getR C (ci := 5) (v := .int (nI n)) hw0 (hro (o, .inr (5, [.ref b, .int (nI n)])) (List.mem_of_getElem? (i := 0) rfl)) rfl 1 (by decide) hw1 rfl dX6_at_6 (q := 9) rfl ?_
      refine x_icmp_ge C (tgt := 30) dX6_at_9 (by decide) (q := 12) rfl (a := ((i : Nat) : Int)) (b := ((n : Nat) : Int)) (nI_toInt (by omega)) (nI_toInt (by omega)) (fun h2 => ?_) (fun h2 => ?_)
      · first
        | (exfalso; omega)
        |
          refine x_iconst C dX6_at_30 (q := 31) rfl (v := (-1)) (by decide) ?_
          refine x_iret C hA hQ hr dX6_at_31 (Nat.le_of_ble_eq_true rfl) ?_
          first | exact ⟨_, rfl, rfl, by rw [sgA_in (by omega)]; exact nI_toInt (by omega)⟩ | exact ⟨_, rfl, rfl, by rw [sgA_out (by omega)]; rfl⟩
      · first
        | (exfalso; omega)
        |
          refine x_iload_n C dX6_at_12 (q := 13) rfl rfl 1 rfl ?_
          refine x_aload_n C dX6_at_13 (q := 14) rfl rfl 0 rfl ?_
          refine x_getR C (ci := 5) (v := .ref b) hw0 (hro (o, .inr (5, [.ref b, .int (nI n)])) (List.mem_of_getElem? (i := 0) rfl)) rfl 0 (by decide) hw2 rfl dX6_at_14 (q := 17) rfl ?_
          refine x_alenR C 0 (hro (b, .inl (cy 0, cap, .inl (fun k => nI (tx k)))) (List.mem_of_getElem? (i := 1) rfl)) rfl (v := nI cap) rfl dX6_at_17 (q := 18) rfl ?_
          refine x_icmp_ge C (tgt := 30) dX6_at_18 (by decide) (q := 21) rfl (a := ((i : Nat) : Int)) (b := ((cap : Nat) : Int)) (nI_toInt (by omega)) (nI_toInt (by omega)) (fun h3 => ?_) (fun h3 => ?_)
          · first
            | (exfalso; omega)
            |
              refine x_iconst C dX6_at_30 (q := 31) rfl (v := (-1)) (by decide) ?_
              refine x_iret C hA hQ hr dX6_at_31 (Nat.le_of_ble_eq_true rfl) ?_
              first | exact ⟨_, rfl, rfl, by rw [sgA_in (by omega)]; exact nI_toInt (by omega)⟩ | exact ⟨_, rfl, rfl, by rw [sgA_out (by omega)]; rfl⟩
          · first
            | (exfalso; omega)
            |
              refine x_aload_n C dX6_at_21 (q := 22) rfl rfl 0 rfl ?_
              refine x_getR C (ci := 5) (v := .ref b) hw0 (hro (o, .inr (5, [.ref b, .int (nI n)])) (List.mem_of_getElem? (i := 0) rfl)) rfl 0 (by decide) hw2 rfl dX6_at_22 (q := 25) rfl ?_
              refine x_iload_n C dX6_at_25 (q := 26) rfl rfl 1 rfl ?_
              have hb4 := htx i
              refine x_baldR C (j := i) (v := nI (tx i)) (hro (b, .inl (cy 0, cap, .inl (fun k => nI (tx k)))) (List.mem_of_getElem? (i := 1) rfl)) (nI_toInt (by omega)) (by omega) rfl dX6_at_26 (q := 27) rfl ?_
              refine x_goto C (tgt := 31) dX6_at_27 (by decide) ?_
              refine x_iret C hA hQ hr dX6_at_31 (Nat.le_of_ble_eq_true rfl) ?_
              first | exact ⟨_, rfl, rfl, by rw [sgA_in (by omega)]; exact nI_toInt (by omega)⟩ | exact ⟨_, rfl, rfl, by rw [sgA_out (by omega)]; rfl⟩
