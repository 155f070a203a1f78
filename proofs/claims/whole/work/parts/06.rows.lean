set_option maxHeartbeats 4000000 in
set_option maxRecDepth 100000 in
/-- Arrays.fill -/
theorem c_J7_fill_53178 (l : Launch) (D : va_G) (cy : Nat → ClassId) (a : Nat) (N : Nat) (f : Nat → Int32) (x : Int32) (hN : N ≤ 60000) : xMet l D cy xT yJ7_fill_53178 wsJ7_fill_53178 ({ frames := 1, cells := 0, slots := 0, locals := 0 } : Room) [.ref a, .int (x)] [(a, .inl (cy 1, N, .inl f))] [] (fun (v9 : Option Value) (w9 : va_W) => (v9 = none ∧ w9 = [(a, .inl (cy 1, N, .inl (fun _ => x)))])) := by
  refine xMet_of (cc := cJ7_fill_53178) (maxL := 4) (ret := none) (by decide) rfl (Nat.le_of_ble_eq_true rfl) (fun p e s m args below meth c A R Q hA hR hQ C hr hnm hro hX => ?_)
  refine x_L (L' := [(0, .ref a), (1, .int (x))]) [0, 1] rfl ?_
  refine x_iconst C dJ7_fill_53178_0 (q := 1) rfl (v := nI 0) (by decide) ?_
  refine x_istore_n C (L' := [(2, .int (nI 0)), (0, .ref a), (1, .int (x))]) dJ7_fill_53178_1 (q := 2) rfl rfl (by decide) rfl ?_
  refine x_aload_n C dJ7_fill_53178_2 (q := 3) rfl rfl 1 rfl ?_
  refine x_alen C 0 1 rfl rfl (v := nI N) rfl dJ7_fill_53178_3 (q := 4) rfl ?_
  refine x_istore_n C (L' := [(3, .int (nI N)), (2, .int (nI 0)), (0, .ref a), (1, .int (x))]) dJ7_fill_53178_4 (q := 5) rfl rfl (by decide) rfl ?_
  have cut5 : ∀ (fuel : Nat) (i : Nat) (g : Nat → Int32), (i ≤ N) → (∀ j, j < i → g j = x) → N - i < fuel → xG p l e R s m args below meth c Q D A 4 [(a, .inl (cy 1, N, .inl g))] 0 0 5 [(0, .ref a), (1, .int (x)), (2, .int (nI i)), (3, .int (nI N))] [] := by
    intro fuel
    induction fuel with
    | zero =>
      intro i g hi hg hmu
      exact absurd hmu (Nat.not_lt_zero _)
    | succ fuel ih =>
      intro i g hi hg hmu
      have ih5 := ih
      clear ih
      refine x_iload_n C dJ7_fill_53178_5 (q := 6) rfl rfl 2 rfl ?_
      refine x_iload_n C dJ7_fill_53178_6 (q := 7) rfl rfl 3 rfl ?_
      refine x_icmp_ge C (tgt := 20) dJ7_fill_53178_7 (by decide) (q := 10) rfl (a := ((i : Nat) : Int)) (b := ((N : Nat) : Int)) (nI_toInt (by omega)) (nI_toInt (by omega)) (fun h1 => ?_) (fun h1 => ?_)
      · first
        | (exfalso; omega)
        |
          refine x_recI (ws' := [(a, .inl (cy 1, N, .inl (fun _ => x)))]) 0 rfl (fun j hj => hg j (by omega)) rfl ?_
          refine x_vret C hA hQ hr dJ7_fill_53178_20 (Nat.le_of_ble_eq_true rfl) ?_
          first | exact ⟨rfl, rfl⟩ | exact ⟨_, rfl, rfl, by first | rfl | omega | assumption⟩ | (refine ⟨_, rfl, rfl, ?_⟩; (first | rfl | omega | (simp only []; omega)))
      · first
        | (exfalso; omega)
        |
          refine x_aload_n C dJ7_fill_53178_10 (q := 11) rfl rfl 0 rfl ?_
          refine x_iload_n C dJ7_fill_53178_11 (q := 12) rfl rfl 2 rfl ?_
          refine x_iload_n C dJ7_fill_53178_12 (q := 13) rfl rfl 1 rfl ?_
          refine x_iast C (ws' := [(a, .inl (cy 1, N, .inl (va_up g i x)))]) 0 rfl (j := i) (nI_toInt (by omega)) (by omega) (rfl) rfl dJ7_fill_53178_13 (q := 14) rfl ?_
          refine x_iinc C (L' := [(2, .int (nI (i + 1))), (0, .ref a), (1, .int (x)), (3, .int (nI N))]) dJ7_fill_53178_14 (q := 17) rfl 2 rfl (v := nI (i + 1)) (nI_add i 1) (by decide) rfl ?_
          refine x_goto C (tgt := 5) dJ7_fill_53178_17 (by decide) ?_
          refine x_L (L' := [(0, .ref a), (1, .int (x)), (2, .int (nI (i + 1))), (3, .int (nI N))]) [1, 2, 0, 3] rfl ?_
          exact ih5 (i + 1) (va_up g i x) (by first | omega | assumption) (by intro j hj; by_cases h9 : j = i; (subst h9; exact va_up_eq); (rw [va_up_ne' h9]; exact hg j (by omega))) (by omega)
  refine x_L (L' := [(0, .ref a), (1, .int (x)), (2, .int (nI 0)), (3, .int (nI N))]) [2, 3, 1, 0] rfl ?_
  exact cut5 (N - 0 + 1) 0 f (by first | omega | assumption) (by intro j hj; omega) (by omega)

set_option maxHeartbeats 4000000 in
set_option maxRecDepth 100000 in
/-- Arrays.fill -/
theorem c_J7_fill_d0a16 (l : Launch) (D : va_G) (cy : Nat → ClassId) (a : Nat) (N : Nat) (f : Nat → Int64) (x : Int64) (hN : N ≤ 60000) : xMet l D cy xT yJ7_fill_d0a16 wsJ7_fill_d0a16 ({ frames := 1, cells := 0, slots := 0, locals := 0 } : Room) [.ref a, .long (x)] [(a, .inl (cy 2, N, .inr (.inl f)))] [] (fun (v9 : Option Value) (w9 : va_W) => (v9 = none ∧ w9 = [(a, .inl (cy 2, N, .inr (.inl (fun _ => x))))])) := by
  refine xMet_of (cc := cJ7_fill_d0a16) (maxL := 5) (ret := none) (by decide) rfl (Nat.le_of_ble_eq_true rfl) (fun p e s m args below meth c A R Q hA hR hQ C hr hnm hro hX => ?_)
  refine x_L (L' := [(0, .ref a), (1, .long (x))]) [0, 1] rfl ?_
  refine x_iconst C dJ7_fill_d0a16_0 (q := 1) rfl (v := nI 0) (by decide) ?_
  refine x_istore_n C (L' := [(3, .int (nI 0)), (0, .ref a), (1, .long (x))]) dJ7_fill_d0a16_1 (q := 2) rfl rfl (by decide) rfl ?_
  refine x_aload_n C dJ7_fill_d0a16_2 (q := 3) rfl rfl 1 rfl ?_
  refine x_alen C 0 2 rfl rfl (v := nI N) rfl dJ7_fill_d0a16_3 (q := 4) rfl ?_
  refine x_istore C (L' := [(4, .int (nI N)), (3, .int (nI 0)), (0, .ref a), (1, .long (x))]) dJ7_fill_d0a16_4 (q := 6) rfl (by decide) rfl ?_
  have cut6 : ∀ (fuel : Nat) (i : Nat) (g : Nat → Int64), (i ≤ N) → (∀ j, j < i → g j = x) → N - i < fuel → xG p l e R s m args below meth c Q D A 5 [(a, .inl (cy 2, N, .inr (.inl g)))] 0 0 6 [(0, .ref a), (1, .long (x)), (3, .int (nI i)), (4, .int (nI N))] [] := by
    intro fuel
    induction fuel with
    | zero =>
      intro i g hi hg hmu
      exact absurd hmu (Nat.not_lt_zero _)
    | succ fuel ih =>
      intro i g hi hg hmu
      have ih6 := ih
      clear ih
      refine x_iload_n C dJ7_fill_d0a16_6 (q := 7) rfl rfl 2 rfl ?_
      refine x_iload C dJ7_fill_d0a16_7 (q := 9) rfl 3 rfl ?_
      refine x_icmp_ge C (tgt := 22) dJ7_fill_d0a16_9 (by decide) (q := 12) rfl (a := ((i : Nat) : Int)) (b := ((N : Nat) : Int)) (nI_toInt (by omega)) (nI_toInt (by omega)) (fun h1 => ?_) (fun h1 => ?_)
      · first
        | (exfalso; omega)
        |
          refine x_recJ (ws' := [(a, .inl (cy 2, N, .inr (.inl (fun _ => x))))]) 0 rfl (fun j hj => hg j (by omega)) rfl ?_
          refine x_vret C hA hQ hr dJ7_fill_d0a16_22 (Nat.le_of_ble_eq_true rfl) ?_
          first | exact ⟨rfl, rfl⟩ | exact ⟨_, rfl, rfl, by first | rfl | omega | assumption⟩ | (refine ⟨_, rfl, rfl, ?_⟩; (first | rfl | omega | (simp only []; omega)))
      · first
        | (exfalso; omega)
        |
          refine x_aload_n C dJ7_fill_d0a16_12 (q := 13) rfl rfl 0 rfl ?_
          refine x_iload_n C dJ7_fill_d0a16_13 (q := 14) rfl rfl 2 rfl ?_
          refine x_lload_n C dJ7_fill_d0a16_14 (q := 15) rfl rfl 1 rfl ?_
          refine x_last C (ws' := [(a, .inl (cy 2, N, .inr (.inl (va_up g i x))))]) 0 rfl (j := i) (nI_toInt (by omega)) (by omega) (rfl) rfl dJ7_fill_d0a16_15 (q := 16) rfl ?_
          refine x_iinc C (L' := [(3, .int (nI (i + 1))), (0, .ref a), (1, .long (x)), (4, .int (nI N))]) dJ7_fill_d0a16_16 (q := 19) rfl 2 rfl (v := nI (i + 1)) (nI_add i 1) (by decide) rfl ?_
          refine x_goto C (tgt := 6) dJ7_fill_d0a16_19 (by decide) ?_
          refine x_L (L' := [(0, .ref a), (1, .long (x)), (3, .int (nI (i + 1))), (4, .int (nI N))]) [1, 2, 0, 3] rfl ?_
          exact ih6 (i + 1) (va_up g i x) (by first | omega | assumption) (by intro j hj; by_cases h9 : j = i; (subst h9; exact va_up_eq); (rw [va_up_ne' h9]; exact hg j (by omega))) (by omega)
  refine x_L (L' := [(0, .ref a), (1, .long (x)), (3, .int (nI 0)), (4, .int (nI N))]) [2, 3, 1, 0] rfl ?_
  exact cut6 (N - 0 + 1) 0 f (by first | omega | assumption) (by intro j hj; omega) (by omega)

set_option maxHeartbeats 4000000 in
set_option maxRecDepth 100000 in
/-- HandRows: no rows -/
theorem c_X2_init (l : Launch) (D : va_G) (cy : Nat → ClassId) (o : Nat) (lim : Nat) (hlim : lim ≤ 60) : xMet l D cy xT yX2_init wsX2_init ({ frames := 2, cells := 2, slots := 120, locals := 200 } : Room) [.ref o, .int (nI lim)] [(o, .inr (1, [.null, .null, .int (nI 0)]))] [] (fun (v9 : Option Value) (w9 : va_W) => (∃ a : Nat, ∃ b : Nat, v9 = none ∧ w9 = [(o, .inr (1, [.ref a, .ref b, .int (nI 0)])), (a, .inl (cy 1, lim, .inl (fun _ => 0))), (b, .inl (cy 1, lim, .inl (fun _ => 0)))])) := by
  refine xMet_of (cc := cX2_init) (maxL := 2) (ret := none) (by decide) rfl (Nat.le_of_ble_eq_true rfl) (fun p e s m args below meth c A R Q hA hR hQ C hr hnm hro hX => ?_)
  have hw0 : Cond.methodLink RX2 3 Lib.objectInit ∈ wsX2_init := by decide +kernel
  have hw1 : Cond.instanceMethod Lib.objectInit ∈ wsX2_init := by decide +kernel
  have hw2 : Cond.code Lib.objectInit ⟨#[0xb1]⟩ 1 none ∈ wsX2_init := by decide +kernel
  have hw3 : ∀ w ∈ u_ws RX2 TX2 3, w ∈ wsX2_init := by decide +kernel
  have hw4 : Cond.fieldLink RX2 9 (TX2 2).1 (TX2 2).2.1 (TX2 2).2.2.1 ∈ wsX2_init := by decide +kernel
  have hw5 : Cond.methodLink RX2 15 Lib.Math.max.name ∈ wsX2_init := by decide +kernel
  have hw6 : Cond.static Lib.Math.max.name ∈ wsX2_init := by decide +kernel
  have hw7 : Cond.initialized "java/lang/Math" ∈ wsX2_init := by decide +kernel
  have hw8 : Cond.code Lib.Math.max.name Lib.Math.max.code 2 (some .int) ∈ wsX2_init := by decide +kernel
  have hw9 : Cond.arrayClass .int ∈ wsX2_init := by decide +kernel
  have hw10 : Cond.fieldLink RX2 21 (TX2 0).1 (TX2 0).2.1 (TX2 0).2.2.1 ∈ wsX2_init := by decide +kernel
  have hw11 : Cond.fieldLink RX2 25 (TX2 1).1 (TX2 1).2.1 (TX2 1).2.2.1 ∈ wsX2_init := by decide +kernel
  refine x_L (L' := [(0, .ref o), (1, .int (nI lim))]) [0, 1] rfl ?_
  refine x_aload_n C dX2_init_0 (q := 1) rfl rfl 0 rfl ?_
  refine x_obj C hw0 hw1 hw2 (by rw [hR]; exact Nat.le_of_ble_eq_true rfl) (by rw [hR]; exact Nat.le_of_ble_eq_true rfl) dX2_init_1 (q := 4) rfl ?_
  refine x_aload_n C dX2_init_4 (q := 5) rfl rfl 0 rfl ?_
  refine x_iconst C dX2_init_5 (q := 6) rfl (v := nI 0) (by decide) ?_
  refine x_put C (ci := 1) (ty := .int) (ws' := [(o, .inr (1, [.null, .null, .int (nI 0)]))]) hw3 tyX2 tyX2_ok nmX2 0 rfl rfl 2 (by decide) hw4 rfl (by decide +kernel) rfl rfl (Nat.le_of_ble_eq_true rfl) rfl dX2_init_6 (q := 9) rfl ?_
  refine x_aload_n C dX2_init_9 (q := 10) rfl rfl 0 rfl ?_
  refine x_iconst C dX2_init_10 (q := 11) rfl (v := nI 0) (by decide) ?_
  refine x_iload_n C dX2_init_11 (q := 12) rfl rfl 1 rfl ?_
  refine x_mmax C hw5 hw6 hw7 hw8 (by rw [hR]; exact Nat.le_of_ble_eq_true rfl) (by rw [hR]; exact Nat.le_of_ble_eq_true rfl) (by rw [hR]; exact ⟨Nat.le_of_ble_eq_true rfl, Nat.le_of_ble_eq_true rfl⟩) (z := nI lim) (xi_max0 (by omega)) dX2_init_12 (q := 15) rfl ?_
  refine x_widen (k' := 0) (n' := 60 - lim) (Nat.le_refl _) (by omega) ?_
  refine x_newI C (N := lim) hw9 (nI_toInt (by omega)) (by omega) (k' := 1) rfl (n' := 60) (by omega) (by rw [hR]; exact ⟨Nat.le_of_ble_eq_true rfl, Nat.le_of_ble_eq_true rfl⟩) dX2_init_15 (q := 17) rfl (fun a => ?_)
  refine x_ws (ws' := [(o, .inr (1, [.null, .null, .int (nI 0)])), (a, .inl (cy 1, lim, .inl (fun _ => 0)))]) rfl ?_
  refine x_putF C (ci := 1) (ty := tyX2 0) (ws' := [(o, .inr (1, [.ref a, .null, .int (nI 0)])), (a, .inl (cy 1, lim, .inl (fun _ => 0)))]) hw3 tyX2 tyX2_ok nmX2 0 rfl rfl 0 (by decide) hw10 rfl hnm rfl (by decide +kernel) rfl rfl (Nat.le_of_ble_eq_true rfl) rfl dX2_init_17 (q := 20) rfl ?_
  refine x_aload_n C dX2_init_20 (q := 21) rfl rfl 0 rfl ?_
  refine x_iconst C dX2_init_21 (q := 22) rfl (v := nI 0) (by decide) ?_
  refine x_iload_n C dX2_init_22 (q := 23) rfl rfl 1 rfl ?_
  refine x_mmax C hw5 hw6 hw7 hw8 (by rw [hR]; exact Nat.le_of_ble_eq_true rfl) (by rw [hR]; exact Nat.le_of_ble_eq_true rfl) (by rw [hR]; exact ⟨Nat.le_of_ble_eq_true rfl, Nat.le_of_ble_eq_true rfl⟩) (z := nI lim) (xi_max0 (by omega)) dX2_init_23 (q := 26) rfl ?_
  refine x_widen (k' := 1) (n' := 120 - lim) (Nat.le_refl _) (by omega) ?_
  refine x_newI C (N := lim) hw9 (nI_toInt (by omega)) (by omega) (k' := 2) rfl (n' := 120) (by omega) (by rw [hR]; exact ⟨Nat.le_of_ble_eq_true rfl, Nat.le_of_ble_eq_true rfl⟩) dX2_init_26 (q := 28) rfl (fun b => ?_)
  refine x_ws (ws' := [(o, .inr (1, [.ref a, .null, .int (nI 0)])), (a, .inl (cy 1, lim, .inl (fun _ => 0))), (b, .inl (cy 1, lim, .inl (fun _ => 0)))]) rfl ?_
  refine x_putF C (ci := 1) (ty := tyX2 1) (ws' := [(o, .inr (1, [.ref a, .ref b, .int (nI 0)])), (a, .inl (cy 1, lim, .inl (fun _ => 0))), (b, .inl (cy 1, lim, .inl (fun _ => 0)))]) hw3 tyX2 tyX2_ok nmX2 0 rfl rfl 1 (by decide) hw11 rfl hnm rfl (by decide +kernel) rfl rfl (Nat.le_of_ble_eq_true rfl) rfl dX2_init_28 (q := 31) rfl ?_
  refine x_vret C hA hQ hr dX2_init_31 (Nat.le_of_ble_eq_true rfl) ?_
  exact ⟨a, b, rfl, rfl⟩

set_option maxHeartbeats 4000000 in
set_option maxRecDepth 100000 in
/-- HandRows.clear -/
theorem c_X2_clear (l : Launch) (D : va_G) (cy : Nat → ClassId) (o : Nat) (a : Nat) (b : Nat) (n : Nat)  : xMet l D cy xT yX2_clear wsX2_clear ({ frames := 1, cells := 0, slots := 0, locals := 0 } : Room) [.ref o] [(o, .inr (1, [.ref a, .ref b, .int (nI n)]))] [] (fun (v9 : Option Value) (w9 : va_W) => (v9 = some (.int (nI 0)) ∧ w9 = [(o, .inr (1, [.ref a, .ref b, .int (nI 0)]))])) := by
  refine xMet_of (cc := cX2_clear) (maxL := 1) (ret := (some .int)) (by decide) rfl (Nat.le_of_ble_eq_true rfl) (fun p e s m args below meth c A R Q hA hR hQ C hr hnm hro hX => ?_)
  have hw0 : ∀ w ∈ u_ws RX2 TX2 3, w ∈ wsX2_clear := by decide +kernel
  have hw1 : Cond.fieldLink RX2 9 (TX2 2).1 (TX2 2).2.1 (TX2 2).2.2.1 ∈ wsX2_clear := by decide +kernel
  refine x_L (L' := [(0, .ref o)]) [0] rfl ?_
  refine x_aload_n C dX2_clear_0 (q := 1) rfl rfl 0 rfl ?_
  refine x_iconst C dX2_clear_1 (q := 2) rfl (v := nI 0) (by decide) ?_
  refine x_put C (ci := 1) (ty := .int) (ws' := [(o, .inr (1, [.ref a, .ref b, .int (nI 0)]))]) hw0 tyX2 tyX2_ok nmX2 0 rfl rfl 2 (by decide) hw1 rfl (by decide +kernel) rfl rfl (Nat.le_of_ble_eq_true rfl) rfl dX2_clear_2 (q := 5) rfl ?_
  refine x_aload_n C dX2_clear_5 (q := 6) rfl rfl 0 rfl ?_
  refine x_get C (ci := 1) (v := .int (nI 0)) hw0 0 rfl rfl 2 (by decide) hw1 rfl dX2_clear_6 (q := 9) rfl ?_
  refine x_iret C hA hQ hr dX2_clear_9 (Nat.le_of_ble_eq_true rfl) ?_
  first | exact ⟨rfl, rfl⟩ | exact ⟨_, rfl, rfl, by first | rfl | omega | assumption⟩ | (refine ⟨_, rfl, rfl, ?_⟩; (first | rfl | omega | (simp only []; omega)))

set_option maxHeartbeats 4000000 in
set_option maxRecDepth 100000 in
/-- HandRows.enter: a row comes, or FULL -/
theorem c_X2_enter (l : Launch) (D : va_G) (cy : Nat → ClassId) (o : Nat) (a : Nat) (b : Nat) (n : Nat) (cap : Nat) (f : Nat → Int32) (g : Nat → Int32) (x : Int32) (y : Int32) (hn : n ≤ cap) (hcap : cap ≤ 60) : xMet l D cy xT yX2_enter wsX2_enter ({ frames := 1, cells := 0, slots := 0, locals := 0 } : Room) [.ref o, .int (x), .int (y)] [(o, .inr (1, [.ref a, .ref b, .int (nI n)])), (a, .inl (cy 1, cap, .inl f)), (b, .inl (cy 1, cap, .inl g))] [] (fun (v9 : Option Value) (w9 : va_W) => (v9 = some (.int ((-4))) ∧ w9 = [(o, .inr (1, [.ref a, .ref b, .int (nI n)])), (a, .inl (cy 1, cap, .inl f)), (b, .inl (cy 1, cap, .inl g))] ∧ cap ≤ n) ∨ (v9 = some (.int (nI (n + 1))) ∧ w9 = [(o, .inr (1, [.ref a, .ref b, .int (nI (n + 1))])), (a, .inl (cy 1, cap, .inl (va_up f n x))), (b, .inl (cy 1, cap, .inl (va_up g n y)))] ∧ n < cap)) := by
  refine xMet_of (cc := cX2_enter) (maxL := 3) (ret := (some .int)) (by decide) rfl (Nat.le_of_ble_eq_true rfl) (fun p e s m args below meth c A R Q hA hR hQ C hr hnm hro hX => ?_)
  have hw0 : ∀ w ∈ u_ws RX2 TX2 3, w ∈ wsX2_enter := by decide +kernel
  have hw1 : Cond.fieldLink RX2 9 (TX2 2).1 (TX2 2).2.1 (TX2 2).2.2.1 ∈ wsX2_enter := by decide +kernel
  have hw2 : Cond.fieldLink RX2 21 (TX2 0).1 (TX2 0).2.1 (TX2 0).2.2.1 ∈ wsX2_enter := by decide +kernel
  have hw3 : Cond.fieldLink RX2 25 (TX2 1).1 (TX2 1).2.1 (TX2 1).2.2.1 ∈ wsX2_enter := by decide +kernel
  refine x_L (L' := [(0, .ref o), (1, .int (x)), (2, .int (y))]) [0, 1, 2] rfl ?_
  refine x_aload_n C dX2_enter_0 (q := 1) rfl rfl 0 rfl ?_
  refine x_get C (ci := 1) (v := .int (nI n)) hw0 0 rfl rfl 2 (by decide) hw1 rfl dX2_enter_1 (q := 4) rfl ?_
  refine x_aload_n C dX2_enter_4 (q := 5) rfl rfl 0 rfl ?_
  refine x_get C (ci := 1) (v := .ref a) hw0 0 rfl rfl 0 (by decide) hw2 rfl dX2_enter_5 (q := 8) rfl ?_
  refine x_alen C 1 1 rfl rfl (v := nI cap) rfl dX2_enter_8 (q := 9) rfl ?_
  refine x_icmp_ge C (tgt := 24) dX2_enter_9 (by decide) (q := 12) rfl (a := ((n : Nat) : Int)) (b := ((cap : Nat) : Int)) (nI_toInt (by omega)) (nI_toInt (by omega)) (fun h1 => ?_) (fun h1 => ?_)
  · first
    | (exfalso; omega)
    |
      refine x_bipush C dX2_enter_24 (q := 26) rfl (v := (-4)) (by decide) ?_
      refine x_iret C hA hQ hr dX2_enter_26 (Nat.le_of_ble_eq_true rfl) ?_
      exact Or.inl ⟨rfl, rfl, by omega⟩
  · first
    | (exfalso; omega)
    |
      refine x_aload_n C dX2_enter_12 (q := 13) rfl rfl 0 rfl ?_
      refine x_get C (ci := 1) (v := .int (nI n)) hw0 0 rfl rfl 2 (by decide) hw1 rfl dX2_enter_13 (q := 16) rfl ?_
      refine x_aload_n C dX2_enter_16 (q := 17) rfl rfl 0 rfl ?_
      refine x_get C (ci := 1) (v := .ref b) hw0 0 rfl rfl 1 (by decide) hw3 rfl dX2_enter_17 (q := 20) rfl ?_
      refine x_alen C 2 1 rfl rfl (v := nI cap) rfl dX2_enter_20 (q := 21) rfl ?_
      refine x_icmp_lt C (tgt := 27) dX2_enter_21 (by decide) (q := 24) rfl (a := ((n : Nat) : Int)) (b := ((cap : Nat) : Int)) (nI_toInt (by omega)) (nI_toInt (by omega)) (fun h2 => ?_) (fun h2 => ?_)
      · first
        | (exfalso; omega)
        |
          refine x_aload_n C dX2_enter_27 (q := 28) rfl rfl 0 rfl ?_
          refine x_get C (ci := 1) (v := .ref a) hw0 0 rfl rfl 0 (by decide) hw2 rfl dX2_enter_28 (q := 31) rfl ?_
          refine x_aload_n C dX2_enter_31 (q := 32) rfl rfl 0 rfl ?_
          refine x_get C (ci := 1) (v := .int (nI n)) hw0 0 rfl rfl 2 (by decide) hw1 rfl dX2_enter_32 (q := 35) rfl ?_
          refine x_iload_n C dX2_enter_35 (q := 36) rfl rfl 1 rfl ?_
          refine x_iast C (ws' := [(o, .inr (1, [.ref a, .ref b, .int (nI n)])), (a, .inl (cy 1, cap, .inl (va_up f n x))), (b, .inl (cy 1, cap, .inl g))]) 1 rfl (j := n) (nI_toInt (by omega)) (by omega) (rfl) rfl dX2_enter_36 (q := 37) rfl ?_
          refine x_aload_n C dX2_enter_37 (q := 38) rfl rfl 0 rfl ?_
          refine x_get C (ci := 1) (v := .ref b) hw0 0 rfl rfl 1 (by decide) hw3 rfl dX2_enter_38 (q := 41) rfl ?_
          refine x_aload_n C dX2_enter_41 (q := 42) rfl rfl 0 rfl ?_
          refine x_get C (ci := 1) (v := .int (nI n)) hw0 0 rfl rfl 2 (by decide) hw1 rfl dX2_enter_42 (q := 45) rfl ?_
          refine x_iload_n C dX2_enter_45 (q := 46) rfl rfl 2 rfl ?_
          refine x_iast C (ws' := [(o, .inr (1, [.ref a, .ref b, .int (nI n)])), (a, .inl (cy 1, cap, .inl (va_up f n x))), (b, .inl (cy 1, cap, .inl (va_up g n y)))]) 2 rfl (j := n) (nI_toInt (by omega)) (by omega) (rfl) rfl dX2_enter_46 (q := 47) rfl ?_
          refine x_aload_n C dX2_enter_47 (q := 48) rfl rfl 0 rfl ?_
          refine x_dup C dX2_enter_48 (q := 49) rfl rfl ?_
          refine x_get C (ci := 1) (v := .int (nI n)) hw0 0 rfl rfl 2 (by decide) hw1 rfl dX2_enter_49 (q := 52) rfl ?_
          refine x_iconst C dX2_enter_52 (q := 53) rfl (v := nI 1) (by decide) ?_
          refine x_iadd C dX2_enter_53 (q := 54) rfl (z := nI (n + 1)) (nI_add n 1) ?_
          refine x_put C (ci := 1) (ty := .int) (ws' := [(o, .inr (1, [.ref a, .ref b, .int (nI (n + 1))])), (a, .inl (cy 1, cap, .inl (va_up f n x))), (b, .inl (cy 1, cap, .inl (va_up g n y)))]) hw0 tyX2 tyX2_ok nmX2 0 rfl rfl 2 (by decide) hw1 rfl (by decide +kernel) rfl rfl (Nat.le_of_ble_eq_true rfl) rfl dX2_enter_54 (q := 57) rfl ?_
          refine x_aload_n C dX2_enter_57 (q := 58) rfl rfl 0 rfl ?_
          refine x_get C (ci := 1) (v := .int (nI (n + 1))) hw0 0 rfl rfl 2 (by decide) hw1 rfl dX2_enter_58 (q := 61) rfl ?_
          refine x_iret C hA hQ hr dX2_enter_61 (Nat.le_of_ble_eq_true rfl) ?_
          exact Or.inr ⟨rfl, rfl, by omega⟩
      · first
        | (exfalso; omega)
        |
          refine x_bipush C dX2_enter_24 (q := 26) rfl (v := (-4)) (by decide) ?_
          refine x_iret C hA hQ hr dX2_enter_26 (Nat.le_of_ble_eq_true rfl) ?_
          exact Or.inl ⟨rfl, rfl, by omega⟩

set_option maxHeartbeats 4000000 in
set_option maxRecDepth 100000 in
/-- HandRows: a number of a row -/
theorem c_X2_firstOf (l : Launch) (D : va_G) (cy : Nat → ClassId) (o : Nat) (a : Nat) (b : Nat) (n : Nat) (cap : Nat) (f : Nat → Int32) (g : Nat → Int32) (i : Nat) (hn : n ≤ cap) (hcap : cap ≤ 60) (hi : i < n) : xMet l D cy xT yX2_firstOf wsX2_firstOf ({ frames := 1, cells := 0, slots := 0, locals := 0 } : Room) [.ref o, .int (nI i)] [] [(o, .inr (1, [.ref a, .ref b, .int (nI n)])), (a, .inl (cy 1, cap, .inl f)), (b, .inl (cy 1, cap, .inl g))] (fun (v9 : Option Value) (w9 : va_W) => (v9 = some (.int (f i)) ∧ w9 = [])) := by
  refine xMet_of (cc := cX2_firstOf) (maxL := 2) (ret := (some .int)) (by decide) rfl (Nat.le_of_ble_eq_true rfl) (fun p e s m args below meth c A R Q hA hR hQ C hr hnm hro hX => ?_)
  have hw0 : ∀ w ∈ u_ws RX2 TX2 3, w ∈ wsX2_firstOf := by decide +kernel
  have hw1 : Cond.fieldLink RX2 9 (TX2 2).1 (TX2 2).2.1 (TX2 2).2.2.1 ∈ wsX2_firstOf := by decide +kernel
  have hw2 : Cond.fieldLink RX2 21 (TX2 0).1 (TX2 0).2.1 (TX2 0).2.2.1 ∈ wsX2_firstOf := by decide +kernel
  refine x_L (L' := [(0, .ref o), (1, .int (nI i))]) [0, 1] rfl ?_
  refine x_iload_n C dX2_firstOf_0 (q := 1) rfl rfl 1 rfl ?_
  refine x_if_lt C (tgt := 30) dX2_firstOf_1 (by decide) (q := 4) rfl (a := ((i : Nat) : Int)) (nI_toInt (by omega)) (fun h1 => ?_) (fun h1 => ?_)
  · first
    | (exfalso; omega)
    |
      refine x_bipush C dX2_firstOf_30 (q := 32) rfl (v := (-5)) (by decide) ?_
      refine x_iret C hA hQ hr dX2_firstOf_32 (Nat.le_of_ble_eq_true rfl) ?_
      first | exact ⟨rfl, rfl⟩ | exact ⟨_, rfl, rfl, by first | rfl | omega | assumption⟩ | (refine ⟨_, rfl, rfl, ?_⟩; (first | rfl | omega | (simp only []; omega)))
  · first
    | (exfalso; omega)
    |
      refine x_iload_n C dX2_firstOf_4 (q := 5) rfl rfl 1 rfl ?_
      refine x_aload_n C dX2_firstOf_5 (q := 6) rfl rfl 0 rfl ?_
      refine x_getR C (ci := 1) (v := .int (nI n)) hw0 (hro (o, .inr (1, [.ref a, .ref b, .int (nI n)])) (List.mem_of_getElem? (i := 0) rfl)) rfl 2 (by decide) hw1 rfl dX2_firstOf_6 (q := 9) rfl ?_
      refine x_icmp_ge C (tgt := 30) dX2_firstOf_9 (by decide) (q := 12) rfl (a := ((i : Nat) : Int)) (b := ((n : Nat) : Int)) (nI_toInt (by omega)) (nI_toInt (by omega)) (fun h2 => ?_) (fun h2 => ?_)
      · first
        | (exfalso; omega)
        |
          refine x_bipush C dX2_firstOf_30 (q := 32) rfl (v := (-5)) (by decide) ?_
          refine x_iret C hA hQ hr dX2_firstOf_32 (Nat.le_of_ble_eq_true rfl) ?_
          first | exact ⟨rfl, rfl⟩ | exact ⟨_, rfl, rfl, by first | rfl | omega | assumption⟩ | (refine ⟨_, rfl, rfl, ?_⟩; (first | rfl | omega | (simp only []; omega)))
      · first
        | (exfalso; omega)
        |
          refine x_iload_n C dX2_firstOf_12 (q := 13) rfl rfl 1 rfl ?_
          refine x_aload_n C dX2_firstOf_13 (q := 14) rfl rfl 0 rfl ?_
          refine x_getR C (ci := 1) (v := .ref a) hw0 (hro (o, .inr (1, [.ref a, .ref b, .int (nI n)])) (List.mem_of_getElem? (i := 0) rfl)) rfl 0 (by decide) hw2 rfl dX2_firstOf_14 (q := 17) rfl ?_
          refine x_alenR C 1 (hro (a, .inl (cy 1, cap, .inl f)) (List.mem_of_getElem? (i := 1) rfl)) rfl (v := nI cap) rfl dX2_firstOf_17 (q := 18) rfl ?_
          refine x_icmp_ge C (tgt := 30) dX2_firstOf_18 (by decide) (q := 21) rfl (a := ((i : Nat) : Int)) (b := ((cap : Nat) : Int)) (nI_toInt (by omega)) (nI_toInt (by omega)) (fun h3 => ?_) (fun h3 => ?_)
          · first
            | (exfalso; omega)
            |
              refine x_bipush C dX2_firstOf_30 (q := 32) rfl (v := (-5)) (by decide) ?_
              refine x_iret C hA hQ hr dX2_firstOf_32 (Nat.le_of_ble_eq_true rfl) ?_
              first | exact ⟨rfl, rfl⟩ | exact ⟨_, rfl, rfl, by first | rfl | omega | assumption⟩ | (refine ⟨_, rfl, rfl, ?_⟩; (first | rfl | omega | (simp only []; omega)))
          · first
            | (exfalso; omega)
            |
              refine x_aload_n C dX2_firstOf_21 (q := 22) rfl rfl 0 rfl ?_
              refine x_getR C (ci := 1) (v := .ref a) hw0 (hro (o, .inr (1, [.ref a, .ref b, .int (nI n)])) (List.mem_of_getElem? (i := 0) rfl)) rfl 0 (by decide) hw2 rfl dX2_firstOf_22 (q := 25) rfl ?_
              refine x_iload_n C dX2_firstOf_25 (q := 26) rfl rfl 1 rfl ?_
              refine x_ialdR C (j := i) (v := f i) (hro (a, .inl (cy 1, cap, .inl f)) (List.mem_of_getElem? (i := 1) rfl)) (nI_toInt (by omega)) (by omega) rfl dX2_firstOf_26 (q := 27) rfl ?_
              refine x_goto C (tgt := 32) dX2_firstOf_27 (by decide) ?_
              refine x_iret C hA hQ hr dX2_firstOf_32 (Nat.le_of_ble_eq_true rfl) ?_
              first | exact ⟨rfl, rfl⟩ | exact ⟨_, rfl, rfl, by first | rfl | omega | assumption⟩ | (refine ⟨_, rfl, rfl, ?_⟩; (first | rfl | omega | (simp only []; omega)))

set_option maxHeartbeats 4000000 in
set_option maxRecDepth 100000 in
/-- HandRows: a number of a row -/
theorem c_X2_secondOf (l : Launch) (D : va_G) (cy : Nat → ClassId) (o : Nat) (a : Nat) (b : Nat) (n : Nat) (cap : Nat) (f : Nat → Int32) (g : Nat → Int32) (i : Nat) (hn : n ≤ cap) (hcap : cap ≤ 60) (hi : i < n) : xMet l D cy xT yX2_secondOf wsX2_secondOf ({ frames := 1, cells := 0, slots := 0, locals := 0 } : Room) [.ref o, .int (nI i)] [] [(o, .inr (1, [.ref a, .ref b, .int (nI n)])), (a, .inl (cy 1, cap, .inl f)), (b, .inl (cy 1, cap, .inl g))] (fun (v9 : Option Value) (w9 : va_W) => (v9 = some (.int (g i)) ∧ w9 = [])) := by
  refine xMet_of (cc := cX2_secondOf) (maxL := 2) (ret := (some .int)) (by decide) rfl (Nat.le_of_ble_eq_true rfl) (fun p e s m args below meth c A R Q hA hR hQ C hr hnm hro hX => ?_)
  have hw0 : ∀ w ∈ u_ws RX2 TX2 3, w ∈ wsX2_secondOf := by decide +kernel
  have hw1 : Cond.fieldLink RX2 9 (TX2 2).1 (TX2 2).2.1 (TX2 2).2.2.1 ∈ wsX2_secondOf := by decide +kernel
  have hw2 : Cond.fieldLink RX2 25 (TX2 1).1 (TX2 1).2.1 (TX2 1).2.2.1 ∈ wsX2_secondOf := by decide +kernel
  refine x_L (L' := [(0, .ref o), (1, .int (nI i))]) [0, 1] rfl ?_
  refine x_iload_n C dX2_secondOf_0 (q := 1) rfl rfl 1 rfl ?_
  refine x_if_lt C (tgt := 30) dX2_secondOf_1 (by decide) (q := 4) rfl (a := ((i : Nat) : Int)) (nI_toInt (by omega)) (fun h1 => ?_) (fun h1 => ?_)
  · first
    | (exfalso; omega)
    |
      refine x_bipush C dX2_secondOf_30 (q := 32) rfl (v := (-5)) (by decide) ?_
      refine x_iret C hA hQ hr dX2_secondOf_32 (Nat.le_of_ble_eq_true rfl) ?_
      first | exact ⟨rfl, rfl⟩ | exact ⟨_, rfl, rfl, by first | rfl | omega | assumption⟩ | (refine ⟨_, rfl, rfl, ?_⟩; (first | rfl | omega | (simp only []; omega)))
  · first
    | (exfalso; omega)
    |
      refine x_iload_n C dX2_secondOf_4 (q := 5) rfl rfl 1 rfl ?_
      refine x_aload_n C dX2_secondOf_5 (q := 6) rfl rfl 0 rfl ?_
      refine x_getR C (ci := 1) (v := .int (nI n)) hw0 (hro (o, .inr (1, [.ref a, .ref b, .int (nI n)])) (List.mem_of_getElem? (i := 0) rfl)) rfl 2 (by decide) hw1 rfl dX2_secondOf_6 (q := 9) rfl ?_
      refine x_icmp_ge C (tgt := 30) dX2_secondOf_9 (by decide) (q := 12) rfl (a := ((i : Nat) : Int)) (b := ((n : Nat) : Int)) (nI_toInt (by omega)) (nI_toInt (by omega)) (fun h2 => ?_) (fun h2 => ?_)
      · first
        | (exfalso; omega)
        |
          refine x_bipush C dX2_secondOf_30 (q := 32) rfl (v := (-5)) (by decide) ?_
          refine x_iret C hA hQ hr dX2_secondOf_32 (Nat.le_of_ble_eq_true rfl) ?_
          first | exact ⟨rfl, rfl⟩ | exact ⟨_, rfl, rfl, by first | rfl | omega | assumption⟩ | (refine ⟨_, rfl, rfl, ?_⟩; (first | rfl | omega | (simp only []; omega)))
      · first
        | (exfalso; omega)
        |
          refine x_iload_n C dX2_secondOf_12 (q := 13) rfl rfl 1 rfl ?_
          refine x_aload_n C dX2_secondOf_13 (q := 14) rfl rfl 0 rfl ?_
          refine x_getR C (ci := 1) (v := .ref b) hw0 (hro (o, .inr (1, [.ref a, .ref b, .int (nI n)])) (List.mem_of_getElem? (i := 0) rfl)) rfl 1 (by decide) hw2 rfl dX2_secondOf_14 (q := 17) rfl ?_
          refine x_alenR C 1 (hro (b, .inl (cy 1, cap, .inl g)) (List.mem_of_getElem? (i := 2) rfl)) rfl (v := nI cap) rfl dX2_secondOf_17 (q := 18) rfl ?_
          refine x_icmp_ge C (tgt := 30) dX2_secondOf_18 (by decide) (q := 21) rfl (a := ((i : Nat) : Int)) (b := ((cap : Nat) : Int)) (nI_toInt (by omega)) (nI_toInt (by omega)) (fun h3 => ?_) (fun h3 => ?_)
          · first
            | (exfalso; omega)
            |
              refine x_bipush C dX2_secondOf_30 (q := 32) rfl (v := (-5)) (by decide) ?_
              refine x_iret C hA hQ hr dX2_secondOf_32 (Nat.le_of_ble_eq_true rfl) ?_
              first | exact ⟨rfl, rfl⟩ | exact ⟨_, rfl, rfl, by first | rfl | omega | assumption⟩ | (refine ⟨_, rfl, rfl, ?_⟩; (first | rfl | omega | (simp only []; omega)))
          · first
            | (exfalso; omega)
            |
              refine x_aload_n C dX2_secondOf_21 (q := 22) rfl rfl 0 rfl ?_
              refine x_getR C (ci := 1) (v := .ref b) hw0 (hro (o, .inr (1, [.ref a, .ref b, .int (nI n)])) (List.mem_of_getElem? (i := 0) rfl)) rfl 1 (by decide) hw2 rfl dX2_secondOf_22 (q := 25) rfl ?_
              refine x_iload_n C dX2_secondOf_25 (q := 26) rfl rfl 1 rfl ?_
              refine x_ialdR C (j := i) (v := g i) (hro (b, .inl (cy 1, cap, .inl g)) (List.mem_of_getElem? (i := 2) rfl)) (nI_toInt (by omega)) (by omega) rfl dX2_secondOf_26 (q := 27) rfl ?_
              refine x_goto C (tgt := 32) dX2_secondOf_27 (by decide) ?_
              refine x_iret C hA hQ hr dX2_secondOf_32 (Nat.le_of_ble_eq_true rfl) ?_
              first | exact ⟨rfl, rfl⟩ | exact ⟨_, rfl, rfl, by first | rfl | omega | assumption⟩ | (refine ⟨_, rfl, rfl, ?_⟩; (first | rfl | omega | (simp only []; omega)))

set_option maxHeartbeats 4000000 in
set_option maxRecDepth 100000 in
/-- HandRows.copyFrom: the other's rows -/
theorem c_X2_copyFrom (l : Launch) (D : va_G) (cy : Nat → ClassId) (o : Nat) (a : Nat) (b : Nat) (n : Nat) (cap : Nat) (f : Nat → Int32) (g : Nat → Int32) (o2 : Nat) (a2 : Nat) (b2 : Nat) (n2 : Nat) (f2 : Nat → Int32) (g2 : Nat → Int32) (hn : n ≤ cap) (hn2 : n2 ≤ cap) (hcap : cap ≤ 60) : xMet l D cy xT yX2_copyFrom wsX2_copyFrom ({ frames := 2, cells := 0, slots := 0, locals := 200 } : Room) [.ref o, .ref o2] [(o, .inr (1, [.ref a, .ref b, .int (nI n)])), (a, .inl (cy 1, cap, .inl f)), (b, .inl (cy 1, cap, .inl g))] [(o2, .inr (1, [.ref a2, .ref b2, .int (nI n2)])), (a2, .inl (cy 1, cap, .inl f2)), (b2, .inl (cy 1, cap, .inl g2))] (fun (v9 : Option Value) (w9 : va_W) => (∃ f3 : Nat → Int32, ∃ g3 : Nat → Int32, v9 = none ∧ w9 = [(o, .inr (1, [.ref a, .ref b, .int (nI n2)])), (a, .inl (cy 1, cap, .inl f3)), (b, .inl (cy 1, cap, .inl g3))] ∧ (∀ j, j < n2 → f3 j = f2 j) ∧ (∀ j, j < n2 → g3 j = g2 j))) := by
  refine xMet_of (cc := cX2_copyFrom) (maxL := 3) (ret := none) (by decide) rfl (Nat.le_of_ble_eq_true rfl) (fun p e s m args below meth c A R Q hA hR hQ C hr hnm hro hX => ?_)
  have hw0 : ∀ w ∈ u_ws RX2 TX2 3, w ∈ wsX2_copyFrom := by decide +kernel
  have hw1 : Cond.fieldLink RX2 9 (TX2 2).1 (TX2 2).2.1 (TX2 2).2.2.1 ∈ wsX2_copyFrom := by decide +kernel
  refine x_L (L' := [(0, .ref o), (1, .ref o2)]) [0, 1] rfl ?_
  refine x_aload_n C dX2_copyFrom_0 (q := 1) rfl rfl 0 rfl ?_
  refine x_callV C (roW := []) (roR := []) (c_X2_clear l D cy o a b n ) (cwV 0 C.2.2.2.2.1 gX2_copyFrom_X2_clear rfl rfl rfl (by decide +kernel) (by rw [hR]; exact ⟨Nat.le_of_ble_eq_true rfl, Nat.le_of_ble_eq_true rfl⟩)) [0] [] rfl (by decide) rfl (by decide) xro_nil (List.mem_of_getElem? (i := 0) rfl) (ci := 1) rfl xT_bl (fun _ _ _ _ _ _ _ => trivial) rfl rfl dX2_copyFrom_1 rfl rfl (Nat.le_of_ble_eq_true rfl) (q := 4) rfl (k' := 0) rfl (n' := 0) rfl (by rw [hR]; exact ⟨Nat.le_of_ble_eq_true rfl, Nat.le_of_ble_eq_true rfl⟩) (fun v1 w1 hp1 => ?_)
  obtain ⟨rfl, rfl⟩ := hp1
  refine x_ws (ws' := [(o, .inr (1, [.ref a, .ref b, .int (nI 0)])), (a, .inl (cy 1, cap, .inl f)), (b, .inl (cy 1, cap, .inl g))]) rfl ?_
  refine x_pop C dX2_copyFrom_4 (q := 5) rfl rfl ?_
  refine x_iconst C dX2_copyFrom_5 (q := 6) rfl (v := nI 0) (by decide) ?_
  refine x_istore_n C (L' := [(2, .int (nI 0)), (0, .ref o), (1, .ref o2)]) dX2_copyFrom_6 (q := 7) rfl rfl (by decide) rfl ?_
  have cut7 : ∀ (fuel : Nat) (i : Nat) (f4 : Nat → Int32) (g4 : Nat → Int32), (i ≤ n2) → (∀ j, j < i → f4 j = f2 j) → (∀ j, j < i → g4 j = g2 j) → n2 - i < fuel → xG p l e R s m args below meth c Q D A 3 [(o, .inr (1, [.ref a, .ref b, .int (nI i)])), (a, .inl (cy 1, cap, .inl f4)), (b, .inl (cy 1, cap, .inl g4))] 0 0 7 [(0, .ref o), (1, .ref o2), (2, .int (nI i))] [] := by
    intro fuel
    induction fuel with
    | zero =>
      intro i f4 g4 hi hf hg hmu
      exact absurd hmu (Nat.not_lt_zero _)
    | succ fuel ih =>
      intro i f4 g4 hi hf hg hmu
      have ih7 := ih
      clear ih
      refine x_iload_n C dX2_copyFrom_7 (q := 8) rfl rfl 2 rfl ?_
      refine x_aload_n C dX2_copyFrom_8 (q := 9) rfl rfl 1 rfl ?_
      refine x_getR C (ci := 1) (v := .int (nI n2)) hw0 (hro (o2, .inr (1, [.ref a2, .ref b2, .int (nI n2)])) (List.mem_of_getElem? (i := 0) rfl)) rfl 2 (by decide) hw1 rfl dX2_copyFrom_9 (q := 12) rfl ?_
      refine x_icmp_ge C (tgt := 36) dX2_copyFrom_12 (by decide) (q := 15) rfl (a := ((i : Nat) : Int)) (b := ((n2 : Nat) : Int)) (nI_toInt (by omega)) (nI_toInt (by omega)) (fun h2 => ?_) (fun h2 => ?_)
      · first
        | (exfalso; omega)
        |
          refine x_vret C hA hQ hr dX2_copyFrom_36 (Nat.le_of_ble_eq_true rfl) ?_
          have e9 : i = n2 := by omega
          subst e9
          exact ⟨f4, g4, rfl, rfl, hf, hg⟩
      · first
        | (exfalso; omega)
        |
          refine x_aload_n C dX2_copyFrom_15 (q := 16) rfl rfl 0 rfl ?_
          refine x_aload_n C dX2_copyFrom_16 (q := 17) rfl rfl 1 rfl ?_
          refine x_iload_n C dX2_copyFrom_17 (q := 18) rfl rfl 2 rfl ?_
          refine x_callV C (roW := []) (roR := [(o2, .inr (1, [.ref a2, .ref b2, .int (nI n2)])), (a2, .inl (cy 1, cap, .inl f2)), (b2, .inl (cy 1, cap, .inl g2))]) (c_X2_firstOf l D cy o2 a2 b2 n2 cap f2 g2 i (by first | assumption | omega | (simp only []; omega)) (by first | assumption | omega | (simp only []; omega)) (by first | assumption | omega | (simp only []; omega))) (cwV 1 C.2.2.2.2.1 gX2_copyFrom_X2_firstOf rfl rfl rfl (by decide +kernel) (by rw [hR]; exact ⟨Nat.le_of_ble_eq_true rfl, Nat.le_of_ble_eq_true rfl⟩)) [] [] rfl (by decide) rfl (by decide) (xro_cons (hro (o2, .inr (1, [.ref a2, .ref b2, .int (nI n2)])) (List.mem_of_getElem? (i := 0) rfl)) (xro_cons (hro (a2, .inl (cy 1, cap, .inl f2)) (List.mem_of_getElem? (i := 1) rfl)) (xro_cons (hro (b2, .inl (cy 1, cap, .inl g2)) (List.mem_of_getElem? (i := 2) rfl)) xro_nil))) (List.mem_of_getElem? (i := 0) rfl) (ci := 1) rfl xT_bl (fun _ _ _ _ _ _ _ => trivial) rfl rfl dX2_copyFrom_18 rfl rfl (Nat.le_of_ble_eq_true rfl) (q := 21) rfl (k' := 0) rfl (n' := 0) rfl (by rw [hR]; exact ⟨Nat.le_of_ble_eq_true rfl, Nat.le_of_ble_eq_true rfl⟩) (fun v3 w3 hp3 => ?_)
          obtain ⟨rfl, rfl⟩ := hp3
          refine x_ws (ws' := [(o, .inr (1, [.ref a, .ref b, .int (nI i)])), (a, .inl (cy 1, cap, .inl f4)), (b, .inl (cy 1, cap, .inl g4))]) (List.append_nil _) ?_
          refine x_aload_n C dX2_copyFrom_21 (q := 22) rfl rfl 1 rfl ?_
          refine x_iload_n C dX2_copyFrom_22 (q := 23) rfl rfl 2 rfl ?_
          refine x_callV C (roW := []) (roR := [(o2, .inr (1, [.ref a2, .ref b2, .int (nI n2)])), (a2, .inl (cy 1, cap, .inl f2)), (b2, .inl (cy 1, cap, .inl g2))]) (c_X2_secondOf l D cy o2 a2 b2 n2 cap f2 g2 i (by first | assumption | omega | (simp only []; omega)) (by first | assumption | omega | (simp only []; omega)) (by first | assumption | omega | (simp only []; omega))) (cwV 1 C.2.2.2.2.1 gX2_copyFrom_X2_secondOf rfl rfl rfl (by decide +kernel) (by rw [hR]; exact ⟨Nat.le_of_ble_eq_true rfl, Nat.le_of_ble_eq_true rfl⟩)) [] [] rfl (by decide) rfl (by decide) (xro_cons (hro (o2, .inr (1, [.ref a2, .ref b2, .int (nI n2)])) (List.mem_of_getElem? (i := 0) rfl)) (xro_cons (hro (a2, .inl (cy 1, cap, .inl f2)) (List.mem_of_getElem? (i := 1) rfl)) (xro_cons (hro (b2, .inl (cy 1, cap, .inl g2)) (List.mem_of_getElem? (i := 2) rfl)) xro_nil))) (List.mem_of_getElem? (i := 0) rfl) (ci := 1) rfl xT_bl (fun _ _ _ _ _ _ _ => trivial) rfl rfl dX2_copyFrom_23 rfl rfl (Nat.le_of_ble_eq_true rfl) (q := 26) rfl (k' := 0) rfl (n' := 0) rfl (by rw [hR]; exact ⟨Nat.le_of_ble_eq_true rfl, Nat.le_of_ble_eq_true rfl⟩) (fun v4 w4 hp4 => ?_)
          obtain ⟨rfl, rfl⟩ := hp4
          refine x_ws (ws' := [(o, .inr (1, [.ref a, .ref b, .int (nI i)])), (a, .inl (cy 1, cap, .inl f4)), (b, .inl (cy 1, cap, .inl g4))]) (List.append_nil _) ?_
          refine x_callV C (roW := []) (roR := []) (c_X2_enter l D cy o a b i cap f4 g4 (f2 i) (g2 i) (by first | assumption | omega | (simp only []; omega)) (by first | assumption | omega | (simp only []; omega))) (cwV 2 C.2.2.2.2.1 gX2_copyFrom_X2_enter rfl rfl rfl (by decide +kernel) (by rw [hR]; exact ⟨Nat.le_of_ble_eq_true rfl, Nat.le_of_ble_eq_true rfl⟩)) [0, 1, 2] [] rfl (by decide) rfl (by decide) xro_nil (List.mem_of_getElem? (i := 0) rfl) (ci := 1) rfl xT_bl (fun _ _ _ _ _ _ _ => trivial) rfl rfl dX2_copyFrom_26 rfl rfl (Nat.le_of_ble_eq_true rfl) (q := 29) rfl (k' := 0) rfl (n' := 0) rfl (by rw [hR]; exact ⟨Nat.le_of_ble_eq_true rfl, Nat.le_of_ble_eq_true rfl⟩) (fun v5 w5 hp5 => ?_)
          rcases hp5 with hp5 | hp5
          · exfalso; obtain ⟨_, _, hc6⟩ := hp5; omega
          · skip
            obtain ⟨rfl, rfl, hc7⟩ := hp5
            refine x_ws (ws' := [(o, .inr (1, [.ref a, .ref b, .int (nI (i + 1))])), (a, .inl (cy 1, cap, .inl (va_up f4 i (f2 i)))), (b, .inl (cy 1, cap, .inl (va_up g4 i (g2 i))))]) rfl ?_
            refine x_pop C dX2_copyFrom_29 (q := 30) rfl rfl ?_
            refine x_iinc C (L' := [(2, .int (nI (i + 1))), (0, .ref o), (1, .ref o2)]) dX2_copyFrom_30 (q := 33) rfl 2 rfl (v := nI (i + 1)) (nI_add i 1) (by decide) rfl ?_
            refine x_goto C (tgt := 7) dX2_copyFrom_33 (by decide) ?_
            refine x_L (L' := [(0, .ref o), (1, .ref o2), (2, .int (nI (i + 1)))]) [1, 2, 0] rfl ?_
            exact ih7 (i + 1) (va_up f4 i (f2 i)) (va_up g4 i (g2 i)) (by first | omega | assumption) (by intro j hj; by_cases h9 : j = i; (subst h9; exact va_up_eq); (rw [va_up_ne' h9]; exact hf j (by omega))) (by intro j hj; by_cases h9 : j = i; (subst h9; exact va_up_eq); (rw [va_up_ne' h9]; exact hg j (by omega))) (by omega)
  refine x_L (L' := [(0, .ref o), (1, .ref o2), (2, .int (nI 0))]) [1, 2, 0] rfl ?_
  exact cut7 (n2 - 0 + 1) 0 f g (by first | omega | assumption) (by intro j hj; omega) (by intro j hj; omega) (by omega)


/-- a number cut to a sort of items -/
def cutS (so : Int) (v : Int64) : Int64 := if so = 0 then v.toInt32.toInt8.toInt32.toInt64 else if so = 1 then v.toInt32.toInt16.toInt32.toInt64 else if so = 2 then v.toInt32.toInt64 else if so = 4 then (if v.toInt = 0 then lN 0 else lN 1) else v

set_option maxHeartbeats 4000000 in
set_option maxRecDepth 100000 in
/-- Tape: it holds nothing -/
theorem c_X8_init (l : Launch) (D : va_G) (cy : Nat → ClassId) (o : Nat)  : xMet l D cy xT yX8_init wsX8_init ({ frames := 2, cells := 1, slots := 60, locals := 200 } : Room) [.ref o] [(o, .inr (7, [.null, .int (nI 0), .int (nI 0)]))] [] (fun (v9 : Option Value) (w9 : va_W) => (∃ a : Nat, v9 = none ∧ w9 = [(o, .inr (7, [.ref a, .int ((-1)), .int (nI 0)])), (a, .inl (cy 2, 60, .inr (.inl (fun _ => 0))))])) := by
  refine xMet_of (cc := cX8_init) (maxL := 1) (ret := none) (by decide) rfl (Nat.le_of_ble_eq_true rfl) (fun p e s m args below meth c A R Q hA hR hQ C hr hnm hro hX => ?_)
  have hw0 : Cond.methodLink RX8 3 Lib.objectInit ∈ wsX8_init := by decide +kernel
  have hw1 : Cond.instanceMethod Lib.objectInit ∈ wsX8_init := by decide +kernel
  have hw2 : Cond.code Lib.objectInit ⟨#[0xb1]⟩ 1 none ∈ wsX8_init := by decide +kernel
  have hw3 : Cond.arrayClass .long ∈ wsX8_init := by decide +kernel
  have hw4 : ∀ w ∈ u_ws RX8 TX8 3, w ∈ wsX8_init := by decide +kernel
  have hw5 : Cond.fieldLink RX8 9 (TX8 0).1 (TX8 0).2.1 (TX8 0).2.2.1 ∈ wsX8_init := by decide +kernel
  have hw6 : Cond.fieldLink RX8 15 (TX8 1).1 (TX8 1).2.1 (TX8 1).2.2.1 ∈ wsX8_init := by decide +kernel
  have hw7 : Cond.fieldLink RX8 19 (TX8 2).1 (TX8 2).2.1 (TX8 2).2.2.1 ∈ wsX8_init := by decide +kernel
  refine x_L (L' := [(0, .ref o)]) [0] rfl ?_
  refine x_aload_n C dX8_init_0 (q := 1) rfl rfl 0 rfl ?_
  refine x_obj C hw0 hw1 hw2 (by rw [hR]; exact Nat.le_of_ble_eq_true rfl) (by rw [hR]; exact Nat.le_of_ble_eq_true rfl) dX8_init_1 (q := 4) rfl ?_
  refine x_aload_n C dX8_init_4 (q := 5) rfl rfl 0 rfl ?_
  refine x_bipush C dX8_init_5 (q := 7) rfl (v := nI 60) (by decide) ?_
  refine x_newJ C (N := 60) hw3 rfl (by decide) (k' := 1) rfl (n' := 60) rfl (by rw [hR]; exact ⟨Nat.le_of_ble_eq_true rfl, Nat.le_of_ble_eq_true rfl⟩) dX8_init_7 (q := 9) rfl (fun a1 => ?_)
  refine x_ws (ws' := [(o, .inr (7, [.null, .int (nI 0), .int (nI 0)])), (a1, .inl (cy 2, 60, .inr (.inl (fun _ => 0))))]) rfl ?_
  refine x_putF C (ci := 7) (ty := tyX8 0) (ws' := [(o, .inr (7, [.ref a1, .int (nI 0), .int (nI 0)])), (a1, .inl (cy 2, 60, .inr (.inl (fun _ => 0))))]) hw4 tyX8 tyX8_ok nmX8 0 rfl rfl 0 (by decide) hw5 rfl hnm rfl (by decide +kernel) rfl rfl (Nat.le_of_ble_eq_true rfl) rfl dX8_init_9 (q := 12) rfl ?_
  refine x_aload_n C dX8_init_12 (q := 13) rfl rfl 0 rfl ?_
  refine x_iconst C dX8_init_13 (q := 14) rfl (v := (-1)) (by decide) ?_
  refine x_put C (ci := 7) (ty := .int) (ws' := [(o, .inr (7, [.ref a1, .int ((-1)), .int (nI 0)])), (a1, .inl (cy 2, 60, .inr (.inl (fun _ => 0))))]) hw4 tyX8 tyX8_ok nmX8 0 rfl rfl 1 (by decide) hw6 rfl (by decide +kernel) rfl rfl (Nat.le_of_ble_eq_true rfl) rfl dX8_init_14 (q := 17) rfl ?_
  refine x_aload_n C dX8_init_17 (q := 18) rfl rfl 0 rfl ?_
  refine x_iconst C dX8_init_18 (q := 19) rfl (v := nI 0) (by decide) ?_
  refine x_put C (ci := 7) (ty := .int) (ws' := [(o, .inr (7, [.ref a1, .int ((-1)), .int (nI 0)])), (a1, .inl (cy 2, 60, .inr (.inl (fun _ => 0))))]) hw4 tyX8 tyX8_ok nmX8 0 rfl rfl 2 (by decide) hw7 rfl (by decide +kernel) rfl rfl (Nat.le_of_ble_eq_true rfl) rfl dX8_init_19 (q := 22) rfl ?_
  refine x_vret C hA hQ hr dX8_init_22 (Nat.le_of_ble_eq_true rfl) ?_
  exact ⟨_, rfl, rfl⟩

set_option maxHeartbeats 4000000 in
set_option maxRecDepth 100000 in
/-- Tape.become: another row, all 0 -/
theorem c_X8_become (l : Launch) (D : va_G) (cy : Nat → ClassId) (o : Nat) (a : Nat) (so : Int32) (n : Nat) (f : Nat → Int64) (so2 : Int32) (n2 : Nat) (hn : n2 ≤ 60) : xMet l D cy xT yX8_become wsX8_become ({ frames := 3, cells := 0, slots := 0, locals := 300 } : Room) [.ref o, .int (so2), .int (nI n2)] [(o, .inr (7, [.ref a, .int (so), .int (nI n)])), (a, .inl (cy 2, 60, .inr (.inl f)))] [] (fun (v9 : Option Value) (w9 : va_W) => (v9 = none ∧ w9 = [(o, .inr (7, [.ref a, .int (so2), .int (nI n2)])), (a, .inl (cy 2, 60, .inr (.inl (fun _ => lN 0))))])) := by
  refine xMet_of (cc := cX8_become) (maxL := 3) (ret := none) (by decide) rfl (Nat.le_of_ble_eq_true rfl) (fun p e s m args below meth c A R Q hA hR hQ C hr hnm hro hX => ?_)
  have hw0 : ∀ w ∈ u_ws RX8 TX8 3, w ∈ wsX8_become := by decide +kernel
  have hw1 : Cond.fieldLink RX8 15 (TX8 1).1 (TX8 1).2.1 (TX8 1).2.2.1 ∈ wsX8_become := by decide +kernel
  have hw2 : Cond.methodLink RX8 22 Lib.Math.min.name ∈ wsX8_become := by decide +kernel
  have hw3 : Cond.static Lib.Math.min.name ∈ wsX8_become := by decide +kernel
  have hw4 : Cond.initialized "java/lang/Math" ∈ wsX8_become := by decide +kernel
  have hw5 : Cond.code Lib.Math.min.name Lib.Math.min.code 2 (some .int) ∈ wsX8_become := by decide +kernel
  have hw6 : Cond.methodLink RX8 28 Lib.Math.max.name ∈ wsX8_become := by decide +kernel
  have hw7 : Cond.static Lib.Math.max.name ∈ wsX8_become := by decide +kernel
  have hw8 : Cond.code Lib.Math.max.name Lib.Math.max.code 2 (some .int) ∈ wsX8_become := by decide +kernel
  have hw9 : Cond.fieldLink RX8 19 (TX8 2).1 (TX8 2).2.1 (TX8 2).2.2.1 ∈ wsX8_become := by decide +kernel
  have hw10 : Cond.fieldLink RX8 9 (TX8 0).1 (TX8 0).2.1 (TX8 0).2.2.1 ∈ wsX8_become := by decide +kernel
  refine x_L (L' := [(0, .ref o), (1, .int (so2)), (2, .int (nI n2))]) [0, 1, 2] rfl ?_
  refine x_aload_n C dX8_become_0 (q := 1) rfl rfl 0 rfl ?_
  refine x_iload_n C dX8_become_1 (q := 2) rfl rfl 1 rfl ?_
  refine x_put C (ci := 7) (ty := .int) (ws' := [(o, .inr (7, [.ref a, .int (so2), .int (nI n)])), (a, .inl (cy 2, 60, .inr (.inl f)))]) hw0 tyX8 tyX8_ok nmX8 0 rfl rfl 1 (by decide) hw1 rfl (by decide +kernel) rfl rfl (Nat.le_of_ble_eq_true rfl) rfl dX8_become_2 (q := 5) rfl ?_
  refine x_aload_n C dX8_become_5 (q := 6) rfl rfl 0 rfl ?_
  refine x_iconst C dX8_become_6 (q := 7) rfl (v := nI 0) (by decide) ?_
  refine x_iload_n C dX8_become_7 (q := 8) rfl rfl 2 rfl ?_
  refine x_bipush C dX8_become_8 (q := 10) rfl (v := nI 60) (by decide) ?_
  refine x_mmin C hw2 hw3 hw4 hw5 (by rw [hR]; exact Nat.le_of_ble_eq_true rfl) (by rw [hR]; exact Nat.le_of_ble_eq_true rfl) (by rw [hR]; exact ⟨Nat.le_of_ble_eq_true rfl, Nat.le_of_ble_eq_true rfl⟩) (z := nI n2) (xi_min (by omega) (by omega)) dX8_become_10 (q := 13) rfl ?_
  refine x_mmax C hw6 hw7 hw4 hw8 (by rw [hR]; exact Nat.le_of_ble_eq_true rfl) (by rw [hR]; exact Nat.le_of_ble_eq_true rfl) (by rw [hR]; exact ⟨Nat.le_of_ble_eq_true rfl, Nat.le_of_ble_eq_true rfl⟩) (z := nI n2) (xi_max0 (by omega)) dX8_become_13 (q := 16) rfl ?_
  refine x_put C (ci := 7) (ty := .int) (ws' := [(o, .inr (7, [.ref a, .int (so2), .int (nI n2)])), (a, .inl (cy 2, 60, .inr (.inl f)))]) hw0 tyX8 tyX8_ok nmX8 0 rfl rfl 2 (by decide) hw9 rfl (by decide +kernel) rfl rfl (Nat.le_of_ble_eq_true rfl) rfl dX8_become_16 (q := 19) rfl ?_
  refine x_aload_n C dX8_become_19 (q := 20) rfl rfl 0 rfl ?_
  refine x_get C (ci := 7) (v := .ref a) hw0 0 rfl rfl 0 (by decide) hw10 rfl dX8_become_20 (q := 23) rfl ?_
  refine x_lconst C dX8_become_23 (q := 24) rfl (v := lN 0) rfl ?_
  refine x_callS C (roW := []) (roR := []) (c_J7_fill_d0a16 l D cy a 60 f (lN 0) (by first | assumption | omega | (simp only []; omega))) (va_cwS 2 C.2.2.2.2.1 gX8_become_J7_fill_d0a16 rfl rfl rfl (by decide +kernel) (by rw [hR]; exact ⟨Nat.le_of_ble_eq_true rfl, Nat.le_of_ble_eq_true rfl⟩)) [1] [] rfl (by decide) rfl (by decide) xro_nil xT_bl (fun _ _ _ _ _ _ _ => trivial) rfl rfl dX8_become_24 rfl rfl (Nat.le_of_ble_eq_true rfl) (q := 27) rfl (k' := 0) rfl (n' := 0) rfl (by rw [hR]; exact ⟨Nat.le_of_ble_eq_true rfl, Nat.le_of_ble_eq_true rfl⟩) (fun v1 w1 hp1 => ?_)
  obtain ⟨rfl, rfl⟩ := hp1
  refine x_ws (ws' := [(o, .inr (7, [.ref a, .int (so2), .int (nI n2)])), (a, .inl (cy 2, 60, .inr (.inl (fun _ => (lN 0)))))]) rfl ?_
  refine x_vret C hA hQ hr dX8_become_27 (Nat.le_of_ble_eq_true rfl) ?_
  first | exact ⟨rfl, rfl⟩ | exact ⟨_, rfl, rfl, by first | rfl | omega | assumption⟩ | (refine ⟨_, rfl, rfl, ?_⟩; (first | rfl | omega | (simp only []; omega)))

set_option maxHeartbeats 4000000 in
set_option maxRecDepth 100000 in
/-- Tape.hasPlace -/
theorem c_X8_hasPlace (l : Launch) (D : va_G) (cy : Nat → ClassId) (o : Nat) (a : Nat) (so : Int32) (n : Nat) (f : Nat → Int64) (i : Int32) (hn : n ≤ 60) : xMet l D cy xT yX8_hasPlace wsX8_hasPlace ({ frames := 1, cells := 0, slots := 0, locals := 0 } : Room) [.ref o, .int (i)] [] [(o, .inr (7, [.ref a, .int (so), .int (nI n)])), (a, .inl (cy 2, 60, .inr (.inl f)))] (fun (v9 : Option Value) (w9 : va_W) => (v9 = some (.int (nI 1)) ∧ w9 = [] ∧ 0 ≤ i.toInt ∧ i.toInt < n) ∨ (v9 = some (.int (nI 0)) ∧ w9 = [] ∧ (i.toInt < 0 ∨ n ≤ i.toInt))) := by
  refine xMet_of (cc := cX8_hasPlace) (maxL := 2) (ret := (some .boolean)) (by decide) rfl (Nat.le_of_ble_eq_true rfl) (fun p e s m args below meth c A R Q hA hR hQ C hr hnm hro hX => ?_)
  have hw0 : ∀ w ∈ u_ws RX8 TX8 3, w ∈ wsX8_hasPlace := by decide +kernel
  have hw1 : Cond.fieldLink RX8 19 (TX8 2).1 (TX8 2).2.1 (TX8 2).2.2.1 ∈ wsX8_hasPlace := by decide +kernel
  have hw2 : Cond.fieldLink RX8 9 (TX8 0).1 (TX8 0).2.1 (TX8 0).2.2.1 ∈ wsX8_hasPlace := by decide +kernel
  refine x_L (L' := [(0, .ref o), (1, .int (i))]) [0, 1] rfl ?_
  refine x_iload_n C dX8_hasPlace_0 (q := 1) rfl rfl 1 rfl ?_
  refine x_if_lt C (tgt := 25) dX8_hasPlace_1 (by decide) (q := 4) rfl (a := i.toInt) rfl (fun h1 => ?_) (fun h1 => ?_)
  · first
    | (exfalso; omega)
    |
      refine x_iconst C dX8_hasPlace_25 (q := 26) rfl (v := nI 0) (by decide) ?_
      refine x_zret C hA hQ hr (ty := .boolean) (by first | rfl | assumption | exact xz_nar _) dX8_hasPlace_26 (Nat.le_of_ble_eq_true rfl) ?_
      first | exact Or.inl ⟨rfl, rfl, by omega, by omega⟩ | exact Or.inr ⟨rfl, rfl, by omega⟩
  · first
    | (exfalso; omega)
    |
      refine x_iload_n C dX8_hasPlace_4 (q := 5) rfl rfl 1 rfl ?_
      refine x_aload_n C dX8_hasPlace_5 (q := 6) rfl rfl 0 rfl ?_
      refine x_getR C (ci := 7) (v := .int (nI n)) hw0 (hro (o, .inr (7, [.ref a, .int (so), .int (nI n)])) (List.mem_of_getElem? (i := 0) rfl)) rfl 2 (by decide) hw1 rfl dX8_hasPlace_6 (q := 9) rfl ?_
      refine x_icmp_ge C (tgt := 25) dX8_hasPlace_9 (by decide) (q := 12) rfl (a := i.toInt) (b := ((n : Nat) : Int)) rfl (nI_toInt (by omega)) (fun h2 => ?_) (fun h2 => ?_)
      · first
        | (exfalso; omega)
        |
          refine x_iconst C dX8_hasPlace_25 (q := 26) rfl (v := nI 0) (by decide) ?_
          refine x_zret C hA hQ hr (ty := .boolean) (by first | rfl | assumption | exact xz_nar _) dX8_hasPlace_26 (Nat.le_of_ble_eq_true rfl) ?_
          first | exact Or.inl ⟨rfl, rfl, by omega, by omega⟩ | exact Or.inr ⟨rfl, rfl, by omega⟩
      · first
        | (exfalso; omega)
        |
          refine x_iload_n C dX8_hasPlace_12 (q := 13) rfl rfl 1 rfl ?_
          refine x_aload_n C dX8_hasPlace_13 (q := 14) rfl rfl 0 rfl ?_
          refine x_getR C (ci := 7) (v := .ref a) hw0 (hro (o, .inr (7, [.ref a, .int (so), .int (nI n)])) (List.mem_of_getElem? (i := 0) rfl)) rfl 0 (by decide) hw2 rfl dX8_hasPlace_14 (q := 17) rfl ?_
          refine x_alenR C 2 (hro (a, .inl (cy 2, 60, .inr (.inl f))) (List.mem_of_getElem? (i := 1) rfl)) rfl (v := nI 60) rfl dX8_hasPlace_17 (q := 18) rfl ?_
          refine x_icmp_ge C (tgt := 25) dX8_hasPlace_18 (by decide) (q := 21) rfl (a := i.toInt) (b := 60) rfl rfl (fun h3 => ?_) (fun h3 => ?_)
          · first
            | (exfalso; omega)
            |
              refine x_iconst C dX8_hasPlace_25 (q := 26) rfl (v := nI 0) (by decide) ?_
              refine x_zret C hA hQ hr (ty := .boolean) (by first | rfl | assumption | exact xz_nar _) dX8_hasPlace_26 (Nat.le_of_ble_eq_true rfl) ?_
              first | exact Or.inl ⟨rfl, rfl, by omega, by omega⟩ | exact Or.inr ⟨rfl, rfl, by omega⟩
          · first
            | (exfalso; omega)
            |
              refine x_iconst C dX8_hasPlace_21 (q := 22) rfl (v := nI 1) (by decide) ?_
              refine x_goto C (tgt := 26) dX8_hasPlace_22 (by decide) ?_
              refine x_zret C hA hQ hr (ty := .boolean) (by first | rfl | assumption | exact xz_nar _) dX8_hasPlace_26 (Nat.le_of_ble_eq_true rfl) ?_
              first | exact Or.inl ⟨rfl, rfl, by omega, by omega⟩ | exact Or.inr ⟨rfl, rfl, by omega⟩

set_option maxHeartbeats 4000000 in
set_option maxRecDepth 100000 in
/-- Tape.hasStretch -/
theorem c_X8_hasStretch (l : Launch) (D : va_G) (cy : Nat → ClassId) (o : Nat) (a : Nat) (so : Int32) (n : Nat) (f : Nat → Int64) (i : Int32) (z : Int32) (hn : n ≤ 60) : xMet l D cy xT yX8_hasStretch wsX8_hasStretch ({ frames := 1, cells := 0, slots := 0, locals := 0 } : Room) [.ref o, .int (i), .int (z)] [] [(o, .inr (7, [.ref a, .int (so), .int (nI n)])), (a, .inl (cy 2, 60, .inr (.inl f)))] (fun (v9 : Option Value) (w9 : va_W) => (v9 = some (.int (nI 1)) ∧ w9 = [] ∧ 0 ≤ z.toInt ∧ 0 ≤ i.toInt ∧ i.toInt + z.toInt ≤ n) ∨ (v9 = some (.int (nI 0)) ∧ w9 = [] ∧ (z.toInt < 0 ∨ i.toInt < 0 ∨ n < i.toInt + z.toInt))) := by
  refine xMet_of (cc := cX8_hasStretch) (maxL := 3) (ret := (some .boolean)) (by decide) rfl (Nat.le_of_ble_eq_true rfl) (fun p e s m args below meth c A R Q hA hR hQ C hr hnm hro hX => ?_)
  have hw0 : ∀ w ∈ u_ws RX8 TX8 3, w ∈ wsX8_hasStretch := by decide +kernel
  have hw1 : Cond.fieldLink RX8 19 (TX8 2).1 (TX8 2).2.1 (TX8 2).2.2.1 ∈ wsX8_hasStretch := by decide +kernel
  refine x_L (L' := [(0, .ref o), (1, .int (i)), (2, .int (z))]) [0, 1, 2] rfl ?_
  refine x_iload_n C dX8_hasStretch_0 (q := 1) rfl rfl 2 rfl ?_
  refine x_if_lt C (tgt := 30) dX8_hasStretch_1 (by decide) (q := 4) rfl (a := z.toInt) rfl (fun h1 => ?_) (fun h1 => ?_)
  · first
    | (exfalso; omega)
    |
      refine x_iconst C dX8_hasStretch_30 (q := 31) rfl (v := nI 0) (by decide) ?_
      refine x_zret C hA hQ hr (ty := .boolean) (by first | rfl | assumption | exact xz_nar _) dX8_hasStretch_31 (Nat.le_of_ble_eq_true rfl) ?_
      first | exact Or.inl ⟨rfl, rfl, by omega, by omega, by omega⟩ | exact Or.inr ⟨rfl, rfl, by omega⟩
  · first
    | (exfalso; omega)
    |
      refine x_iload_n C dX8_hasStretch_4 (q := 5) rfl rfl 1 rfl ?_
      refine x_if_lt C (tgt := 30) dX8_hasStretch_5 (by decide) (q := 8) rfl (a := i.toInt) rfl (fun h2 => ?_) (fun h2 => ?_)
      · first
        | (exfalso; omega)
        |
          refine x_iconst C dX8_hasStretch_30 (q := 31) rfl (v := nI 0) (by decide) ?_
          refine x_zret C hA hQ hr (ty := .boolean) (by first | rfl | assumption | exact xz_nar _) dX8_hasStretch_31 (Nat.le_of_ble_eq_true rfl) ?_
          first | exact Or.inl ⟨rfl, rfl, by omega, by omega, by omega⟩ | exact Or.inr ⟨rfl, rfl, by omega⟩
      · first
        | (exfalso; omega)
        |
          refine x_iload_n C dX8_hasStretch_8 (q := 9) rfl rfl 2 rfl ?_
          refine x_aload_n C dX8_hasStretch_9 (q := 10) rfl rfl 0 rfl ?_
          refine x_getR C (ci := 7) (v := .int (nI n)) hw0 (hro (o, .inr (7, [.ref a, .int (so), .int (nI n)])) (List.mem_of_getElem? (i := 0) rfl)) rfl 2 (by decide) hw1 rfl dX8_hasStretch_10 (q := 13) rfl ?_
          refine x_icmp_gt C (tgt := 30) dX8_hasStretch_13 (by decide) (q := 16) rfl (a := z.toInt) (b := ((n : Nat) : Int)) rfl (nI_toInt (by omega)) (fun h3 => ?_) (fun h3 => ?_)
          · first
            | (exfalso; omega)
            |
              refine x_iconst C dX8_hasStretch_30 (q := 31) rfl (v := nI 0) (by decide) ?_
              refine x_zret C hA hQ hr (ty := .boolean) (by first | rfl | assumption | exact xz_nar _) dX8_hasStretch_31 (Nat.le_of_ble_eq_true rfl) ?_
              first | exact Or.inl ⟨rfl, rfl, by omega, by omega, by omega⟩ | exact Or.inr ⟨rfl, rfl, by omega⟩
          · first
            | (exfalso; omega)
            |
              refine x_iload_n C dX8_hasStretch_16 (q := 17) rfl rfl 1 rfl ?_
              refine x_aload_n C dX8_hasStretch_17 (q := 18) rfl rfl 0 rfl ?_
              refine x_getR C (ci := 7) (v := .int (nI n)) hw0 (hro (o, .inr (7, [.ref a, .int (so), .int (nI n)])) (List.mem_of_getElem? (i := 0) rfl)) rfl 2 (by decide) hw1 rfl dX8_hasStretch_18 (q := 21) rfl ?_
              refine x_iload_n C dX8_hasStretch_21 (q := 22) rfl rfl 2 rfl ?_
              refine x_isub C dX8_hasStretch_22 (q := 23) rfl (z := (nI n) - z) (rfl) ?_
              refine x_icmp_gt C (tgt := 30) dX8_hasStretch_23 (by decide) (q := 26) rfl (a := i.toInt) (b := ((n : Nat) : Int) - z.toInt) rfl (xi_sub2 (nI_toInt (by omega)) rfl (by omega) (by omega)) (fun h4 => ?_) (fun h4 => ?_)
              · first
                | (exfalso; omega)
                |
                  refine x_iconst C dX8_hasStretch_30 (q := 31) rfl (v := nI 0) (by decide) ?_
                  refine x_zret C hA hQ hr (ty := .boolean) (by first | rfl | assumption | exact xz_nar _) dX8_hasStretch_31 (Nat.le_of_ble_eq_true rfl) ?_
                  first | exact Or.inl ⟨rfl, rfl, by omega, by omega, by omega⟩ | exact Or.inr ⟨rfl, rfl, by omega⟩
              · first
                | (exfalso; omega)
                |
                  refine x_iconst C dX8_hasStretch_26 (q := 27) rfl (v := nI 1) (by decide) ?_
                  refine x_goto C (tgt := 31) dX8_hasStretch_27 (by decide) ?_
                  refine x_zret C hA hQ hr (ty := .boolean) (by first | rfl | assumption | exact xz_nar _) dX8_hasStretch_31 (Nat.le_of_ble_eq_true rfl) ?_
                  first | exact Or.inl ⟨rfl, rfl, by omega, by omega, by omega⟩ | exact Or.inr ⟨rfl, rfl, by omega⟩

set_option maxHeartbeats 4000000 in
set_option maxRecDepth 100000 in
/-- Tape.cut -/
theorem c_X8_cut (l : Launch) (D : va_G) (cy : Nat → ClassId) (o : Nat) (a : Nat) (so : Int32) (n : Nat) (f : Nat → Int64) (v : Int64)  : xMet l D cy xT yX8_cut wsX8_cut ({ frames := 1, cells := 0, slots := 0, locals := 0 } : Room) [.ref o, .long (v)] [] [(o, .inr (7, [.ref a, .int (so), .int (nI n)])), (a, .inl (cy 2, 60, .inr (.inl f)))] (fun (v9 : Option Value) (w9 : va_W) => (v9 = some (.long (cutS so.toInt v)) ∧ w9 = [])) := by
  refine xMet_of (cc := cX8_cut) (maxL := 3) (ret := (some .long)) (by decide) rfl (Nat.le_of_ble_eq_true rfl) (fun p e s m args below meth c A R Q hA hR hQ C hr hnm hro hX => ?_)
  have hw0 : ∀ w ∈ u_ws RX8 TX8 3, w ∈ wsX8_cut := by decide +kernel
  have hw1 : Cond.fieldLink RX8 15 (TX8 1).1 (TX8 1).2.1 (TX8 1).2.2.1 ∈ wsX8_cut := by decide +kernel
  refine x_L (L' := [(0, .ref o), (1, .long (v))]) [0, 1] rfl ?_
  refine x_aload_n C dX8_cut_0 (q := 1) rfl rfl 0 rfl ?_
  refine x_getR C (ci := 7) (v := .int (so)) hw0 (hro (o, .inr (7, [.ref a, .int (so), .int (nI n)])) (List.mem_of_getElem? (i := 0) rfl)) rfl 1 (by decide) hw1 rfl dX8_cut_1 (q := 4) rfl ?_
  by_cases hs1 : so.toInt < 0 ∨ 4 < so.toInt
  · refine x_tableOut C (tgt := 66) dX8_cut_4 hs1 (by decide) ?_
    refine x_lload_n C dX8_cut_66 (q := 67) rfl rfl 1 rfl ?_
    refine x_lret C hA hQ hr dX8_cut_67 (Nat.le_of_ble_eq_true rfl) ?_
    first | exact ⟨by unfold cutS; rw [hs1e]; rfl, rfl⟩ | exact ⟨by unfold cutS; rw [hs1e, if_neg (by decide), if_neg (by decide), if_neg (by decide), if_pos rfl, if_pos (by omega)], rfl⟩ | exact ⟨by unfold cutS; rw [hs1e, if_neg (by decide), if_neg (by decide), if_neg (by decide), if_pos rfl, if_neg (by omega)], rfl⟩ | exact ⟨by unfold cutS; rw [if_neg (by omega), if_neg (by omega), if_neg (by omega), if_neg (by omega)], rfl⟩
  · have hs1' : so.toInt = 0 ∨ so.toInt = 1 ∨ so.toInt = 2 ∨ so.toInt = 3 ∨ so.toInt = 4 := by omega
    rcases hs1' with hs1e | hs1e | hs1e | hs1e | hs1e
    · refine x_tableIn C (tgt := 40) (0 : Int) ((rfl : (so : Int32).toInt = so.toInt).trans hs1e) dX8_cut_4 (by decide) (by decide) rfl (by decide) ?_
      refine x_lload_n C dX8_cut_40 (q := 41) rfl rfl 1 rfl ?_
      refine x_l2i C dX8_cut_41 (q := 42) rfl (v := v.toInt32) (rfl) ?_
      refine x_i2b C dX8_cut_42 (q := 43) rfl (v := v.toInt32.toInt8.toInt32) (rfl) ?_
      refine x_i2l C dX8_cut_43 (q := 44) rfl (v := v.toInt32.toInt8.toInt32.toInt64) (rfl) ?_
      refine x_lret C hA hQ hr dX8_cut_44 (Nat.le_of_ble_eq_true rfl) ?_
      first | exact ⟨by unfold cutS; rw [hs1e]; rfl, rfl⟩ | exact ⟨by unfold cutS; rw [hs1e, if_neg (by decide), if_neg (by decide), if_neg (by decide), if_pos rfl, if_pos (by omega)], rfl⟩ | exact ⟨by unfold cutS; rw [hs1e, if_neg (by decide), if_neg (by decide), if_neg (by decide), if_pos rfl, if_neg (by omega)], rfl⟩ | exact ⟨by unfold cutS; rw [if_neg (by omega), if_neg (by omega), if_neg (by omega), if_neg (by omega)], rfl⟩
    · refine x_tableIn C (tgt := 45) (1 : Int) ((rfl : (so : Int32).toInt = so.toInt).trans hs1e) dX8_cut_4 (by decide) (by decide) rfl (by decide) ?_
      refine x_lload_n C dX8_cut_45 (q := 46) rfl rfl 1 rfl ?_
      refine x_l2i C dX8_cut_46 (q := 47) rfl (v := v.toInt32) (rfl) ?_
      refine x_i2s C dX8_cut_47 (q := 48) rfl (v := v.toInt32.toInt16.toInt32) (rfl) ?_
      refine x_i2l C dX8_cut_48 (q := 49) rfl (v := v.toInt32.toInt16.toInt32.toInt64) (rfl) ?_
      refine x_lret C hA hQ hr dX8_cut_49 (Nat.le_of_ble_eq_true rfl) ?_
      first | exact ⟨by unfold cutS; rw [hs1e]; rfl, rfl⟩ | exact ⟨by unfold cutS; rw [hs1e, if_neg (by decide), if_neg (by decide), if_neg (by decide), if_pos rfl, if_pos (by omega)], rfl⟩ | exact ⟨by unfold cutS; rw [hs1e, if_neg (by decide), if_neg (by decide), if_neg (by decide), if_pos rfl, if_neg (by omega)], rfl⟩ | exact ⟨by unfold cutS; rw [if_neg (by omega), if_neg (by omega), if_neg (by omega), if_neg (by omega)], rfl⟩
    · refine x_tableIn C (tgt := 50) (2 : Int) ((rfl : (so : Int32).toInt = so.toInt).trans hs1e) dX8_cut_4 (by decide) (by decide) rfl (by decide) ?_
      refine x_lload_n C dX8_cut_50 (q := 51) rfl rfl 1 rfl ?_
      refine x_l2i C dX8_cut_51 (q := 52) rfl (v := v.toInt32) (rfl) ?_
      refine x_i2l C dX8_cut_52 (q := 53) rfl (v := v.toInt32.toInt64) (rfl) ?_
      refine x_lret C hA hQ hr dX8_cut_53 (Nat.le_of_ble_eq_true rfl) ?_
      first | exact ⟨by unfold cutS; rw [hs1e]; rfl, rfl⟩ | exact ⟨by unfold cutS; rw [hs1e, if_neg (by decide), if_neg (by decide), if_neg (by decide), if_pos rfl, if_pos (by omega)], rfl⟩ | exact ⟨by unfold cutS; rw [hs1e, if_neg (by decide), if_neg (by decide), if_neg (by decide), if_pos rfl, if_neg (by omega)], rfl⟩ | exact ⟨by unfold cutS; rw [if_neg (by omega), if_neg (by omega), if_neg (by omega), if_neg (by omega)], rfl⟩
    · refine x_tableIn C (tgt := 66) (3 : Int) ((rfl : (so : Int32).toInt = so.toInt).trans hs1e) dX8_cut_4 (by decide) (by decide) rfl (by decide) ?_
      refine x_lload_n C dX8_cut_66 (q := 67) rfl rfl 1 rfl ?_
      refine x_lret C hA hQ hr dX8_cut_67 (Nat.le_of_ble_eq_true rfl) ?_
      first | exact ⟨by unfold cutS; rw [hs1e]; rfl, rfl⟩ | exact ⟨by unfold cutS; rw [hs1e, if_neg (by decide), if_neg (by decide), if_neg (by decide), if_pos rfl, if_pos (by omega)], rfl⟩ | exact ⟨by unfold cutS; rw [hs1e, if_neg (by decide), if_neg (by decide), if_neg (by decide), if_pos rfl, if_neg (by omega)], rfl⟩ | exact ⟨by unfold cutS; rw [if_neg (by omega), if_neg (by omega), if_neg (by omega), if_neg (by omega)], rfl⟩
    · refine x_tableIn C (tgt := 54) (4 : Int) ((rfl : (so : Int32).toInt = so.toInt).trans hs1e) dX8_cut_4 (by decide) (by decide) rfl (by decide) ?_
      refine x_lload_n C dX8_cut_54 (q := 55) rfl rfl 1 rfl ?_
      refine x_lconst C dX8_cut_55 (q := 56) rfl (v := lN 0) rfl ?_
      refine x_lcmp_eq C (tgt := 64) dX8_cut_56 dX8_cut_57 (by decide) (q := 60) rfl (a := v.toInt) (b := 0) rfl rfl (fun h2 => ?_) (fun h2 => ?_)
      · first
        | (exfalso; omega)
        |
          refine x_lconst C dX8_cut_64 (q := 65) rfl (v := lN 0) rfl ?_
          refine x_lret C hA hQ hr dX8_cut_65 (Nat.le_of_ble_eq_true rfl) ?_
          first | exact ⟨by unfold cutS; rw [hs1e]; rfl, rfl⟩ | exact ⟨by unfold cutS; rw [hs1e, if_neg (by decide), if_neg (by decide), if_neg (by decide), if_pos rfl, if_pos (by omega)], rfl⟩ | exact ⟨by unfold cutS; rw [hs1e, if_neg (by decide), if_neg (by decide), if_neg (by decide), if_pos rfl, if_neg (by omega)], rfl⟩ | exact ⟨by unfold cutS; rw [if_neg (by omega), if_neg (by omega), if_neg (by omega), if_neg (by omega)], rfl⟩
      · first
        | (exfalso; omega)
        |
          refine x_lconst C dX8_cut_60 (q := 61) rfl (v := lN 1) rfl ?_
          refine x_goto C (tgt := 65) dX8_cut_61 (by decide) ?_
          refine x_lret C hA hQ hr dX8_cut_65 (Nat.le_of_ble_eq_true rfl) ?_
          first | exact ⟨by unfold cutS; rw [hs1e]; rfl, rfl⟩ | exact ⟨by unfold cutS; rw [hs1e, if_neg (by decide), if_neg (by decide), if_neg (by decide), if_pos rfl, if_pos (by omega)], rfl⟩ | exact ⟨by unfold cutS; rw [hs1e, if_neg (by decide), if_neg (by decide), if_neg (by decide), if_pos rfl, if_neg (by omega)], rfl⟩ | exact ⟨by unfold cutS; rw [if_neg (by omega), if_neg (by omega), if_neg (by omega), if_neg (by omega)], rfl⟩

set_option maxHeartbeats 4000000 in
set_option maxRecDepth 100000 in
/-- Tape.itemAt -/
theorem c_X8_itemAt (l : Launch) (D : va_G) (cy : Nat → ClassId) (o : Nat) (a : Nat) (so : Int32) (n : Nat) (f : Nat → Int64) (i : Int32) (hn : n ≤ 60) (hi : 0 ≤ i.toInt) (hi2 : i.toInt < n) : xMet l D cy xT yX8_itemAt wsX8_itemAt ({ frames := 2, cells := 0, slots := 0, locals := 200 } : Room) [.ref o, .int (i)] [] [(o, .inr (7, [.ref a, .int (so), .int (nI n)])), (a, .inl (cy 2, 60, .inr (.inl f)))] (fun (v9 : Option Value) (w9 : va_W) => (v9 = some (.long (f i.toInt.toNat)) ∧ w9 = [])) := by
  refine xMet_of (cc := cX8_itemAt) (maxL := 2) (ret := (some .long)) (by decide) rfl (Nat.le_of_ble_eq_true rfl) (fun p e s m args below meth c A R Q hA hR hQ C hr hnm hro hX => ?_)
  have hw0 : ∀ w ∈ u_ws RX8 TX8 3, w ∈ wsX8_itemAt := by decide +kernel
  have hw1 : Cond.fieldLink RX8 9 (TX8 0).1 (TX8 0).2.1 (TX8 0).2.2.1 ∈ wsX8_itemAt := by decide +kernel
  refine x_L (L' := [(0, .ref o), (1, .int (i))]) [0, 1] rfl ?_
  refine x_aload_n C dX8_itemAt_0 (q := 1) rfl rfl 0 rfl ?_
  refine x_iload_n C dX8_itemAt_1 (q := 2) rfl rfl 1 rfl ?_
  refine x_callV C (roW := []) (roR := [(o, .inr (7, [.ref a, .int (so), .int (nI n)])), (a, .inl (cy 2, 60, .inr (.inl f)))]) (c_X8_hasPlace l D cy o a so n f i (by first | assumption | omega | (simp only []; omega))) (cwV 1 C.2.2.2.2.1 gX8_itemAt_X8_hasPlace rfl rfl rfl (by decide +kernel) (by rw [hR]; exact ⟨Nat.le_of_ble_eq_true rfl, Nat.le_of_ble_eq_true rfl⟩)) [] [] rfl (by decide) rfl (by decide) (xro_cons (hro (o, .inr (7, [.ref a, .int (so), .int (nI n)])) (List.mem_of_getElem? (i := 0) rfl)) (xro_cons (hro (a, .inl (cy 2, 60, .inr (.inl f))) (List.mem_of_getElem? (i := 1) rfl)) xro_nil)) (List.mem_of_getElem? (i := 0) rfl) (ci := 7) rfl xT_bl (fun _ _ _ _ _ _ _ => trivial) rfl rfl dX8_itemAt_2 rfl rfl (Nat.le_of_ble_eq_true rfl) (q := 5) rfl (k' := 0) rfl (n' := 0) rfl (by rw [hR]; exact ⟨Nat.le_of_ble_eq_true rfl, Nat.le_of_ble_eq_true rfl⟩) (fun v1 w1 hp1 => ?_)
  rcases hp1 with hp1 | hp1
  · skip
    obtain ⟨rfl, rfl, hc2, hc3⟩ := hp1
    refine x_ws (ws' := []) (List.append_nil _) ?_
    refine x_if_eq C (tgt := 17) dX8_itemAt_5 (by decide) (q := 8) rfl (a := 1) rfl (fun h4 => (by omega : False).elim) (fun h4 => ?_)
    refine x_aload_n C dX8_itemAt_8 (q := 9) rfl rfl 0 rfl ?_
    refine x_getR C (ci := 7) (v := .ref a) hw0 (hro (o, .inr (7, [.ref a, .int (so), .int (nI n)])) (List.mem_of_getElem? (i := 0) rfl)) rfl 0 (by decide) hw1 rfl dX8_itemAt_9 (q := 12) rfl ?_
    refine x_iload_n C dX8_itemAt_12 (q := 13) rfl rfl 1 rfl ?_
    refine x_laldR C (j := i.toInt.toNat) (v := f i.toInt.toNat) (hro (a, .inl (cy 2, 60, .inr (.inl f))) (List.mem_of_getElem? (i := 1) rfl)) (by have h9 := (rfl : (i : Int32).toInt = i.toInt); omega) (by omega) rfl dX8_itemAt_13 (q := 14) rfl ?_
    refine x_goto C (tgt := 20) dX8_itemAt_14 (by decide) ?_
    refine x_lret C hA hQ hr dX8_itemAt_20 (Nat.le_of_ble_eq_true rfl) ?_
    first | exact ⟨rfl, rfl⟩ | exact ⟨_, rfl, rfl, by first | rfl | omega | assumption⟩ | (refine ⟨_, rfl, rfl, ?_⟩; (first | rfl | omega | (simp only []; omega)))
  · exfalso; obtain ⟨_, _, hc5⟩ := hp1; omega

set_option maxHeartbeats 4000000 in
set_option maxRecDepth 100000 in
/-- Tape.put -/
theorem c_X8_put (l : Launch) (D : va_G) (cy : Nat → ClassId) (o : Nat) (a : Nat) (so : Int32) (n : Nat) (f : Nat → Int64) (i : Int32) (v : Int64) (hn : n ≤ 60) (hi : 0 ≤ i.toInt) (hi2 : i.toInt < n) : xMet l D cy xT yX8_put wsX8_put ({ frames := 2, cells := 0, slots := 0, locals := 200 } : Room) [.ref o, .int (i), .long (v)] [(o, .inr (7, [.ref a, .int (so), .int (nI n)])), (a, .inl (cy 2, 60, .inr (.inl f)))] [] (fun (v9 : Option Value) (w9 : va_W) => (v9 = none ∧ w9 = [(o, .inr (7, [.ref a, .int (so), .int (nI n)])), (a, .inl (cy 2, 60, .inr (.inl (va_up f i.toInt.toNat (cutS so.toInt v)))))])) := by
  refine xMet_of (cc := cX8_put) (maxL := 4) (ret := none) (by decide) rfl (Nat.le_of_ble_eq_true rfl) (fun p e s m args below meth c A R Q hA hR hQ C hr hnm hro hX => ?_)
  have hw0 : ∀ w ∈ u_ws RX8 TX8 3, w ∈ wsX8_put := by decide +kernel
  have hw1 : Cond.fieldLink RX8 9 (TX8 0).1 (TX8 0).2.1 (TX8 0).2.2.1 ∈ wsX8_put := by decide +kernel
  refine x_L (L' := [(0, .ref o), (1, .int (i)), (2, .long (v))]) [0, 1, 2] rfl ?_
  refine x_aload_n C dX8_put_0 (q := 1) rfl rfl 0 rfl ?_
  refine x_iload_n C dX8_put_1 (q := 2) rfl rfl 1 rfl ?_
  refine x_callV C (roW := [(o, .inr (7, [.ref a, .int (so), .int (nI n)])), (a, .inl (cy 2, 60, .inr (.inl f)))]) (roR := []) (c_X8_hasPlace l D cy o a so n f i (by first | assumption | omega | (simp only []; omega))) (cwV 1 C.2.2.2.2.1 gX8_put_X8_hasPlace rfl rfl rfl (by decide +kernel) (by rw [hR]; exact ⟨Nat.le_of_ble_eq_true rfl, Nat.le_of_ble_eq_true rfl⟩)) [] [0, 1] rfl (by decide) rfl (by decide) xro_nil (List.mem_of_getElem? (i := 0) rfl) (ci := 7) rfl xT_bl (fun _ _ _ _ _ _ _ => trivial) rfl rfl dX8_put_2 rfl rfl (Nat.le_of_ble_eq_true rfl) (q := 5) rfl (k' := 0) rfl (n' := 0) rfl (by rw [hR]; exact ⟨Nat.le_of_ble_eq_true rfl, Nat.le_of_ble_eq_true rfl⟩) (fun v1 w1 hp1 => ?_)
  rcases hp1 with hp1 | hp1
  · skip
    obtain ⟨rfl, rfl, hc2, hc3⟩ := hp1
    refine x_ws (ws' := [(o, .inr (7, [.ref a, .int (so), .int (nI n)])), (a, .inl (cy 2, 60, .inr (.inl f)))]) (List.append_nil _) ?_
    refine x_if_eq C (tgt := 19) dX8_put_5 (by decide) (q := 8) rfl (a := 1) rfl (fun h4 => (by omega : False).elim) (fun h4 => ?_)
    refine x_aload_n C dX8_put_8 (q := 9) rfl rfl 0 rfl ?_
    refine x_get C (ci := 7) (v := .ref a) hw0 0 rfl rfl 0 (by decide) hw1 rfl dX8_put_9 (q := 12) rfl ?_
    refine x_iload_n C dX8_put_12 (q := 13) rfl rfl 1 rfl ?_
    refine x_aload_n C dX8_put_13 (q := 14) rfl rfl 0 rfl ?_
    refine x_lload_n C dX8_put_14 (q := 15) rfl rfl 2 rfl ?_
    refine x_callV C (roW := [(o, .inr (7, [.ref a, .int (so), .int (nI n)])), (a, .inl (cy 2, 60, .inr (.inl f)))]) (roR := []) (c_X8_cut l D cy o a so n f v ) (cwV 1 C.2.2.2.2.1 gX8_put_X8_cut rfl rfl rfl (by decide +kernel) (by rw [hR]; exact ⟨Nat.le_of_ble_eq_true rfl, Nat.le_of_ble_eq_true rfl⟩)) [] [0, 1] rfl (by decide) rfl (by decide) xro_nil (List.mem_of_getElem? (i := 0) rfl) (ci := 7) rfl xT_bl (fun _ _ _ _ _ _ _ => trivial) rfl rfl dX8_put_15 rfl rfl (Nat.le_of_ble_eq_true rfl) (q := 18) rfl (k' := 0) rfl (n' := 0) rfl (by rw [hR]; exact ⟨Nat.le_of_ble_eq_true rfl, Nat.le_of_ble_eq_true rfl⟩) (fun v5 w5 hp5 => ?_)
    obtain ⟨rfl, rfl⟩ := hp5
    refine x_ws (ws' := [(o, .inr (7, [.ref a, .int (so), .int (nI n)])), (a, .inl (cy 2, 60, .inr (.inl f)))]) (List.append_nil _) ?_
    refine x_last C (ws' := [(o, .inr (7, [.ref a, .int (so), .int (nI n)])), (a, .inl (cy 2, 60, .inr (.inl (va_up f i.toInt.toNat (cutS so.toInt v)))))]) 1 rfl (j := i.toInt.toNat) (by have h9 := (rfl : (i : Int32).toInt = i.toInt); omega) (by omega) (rfl) rfl dX8_put_18 (q := 19) rfl ?_
    refine x_vret C hA hQ hr dX8_put_19 (Nat.le_of_ble_eq_true rfl) ?_
    first | exact ⟨rfl, rfl⟩ | exact ⟨_, rfl, rfl, by first | rfl | omega | assumption⟩ | (refine ⟨_, rfl, rfl, ?_⟩; (first | rfl | omega | (simp only []; omega)))
  · exfalso; obtain ⟨_, _, hc6⟩ := hp1; omega
