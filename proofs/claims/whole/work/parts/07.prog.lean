
/-- how many of the first k have it -/
def cntE (f : Nat → Int32) (x : Int32) : Nat → Nat
  | 0 => 0
  | k + 1 => cntE f x k + (if f k = x then 1 else 0)
theorem cntE_le (f : Nat → Int32) (x : Int32) : ∀ k, cntE f x k ≤ k
  | 0 => Nat.le_refl 0
  | k + 1 => by
    have := cntE_le f x k
    unfold cntE
    split <;> omega
theorem x_n0 : (fun _ => (0 : Int32)) = fun (k : Nat) => nI ((fun _ => 0 : Nat → Nat) k) := rfl
theorem x_nC (c : Nat) : (fun _ => nI c) = fun (k : Nat) => nI ((fun _ => c : Nat → Nat) k) := rfl

set_option maxHeartbeats 4000000 in
set_option maxRecDepth 100000 in
/-- Progress: nothing is imported -/
theorem c_X5_init (l : Launch) (D : va_G) (cy : Nat → ClassId) (o : Nat)  : xMet l D cy xT yX5_init wsX5_init ({ frames := 2, cells := 6, slots := 125, locals := 200 } : Room) [.ref o] [(o, .inr (4, [.null, .null, .null, .null, .null, .null, .int (nI 0), .int (nI 0), .int (nI 0)]))] [] (fun (v9 : Option Value) (w9 : va_W) => (∃ a0 : Nat, ∃ a1 : Nat, ∃ a2 : Nat, ∃ a3 : Nat, ∃ a4 : Nat, ∃ a5 : Nat, v9 = none ∧ w9 = [(o, .inr (4, [.ref a0, .ref a1, .ref a2, .ref a3, .ref a4, .ref a5, .int (nI 0), .int (nI 0), .int (-1)])), (a0, .inl (cy 1, 5, .inl (fun k => nI ((fun _ => 0) k)))), (a1, .inl (cy 1, 24, .inl (fun _ => 0))), (a2, .inl (cy 1, 24, .inl (fun _ => 0))), (a3, .inl (cy 1, 24, .inl (fun _ => 0))), (a4, .inl (cy 1, 24, .inl (fun _ => 0))), (a5, .inl (cy 1, 24, .inl (fun k => nI ((fun _ => 0) k))))])) := by
  refine xMet_of (cc := cX5_init) (maxL := 1) (ret := none) (by decide) rfl (Nat.le_of_ble_eq_true rfl) (fun p e s m args below meth c A R Q hA hR hQ C hr hnm hro hX => ?_)
  have hw0 : Cond.methodLink RX5 3 Lib.objectInit ∈ wsX5_init := by decide +kernel
  have hw1 : Cond.instanceMethod Lib.objectInit ∈ wsX5_init := by decide +kernel
  have hw2 : Cond.code Lib.objectInit ⟨#[0xb1]⟩ 1 none ∈ wsX5_init := by decide +kernel
  have hw3 : Cond.arrayClass .int ∈ wsX5_init := by decide +kernel
  have hw4 : ∀ w ∈ u_ws RX5 TX5 9, w ∈ wsX5_init := by decide +kernel
  have hw5 : Cond.fieldLink RX5 9 (TX5 0).1 (TX5 0).2.1 (TX5 0).2.2.1 ∈ wsX5_init := by decide +kernel
  have hw6 : Cond.fieldLink RX5 15 (TX5 1).1 (TX5 1).2.1 (TX5 1).2.2.1 ∈ wsX5_init := by decide +kernel
  have hw7 : Cond.fieldLink RX5 18 (TX5 2).1 (TX5 2).2.1 (TX5 2).2.2.1 ∈ wsX5_init := by decide +kernel
  have hw8 : Cond.fieldLink RX5 21 (TX5 3).1 (TX5 3).2.1 (TX5 3).2.2.1 ∈ wsX5_init := by decide +kernel
  have hw9 : Cond.fieldLink RX5 24 (TX5 4).1 (TX5 4).2.1 (TX5 4).2.2.1 ∈ wsX5_init := by decide +kernel
  have hw10 : Cond.fieldLink RX5 27 (TX5 5).1 (TX5 5).2.1 (TX5 5).2.2.1 ∈ wsX5_init := by decide +kernel
  have hw11 : Cond.fieldLink RX5 30 (TX5 6).1 (TX5 6).2.1 (TX5 6).2.2.1 ∈ wsX5_init := by decide +kernel
  have hw12 : Cond.fieldLink RX5 34 (TX5 7).1 (TX5 7).2.1 (TX5 7).2.2.1 ∈ wsX5_init := by decide +kernel
  have hw13 : Cond.fieldLink RX5 37 (TX5 8).1 (TX5 8).2.1 (TX5 8).2.2.1 ∈ wsX5_init := by decide +kernel
  refine x_L (L' := [(0, .ref o)]) [0] rfl ?_
  refine x_aload_n C dX5_init_0 (q := 1) rfl rfl 0 rfl ?_
  refine x_obj C hw0 hw1 hw2 (by rw [hR]; exact Nat.le_of_ble_eq_true rfl) (by rw [hR]; exact Nat.le_of_ble_eq_true rfl) dX5_init_1 (q := 4) rfl ?_
  refine x_aload_n C dX5_init_4 (q := 5) rfl rfl 0 rfl ?_
  refine x_iconst C dX5_init_5 (q := 6) rfl (v := nI 5) (by decide) ?_
  refine x_newI C (N := 5) hw3 rfl (by decide) (k' := 1) rfl (n' := 5) rfl (by rw [hR]; exact ⟨Nat.le_of_ble_eq_true rfl, Nat.le_of_ble_eq_true rfl⟩) dX5_init_6 (q := 8) rfl (fun a0 => ?_)
  refine x_ws (ws' := [(o, .inr (4, [.null, .null, .null, .null, .null, .null, .int (nI 0), .int (nI 0), .int (nI 0)])), (a0, .inl (cy 1, 5, .inl (fun _ => 0)))]) rfl ?_
  refine x_putF C (ci := 4) (ty := tyX5 0) (ws' := [(o, .inr (4, [.ref a0, .null, .null, .null, .null, .null, .int (nI 0), .int (nI 0), .int (nI 0)])), (a0, .inl (cy 1, 5, .inl (fun _ => 0)))]) hw4 tyX5 tyX5_ok nmX5 0 rfl rfl 0 (by decide) hw5 rfl hnm rfl (by decide +kernel) rfl rfl (Nat.le_of_ble_eq_true rfl) rfl dX5_init_8 (q := 11) rfl ?_
  refine x_aload_n C dX5_init_11 (q := 12) rfl rfl 0 rfl ?_
  refine x_bipush C dX5_init_12 (q := 14) rfl (v := nI 24) (by decide) ?_
  refine x_newI C (N := 24) hw3 rfl (by decide) (k' := 2) rfl (n' := 29) rfl (by rw [hR]; exact ⟨Nat.le_of_ble_eq_true rfl, Nat.le_of_ble_eq_true rfl⟩) dX5_init_14 (q := 16) rfl (fun a1 => ?_)
  refine x_ws (ws' := [(o, .inr (4, [.ref a0, .null, .null, .null, .null, .null, .int (nI 0), .int (nI 0), .int (nI 0)])), (a0, .inl (cy 1, 5, .inl (fun _ => 0))), (a1, .inl (cy 1, 24, .inl (fun _ => 0)))]) rfl ?_
  refine x_putF C (ci := 4) (ty := tyX5 1) (ws' := [(o, .inr (4, [.ref a0, .ref a1, .null, .null, .null, .null, .int (nI 0), .int (nI 0), .int (nI 0)])), (a0, .inl (cy 1, 5, .inl (fun _ => 0))), (a1, .inl (cy 1, 24, .inl (fun _ => 0)))]) hw4 tyX5 tyX5_ok nmX5 0 rfl rfl 1 (by decide) hw6 rfl hnm rfl (by decide +kernel) rfl rfl (Nat.le_of_ble_eq_true rfl) rfl dX5_init_16 (q := 19) rfl ?_
  refine x_aload_n C dX5_init_19 (q := 20) rfl rfl 0 rfl ?_
  refine x_bipush C dX5_init_20 (q := 22) rfl (v := nI 24) (by decide) ?_
  refine x_newI C (N := 24) hw3 rfl (by decide) (k' := 3) rfl (n' := 53) rfl (by rw [hR]; exact ⟨Nat.le_of_ble_eq_true rfl, Nat.le_of_ble_eq_true rfl⟩) dX5_init_22 (q := 24) rfl (fun a2 => ?_)
  refine x_ws (ws' := [(o, .inr (4, [.ref a0, .ref a1, .null, .null, .null, .null, .int (nI 0), .int (nI 0), .int (nI 0)])), (a0, .inl (cy 1, 5, .inl (fun _ => 0))), (a1, .inl (cy 1, 24, .inl (fun _ => 0))), (a2, .inl (cy 1, 24, .inl (fun _ => 0)))]) rfl ?_
  refine x_putF C (ci := 4) (ty := tyX5 2) (ws' := [(o, .inr (4, [.ref a0, .ref a1, .ref a2, .null, .null, .null, .int (nI 0), .int (nI 0), .int (nI 0)])), (a0, .inl (cy 1, 5, .inl (fun _ => 0))), (a1, .inl (cy 1, 24, .inl (fun _ => 0))), (a2, .inl (cy 1, 24, .inl (fun _ => 0)))]) hw4 tyX5 tyX5_ok nmX5 0 rfl rfl 2 (by decide) hw7 rfl hnm rfl (by decide +kernel) rfl rfl (Nat.le_of_ble_eq_true rfl) rfl dX5_init_24 (q := 27) rfl ?_
  refine x_aload_n C dX5_init_27 (q := 28) rfl rfl 0 rfl ?_
  refine x_bipush C dX5_init_28 (q := 30) rfl (v := nI 24) (by decide) ?_
  refine x_newI C (N := 24) hw3 rfl (by decide) (k' := 4) rfl (n' := 77) rfl (by rw [hR]; exact ⟨Nat.le_of_ble_eq_true rfl, Nat.le_of_ble_eq_true rfl⟩) dX5_init_30 (q := 32) rfl (fun a3 => ?_)
  refine x_ws (ws' := [(o, .inr (4, [.ref a0, .ref a1, .ref a2, .null, .null, .null, .int (nI 0), .int (nI 0), .int (nI 0)])), (a0, .inl (cy 1, 5, .inl (fun _ => 0))), (a1, .inl (cy 1, 24, .inl (fun _ => 0))), (a2, .inl (cy 1, 24, .inl (fun _ => 0))), (a3, .inl (cy 1, 24, .inl (fun _ => 0)))]) rfl ?_
  refine x_putF C (ci := 4) (ty := tyX5 3) (ws' := [(o, .inr (4, [.ref a0, .ref a1, .ref a2, .ref a3, .null, .null, .int (nI 0), .int (nI 0), .int (nI 0)])), (a0, .inl (cy 1, 5, .inl (fun _ => 0))), (a1, .inl (cy 1, 24, .inl (fun _ => 0))), (a2, .inl (cy 1, 24, .inl (fun _ => 0))), (a3, .inl (cy 1, 24, .inl (fun _ => 0)))]) hw4 tyX5 tyX5_ok nmX5 0 rfl rfl 3 (by decide) hw8 rfl hnm rfl (by decide +kernel) rfl rfl (Nat.le_of_ble_eq_true rfl) rfl dX5_init_32 (q := 35) rfl ?_
  refine x_aload_n C dX5_init_35 (q := 36) rfl rfl 0 rfl ?_
  refine x_bipush C dX5_init_36 (q := 38) rfl (v := nI 24) (by decide) ?_
  refine x_newI C (N := 24) hw3 rfl (by decide) (k' := 5) rfl (n' := 101) rfl (by rw [hR]; exact ⟨Nat.le_of_ble_eq_true rfl, Nat.le_of_ble_eq_true rfl⟩) dX5_init_38 (q := 40) rfl (fun a4 => ?_)
  refine x_ws (ws' := [(o, .inr (4, [.ref a0, .ref a1, .ref a2, .ref a3, .null, .null, .int (nI 0), .int (nI 0), .int (nI 0)])), (a0, .inl (cy 1, 5, .inl (fun _ => 0))), (a1, .inl (cy 1, 24, .inl (fun _ => 0))), (a2, .inl (cy 1, 24, .inl (fun _ => 0))), (a3, .inl (cy 1, 24, .inl (fun _ => 0))), (a4, .inl (cy 1, 24, .inl (fun _ => 0)))]) rfl ?_
  refine x_putF C (ci := 4) (ty := tyX5 4) (ws' := [(o, .inr (4, [.ref a0, .ref a1, .ref a2, .ref a3, .ref a4, .null, .int (nI 0), .int (nI 0), .int (nI 0)])), (a0, .inl (cy 1, 5, .inl (fun _ => 0))), (a1, .inl (cy 1, 24, .inl (fun _ => 0))), (a2, .inl (cy 1, 24, .inl (fun _ => 0))), (a3, .inl (cy 1, 24, .inl (fun _ => 0))), (a4, .inl (cy 1, 24, .inl (fun _ => 0)))]) hw4 tyX5 tyX5_ok nmX5 0 rfl rfl 4 (by decide) hw9 rfl hnm rfl (by decide +kernel) rfl rfl (Nat.le_of_ble_eq_true rfl) rfl dX5_init_40 (q := 43) rfl ?_
  refine x_aload_n C dX5_init_43 (q := 44) rfl rfl 0 rfl ?_
  refine x_bipush C dX5_init_44 (q := 46) rfl (v := nI 24) (by decide) ?_
  refine x_newI C (N := 24) hw3 rfl (by decide) (k' := 6) rfl (n' := 125) rfl (by rw [hR]; exact ⟨Nat.le_of_ble_eq_true rfl, Nat.le_of_ble_eq_true rfl⟩) dX5_init_46 (q := 48) rfl (fun a5 => ?_)
  refine x_ws (ws' := [(o, .inr (4, [.ref a0, .ref a1, .ref a2, .ref a3, .ref a4, .null, .int (nI 0), .int (nI 0), .int (nI 0)])), (a0, .inl (cy 1, 5, .inl (fun _ => 0))), (a1, .inl (cy 1, 24, .inl (fun _ => 0))), (a2, .inl (cy 1, 24, .inl (fun _ => 0))), (a3, .inl (cy 1, 24, .inl (fun _ => 0))), (a4, .inl (cy 1, 24, .inl (fun _ => 0))), (a5, .inl (cy 1, 24, .inl (fun _ => 0)))]) rfl ?_
  refine x_putF C (ci := 4) (ty := tyX5 5) (ws' := [(o, .inr (4, [.ref a0, .ref a1, .ref a2, .ref a3, .ref a4, .ref a5, .int (nI 0), .int (nI 0), .int (nI 0)])), (a0, .inl (cy 1, 5, .inl (fun _ => 0))), (a1, .inl (cy 1, 24, .inl (fun _ => 0))), (a2, .inl (cy 1, 24, .inl (fun _ => 0))), (a3, .inl (cy 1, 24, .inl (fun _ => 0))), (a4, .inl (cy 1, 24, .inl (fun _ => 0))), (a5, .inl (cy 1, 24, .inl (fun _ => 0)))]) hw4 tyX5 tyX5_ok nmX5 0 rfl rfl 5 (by decide) hw10 rfl hnm rfl (by decide +kernel) rfl rfl (Nat.le_of_ble_eq_true rfl) rfl dX5_init_48 (q := 51) rfl ?_
  refine x_aload_n C dX5_init_51 (q := 52) rfl rfl 0 rfl ?_
  refine x_iconst C dX5_init_52 (q := 53) rfl (v := nI 0) (by decide) ?_
  refine x_put C (ci := 4) (ty := .int) (ws' := [(o, .inr (4, [.ref a0, .ref a1, .ref a2, .ref a3, .ref a4, .ref a5, .int (nI 0), .int (nI 0), .int (nI 0)])), (a0, .inl (cy 1, 5, .inl (fun _ => 0))), (a1, .inl (cy 1, 24, .inl (fun _ => 0))), (a2, .inl (cy 1, 24, .inl (fun _ => 0))), (a3, .inl (cy 1, 24, .inl (fun _ => 0))), (a4, .inl (cy 1, 24, .inl (fun _ => 0))), (a5, .inl (cy 1, 24, .inl (fun _ => 0)))]) hw4 tyX5 tyX5_ok nmX5 0 rfl rfl 6 (by decide) hw11 rfl (by decide +kernel) rfl rfl (Nat.le_of_ble_eq_true rfl) rfl dX5_init_53 (q := 56) rfl ?_
  refine x_aload_n C dX5_init_56 (q := 57) rfl rfl 0 rfl ?_
  refine x_iconst C dX5_init_57 (q := 58) rfl (v := nI 0) (by decide) ?_
  refine x_put C (ci := 4) (ty := .int) (ws' := [(o, .inr (4, [.ref a0, .ref a1, .ref a2, .ref a3, .ref a4, .ref a5, .int (nI 0), .int (nI 0), .int (nI 0)])), (a0, .inl (cy 1, 5, .inl (fun _ => 0))), (a1, .inl (cy 1, 24, .inl (fun _ => 0))), (a2, .inl (cy 1, 24, .inl (fun _ => 0))), (a3, .inl (cy 1, 24, .inl (fun _ => 0))), (a4, .inl (cy 1, 24, .inl (fun _ => 0))), (a5, .inl (cy 1, 24, .inl (fun _ => 0)))]) hw4 tyX5 tyX5_ok nmX5 0 rfl rfl 7 (by decide) hw12 rfl (by decide +kernel) rfl rfl (Nat.le_of_ble_eq_true rfl) rfl dX5_init_58 (q := 61) rfl ?_
  refine x_aload_n C dX5_init_61 (q := 62) rfl rfl 0 rfl ?_
  refine x_iconst C dX5_init_62 (q := 63) rfl (v := (-1)) (by decide) ?_
  refine x_put C (ci := 4) (ty := .int) (ws' := [(o, .inr (4, [.ref a0, .ref a1, .ref a2, .ref a3, .ref a4, .ref a5, .int (nI 0), .int (nI 0), .int ((-1))])), (a0, .inl (cy 1, 5, .inl (fun _ => 0))), (a1, .inl (cy 1, 24, .inl (fun _ => 0))), (a2, .inl (cy 1, 24, .inl (fun _ => 0))), (a3, .inl (cy 1, 24, .inl (fun _ => 0))), (a4, .inl (cy 1, 24, .inl (fun _ => 0))), (a5, .inl (cy 1, 24, .inl (fun _ => 0)))]) hw4 tyX5 tyX5_ok nmX5 0 rfl rfl 8 (by decide) hw13 rfl (by decide +kernel) rfl rfl (Nat.le_of_ble_eq_true rfl) rfl dX5_init_63 (q := 66) rfl ?_
  refine x_vret C hA hQ hr dX5_init_66 (Nat.le_of_ble_eq_true rfl) ?_
  exact ⟨a0, a1, a2, a3, a4, a5, rfl, rfl⟩

set_option maxHeartbeats 4000000 in
set_option maxRecDepth 100000 in
/-- Progress.restart: MARK is 0, no ROWS, nothing SETTLED -/
theorem c_X5_restart (l : Launch) (D : va_G) (cy : Nat → ClassId) (o : Nat) (a0 : Nat) (a1 : Nat) (a2 : Nat) (a3 : Nat) (a4 : Nat) (a5 : Nat) (st : Nat → Nat) (fa : Nat → Int32) (ca : Nat → Int32) (dc : Nat → Int32) (rl : Nat → Int32) (lr : Nat → Nat) (mk : Nat) (rs : Nat) (ky : Int32)  : xMet l D cy xT yX5_restart wsX5_restart ({ frames := 2, cells := 0, slots := 0, locals := 200 } : Room) [.ref o] [(o, .inr (4, [.ref a0, .ref a1, .ref a2, .ref a3, .ref a4, .ref a5, .int (nI mk), .int (nI rs), .int (ky)])), (a0, .inl (cy 1, 5, .inl (fun k => nI (st k)))), (a1, .inl (cy 1, 24, .inl fa)), (a2, .inl (cy 1, 24, .inl ca)), (a3, .inl (cy 1, 24, .inl dc)), (a4, .inl (cy 1, 24, .inl rl)), (a5, .inl (cy 1, 24, .inl (fun k => nI (lr k))))] [] (fun (v9 : Option Value) (w9 : va_W) => (v9 = none ∧ w9 = [(o, .inr (4, [.ref a0, .ref a1, .ref a2, .ref a3, .ref a4, .ref a5, .int (nI 0), .int (nI 0), .int (ky)])), (a0, .inl (cy 1, 5, .inl (fun k => nI ((fun _ => 0) k)))), (a1, .inl (cy 1, 24, .inl fa)), (a2, .inl (cy 1, 24, .inl ca)), (a3, .inl (cy 1, 24, .inl dc)), (a4, .inl (cy 1, 24, .inl rl)), (a5, .inl (cy 1, 24, .inl (fun k => nI (lr k))))])) := by
  refine xMet_of (cc := cX5_restart) (maxL := 1) (ret := none) (by decide) rfl (Nat.le_of_ble_eq_true rfl) (fun p e s m args below meth c A R Q hA hR hQ C hr hnm hro hX => ?_)
  have hw0 : ∀ w ∈ u_ws RX5 TX5 9, w ∈ wsX5_restart := by decide +kernel
  have hw1 : Cond.fieldLink RX5 30 (TX5 6).1 (TX5 6).2.1 (TX5 6).2.2.1 ∈ wsX5_restart := by decide +kernel
  have hw2 : Cond.fieldLink RX5 34 (TX5 7).1 (TX5 7).2.1 (TX5 7).2.2.1 ∈ wsX5_restart := by decide +kernel
  have hw3 : Cond.fieldLink RX5 9 (TX5 0).1 (TX5 0).2.1 (TX5 0).2.2.1 ∈ wsX5_restart := by decide +kernel
  refine x_L (L' := [(0, .ref o)]) [0] rfl ?_
  refine x_aload_n C dX5_restart_0 (q := 1) rfl rfl 0 rfl ?_
  refine x_iconst C dX5_restart_1 (q := 2) rfl (v := nI 0) (by decide) ?_
  refine x_put C (ci := 4) (ty := .int) (ws' := [(o, .inr (4, [.ref a0, .ref a1, .ref a2, .ref a3, .ref a4, .ref a5, .int (nI 0), .int (nI rs), .int (ky)])), (a0, .inl (cy 1, 5, .inl (fun k => nI (st k)))), (a1, .inl (cy 1, 24, .inl fa)), (a2, .inl (cy 1, 24, .inl ca)), (a3, .inl (cy 1, 24, .inl dc)), (a4, .inl (cy 1, 24, .inl rl)), (a5, .inl (cy 1, 24, .inl (fun k => nI (lr k))))]) hw0 tyX5 tyX5_ok nmX5 0 rfl rfl 6 (by decide) hw1 rfl (by decide +kernel) rfl rfl (Nat.le_of_ble_eq_true rfl) rfl dX5_restart_2 (q := 5) rfl ?_
  refine x_aload_n C dX5_restart_5 (q := 6) rfl rfl 0 rfl ?_
  refine x_iconst C dX5_restart_6 (q := 7) rfl (v := nI 0) (by decide) ?_
  refine x_put C (ci := 4) (ty := .int) (ws' := [(o, .inr (4, [.ref a0, .ref a1, .ref a2, .ref a3, .ref a4, .ref a5, .int (nI 0), .int (nI 0), .int (ky)])), (a0, .inl (cy 1, 5, .inl (fun k => nI (st k)))), (a1, .inl (cy 1, 24, .inl fa)), (a2, .inl (cy 1, 24, .inl ca)), (a3, .inl (cy 1, 24, .inl dc)), (a4, .inl (cy 1, 24, .inl rl)), (a5, .inl (cy 1, 24, .inl (fun k => nI (lr k))))]) hw0 tyX5 tyX5_ok nmX5 0 rfl rfl 7 (by decide) hw2 rfl (by decide +kernel) rfl rfl (Nat.le_of_ble_eq_true rfl) rfl dX5_restart_7 (q := 10) rfl ?_
  refine x_aload_n C dX5_restart_10 (q := 11) rfl rfl 0 rfl ?_
  refine x_get C (ci := 4) (v := .ref a0) hw0 0 rfl rfl 0 (by decide) hw3 rfl dX5_restart_11 (q := 14) rfl ?_
  refine x_iconst C dX5_restart_14 (q := 15) rfl (v := nI 0) (by decide) ?_
  refine x_callS C (roW := []) (roR := []) (c_J7_fill_53178 l D cy a0 5 (fun k => nI (st k)) (nI 0) (by first | assumption | omega | (simp only []; omega))) (va_cwS 2 C.2.2.2.2.1 gX5_restart_J7_fill_53178 rfl rfl rfl (by decide +kernel) (by rw [hR]; exact ⟨Nat.le_of_ble_eq_true rfl, Nat.le_of_ble_eq_true rfl⟩)) [1] [] rfl (by decide) rfl (by decide) xro_nil xT_bl (fun _ _ _ _ _ _ _ => trivial) rfl rfl dX5_restart_15 rfl rfl (Nat.le_of_ble_eq_true rfl) (q := 18) rfl (k' := 0) rfl (n' := 0) rfl (by rw [hR]; exact ⟨Nat.le_of_ble_eq_true rfl, Nat.le_of_ble_eq_true rfl⟩) (fun v1 w1 hp1 => ?_)
  obtain ⟨rfl, rfl⟩ := hp1
  refine x_ws (ws' := [(o, .inr (4, [.ref a0, .ref a1, .ref a2, .ref a3, .ref a4, .ref a5, .int (nI 0), .int (nI 0), .int (ky)])), (a0, .inl (cy 1, 5, .inl (fun _ => (nI 0)))), (a1, .inl (cy 1, 24, .inl fa)), (a2, .inl (cy 1, 24, .inl ca)), (a3, .inl (cy 1, 24, .inl dc)), (a4, .inl (cy 1, 24, .inl rl)), (a5, .inl (cy 1, 24, .inl (fun k => nI (lr k))))]) rfl ?_
  refine x_ws (ws' := [(o, .inr (4, [.ref a0, .ref a1, .ref a2, .ref a3, .ref a4, .ref a5, .int (nI 0), .int (nI 0), .int (ky)])), (a0, .inl (cy 1, 5, .inl (fun k => nI ((fun _ => 0) k)))), (a1, .inl (cy 1, 24, .inl fa)), (a2, .inl (cy 1, 24, .inl ca)), (a3, .inl (cy 1, 24, .inl dc)), (a4, .inl (cy 1, 24, .inl rl)), (a5, .inl (cy 1, 24, .inl (fun k => nI (lr k))))]) rfl ?_
  refine x_vret C hA hQ hr dX5_restart_18 (Nat.le_of_ble_eq_true rfl) ?_
  first | exact ⟨rfl, rfl⟩ | exact ⟨_, rfl, rfl, by first | rfl | omega | assumption⟩ | (refine ⟨_, rfl, rfl, ?_⟩; (first | rfl | omega | (simp only []; omega)))

set_option maxHeartbeats 4000000 in
set_option maxRecDepth 100000 in
/-- Progress.copyFrom -/
theorem c_X5_copyFrom (l : Launch) (D : va_G) (cy : Nat → ClassId) (o : Nat) (a0 : Nat) (a1 : Nat) (a2 : Nat) (a3 : Nat) (a4 : Nat) (a5 : Nat) (st : Nat → Nat) (fa : Nat → Int32) (ca : Nat → Int32) (dc : Nat → Int32) (rl : Nat → Int32) (lr : Nat → Nat) (mk : Nat) (rs : Nat) (ky : Int32) (o2 : Nat) (p0 : Nat) (p1 : Nat) (p2 : Nat) (p3 : Nat) (p4 : Nat) (p5 : Nat) (st2 : Nat → Nat) (fa2 : Nat → Int32) (ca2 : Nat → Int32) (dc2 : Nat → Int32) (rl2 : Nat → Int32) (lr2 : Nat → Nat) (mk2 : Nat) (rs2 : Nat) (ky2 : Int32)  : xMet l D cy xT yX5_copyFrom wsX5_copyFrom ({ frames := 2, cells := 0, slots := 0, locals := 200 } : Room) [.ref o, .ref o2] [(o, .inr (4, [.ref a0, .ref a1, .ref a2, .ref a3, .ref a4, .ref a5, .int (nI mk), .int (nI rs), .int (ky)])), (a0, .inl (cy 1, 5, .inl (fun k => nI (st k)))), (a1, .inl (cy 1, 24, .inl fa)), (a2, .inl (cy 1, 24, .inl ca)), (a3, .inl (cy 1, 24, .inl dc)), (a4, .inl (cy 1, 24, .inl rl)), (a5, .inl (cy 1, 24, .inl (fun k => nI (lr k)))), (o2, .inr (4, [.ref p0, .ref p1, .ref p2, .ref p3, .ref p4, .ref p5, .int (nI mk2), .int (nI rs2), .int (ky2)])), (p0, .inl (cy 1, 5, .inl (fun k => nI (st2 k)))), (p1, .inl (cy 1, 24, .inl fa2)), (p2, .inl (cy 1, 24, .inl ca2)), (p3, .inl (cy 1, 24, .inl dc2)), (p4, .inl (cy 1, 24, .inl rl2)), (p5, .inl (cy 1, 24, .inl (fun k => nI (lr2 k))))] [] (fun (v9 : Option Value) (w9 : va_W) => (v9 = none ∧ w9 = [(o, .inr (4, [.ref a0, .ref a1, .ref a2, .ref a3, .ref a4, .ref a5, .int (nI mk2), .int (nI rs2), .int (ky2)])), (a0, .inl (cy 1, 5, .inl (fun k => nI (st2 k)))), (a1, .inl (cy 1, 24, .inl fa2)), (a2, .inl (cy 1, 24, .inl ca2)), (a3, .inl (cy 1, 24, .inl dc2)), (a4, .inl (cy 1, 24, .inl rl2)), (a5, .inl (cy 1, 24, .inl (fun k => nI (lr2 k)))), (o2, .inr (4, [.ref p0, .ref p1, .ref p2, .ref p3, .ref p4, .ref p5, .int (nI mk2), .int (nI rs2), .int (ky2)])), (p0, .inl (cy 1, 5, .inl (fun k => nI (st2 k)))), (p1, .inl (cy 1, 24, .inl fa2)), (p2, .inl (cy 1, 24, .inl ca2)), (p3, .inl (cy 1, 24, .inl dc2)), (p4, .inl (cy 1, 24, .inl rl2)), (p5, .inl (cy 1, 24, .inl (fun k => nI (lr2 k))))])) := by
  refine xMet_of (cc := cX5_copyFrom) (maxL := 2) (ret := none) (by decide) rfl (Nat.le_of_ble_eq_true rfl) (fun p e s m args below meth c A R Q hA hR hQ C hr hnm hro hX => ?_)
  have hw0 : ∀ w ∈ u_ws RX5 TX5 9, w ∈ wsX5_copyFrom := by decide +kernel
  have hw1 : Cond.fieldLink RX5 9 (TX5 0).1 (TX5 0).2.1 (TX5 0).2.2.1 ∈ wsX5_copyFrom := by decide +kernel
  have hw2 : Cond.methodLink RX5 46 arraycopyName ∈ wsX5_copyFrom := by decide +kernel
  have hw3 : Cond.native arraycopyName ∈ wsX5_copyFrom := by decide +kernel
  have hw4 : Cond.static arraycopyName ∈ wsX5_copyFrom := by decide +kernel
  have hw5 : Cond.initialized "java/lang/System" ∈ wsX5_copyFrom := by decide +kernel
  have hw6 : Cond.fieldLink RX5 15 (TX5 1).1 (TX5 1).2.1 (TX5 1).2.2.1 ∈ wsX5_copyFrom := by decide +kernel
  have hw7 : Cond.fieldLink RX5 18 (TX5 2).1 (TX5 2).2.1 (TX5 2).2.2.1 ∈ wsX5_copyFrom := by decide +kernel
  have hw8 : Cond.fieldLink RX5 21 (TX5 3).1 (TX5 3).2.1 (TX5 3).2.2.1 ∈ wsX5_copyFrom := by decide +kernel
  have hw9 : Cond.fieldLink RX5 24 (TX5 4).1 (TX5 4).2.1 (TX5 4).2.2.1 ∈ wsX5_copyFrom := by decide +kernel
  have hw10 : Cond.fieldLink RX5 27 (TX5 5).1 (TX5 5).2.1 (TX5 5).2.2.1 ∈ wsX5_copyFrom := by decide +kernel
  have hw11 : Cond.fieldLink RX5 30 (TX5 6).1 (TX5 6).2.1 (TX5 6).2.2.1 ∈ wsX5_copyFrom := by decide +kernel
  have hw12 : Cond.fieldLink RX5 34 (TX5 7).1 (TX5 7).2.1 (TX5 7).2.2.1 ∈ wsX5_copyFrom := by decide +kernel
  have hw13 : Cond.fieldLink RX5 37 (TX5 8).1 (TX5 8).2.1 (TX5 8).2.2.1 ∈ wsX5_copyFrom := by decide +kernel
  refine x_L (L' := [(0, .ref o), (1, .ref o2)]) [0, 1] rfl ?_
  refine x_aload_n C dX5_copyFrom_0 (q := 1) rfl rfl 1 rfl ?_
  refine x_get C (ci := 4) (v := .ref p0) hw0 7 rfl rfl 0 (by decide) hw1 rfl dX5_copyFrom_1 (q := 4) rfl ?_
  refine x_iconst C dX5_copyFrom_4 (q := 5) rfl (v := nI 0) (by decide) ?_
  refine x_aload_n C dX5_copyFrom_5 (q := 6) rfl rfl 0 rfl ?_
  refine x_get C (ci := 4) (v := .ref a0) hw0 0 rfl rfl 0 (by decide) hw1 rfl dX5_copyFrom_6 (q := 9) rfl ?_
  refine x_iconst C dX5_copyFrom_9 (q := 10) rfl (v := nI 0) (by decide) ?_
  refine x_iconst C dX5_copyFrom_10 (q := 11) rfl (v := nI 5) (by decide) ?_
  refine x_copyI C (sp := 0) (dp := 0) (cn := 5) (ws' := [(o, .inr (4, [.ref a0, .ref a1, .ref a2, .ref a3, .ref a4, .ref a5, .int (nI mk), .int (nI rs), .int (ky)])), (a0, .inl (cy 1, 5, .inl (va_cpy (fun k => nI (st2 k)) (fun k => nI (st k)) 0 0 5))), (a1, .inl (cy 1, 24, .inl fa)), (a2, .inl (cy 1, 24, .inl ca)), (a3, .inl (cy 1, 24, .inl dc)), (a4, .inl (cy 1, 24, .inl rl)), (a5, .inl (cy 1, 24, .inl (fun k => nI (lr k)))), (o2, .inr (4, [.ref p0, .ref p1, .ref p2, .ref p3, .ref p4, .ref p5, .int (nI mk2), .int (nI rs2), .int (ky2)])), (p0, .inl (cy 1, 5, .inl (fun k => nI (st2 k)))), (p1, .inl (cy 1, 24, .inl fa2)), (p2, .inl (cy 1, 24, .inl ca2)), (p3, .inl (cy 1, 24, .inl dc2)), (p4, .inl (cy 1, 24, .inl rl2)), (p5, .inl (cy 1, 24, .inl (fun k => nI (lr2 k))))]) hw2 hw3 hw4 hw5 8 1 rfl rfl rfl rfl rfl (by omega) (by omega) (rfl) rfl (by rw [hR]; exact Nat.le_of_ble_eq_true rfl) (by rw [hR]; exact Nat.le_of_ble_eq_true rfl) dX5_copyFrom_11 (q := 14) rfl ?_
  refine x_recI (ws' := [(o, .inr (4, [.ref a0, .ref a1, .ref a2, .ref a3, .ref a4, .ref a5, .int (nI mk), .int (nI rs), .int (ky)])), (a0, .inl (cy 1, 5, .inl (fun k => nI (st2 k)))), (a1, .inl (cy 1, 24, .inl fa)), (a2, .inl (cy 1, 24, .inl ca)), (a3, .inl (cy 1, 24, .inl dc)), (a4, .inl (cy 1, 24, .inl rl)), (a5, .inl (cy 1, 24, .inl (fun k => nI (lr k)))), (o2, .inr (4, [.ref p0, .ref p1, .ref p2, .ref p3, .ref p4, .ref p5, .int (nI mk2), .int (nI rs2), .int (ky2)])), (p0, .inl (cy 1, 5, .inl (fun k => nI (st2 k)))), (p1, .inl (cy 1, 24, .inl fa2)), (p2, .inl (cy 1, 24, .inl ca2)), (p3, .inl (cy 1, 24, .inl dc2)), (p4, .inl (cy 1, 24, .inl rl2)), (p5, .inl (cy 1, 24, .inl (fun k => nI (lr2 k))))]) 1 rfl (va_cpy_all) rfl ?_
  refine x_aload_n C dX5_copyFrom_14 (q := 15) rfl rfl 1 rfl ?_
  refine x_get C (ci := 4) (v := .ref p1) hw0 7 rfl rfl 1 (by decide) hw6 rfl dX5_copyFrom_15 (q := 18) rfl ?_
  refine x_iconst C dX5_copyFrom_18 (q := 19) rfl (v := nI 0) (by decide) ?_
  refine x_aload_n C dX5_copyFrom_19 (q := 20) rfl rfl 0 rfl ?_
  refine x_get C (ci := 4) (v := .ref a1) hw0 0 rfl rfl 1 (by decide) hw6 rfl dX5_copyFrom_20 (q := 23) rfl ?_
  refine x_iconst C dX5_copyFrom_23 (q := 24) rfl (v := nI 0) (by decide) ?_
  refine x_bipush C dX5_copyFrom_24 (q := 26) rfl (v := nI 24) (by decide) ?_
  refine x_copyI C (sp := 0) (dp := 0) (cn := 24) (ws' := [(o, .inr (4, [.ref a0, .ref a1, .ref a2, .ref a3, .ref a4, .ref a5, .int (nI mk), .int (nI rs), .int (ky)])), (a0, .inl (cy 1, 5, .inl (fun k => nI (st2 k)))), (a1, .inl (cy 1, 24, .inl (va_cpy fa2 fa 0 0 24))), (a2, .inl (cy 1, 24, .inl ca)), (a3, .inl (cy 1, 24, .inl dc)), (a4, .inl (cy 1, 24, .inl rl)), (a5, .inl (cy 1, 24, .inl (fun k => nI (lr k)))), (o2, .inr (4, [.ref p0, .ref p1, .ref p2, .ref p3, .ref p4, .ref p5, .int (nI mk2), .int (nI rs2), .int (ky2)])), (p0, .inl (cy 1, 5, .inl (fun k => nI (st2 k)))), (p1, .inl (cy 1, 24, .inl fa2)), (p2, .inl (cy 1, 24, .inl ca2)), (p3, .inl (cy 1, 24, .inl dc2)), (p4, .inl (cy 1, 24, .inl rl2)), (p5, .inl (cy 1, 24, .inl (fun k => nI (lr2 k))))]) hw2 hw3 hw4 hw5 9 2 rfl rfl rfl rfl rfl (by omega) (by omega) (rfl) rfl (by rw [hR]; exact Nat.le_of_ble_eq_true rfl) (by rw [hR]; exact Nat.le_of_ble_eq_true rfl) dX5_copyFrom_26 (q := 29) rfl ?_
  refine x_recI (ws' := [(o, .inr (4, [.ref a0, .ref a1, .ref a2, .ref a3, .ref a4, .ref a5, .int (nI mk), .int (nI rs), .int (ky)])), (a0, .inl (cy 1, 5, .inl (fun k => nI (st2 k)))), (a1, .inl (cy 1, 24, .inl fa2)), (a2, .inl (cy 1, 24, .inl ca)), (a3, .inl (cy 1, 24, .inl dc)), (a4, .inl (cy 1, 24, .inl rl)), (a5, .inl (cy 1, 24, .inl (fun k => nI (lr k)))), (o2, .inr (4, [.ref p0, .ref p1, .ref p2, .ref p3, .ref p4, .ref p5, .int (nI mk2), .int (nI rs2), .int (ky2)])), (p0, .inl (cy 1, 5, .inl (fun k => nI (st2 k)))), (p1, .inl (cy 1, 24, .inl fa2)), (p2, .inl (cy 1, 24, .inl ca2)), (p3, .inl (cy 1, 24, .inl dc2)), (p4, .inl (cy 1, 24, .inl rl2)), (p5, .inl (cy 1, 24, .inl (fun k => nI (lr2 k))))]) 2 rfl (va_cpy_all) rfl ?_
  refine x_aload_n C dX5_copyFrom_29 (q := 30) rfl rfl 1 rfl ?_
  refine x_get C (ci := 4) (v := .ref p2) hw0 7 rfl rfl 2 (by decide) hw7 rfl dX5_copyFrom_30 (q := 33) rfl ?_
  refine x_iconst C dX5_copyFrom_33 (q := 34) rfl (v := nI 0) (by decide) ?_
  refine x_aload_n C dX5_copyFrom_34 (q := 35) rfl rfl 0 rfl ?_
  refine x_get C (ci := 4) (v := .ref a2) hw0 0 rfl rfl 2 (by decide) hw7 rfl dX5_copyFrom_35 (q := 38) rfl ?_
  refine x_iconst C dX5_copyFrom_38 (q := 39) rfl (v := nI 0) (by decide) ?_
  refine x_bipush C dX5_copyFrom_39 (q := 41) rfl (v := nI 24) (by decide) ?_
  refine x_copyI C (sp := 0) (dp := 0) (cn := 24) (ws' := [(o, .inr (4, [.ref a0, .ref a1, .ref a2, .ref a3, .ref a4, .ref a5, .int (nI mk), .int (nI rs), .int (ky)])), (a0, .inl (cy 1, 5, .inl (fun k => nI (st2 k)))), (a1, .inl (cy 1, 24, .inl fa2)), (a2, .inl (cy 1, 24, .inl (va_cpy ca2 ca 0 0 24))), (a3, .inl (cy 1, 24, .inl dc)), (a4, .inl (cy 1, 24, .inl rl)), (a5, .inl (cy 1, 24, .inl (fun k => nI (lr k)))), (o2, .inr (4, [.ref p0, .ref p1, .ref p2, .ref p3, .ref p4, .ref p5, .int (nI mk2), .int (nI rs2), .int (ky2)])), (p0, .inl (cy 1, 5, .inl (fun k => nI (st2 k)))), (p1, .inl (cy 1, 24, .inl fa2)), (p2, .inl (cy 1, 24, .inl ca2)), (p3, .inl (cy 1, 24, .inl dc2)), (p4, .inl (cy 1, 24, .inl rl2)), (p5, .inl (cy 1, 24, .inl (fun k => nI (lr2 k))))]) hw2 hw3 hw4 hw5 10 3 rfl rfl rfl rfl rfl (by omega) (by omega) (rfl) rfl (by rw [hR]; exact Nat.le_of_ble_eq_true rfl) (by rw [hR]; exact Nat.le_of_ble_eq_true rfl) dX5_copyFrom_41 (q := 44) rfl ?_
  refine x_recI (ws' := [(o, .inr (4, [.ref a0, .ref a1, .ref a2, .ref a3, .ref a4, .ref a5, .int (nI mk), .int (nI rs), .int (ky)])), (a0, .inl (cy 1, 5, .inl (fun k => nI (st2 k)))), (a1, .inl (cy 1, 24, .inl fa2)), (a2, .inl (cy 1, 24, .inl ca2)), (a3, .inl (cy 1, 24, .inl dc)), (a4, .inl (cy 1, 24, .inl rl)), (a5, .inl (cy 1, 24, .inl (fun k => nI (lr k)))), (o2, .inr (4, [.ref p0, .ref p1, .ref p2, .ref p3, .ref p4, .ref p5, .int (nI mk2), .int (nI rs2), .int (ky2)])), (p0, .inl (cy 1, 5, .inl (fun k => nI (st2 k)))), (p1, .inl (cy 1, 24, .inl fa2)), (p2, .inl (cy 1, 24, .inl ca2)), (p3, .inl (cy 1, 24, .inl dc2)), (p4, .inl (cy 1, 24, .inl rl2)), (p5, .inl (cy 1, 24, .inl (fun k => nI (lr2 k))))]) 3 rfl (va_cpy_all) rfl ?_
  refine x_aload_n C dX5_copyFrom_44 (q := 45) rfl rfl 1 rfl ?_
  refine x_get C (ci := 4) (v := .ref p3) hw0 7 rfl rfl 3 (by decide) hw8 rfl dX5_copyFrom_45 (q := 48) rfl ?_
  refine x_iconst C dX5_copyFrom_48 (q := 49) rfl (v := nI 0) (by decide) ?_
  refine x_aload_n C dX5_copyFrom_49 (q := 50) rfl rfl 0 rfl ?_
  refine x_get C (ci := 4) (v := .ref a3) hw0 0 rfl rfl 3 (by decide) hw8 rfl dX5_copyFrom_50 (q := 53) rfl ?_
  refine x_iconst C dX5_copyFrom_53 (q := 54) rfl (v := nI 0) (by decide) ?_
  refine x_bipush C dX5_copyFrom_54 (q := 56) rfl (v := nI 24) (by decide) ?_
  refine x_copyI C (sp := 0) (dp := 0) (cn := 24) (ws' := [(o, .inr (4, [.ref a0, .ref a1, .ref a2, .ref a3, .ref a4, .ref a5, .int (nI mk), .int (nI rs), .int (ky)])), (a0, .inl (cy 1, 5, .inl (fun k => nI (st2 k)))), (a1, .inl (cy 1, 24, .inl fa2)), (a2, .inl (cy 1, 24, .inl ca2)), (a3, .inl (cy 1, 24, .inl (va_cpy dc2 dc 0 0 24))), (a4, .inl (cy 1, 24, .inl rl)), (a5, .inl (cy 1, 24, .inl (fun k => nI (lr k)))), (o2, .inr (4, [.ref p0, .ref p1, .ref p2, .ref p3, .ref p4, .ref p5, .int (nI mk2), .int (nI rs2), .int (ky2)])), (p0, .inl (cy 1, 5, .inl (fun k => nI (st2 k)))), (p1, .inl (cy 1, 24, .inl fa2)), (p2, .inl (cy 1, 24, .inl ca2)), (p3, .inl (cy 1, 24, .inl dc2)), (p4, .inl (cy 1, 24, .inl rl2)), (p5, .inl (cy 1, 24, .inl (fun k => nI (lr2 k))))]) hw2 hw3 hw4 hw5 11 4 rfl rfl rfl rfl rfl (by omega) (by omega) (rfl) rfl (by rw [hR]; exact Nat.le_of_ble_eq_true rfl) (by rw [hR]; exact Nat.le_of_ble_eq_true rfl) dX5_copyFrom_56 (q := 59) rfl ?_
  refine x_recI (ws' := [(o, .inr (4, [.ref a0, .ref a1, .ref a2, .ref a3, .ref a4, .ref a5, .int (nI mk), .int (nI rs), .int (ky)])), (a0, .inl (cy 1, 5, .inl (fun k => nI (st2 k)))), (a1, .inl (cy 1, 24, .inl fa2)), (a2, .inl (cy 1, 24, .inl ca2)), (a3, .inl (cy 1, 24, .inl dc2)), (a4, .inl (cy 1, 24, .inl rl)), (a5, .inl (cy 1, 24, .inl (fun k => nI (lr k)))), (o2, .inr (4, [.ref p0, .ref p1, .ref p2, .ref p3, .ref p4, .ref p5, .int (nI mk2), .int (nI rs2), .int (ky2)])), (p0, .inl (cy 1, 5, .inl (fun k => nI (st2 k)))), (p1, .inl (cy 1, 24, .inl fa2)), (p2, .inl (cy 1, 24, .inl ca2)), (p3, .inl (cy 1, 24, .inl dc2)), (p4, .inl (cy 1, 24, .inl rl2)), (p5, .inl (cy 1, 24, .inl (fun k => nI (lr2 k))))]) 4 rfl (va_cpy_all) rfl ?_
  refine x_aload_n C dX5_copyFrom_59 (q := 60) rfl rfl 1 rfl ?_
  refine x_get C (ci := 4) (v := .ref p4) hw0 7 rfl rfl 4 (by decide) hw9 rfl dX5_copyFrom_60 (q := 63) rfl ?_
  refine x_iconst C dX5_copyFrom_63 (q := 64) rfl (v := nI 0) (by decide) ?_
  refine x_aload_n C dX5_copyFrom_64 (q := 65) rfl rfl 0 rfl ?_
  refine x_get C (ci := 4) (v := .ref a4) hw0 0 rfl rfl 4 (by decide) hw9 rfl dX5_copyFrom_65 (q := 68) rfl ?_
  refine x_iconst C dX5_copyFrom_68 (q := 69) rfl (v := nI 0) (by decide) ?_
  refine x_bipush C dX5_copyFrom_69 (q := 71) rfl (v := nI 24) (by decide) ?_
  refine x_copyI C (sp := 0) (dp := 0) (cn := 24) (ws' := [(o, .inr (4, [.ref a0, .ref a1, .ref a2, .ref a3, .ref a4, .ref a5, .int (nI mk), .int (nI rs), .int (ky)])), (a0, .inl (cy 1, 5, .inl (fun k => nI (st2 k)))), (a1, .inl (cy 1, 24, .inl fa2)), (a2, .inl (cy 1, 24, .inl ca2)), (a3, .inl (cy 1, 24, .inl dc2)), (a4, .inl (cy 1, 24, .inl (va_cpy rl2 rl 0 0 24))), (a5, .inl (cy 1, 24, .inl (fun k => nI (lr k)))), (o2, .inr (4, [.ref p0, .ref p1, .ref p2, .ref p3, .ref p4, .ref p5, .int (nI mk2), .int (nI rs2), .int (ky2)])), (p0, .inl (cy 1, 5, .inl (fun k => nI (st2 k)))), (p1, .inl (cy 1, 24, .inl fa2)), (p2, .inl (cy 1, 24, .inl ca2)), (p3, .inl (cy 1, 24, .inl dc2)), (p4, .inl (cy 1, 24, .inl rl2)), (p5, .inl (cy 1, 24, .inl (fun k => nI (lr2 k))))]) hw2 hw3 hw4 hw5 12 5 rfl rfl rfl rfl rfl (by omega) (by omega) (rfl) rfl (by rw [hR]; exact Nat.le_of_ble_eq_true rfl) (by rw [hR]; exact Nat.le_of_ble_eq_true rfl) dX5_copyFrom_71 (q := 74) rfl ?_
  refine x_recI (ws' := [(o, .inr (4, [.ref a0, .ref a1, .ref a2, .ref a3, .ref a4, .ref a5, .int (nI mk), .int (nI rs), .int (ky)])), (a0, .inl (cy 1, 5, .inl (fun k => nI (st2 k)))), (a1, .inl (cy 1, 24, .inl fa2)), (a2, .inl (cy 1, 24, .inl ca2)), (a3, .inl (cy 1, 24, .inl dc2)), (a4, .inl (cy 1, 24, .inl rl2)), (a5, .inl (cy 1, 24, .inl (fun k => nI (lr k)))), (o2, .inr (4, [.ref p0, .ref p1, .ref p2, .ref p3, .ref p4, .ref p5, .int (nI mk2), .int (nI rs2), .int (ky2)])), (p0, .inl (cy 1, 5, .inl (fun k => nI (st2 k)))), (p1, .inl (cy 1, 24, .inl fa2)), (p2, .inl (cy 1, 24, .inl ca2)), (p3, .inl (cy 1, 24, .inl dc2)), (p4, .inl (cy 1, 24, .inl rl2)), (p5, .inl (cy 1, 24, .inl (fun k => nI (lr2 k))))]) 5 rfl (va_cpy_all) rfl ?_
  refine x_aload_n C dX5_copyFrom_74 (q := 75) rfl rfl 1 rfl ?_
  refine x_get C (ci := 4) (v := .ref p5) hw0 7 rfl rfl 5 (by decide) hw10 rfl dX5_copyFrom_75 (q := 78) rfl ?_
  refine x_iconst C dX5_copyFrom_78 (q := 79) rfl (v := nI 0) (by decide) ?_
  refine x_aload_n C dX5_copyFrom_79 (q := 80) rfl rfl 0 rfl ?_
  refine x_get C (ci := 4) (v := .ref a5) hw0 0 rfl rfl 5 (by decide) hw10 rfl dX5_copyFrom_80 (q := 83) rfl ?_
  refine x_iconst C dX5_copyFrom_83 (q := 84) rfl (v := nI 0) (by decide) ?_
  refine x_bipush C dX5_copyFrom_84 (q := 86) rfl (v := nI 24) (by decide) ?_
  refine x_copyI C (sp := 0) (dp := 0) (cn := 24) (ws' := [(o, .inr (4, [.ref a0, .ref a1, .ref a2, .ref a3, .ref a4, .ref a5, .int (nI mk), .int (nI rs), .int (ky)])), (a0, .inl (cy 1, 5, .inl (fun k => nI (st2 k)))), (a1, .inl (cy 1, 24, .inl fa2)), (a2, .inl (cy 1, 24, .inl ca2)), (a3, .inl (cy 1, 24, .inl dc2)), (a4, .inl (cy 1, 24, .inl rl2)), (a5, .inl (cy 1, 24, .inl (va_cpy (fun k => nI (lr2 k)) (fun k => nI (lr k)) 0 0 24))), (o2, .inr (4, [.ref p0, .ref p1, .ref p2, .ref p3, .ref p4, .ref p5, .int (nI mk2), .int (nI rs2), .int (ky2)])), (p0, .inl (cy 1, 5, .inl (fun k => nI (st2 k)))), (p1, .inl (cy 1, 24, .inl fa2)), (p2, .inl (cy 1, 24, .inl ca2)), (p3, .inl (cy 1, 24, .inl dc2)), (p4, .inl (cy 1, 24, .inl rl2)), (p5, .inl (cy 1, 24, .inl (fun k => nI (lr2 k))))]) hw2 hw3 hw4 hw5 13 6 rfl rfl rfl rfl rfl (by omega) (by omega) (rfl) rfl (by rw [hR]; exact Nat.le_of_ble_eq_true rfl) (by rw [hR]; exact Nat.le_of_ble_eq_true rfl) dX5_copyFrom_86 (q := 89) rfl ?_
  refine x_recI (ws' := [(o, .inr (4, [.ref a0, .ref a1, .ref a2, .ref a3, .ref a4, .ref a5, .int (nI mk), .int (nI rs), .int (ky)])), (a0, .inl (cy 1, 5, .inl (fun k => nI (st2 k)))), (a1, .inl (cy 1, 24, .inl fa2)), (a2, .inl (cy 1, 24, .inl ca2)), (a3, .inl (cy 1, 24, .inl dc2)), (a4, .inl (cy 1, 24, .inl rl2)), (a5, .inl (cy 1, 24, .inl (fun k => nI (lr2 k)))), (o2, .inr (4, [.ref p0, .ref p1, .ref p2, .ref p3, .ref p4, .ref p5, .int (nI mk2), .int (nI rs2), .int (ky2)])), (p0, .inl (cy 1, 5, .inl (fun k => nI (st2 k)))), (p1, .inl (cy 1, 24, .inl fa2)), (p2, .inl (cy 1, 24, .inl ca2)), (p3, .inl (cy 1, 24, .inl dc2)), (p4, .inl (cy 1, 24, .inl rl2)), (p5, .inl (cy 1, 24, .inl (fun k => nI (lr2 k))))]) 6 rfl (va_cpy_all) rfl ?_
  refine x_aload_n C dX5_copyFrom_89 (q := 90) rfl rfl 0 rfl ?_
  refine x_aload_n C dX5_copyFrom_90 (q := 91) rfl rfl 1 rfl ?_
  refine x_get C (ci := 4) (v := .int (nI mk2)) hw0 7 rfl rfl 6 (by decide) hw11 rfl dX5_copyFrom_91 (q := 94) rfl ?_
  refine x_put C (ci := 4) (ty := .int) (ws' := [(o, .inr (4, [.ref a0, .ref a1, .ref a2, .ref a3, .ref a4, .ref a5, .int (nI mk2), .int (nI rs), .int (ky)])), (a0, .inl (cy 1, 5, .inl (fun k => nI (st2 k)))), (a1, .inl (cy 1, 24, .inl fa2)), (a2, .inl (cy 1, 24, .inl ca2)), (a3, .inl (cy 1, 24, .inl dc2)), (a4, .inl (cy 1, 24, .inl rl2)), (a5, .inl (cy 1, 24, .inl (fun k => nI (lr2 k)))), (o2, .inr (4, [.ref p0, .ref p1, .ref p2, .ref p3, .ref p4, .ref p5, .int (nI mk2), .int (nI rs2), .int (ky2)])), (p0, .inl (cy 1, 5, .inl (fun k => nI (st2 k)))), (p1, .inl (cy 1, 24, .inl fa2)), (p2, .inl (cy 1, 24, .inl ca2)), (p3, .inl (cy 1, 24, .inl dc2)), (p4, .inl (cy 1, 24, .inl rl2)), (p5, .inl (cy 1, 24, .inl (fun k => nI (lr2 k))))]) hw0 tyX5 tyX5_ok nmX5 0 rfl rfl 6 (by decide) hw11 rfl (by decide +kernel) rfl rfl (Nat.le_of_ble_eq_true rfl) rfl dX5_copyFrom_94 (q := 97) rfl ?_
  refine x_aload_n C dX5_copyFrom_97 (q := 98) rfl rfl 0 rfl ?_
  refine x_aload_n C dX5_copyFrom_98 (q := 99) rfl rfl 1 rfl ?_
  refine x_get C (ci := 4) (v := .int (nI rs2)) hw0 7 rfl rfl 7 (by decide) hw12 rfl dX5_copyFrom_99 (q := 102) rfl ?_
  refine x_put C (ci := 4) (ty := .int) (ws' := [(o, .inr (4, [.ref a0, .ref a1, .ref a2, .ref a3, .ref a4, .ref a5, .int (nI mk2), .int (nI rs2), .int (ky)])), (a0, .inl (cy 1, 5, .inl (fun k => nI (st2 k)))), (a1, .inl (cy 1, 24, .inl fa2)), (a2, .inl (cy 1, 24, .inl ca2)), (a3, .inl (cy 1, 24, .inl dc2)), (a4, .inl (cy 1, 24, .inl rl2)), (a5, .inl (cy 1, 24, .inl (fun k => nI (lr2 k)))), (o2, .inr (4, [.ref p0, .ref p1, .ref p2, .ref p3, .ref p4, .ref p5, .int (nI mk2), .int (nI rs2), .int (ky2)])), (p0, .inl (cy 1, 5, .inl (fun k => nI (st2 k)))), (p1, .inl (cy 1, 24, .inl fa2)), (p2, .inl (cy 1, 24, .inl ca2)), (p3, .inl (cy 1, 24, .inl dc2)), (p4, .inl (cy 1, 24, .inl rl2)), (p5, .inl (cy 1, 24, .inl (fun k => nI (lr2 k))))]) hw0 tyX5 tyX5_ok nmX5 0 rfl rfl 7 (by decide) hw12 rfl (by decide +kernel) rfl rfl (Nat.le_of_ble_eq_true rfl) rfl dX5_copyFrom_102 (q := 105) rfl ?_
  refine x_aload_n C dX5_copyFrom_105 (q := 106) rfl rfl 0 rfl ?_
  refine x_aload_n C dX5_copyFrom_106 (q := 107) rfl rfl 1 rfl ?_
  refine x_get C (ci := 4) (v := .int (ky2)) hw0 7 rfl rfl 8 (by decide) hw13 rfl dX5_copyFrom_107 (q := 110) rfl ?_
  refine x_put C (ci := 4) (ty := .int) (ws' := [(o, .inr (4, [.ref a0, .ref a1, .ref a2, .ref a3, .ref a4, .ref a5, .int (nI mk2), .int (nI rs2), .int (ky2)])), (a0, .inl (cy 1, 5, .inl (fun k => nI (st2 k)))), (a1, .inl (cy 1, 24, .inl fa2)), (a2, .inl (cy 1, 24, .inl ca2)), (a3, .inl (cy 1, 24, .inl dc2)), (a4, .inl (cy 1, 24, .inl rl2)), (a5, .inl (cy 1, 24, .inl (fun k => nI (lr2 k)))), (o2, .inr (4, [.ref p0, .ref p1, .ref p2, .ref p3, .ref p4, .ref p5, .int (nI mk2), .int (nI rs2), .int (ky2)])), (p0, .inl (cy 1, 5, .inl (fun k => nI (st2 k)))), (p1, .inl (cy 1, 24, .inl fa2)), (p2, .inl (cy 1, 24, .inl ca2)), (p3, .inl (cy 1, 24, .inl dc2)), (p4, .inl (cy 1, 24, .inl rl2)), (p5, .inl (cy 1, 24, .inl (fun k => nI (lr2 k))))]) hw0 tyX5 tyX5_ok nmX5 0 rfl rfl 8 (by decide) hw13 rfl (by decide +kernel) rfl rfl (Nat.le_of_ble_eq_true rfl) rfl dX5_copyFrom_110 (q := 113) rfl ?_
  refine x_vret C hA hQ hr dX5_copyFrom_113 (Nat.le_of_ble_eq_true rfl) ?_
  first | exact ⟨rfl, rfl⟩ | exact ⟨_, rfl, rfl, by first | rfl | omega | assumption⟩ | (refine ⟨_, rfl, rfl, ?_⟩; (first | rfl | omega | (simp only []; omega)))

set_option maxHeartbeats 4000000 in
set_option maxRecDepth 100000 in
/-- Progress.passFault: the next LINE has a FAULT -/
theorem c_X5_passFault (l : Launch) (D : va_G) (cy : Nat → ClassId) (o : Nat) (a0 : Nat) (a1 : Nat) (a2 : Nat) (a3 : Nat) (a4 : Nat) (a5 : Nat) (st : Nat → Nat) (fa : Nat → Int32) (ca : Nat → Int32) (dc : Nat → Int32) (rl : Nat → Int32) (lr : Nat → Nat) (mk : Nat) (rs : Nat) (ky : Int32) (x : Int32) (y : Int32) (z : Int32) (hmk : mk < 24) : xMet l D cy xT yX5_passFault wsX5_passFault ({ frames := 1, cells := 0, slots := 0, locals := 0 } : Room) [.ref o, .int (x), .int (y), .int (z)] [(o, .inr (4, [.ref a0, .ref a1, .ref a2, .ref a3, .ref a4, .ref a5, .int (nI mk), .int (nI rs), .int (ky)])), (a0, .inl (cy 1, 5, .inl (fun k => nI (st k)))), (a1, .inl (cy 1, 24, .inl fa)), (a2, .inl (cy 1, 24, .inl ca)), (a3, .inl (cy 1, 24, .inl dc)), (a4, .inl (cy 1, 24, .inl rl)), (a5, .inl (cy 1, 24, .inl (fun k => nI (lr k))))] [] (fun (v9 : Option Value) (w9 : va_W) => (v9 = none ∧ w9 = [(o, .inr (4, [.ref a0, .ref a1, .ref a2, .ref a3, .ref a4, .ref a5, .int (nI (mk + 1)), .int (nI rs), .int (ky)])), (a0, .inl (cy 1, 5, .inl (fun k => nI (st k)))), (a1, .inl (cy 1, 24, .inl (va_up fa mk x))), (a2, .inl (cy 1, 24, .inl (va_up ca mk y))), (a3, .inl (cy 1, 24, .inl (va_up dc mk z))), (a4, .inl (cy 1, 24, .inl (va_up rl mk (-5)))), (a5, .inl (cy 1, 24, .inl (fun k => nI (lr k))))])) := by
  refine xMet_of (cc := cX5_passFault) (maxL := 4) (ret := none) (by decide) rfl (Nat.le_of_ble_eq_true rfl) (fun p e s m args below meth c A R Q hA hR hQ C hr hnm hro hX => ?_)
  have hw0 : ∀ w ∈ u_ws RX5 TX5 9, w ∈ wsX5_passFault := by decide +kernel
  have hw1 : Cond.fieldLink RX5 30 (TX5 6).1 (TX5 6).2.1 (TX5 6).2.2.1 ∈ wsX5_passFault := by decide +kernel
  have hw2 : Cond.fieldLink RX5 15 (TX5 1).1 (TX5 1).2.1 (TX5 1).2.2.1 ∈ wsX5_passFault := by decide +kernel
  have hw3 : Cond.fieldLink RX5 18 (TX5 2).1 (TX5 2).2.1 (TX5 2).2.2.1 ∈ wsX5_passFault := by decide +kernel
  have hw4 : Cond.fieldLink RX5 21 (TX5 3).1 (TX5 3).2.1 (TX5 3).2.2.1 ∈ wsX5_passFault := by decide +kernel
  have hw5 : Cond.fieldLink RX5 24 (TX5 4).1 (TX5 4).2.1 (TX5 4).2.2.1 ∈ wsX5_passFault := by decide +kernel
  refine x_L (L' := [(0, .ref o), (1, .int (x)), (2, .int (y)), (3, .int (z))]) [0, 1, 2, 3] rfl ?_
  refine x_aload_n C dX5_passFault_0 (q := 1) rfl rfl 0 rfl ?_
  refine x_get C (ci := 4) (v := .int (nI mk)) hw0 0 rfl rfl 6 (by decide) hw1 rfl dX5_passFault_1 (q := 4) rfl ?_
  refine x_bipush C dX5_passFault_4 (q := 6) rfl (v := nI 24) (by decide) ?_
  refine x_icmp_lt C (tgt := 10) dX5_passFault_6 (by decide) (q := 9) rfl (a := ((mk : Nat) : Int)) (b := 24) (nI_toInt (by omega)) rfl (fun h1 => ?_) (fun h1 => ?_)
  · first
    | (exfalso; omega)
    |
      refine x_aload_n C dX5_passFault_10 (q := 11) rfl rfl 0 rfl ?_
      refine x_get C (ci := 4) (v := .ref a1) hw0 0 rfl rfl 1 (by decide) hw2 rfl dX5_passFault_11 (q := 14) rfl ?_
      refine x_aload_n C dX5_passFault_14 (q := 15) rfl rfl 0 rfl ?_
      refine x_get C (ci := 4) (v := .int (nI mk)) hw0 0 rfl rfl 6 (by decide) hw1 rfl dX5_passFault_15 (q := 18) rfl ?_
      refine x_iload_n C dX5_passFault_18 (q := 19) rfl rfl 1 rfl ?_
      refine x_iast C (ws' := [(o, .inr (4, [.ref a0, .ref a1, .ref a2, .ref a3, .ref a4, .ref a5, .int (nI mk), .int (nI rs), .int (ky)])), (a0, .inl (cy 1, 5, .inl (fun k => nI (st k)))), (a1, .inl (cy 1, 24, .inl (va_up fa mk x))), (a2, .inl (cy 1, 24, .inl ca)), (a3, .inl (cy 1, 24, .inl dc)), (a4, .inl (cy 1, 24, .inl rl)), (a5, .inl (cy 1, 24, .inl (fun k => nI (lr k))))]) 2 rfl (j := mk) (nI_toInt (by omega)) (by omega) (rfl) rfl dX5_passFault_19 (q := 20) rfl ?_
      refine x_aload_n C dX5_passFault_20 (q := 21) rfl rfl 0 rfl ?_
      refine x_get C (ci := 4) (v := .ref a2) hw0 0 rfl rfl 2 (by decide) hw3 rfl dX5_passFault_21 (q := 24) rfl ?_
      refine x_aload_n C dX5_passFault_24 (q := 25) rfl rfl 0 rfl ?_
      refine x_get C (ci := 4) (v := .int (nI mk)) hw0 0 rfl rfl 6 (by decide) hw1 rfl dX5_passFault_25 (q := 28) rfl ?_
      refine x_iload_n C dX5_passFault_28 (q := 29) rfl rfl 2 rfl ?_
      refine x_iast C (ws' := [(o, .inr (4, [.ref a0, .ref a1, .ref a2, .ref a3, .ref a4, .ref a5, .int (nI mk), .int (nI rs), .int (ky)])), (a0, .inl (cy 1, 5, .inl (fun k => nI (st k)))), (a1, .inl (cy 1, 24, .inl (va_up fa mk x))), (a2, .inl (cy 1, 24, .inl (va_up ca mk y))), (a3, .inl (cy 1, 24, .inl dc)), (a4, .inl (cy 1, 24, .inl rl)), (a5, .inl (cy 1, 24, .inl (fun k => nI (lr k))))]) 3 rfl (j := mk) (nI_toInt (by omega)) (by omega) (rfl) rfl dX5_passFault_29 (q := 30) rfl ?_
      refine x_aload_n C dX5_passFault_30 (q := 31) rfl rfl 0 rfl ?_
      refine x_get C (ci := 4) (v := .ref a3) hw0 0 rfl rfl 3 (by decide) hw4 rfl dX5_passFault_31 (q := 34) rfl ?_
      refine x_aload_n C dX5_passFault_34 (q := 35) rfl rfl 0 rfl ?_
      refine x_get C (ci := 4) (v := .int (nI mk)) hw0 0 rfl rfl 6 (by decide) hw1 rfl dX5_passFault_35 (q := 38) rfl ?_
      refine x_iload_n C dX5_passFault_38 (q := 39) rfl rfl 3 rfl ?_
      refine x_iast C (ws' := [(o, .inr (4, [.ref a0, .ref a1, .ref a2, .ref a3, .ref a4, .ref a5, .int (nI mk), .int (nI rs), .int (ky)])), (a0, .inl (cy 1, 5, .inl (fun k => nI (st k)))), (a1, .inl (cy 1, 24, .inl (va_up fa mk x))), (a2, .inl (cy 1, 24, .inl (va_up ca mk y))), (a3, .inl (cy 1, 24, .inl (va_up dc mk z))), (a4, .inl (cy 1, 24, .inl rl)), (a5, .inl (cy 1, 24, .inl (fun k => nI (lr k))))]) 4 rfl (j := mk) (nI_toInt (by omega)) (by omega) (rfl) rfl dX5_passFault_39 (q := 40) rfl ?_
      refine x_aload_n C dX5_passFault_40 (q := 41) rfl rfl 0 rfl ?_
      refine x_get C (ci := 4) (v := .ref a4) hw0 0 rfl rfl 4 (by decide) hw5 rfl dX5_passFault_41 (q := 44) rfl ?_
      refine x_aload_n C dX5_passFault_44 (q := 45) rfl rfl 0 rfl ?_
      refine x_get C (ci := 4) (v := .int (nI mk)) hw0 0 rfl rfl 6 (by decide) hw1 rfl dX5_passFault_45 (q := 48) rfl ?_
      refine x_bipush C dX5_passFault_48 (q := 50) rfl (v := (-5)) (by decide) ?_
      refine x_iast C (ws' := [(o, .inr (4, [.ref a0, .ref a1, .ref a2, .ref a3, .ref a4, .ref a5, .int (nI mk), .int (nI rs), .int (ky)])), (a0, .inl (cy 1, 5, .inl (fun k => nI (st k)))), (a1, .inl (cy 1, 24, .inl (va_up fa mk x))), (a2, .inl (cy 1, 24, .inl (va_up ca mk y))), (a3, .inl (cy 1, 24, .inl (va_up dc mk z))), (a4, .inl (cy 1, 24, .inl (va_up rl mk ((-5))))), (a5, .inl (cy 1, 24, .inl (fun k => nI (lr k))))]) 5 rfl (j := mk) (nI_toInt (by omega)) (by omega) (rfl) rfl dX5_passFault_50 (q := 51) rfl ?_
      refine x_aload_n C dX5_passFault_51 (q := 52) rfl rfl 0 rfl ?_
      refine x_dup C dX5_passFault_52 (q := 53) rfl rfl ?_
      refine x_get C (ci := 4) (v := .int (nI mk)) hw0 0 rfl rfl 6 (by decide) hw1 rfl dX5_passFault_53 (q := 56) rfl ?_
      refine x_iconst C dX5_passFault_56 (q := 57) rfl (v := nI 1) (by decide) ?_
      refine x_iadd C dX5_passFault_57 (q := 58) rfl (z := nI (mk + 1)) (nI_add mk 1) ?_
      refine x_put C (ci := 4) (ty := .int) (ws' := [(o, .inr (4, [.ref a0, .ref a1, .ref a2, .ref a3, .ref a4, .ref a5, .int (nI (mk + 1)), .int (nI rs), .int (ky)])), (a0, .inl (cy 1, 5, .inl (fun k => nI (st k)))), (a1, .inl (cy 1, 24, .inl (va_up fa mk x))), (a2, .inl (cy 1, 24, .inl (va_up ca mk y))), (a3, .inl (cy 1, 24, .inl (va_up dc mk z))), (a4, .inl (cy 1, 24, .inl (va_up rl mk ((-5))))), (a5, .inl (cy 1, 24, .inl (fun k => nI (lr k))))]) hw0 tyX5 tyX5_ok nmX5 0 rfl rfl 6 (by decide) hw1 rfl (by decide +kernel) rfl rfl (Nat.le_of_ble_eq_true rfl) rfl dX5_passFault_58 (q := 61) rfl ?_
      refine x_vret C hA hQ hr dX5_passFault_61 (Nat.le_of_ble_eq_true rfl) ?_
      first | exact ⟨rfl, rfl⟩ | exact ⟨_, rfl, rfl, by first | rfl | omega | assumption⟩ | (refine ⟨_, rfl, rfl, ?_⟩; (first | rfl | omega | (simp only []; omega)))
  · first
    | (exfalso; omega)
    |
      refine x_vret C hA hQ hr dX5_passFault_9 (Nat.le_of_ble_eq_true rfl) ?_
      first | exact ⟨rfl, rfl⟩ | exact ⟨_, rfl, rfl, by first | rfl | omega | assumption⟩ | (refine ⟨_, rfl, rfl, ?_⟩; (first | rfl | omega | (simp only []; omega)))

set_option maxHeartbeats 4000000 in
set_option maxRecDepth 100000 in
/-- Progress.passRow: the next LINE is a ROW -/
theorem c_X5_passRow (l : Launch) (D : va_G) (cy : Nat → ClassId) (o : Nat) (a0 : Nat) (a1 : Nat) (a2 : Nat) (a3 : Nat) (a4 : Nat) (a5 : Nat) (st : Nat → Nat) (fa : Nat → Int32) (ca : Nat → Int32) (dc : Nat → Int32) (rl : Nat → Int32) (lr : Nat → Nat) (mk : Nat) (rs : Nat) (ky : Int32) (hmk : mk < 24) (hrs : rs < 24) : xMet l D cy xT yX5_passRow wsX5_passRow ({ frames := 1, cells := 0, slots := 0, locals := 0 } : Room) [.ref o] [(o, .inr (4, [.ref a0, .ref a1, .ref a2, .ref a3, .ref a4, .ref a5, .int (nI mk), .int (nI rs), .int (ky)])), (a0, .inl (cy 1, 5, .inl (fun k => nI (st k)))), (a1, .inl (cy 1, 24, .inl fa)), (a2, .inl (cy 1, 24, .inl ca)), (a3, .inl (cy 1, 24, .inl dc)), (a4, .inl (cy 1, 24, .inl rl)), (a5, .inl (cy 1, 24, .inl (fun k => nI (lr k))))] [] (fun (v9 : Option Value) (w9 : va_W) => (v9 = none ∧ w9 = [(o, .inr (4, [.ref a0, .ref a1, .ref a2, .ref a3, .ref a4, .ref a5, .int (nI (mk + 1)), .int (nI (rs + 1)), .int (ky)])), (a0, .inl (cy 1, 5, .inl (fun k => nI (st k)))), (a1, .inl (cy 1, 24, .inl (va_up fa mk (-5)))), (a2, .inl (cy 1, 24, .inl (va_up ca mk (-5)))), (a3, .inl (cy 1, 24, .inl (va_up dc mk (-5)))), (a4, .inl (cy 1, 24, .inl (va_up rl mk (nI rs)))), (a5, .inl (cy 1, 24, .inl (fun k => nI ((va_up lr rs mk) k))))])) := by
  refine xMet_of (cc := cX5_passRow) (maxL := 1) (ret := none) (by decide) rfl (Nat.le_of_ble_eq_true rfl) (fun p e s m args below meth c A R Q hA hR hQ C hr hnm hro hX => ?_)
  have hw0 : ∀ w ∈ u_ws RX5 TX5 9, w ∈ wsX5_passRow := by decide +kernel
  have hw1 : Cond.fieldLink RX5 30 (TX5 6).1 (TX5 6).2.1 (TX5 6).2.2.1 ∈ wsX5_passRow := by decide +kernel
  have hw2 : Cond.fieldLink RX5 34 (TX5 7).1 (TX5 7).2.1 (TX5 7).2.2.1 ∈ wsX5_passRow := by decide +kernel
  have hw3 : Cond.fieldLink RX5 15 (TX5 1).1 (TX5 1).2.1 (TX5 1).2.2.1 ∈ wsX5_passRow := by decide +kernel
  have hw4 : Cond.fieldLink RX5 18 (TX5 2).1 (TX5 2).2.1 (TX5 2).2.2.1 ∈ wsX5_passRow := by decide +kernel
  have hw5 : Cond.fieldLink RX5 21 (TX5 3).1 (TX5 3).2.1 (TX5 3).2.2.1 ∈ wsX5_passRow := by decide +kernel
  have hw6 : Cond.fieldLink RX5 24 (TX5 4).1 (TX5 4).2.1 (TX5 4).2.2.1 ∈ wsX5_passRow := by decide +kernel
  have hw7 : Cond.fieldLink RX5 27 (TX5 5).1 (TX5 5).2.1 (TX5 5).2.2.1 ∈ wsX5_passRow := by decide +kernel
  refine x_L (L' := [(0, .ref o)]) [0] rfl ?_
  refine x_aload_n C dX5_passRow_0 (q := 1) rfl rfl 0 rfl ?_
  refine x_get C (ci := 4) (v := .int (nI mk)) hw0 0 rfl rfl 6 (by decide) hw1 rfl dX5_passRow_1 (q := 4) rfl ?_
  refine x_bipush C dX5_passRow_4 (q := 6) rfl (v := nI 24) (by decide) ?_
  refine x_icmp_ge C (tgt := 18) dX5_passRow_6 (by decide) (q := 9) rfl (a := ((mk : Nat) : Int)) (b := 24) (nI_toInt (by omega)) rfl (fun h1 => ?_) (fun h1 => ?_)
  · first
    | (exfalso; omega)
    |
      refine x_vret C hA hQ hr dX5_passRow_18 (Nat.le_of_ble_eq_true rfl) ?_
      first | exact ⟨rfl, rfl⟩ | exact ⟨_, rfl, rfl, by first | rfl | omega | assumption⟩ | (refine ⟨_, rfl, rfl, ?_⟩; (first | rfl | omega | (simp only []; omega)))
  · first
    | (exfalso; omega)
    |
      refine x_aload_n C dX5_passRow_9 (q := 10) rfl rfl 0 rfl ?_
      refine x_get C (ci := 4) (v := .int (nI rs)) hw0 0 rfl rfl 7 (by decide) hw2 rfl dX5_passRow_10 (q := 13) rfl ?_
      refine x_bipush C dX5_passRow_13 (q := 15) rfl (v := nI 24) (by decide) ?_
      refine x_icmp_lt C (tgt := 19) dX5_passRow_15 (by decide) (q := 18) rfl (a := ((rs : Nat) : Int)) (b := 24) (nI_toInt (by omega)) rfl (fun h2 => ?_) (fun h2 => ?_)
      · first
        | (exfalso; omega)
        |
          refine x_aload_n C dX5_passRow_19 (q := 20) rfl rfl 0 rfl ?_
          refine x_get C (ci := 4) (v := .ref a1) hw0 0 rfl rfl 1 (by decide) hw3 rfl dX5_passRow_20 (q := 23) rfl ?_
          refine x_aload_n C dX5_passRow_23 (q := 24) rfl rfl 0 rfl ?_
          refine x_get C (ci := 4) (v := .int (nI mk)) hw0 0 rfl rfl 6 (by decide) hw1 rfl dX5_passRow_24 (q := 27) rfl ?_
          refine x_bipush C dX5_passRow_27 (q := 29) rfl (v := (-5)) (by decide) ?_
          refine x_iast C (ws' := [(o, .inr (4, [.ref a0, .ref a1, .ref a2, .ref a3, .ref a4, .ref a5, .int (nI mk), .int (nI rs), .int (ky)])), (a0, .inl (cy 1, 5, .inl (fun k => nI (st k)))), (a1, .inl (cy 1, 24, .inl (va_up fa mk ((-5))))), (a2, .inl (cy 1, 24, .inl ca)), (a3, .inl (cy 1, 24, .inl dc)), (a4, .inl (cy 1, 24, .inl rl)), (a5, .inl (cy 1, 24, .inl (fun k => nI (lr k))))]) 2 rfl (j := mk) (nI_toInt (by omega)) (by omega) (rfl) rfl dX5_passRow_29 (q := 30) rfl ?_
          refine x_aload_n C dX5_passRow_30 (q := 31) rfl rfl 0 rfl ?_
          refine x_get C (ci := 4) (v := .ref a2) hw0 0 rfl rfl 2 (by decide) hw4 rfl dX5_passRow_31 (q := 34) rfl ?_
          refine x_aload_n C dX5_passRow_34 (q := 35) rfl rfl 0 rfl ?_
          refine x_get C (ci := 4) (v := .int (nI mk)) hw0 0 rfl rfl 6 (by decide) hw1 rfl dX5_passRow_35 (q := 38) rfl ?_
          refine x_bipush C dX5_passRow_38 (q := 40) rfl (v := (-5)) (by decide) ?_
          refine x_iast C (ws' := [(o, .inr (4, [.ref a0, .ref a1, .ref a2, .ref a3, .ref a4, .ref a5, .int (nI mk), .int (nI rs), .int (ky)])), (a0, .inl (cy 1, 5, .inl (fun k => nI (st k)))), (a1, .inl (cy 1, 24, .inl (va_up fa mk ((-5))))), (a2, .inl (cy 1, 24, .inl (va_up ca mk ((-5))))), (a3, .inl (cy 1, 24, .inl dc)), (a4, .inl (cy 1, 24, .inl rl)), (a5, .inl (cy 1, 24, .inl (fun k => nI (lr k))))]) 3 rfl (j := mk) (nI_toInt (by omega)) (by omega) (rfl) rfl dX5_passRow_40 (q := 41) rfl ?_
          refine x_aload_n C dX5_passRow_41 (q := 42) rfl rfl 0 rfl ?_
          refine x_get C (ci := 4) (v := .ref a3) hw0 0 rfl rfl 3 (by decide) hw5 rfl dX5_passRow_42 (q := 45) rfl ?_
          refine x_aload_n C dX5_passRow_45 (q := 46) rfl rfl 0 rfl ?_
          refine x_get C (ci := 4) (v := .int (nI mk)) hw0 0 rfl rfl 6 (by decide) hw1 rfl dX5_passRow_46 (q := 49) rfl ?_
          refine x_bipush C dX5_passRow_49 (q := 51) rfl (v := (-5)) (by decide) ?_
          refine x_iast C (ws' := [(o, .inr (4, [.ref a0, .ref a1, .ref a2, .ref a3, .ref a4, .ref a5, .int (nI mk), .int (nI rs), .int (ky)])), (a0, .inl (cy 1, 5, .inl (fun k => nI (st k)))), (a1, .inl (cy 1, 24, .inl (va_up fa mk ((-5))))), (a2, .inl (cy 1, 24, .inl (va_up ca mk ((-5))))), (a3, .inl (cy 1, 24, .inl (va_up dc mk ((-5))))), (a4, .inl (cy 1, 24, .inl rl)), (a5, .inl (cy 1, 24, .inl (fun k => nI (lr k))))]) 4 rfl (j := mk) (nI_toInt (by omega)) (by omega) (rfl) rfl dX5_passRow_51 (q := 52) rfl ?_
          refine x_aload_n C dX5_passRow_52 (q := 53) rfl rfl 0 rfl ?_
          refine x_get C (ci := 4) (v := .ref a4) hw0 0 rfl rfl 4 (by decide) hw6 rfl dX5_passRow_53 (q := 56) rfl ?_
          refine x_aload_n C dX5_passRow_56 (q := 57) rfl rfl 0 rfl ?_
          refine x_get C (ci := 4) (v := .int (nI mk)) hw0 0 rfl rfl 6 (by decide) hw1 rfl dX5_passRow_57 (q := 60) rfl ?_
          refine x_aload_n C dX5_passRow_60 (q := 61) rfl rfl 0 rfl ?_
          refine x_get C (ci := 4) (v := .int (nI rs)) hw0 0 rfl rfl 7 (by decide) hw2 rfl dX5_passRow_61 (q := 64) rfl ?_
          refine x_iast C (ws' := [(o, .inr (4, [.ref a0, .ref a1, .ref a2, .ref a3, .ref a4, .ref a5, .int (nI mk), .int (nI rs), .int (ky)])), (a0, .inl (cy 1, 5, .inl (fun k => nI (st k)))), (a1, .inl (cy 1, 24, .inl (va_up fa mk ((-5))))), (a2, .inl (cy 1, 24, .inl (va_up ca mk ((-5))))), (a3, .inl (cy 1, 24, .inl (va_up dc mk ((-5))))), (a4, .inl (cy 1, 24, .inl (va_up rl mk (nI rs)))), (a5, .inl (cy 1, 24, .inl (fun k => nI (lr k))))]) 5 rfl (j := mk) (nI_toInt (by omega)) (by omega) (rfl) rfl dX5_passRow_64 (q := 65) rfl ?_
          refine x_aload_n C dX5_passRow_65 (q := 66) rfl rfl 0 rfl ?_
          refine x_get C (ci := 4) (v := .ref a5) hw0 0 rfl rfl 5 (by decide) hw7 rfl dX5_passRow_66 (q := 69) rfl ?_
          refine x_aload_n C dX5_passRow_69 (q := 70) rfl rfl 0 rfl ?_
          refine x_get C (ci := 4) (v := .int (nI rs)) hw0 0 rfl rfl 7 (by decide) hw2 rfl dX5_passRow_70 (q := 73) rfl ?_
          refine x_aload_n C dX5_passRow_73 (q := 74) rfl rfl 0 rfl ?_
          refine x_get C (ci := 4) (v := .int (nI mk)) hw0 0 rfl rfl 6 (by decide) hw1 rfl dX5_passRow_74 (q := 77) rfl ?_
          refine x_iast C (ws' := [(o, .inr (4, [.ref a0, .ref a1, .ref a2, .ref a3, .ref a4, .ref a5, .int (nI mk), .int (nI rs), .int (ky)])), (a0, .inl (cy 1, 5, .inl (fun k => nI (st k)))), (a1, .inl (cy 1, 24, .inl (va_up fa mk ((-5))))), (a2, .inl (cy 1, 24, .inl (va_up ca mk ((-5))))), (a3, .inl (cy 1, 24, .inl (va_up dc mk ((-5))))), (a4, .inl (cy 1, 24, .inl (va_up rl mk (nI rs)))), (a5, .inl (cy 1, 24, .inl (fun k => nI ((va_up lr rs mk) k))))]) 6 rfl (j := rs) (nI_toInt (by omega)) (by omega) (xup_n lr rs mk) rfl dX5_passRow_77 (q := 78) rfl ?_
          refine x_aload_n C dX5_passRow_78 (q := 79) rfl rfl 0 rfl ?_
          refine x_dup C dX5_passRow_79 (q := 80) rfl rfl ?_
          refine x_get C (ci := 4) (v := .int (nI rs)) hw0 0 rfl rfl 7 (by decide) hw2 rfl dX5_passRow_80 (q := 83) rfl ?_
          refine x_iconst C dX5_passRow_83 (q := 84) rfl (v := nI 1) (by decide) ?_
          refine x_iadd C dX5_passRow_84 (q := 85) rfl (z := nI (rs + 1)) (nI_add rs 1) ?_
          refine x_put C (ci := 4) (ty := .int) (ws' := [(o, .inr (4, [.ref a0, .ref a1, .ref a2, .ref a3, .ref a4, .ref a5, .int (nI mk), .int (nI (rs + 1)), .int (ky)])), (a0, .inl (cy 1, 5, .inl (fun k => nI (st k)))), (a1, .inl (cy 1, 24, .inl (va_up fa mk ((-5))))), (a2, .inl (cy 1, 24, .inl (va_up ca mk ((-5))))), (a3, .inl (cy 1, 24, .inl (va_up dc mk ((-5))))), (a4, .inl (cy 1, 24, .inl (va_up rl mk (nI rs)))), (a5, .inl (cy 1, 24, .inl (fun k => nI ((va_up lr rs mk) k))))]) hw0 tyX5 tyX5_ok nmX5 0 rfl rfl 7 (by decide) hw2 rfl (by decide +kernel) rfl rfl (Nat.le_of_ble_eq_true rfl) rfl dX5_passRow_85 (q := 88) rfl ?_
          refine x_aload_n C dX5_passRow_88 (q := 89) rfl rfl 0 rfl ?_
          refine x_dup C dX5_passRow_89 (q := 90) rfl rfl ?_
          refine x_get C (ci := 4) (v := .int (nI mk)) hw0 0 rfl rfl 6 (by decide) hw1 rfl dX5_passRow_90 (q := 93) rfl ?_
          refine x_iconst C dX5_passRow_93 (q := 94) rfl (v := nI 1) (by decide) ?_
          refine x_iadd C dX5_passRow_94 (q := 95) rfl (z := nI (mk + 1)) (nI_add mk 1) ?_
          refine x_put C (ci := 4) (ty := .int) (ws' := [(o, .inr (4, [.ref a0, .ref a1, .ref a2, .ref a3, .ref a4, .ref a5, .int (nI (mk + 1)), .int (nI (rs + 1)), .int (ky)])), (a0, .inl (cy 1, 5, .inl (fun k => nI (st k)))), (a1, .inl (cy 1, 24, .inl (va_up fa mk ((-5))))), (a2, .inl (cy 1, 24, .inl (va_up ca mk ((-5))))), (a3, .inl (cy 1, 24, .inl (va_up dc mk ((-5))))), (a4, .inl (cy 1, 24, .inl (va_up rl mk (nI rs)))), (a5, .inl (cy 1, 24, .inl (fun k => nI ((va_up lr rs mk) k))))]) hw0 tyX5 tyX5_ok nmX5 0 rfl rfl 6 (by decide) hw1 rfl (by decide +kernel) rfl rfl (Nat.le_of_ble_eq_true rfl) rfl dX5_passRow_95 (q := 98) rfl ?_
          refine x_vret C hA hQ hr dX5_passRow_98 (Nat.le_of_ble_eq_true rfl) ?_
          first | exact ⟨rfl, rfl⟩ | exact ⟨_, rfl, rfl, by first | rfl | omega | assumption⟩ | (refine ⟨_, rfl, rfl, ?_⟩; (first | rfl | omega | (simp only []; omega)))
      · first
        | (exfalso; omega)
        |
          refine x_vret C hA hQ hr dX5_passRow_18 (Nat.le_of_ble_eq_true rfl) ?_
          first | exact ⟨rfl, rfl⟩ | exact ⟨_, rfl, rfl, by first | rfl | omega | assumption⟩ | (refine ⟨_, rfl, rfl, ?_⟩; (first | rfl | omega | (simp only []; omega)))

set_option maxHeartbeats 4000000 in
set_option maxRecDepth 100000 in
/-- Progress.isImported -/
theorem c_X5_isImported (l : Launch) (D : va_G) (cy : Nat → ClassId) (o : Nat) (a0 : Nat) (a1 : Nat) (a2 : Nat) (a3 : Nat) (a4 : Nat) (a5 : Nat) (st : Nat → Nat) (fa : Nat → Int32) (ca : Nat → Int32) (dc : Nat → Int32) (rl : Nat → Int32) (lr : Nat → Nat) (mk : Nat) (rs : Nat) (ky : Int32) (i : Int32) (hmk : mk ≤ 24) (hrs : rs ≤ 24) : xMet l D cy xT yX5_isImported wsX5_isImported ({ frames := 1, cells := 0, slots := 0, locals := 0 } : Room) [.ref o, .int (i)] [] [(o, .inr (4, [.ref a0, .ref a1, .ref a2, .ref a3, .ref a4, .ref a5, .int (nI mk), .int (nI rs), .int (ky)])), (a0, .inl (cy 1, 5, .inl (fun k => nI (st k)))), (a1, .inl (cy 1, 24, .inl fa)), (a2, .inl (cy 1, 24, .inl ca)), (a3, .inl (cy 1, 24, .inl dc)), (a4, .inl (cy 1, 24, .inl rl)), (a5, .inl (cy 1, 24, .inl (fun k => nI (lr k))))] (fun (v9 : Option Value) (w9 : va_W) => (v9 = some (.int (nI 1)) ∧ w9 = [] ∧ 0 ≤ i.toInt ∧ i.toInt < mk) ∨ (v9 = some (.int (nI 0)) ∧ w9 = [] ∧ (i.toInt < 0 ∨ mk ≤ i.toInt))) := by
  refine xMet_of (cc := cX5_isImported) (maxL := 2) (ret := (some .boolean)) (by decide) rfl (Nat.le_of_ble_eq_true rfl) (fun p e s m args below meth c A R Q hA hR hQ C hr hnm hro hX => ?_)
  have hw0 : ∀ w ∈ u_ws RX5 TX5 9, w ∈ wsX5_isImported := by decide +kernel
  have hw1 : Cond.fieldLink RX5 30 (TX5 6).1 (TX5 6).2.1 (TX5 6).2.2.1 ∈ wsX5_isImported := by decide +kernel
  refine x_L (L' := [(0, .ref o), (1, .int (i))]) [0, 1] rfl ?_
  refine x_iload_n C dX5_isImported_0 (q := 1) rfl rfl 1 rfl ?_
  refine x_if_lt C (tgt := 22) dX5_isImported_1 (by decide) (q := 4) rfl (a := i.toInt) rfl (fun h1 => ?_) (fun h1 => ?_)
  · first
    | (exfalso; omega)
    |
      refine x_iconst C dX5_isImported_22 (q := 23) rfl (v := nI 0) (by decide) ?_
      refine x_zret C hA hQ hr (ty := .boolean) (by first | rfl | assumption | exact xz_nar _) dX5_isImported_23 (Nat.le_of_ble_eq_true rfl) ?_
      first | exact Or.inl ⟨rfl, rfl, by omega, by omega⟩ | exact Or.inr ⟨rfl, rfl, by omega⟩
  · first
    | (exfalso; omega)
    |
      refine x_iload_n C dX5_isImported_4 (q := 5) rfl rfl 1 rfl ?_
      refine x_aload_n C dX5_isImported_5 (q := 6) rfl rfl 0 rfl ?_
      refine x_getR C (ci := 4) (v := .int (nI mk)) hw0 (hro (o, .inr (4, [.ref a0, .ref a1, .ref a2, .ref a3, .ref a4, .ref a5, .int (nI mk), .int (nI rs), .int (ky)])) (List.mem_of_getElem? (i := 0) rfl)) rfl 6 (by decide) hw1 rfl dX5_isImported_6 (q := 9) rfl ?_
      refine x_icmp_ge C (tgt := 22) dX5_isImported_9 (by decide) (q := 12) rfl (a := i.toInt) (b := ((mk : Nat) : Int)) rfl (nI_toInt (by omega)) (fun h2 => ?_) (fun h2 => ?_)
      · first
        | (exfalso; omega)
        |
          refine x_iconst C dX5_isImported_22 (q := 23) rfl (v := nI 0) (by decide) ?_
          refine x_zret C hA hQ hr (ty := .boolean) (by first | rfl | assumption | exact xz_nar _) dX5_isImported_23 (Nat.le_of_ble_eq_true rfl) ?_
          first | exact Or.inl ⟨rfl, rfl, by omega, by omega⟩ | exact Or.inr ⟨rfl, rfl, by omega⟩
      · first
        | (exfalso; omega)
        |
          refine x_iload_n C dX5_isImported_12 (q := 13) rfl rfl 1 rfl ?_
          refine x_bipush C dX5_isImported_13 (q := 15) rfl (v := nI 24) (by decide) ?_
          refine x_icmp_ge C (tgt := 22) dX5_isImported_15 (by decide) (q := 18) rfl (a := i.toInt) (b := 24) rfl rfl (fun h3 => ?_) (fun h3 => ?_)
          · first
            | (exfalso; omega)
            |
              refine x_iconst C dX5_isImported_22 (q := 23) rfl (v := nI 0) (by decide) ?_
              refine x_zret C hA hQ hr (ty := .boolean) (by first | rfl | assumption | exact xz_nar _) dX5_isImported_23 (Nat.le_of_ble_eq_true rfl) ?_
              first | exact Or.inl ⟨rfl, rfl, by omega, by omega⟩ | exact Or.inr ⟨rfl, rfl, by omega⟩
          · first
            | (exfalso; omega)
            |
              refine x_iconst C dX5_isImported_18 (q := 19) rfl (v := nI 1) (by decide) ?_
              refine x_goto C (tgt := 23) dX5_isImported_19 (by decide) ?_
              refine x_zret C hA hQ hr (ty := .boolean) (by first | rfl | assumption | exact xz_nar _) dX5_isImported_23 (Nat.le_of_ble_eq_true rfl) ?_
              first | exact Or.inl ⟨rfl, rfl, by omega, by omega⟩ | exact Or.inr ⟨rfl, rfl, by omega⟩

set_option maxHeartbeats 4000000 in
set_option maxRecDepth 100000 in
/-- Progress.rowOf -/
theorem c_X5_rowOf (l : Launch) (D : va_G) (cy : Nat → ClassId) (o : Nat) (a0 : Nat) (a1 : Nat) (a2 : Nat) (a3 : Nat) (a4 : Nat) (a5 : Nat) (st : Nat → Nat) (fa : Nat → Int32) (ca : Nat → Int32) (dc : Nat → Int32) (rl : Nat → Int32) (lr : Nat → Nat) (mk : Nat) (rs : Nat) (ky : Int32) (i : Int32) (hmk : mk ≤ 24) (hrs : rs ≤ 24) : xMet l D cy xT yX5_rowOf wsX5_rowOf ({ frames := 2, cells := 0, slots := 0, locals := 200 } : Room) [.ref o, .int (i)] [] [(o, .inr (4, [.ref a0, .ref a1, .ref a2, .ref a3, .ref a4, .ref a5, .int (nI mk), .int (nI rs), .int (ky)])), (a0, .inl (cy 1, 5, .inl (fun k => nI (st k)))), (a1, .inl (cy 1, 24, .inl fa)), (a2, .inl (cy 1, 24, .inl ca)), (a3, .inl (cy 1, 24, .inl dc)), (a4, .inl (cy 1, 24, .inl rl)), (a5, .inl (cy 1, 24, .inl (fun k => nI (lr k))))] (fun (v9 : Option Value) (w9 : va_W) => (v9 = some (.int (rl i.toInt.toNat)) ∧ w9 = [] ∧ 0 ≤ i.toInt ∧ i.toInt < mk) ∨ (v9 = some (.int ((-5))) ∧ w9 = [] ∧ (i.toInt < 0 ∨ mk ≤ i.toInt))) := by
  refine xMet_of (cc := cX5_rowOf) (maxL := 2) (ret := (some .int)) (by decide) rfl (Nat.le_of_ble_eq_true rfl) (fun p e s m args below meth c A R Q hA hR hQ C hr hnm hro hX => ?_)
  have hw0 : ∀ w ∈ u_ws RX5 TX5 9, w ∈ wsX5_rowOf := by decide +kernel
  have hw1 : Cond.fieldLink RX5 24 (TX5 4).1 (TX5 4).2.1 (TX5 4).2.2.1 ∈ wsX5_rowOf := by decide +kernel
  refine x_L (L' := [(0, .ref o), (1, .int (i))]) [0, 1] rfl ?_
  refine x_aload_n C dX5_rowOf_0 (q := 1) rfl rfl 0 rfl ?_
  refine x_iload_n C dX5_rowOf_1 (q := 2) rfl rfl 1 rfl ?_
  refine x_callV C (roW := []) (roR := [(o, .inr (4, [.ref a0, .ref a1, .ref a2, .ref a3, .ref a4, .ref a5, .int (nI mk), .int (nI rs), .int (ky)])), (a0, .inl (cy 1, 5, .inl (fun k => nI (st k)))), (a1, .inl (cy 1, 24, .inl fa)), (a2, .inl (cy 1, 24, .inl ca)), (a3, .inl (cy 1, 24, .inl dc)), (a4, .inl (cy 1, 24, .inl rl)), (a5, .inl (cy 1, 24, .inl (fun k => nI (lr k))))]) (c_X5_isImported l D cy o a0 a1 a2 a3 a4 a5 st fa ca dc rl lr mk rs ky i (by first | assumption | omega | (simp only []; omega)) (by first | assumption | omega | (simp only []; omega))) (cwV 1 C.2.2.2.2.1 gX5_rowOf_X5_isImported rfl rfl rfl (by decide +kernel) (by rw [hR]; exact ⟨Nat.le_of_ble_eq_true rfl, Nat.le_of_ble_eq_true rfl⟩)) [] [] rfl (by decide) rfl (by decide) (xro_cons (hro (o, .inr (4, [.ref a0, .ref a1, .ref a2, .ref a3, .ref a4, .ref a5, .int (nI mk), .int (nI rs), .int (ky)])) (List.mem_of_getElem? (i := 0) rfl)) (xro_cons (hro (a0, .inl (cy 1, 5, .inl (fun k => nI (st k)))) (List.mem_of_getElem? (i := 1) rfl)) (xro_cons (hro (a1, .inl (cy 1, 24, .inl fa)) (List.mem_of_getElem? (i := 2) rfl)) (xro_cons (hro (a2, .inl (cy 1, 24, .inl ca)) (List.mem_of_getElem? (i := 3) rfl)) (xro_cons (hro (a3, .inl (cy 1, 24, .inl dc)) (List.mem_of_getElem? (i := 4) rfl)) (xro_cons (hro (a4, .inl (cy 1, 24, .inl rl)) (List.mem_of_getElem? (i := 5) rfl)) (xro_cons (hro (a5, .inl (cy 1, 24, .inl (fun k => nI (lr k)))) (List.mem_of_getElem? (i := 6) rfl)) xro_nil))))))) (List.mem_of_getElem? (i := 0) rfl) (ci := 4) rfl xT_bl (fun _ _ _ _ _ _ _ => trivial) rfl rfl dX5_rowOf_2 rfl rfl (Nat.le_of_ble_eq_true rfl) (q := 5) rfl (k' := 0) rfl (n' := 0) rfl (by rw [hR]; exact ⟨Nat.le_of_ble_eq_true rfl, Nat.le_of_ble_eq_true rfl⟩) (fun v1 w1 hp1 => ?_)
  rcases hp1 with hp1 | hp1
  · skip
    obtain ⟨rfl, rfl, hc2, hc3⟩ := hp1
    refine x_ws (ws' := []) (List.append_nil _) ?_
    refine x_if_eq C (tgt := 17) dX5_rowOf_5 (by decide) (q := 8) rfl (a := 1) rfl (fun h4 => (by omega : False).elim) (fun h4 => ?_)
    refine x_aload_n C dX5_rowOf_8 (q := 9) rfl rfl 0 rfl ?_
    refine x_getR C (ci := 4) (v := .ref a4) hw0 (hro (o, .inr (4, [.ref a0, .ref a1, .ref a2, .ref a3, .ref a4, .ref a5, .int (nI mk), .int (nI rs), .int (ky)])) (List.mem_of_getElem? (i := 0) rfl)) rfl 4 (by decide) hw1 rfl dX5_rowOf_9 (q := 12) rfl ?_
    refine x_iload_n C dX5_rowOf_12 (q := 13) rfl rfl 1 rfl ?_
    refine x_ialdR C (j := i.toInt.toNat) (v := rl i.toInt.toNat) (hro (a4, .inl (cy 1, 24, .inl rl)) (List.mem_of_getElem? (i := 5) rfl)) (by have h9 := (rfl : (i : Int32).toInt = i.toInt); omega) (by omega) rfl dX5_rowOf_13 (q := 14) rfl ?_
    refine x_goto C (tgt := 19) dX5_rowOf_14 (by decide) ?_
    refine x_iret C hA hQ hr dX5_rowOf_19 (Nat.le_of_ble_eq_true rfl) ?_
    first | exact Or.inl ⟨rfl, rfl, by omega, by omega⟩ | exact Or.inr ⟨rfl, rfl, by omega⟩
  · skip
    obtain ⟨rfl, rfl, hc5⟩ := hp1
    refine x_ws (ws' := []) (List.append_nil _) ?_
    refine x_if_eq C (tgt := 17) dX5_rowOf_5 (by decide) (q := 8) rfl (a := 0) rfl (fun h6 => ?_) (fun h6 => (by omega : False).elim)
    refine x_bipush C dX5_rowOf_17 (q := 19) rfl (v := (-5)) (by decide) ?_
    refine x_iret C hA hQ hr dX5_rowOf_19 (Nat.le_of_ble_eq_true rfl) ?_
    first | exact Or.inl ⟨rfl, rfl, by omega, by omega⟩ | exact Or.inr ⟨rfl, rfl, by omega⟩

set_option maxHeartbeats 4000000 in
set_option maxRecDepth 100000 in
/-- Progress.lineOf -/
theorem c_X5_lineOf (l : Launch) (D : va_G) (cy : Nat → ClassId) (o : Nat) (a0 : Nat) (a1 : Nat) (a2 : Nat) (a3 : Nat) (a4 : Nat) (a5 : Nat) (st : Nat → Nat) (fa : Nat → Int32) (ca : Nat → Int32) (dc : Nat → Int32) (rl : Nat → Int32) (lr : Nat → Nat) (mk : Nat) (rs : Nat) (ky : Int32) (i : Int32) (hmk : mk ≤ 24) (hrs : rs ≤ 24) : xMet l D cy xT yX5_lineOf wsX5_lineOf ({ frames := 1, cells := 0, slots := 0, locals := 0 } : Room) [.ref o, .int (i)] [] [(o, .inr (4, [.ref a0, .ref a1, .ref a2, .ref a3, .ref a4, .ref a5, .int (nI mk), .int (nI rs), .int (ky)])), (a0, .inl (cy 1, 5, .inl (fun k => nI (st k)))), (a1, .inl (cy 1, 24, .inl fa)), (a2, .inl (cy 1, 24, .inl ca)), (a3, .inl (cy 1, 24, .inl dc)), (a4, .inl (cy 1, 24, .inl rl)), (a5, .inl (cy 1, 24, .inl (fun k => nI (lr k))))] (fun (v9 : Option Value) (w9 : va_W) => (v9 = some (.int (nI (lr i.toInt.toNat))) ∧ w9 = [] ∧ 0 ≤ i.toInt ∧ i.toInt < rs) ∨ (v9 = some (.int ((-5))) ∧ w9 = [] ∧ (i.toInt < 0 ∨ rs ≤ i.toInt))) := by
  refine xMet_of (cc := cX5_lineOf) (maxL := 2) (ret := (some .int)) (by decide) rfl (Nat.le_of_ble_eq_true rfl) (fun p e s m args below meth c A R Q hA hR hQ C hr hnm hro hX => ?_)
  have hw0 : ∀ w ∈ u_ws RX5 TX5 9, w ∈ wsX5_lineOf := by decide +kernel
  have hw1 : Cond.fieldLink RX5 34 (TX5 7).1 (TX5 7).2.1 (TX5 7).2.2.1 ∈ wsX5_lineOf := by decide +kernel
  have hw2 : Cond.fieldLink RX5 27 (TX5 5).1 (TX5 5).2.1 (TX5 5).2.2.1 ∈ wsX5_lineOf := by decide +kernel
  refine x_L (L' := [(0, .ref o), (1, .int (i))]) [0, 1] rfl ?_
  refine x_iload_n C dX5_lineOf_0 (q := 1) rfl rfl 1 rfl ?_
  refine x_if_lt C (tgt := 27) dX5_lineOf_1 (by decide) (q := 4) rfl (a := i.toInt) rfl (fun h1 => ?_) (fun h1 => ?_)
  · first
    | (exfalso; omega)
    |
      refine x_bipush C dX5_lineOf_27 (q := 29) rfl (v := (-5)) (by decide) ?_
      refine x_iret C hA hQ hr dX5_lineOf_29 (Nat.le_of_ble_eq_true rfl) ?_
      first | exact Or.inl ⟨rfl, rfl, by omega, by omega⟩ | exact Or.inr ⟨rfl, rfl, by omega⟩
  · first
    | (exfalso; omega)
    |
      refine x_iload_n C dX5_lineOf_4 (q := 5) rfl rfl 1 rfl ?_
      refine x_aload_n C dX5_lineOf_5 (q := 6) rfl rfl 0 rfl ?_
      refine x_getR C (ci := 4) (v := .int (nI rs)) hw0 (hro (o, .inr (4, [.ref a0, .ref a1, .ref a2, .ref a3, .ref a4, .ref a5, .int (nI mk), .int (nI rs), .int (ky)])) (List.mem_of_getElem? (i := 0) rfl)) rfl 7 (by decide) hw1 rfl dX5_lineOf_6 (q := 9) rfl ?_
      refine x_icmp_ge C (tgt := 27) dX5_lineOf_9 (by decide) (q := 12) rfl (a := i.toInt) (b := ((rs : Nat) : Int)) rfl (nI_toInt (by omega)) (fun h2 => ?_) (fun h2 => ?_)
      · first
        | (exfalso; omega)
        |
          refine x_bipush C dX5_lineOf_27 (q := 29) rfl (v := (-5)) (by decide) ?_
          refine x_iret C hA hQ hr dX5_lineOf_29 (Nat.le_of_ble_eq_true rfl) ?_
          first | exact Or.inl ⟨rfl, rfl, by omega, by omega⟩ | exact Or.inr ⟨rfl, rfl, by omega⟩
      · first
        | (exfalso; omega)
        |
          refine x_iload_n C dX5_lineOf_12 (q := 13) rfl rfl 1 rfl ?_
          refine x_bipush C dX5_lineOf_13 (q := 15) rfl (v := nI 24) (by decide) ?_
          refine x_icmp_ge C (tgt := 27) dX5_lineOf_15 (by decide) (q := 18) rfl (a := i.toInt) (b := 24) rfl rfl (fun h3 => ?_) (fun h3 => ?_)
          · first
            | (exfalso; omega)
            |
              refine x_bipush C dX5_lineOf_27 (q := 29) rfl (v := (-5)) (by decide) ?_
              refine x_iret C hA hQ hr dX5_lineOf_29 (Nat.le_of_ble_eq_true rfl) ?_
              first | exact Or.inl ⟨rfl, rfl, by omega, by omega⟩ | exact Or.inr ⟨rfl, rfl, by omega⟩
          · first
            | (exfalso; omega)
            |
              refine x_aload_n C dX5_lineOf_18 (q := 19) rfl rfl 0 rfl ?_
              refine x_getR C (ci := 4) (v := .ref a5) hw0 (hro (o, .inr (4, [.ref a0, .ref a1, .ref a2, .ref a3, .ref a4, .ref a5, .int (nI mk), .int (nI rs), .int (ky)])) (List.mem_of_getElem? (i := 0) rfl)) rfl 5 (by decide) hw2 rfl dX5_lineOf_19 (q := 22) rfl ?_
              refine x_iload_n C dX5_lineOf_22 (q := 23) rfl rfl 1 rfl ?_
              refine x_ialdR C (j := i.toInt.toNat) (v := nI (lr i.toInt.toNat)) (hro (a5, .inl (cy 1, 24, .inl (fun k => nI (lr k)))) (List.mem_of_getElem? (i := 6) rfl)) (by have h9 := (rfl : (i : Int32).toInt = i.toInt); omega) (by omega) rfl dX5_lineOf_23 (q := 24) rfl ?_
              refine x_goto C (tgt := 29) dX5_lineOf_24 (by decide) ?_
              refine x_iret C hA hQ hr dX5_lineOf_29 (Nat.le_of_ble_eq_true rfl) ?_
              first | exact Or.inl ⟨rfl, rfl, by omega, by omega⟩ | exact Or.inr ⟨rfl, rfl, by omega⟩

set_option maxHeartbeats 4000000 in
set_option maxRecDepth 100000 in
/-- Progress.lineOf a ROW that there is -/
theorem c_X5_lineOf_n (l : Launch) (D : va_G) (cy : Nat → ClassId) (o : Nat) (a0 : Nat) (a1 : Nat) (a2 : Nat) (a3 : Nat) (a4 : Nat) (a5 : Nat) (st : Nat → Nat) (fa : Nat → Int32) (ca : Nat → Int32) (dc : Nat → Int32) (rl : Nat → Int32) (lr : Nat → Nat) (mk : Nat) (rs : Nat) (ky : Int32) (i : Nat) (hmk : mk ≤ 24) (hrs : rs ≤ 24) (hi : i < rs) : xMet l D cy xT yX5_lineOf wsX5_lineOf ({ frames := 1, cells := 0, slots := 0, locals := 0 } : Room) [.ref o, .int (nI i)] [] [(o, .inr (4, [.ref a0, .ref a1, .ref a2, .ref a3, .ref a4, .ref a5, .int (nI mk), .int (nI rs), .int (ky)])), (a0, .inl (cy 1, 5, .inl (fun k => nI (st k)))), (a1, .inl (cy 1, 24, .inl fa)), (a2, .inl (cy 1, 24, .inl ca)), (a3, .inl (cy 1, 24, .inl dc)), (a4, .inl (cy 1, 24, .inl rl)), (a5, .inl (cy 1, 24, .inl (fun k => nI (lr k))))] (fun (v9 : Option Value) (w9 : va_W) => (v9 = some (.int (nI (lr i))) ∧ w9 = [])) := by
  refine xMet_of (cc := cX5_lineOf) (maxL := 2) (ret := (some .int)) (by decide) rfl (Nat.le_of_ble_eq_true rfl) (fun p e s m args below meth c A R Q hA hR hQ C hr hnm hro hX => ?_)
  have hw0 : ∀ w ∈ u_ws RX5 TX5 9, w ∈ wsX5_lineOf := by decide +kernel
  have hw1 : Cond.fieldLink RX5 34 (TX5 7).1 (TX5 7).2.1 (TX5 7).2.2.1 ∈ wsX5_lineOf := by decide +kernel
  have hw2 : Cond.fieldLink RX5 27 (TX5 5).1 (TX5 5).2.1 (TX5 5).2.2.1 ∈ wsX5_lineOf := by decide +kernel
  refine x_L (L' := [(0, .ref o), (1, .int (nI i))]) [0, 1] rfl ?_
  refine x_iload_n C dX5_lineOf_0 (q := 1) rfl rfl 1 rfl ?_
  refine x_if_lt C (tgt := 27) dX5_lineOf_1 (by decide) (q := 4) rfl (a := ((i : Nat) : Int)) (nI_toInt (by omega)) (fun h1 => ?_) (fun h1 => ?_)
  · first
    | (exfalso; omega)
    |
      refine x_bipush C dX5_lineOf_27 (q := 29) rfl (v := (-5)) (by decide) ?_
      refine x_iret C hA hQ hr dX5_lineOf_29 (Nat.le_of_ble_eq_true rfl) ?_
      first | exact ⟨rfl, rfl⟩ | exact ⟨_, rfl, rfl, by first | rfl | omega | assumption⟩ | (refine ⟨_, rfl, rfl, ?_⟩; (first | rfl | omega | (simp only []; omega)))
  · first
    | (exfalso; omega)
    |
      refine x_iload_n C dX5_lineOf_4 (q := 5) rfl rfl 1 rfl ?_
      refine x_aload_n C dX5_lineOf_5 (q := 6) rfl rfl 0 rfl ?_
      refine x_getR C (ci := 4) (v := .int (nI rs)) hw0 (hro (o, .inr (4, [.ref a0, .ref a1, .ref a2, .ref a3, .ref a4, .ref a5, .int (nI mk), .int (nI rs), .int (ky)])) (List.mem_of_getElem? (i := 0) rfl)) rfl 7 (by decide) hw1 rfl dX5_lineOf_6 (q := 9) rfl ?_
      refine x_icmp_ge C (tgt := 27) dX5_lineOf_9 (by decide) (q := 12) rfl (a := ((i : Nat) : Int)) (b := ((rs : Nat) : Int)) (nI_toInt (by omega)) (nI_toInt (by omega)) (fun h2 => ?_) (fun h2 => ?_)
      · first
        | (exfalso; omega)
        |
          refine x_bipush C dX5_lineOf_27 (q := 29) rfl (v := (-5)) (by decide) ?_
          refine x_iret C hA hQ hr dX5_lineOf_29 (Nat.le_of_ble_eq_true rfl) ?_
          first | exact ⟨rfl, rfl⟩ | exact ⟨_, rfl, rfl, by first | rfl | omega | assumption⟩ | (refine ⟨_, rfl, rfl, ?_⟩; (first | rfl | omega | (simp only []; omega)))
      · first
        | (exfalso; omega)
        |
          refine x_iload_n C dX5_lineOf_12 (q := 13) rfl rfl 1 rfl ?_
          refine x_bipush C dX5_lineOf_13 (q := 15) rfl (v := nI 24) (by decide) ?_
          refine x_icmp_ge C (tgt := 27) dX5_lineOf_15 (by decide) (q := 18) rfl (a := ((i : Nat) : Int)) (b := 24) (nI_toInt (by omega)) rfl (fun h3 => ?_) (fun h3 => ?_)
          · first
            | (exfalso; omega)
            |
              refine x_bipush C dX5_lineOf_27 (q := 29) rfl (v := (-5)) (by decide) ?_
              refine x_iret C hA hQ hr dX5_lineOf_29 (Nat.le_of_ble_eq_true rfl) ?_
              first | exact ⟨rfl, rfl⟩ | exact ⟨_, rfl, rfl, by first | rfl | omega | assumption⟩ | (refine ⟨_, rfl, rfl, ?_⟩; (first | rfl | omega | (simp only []; omega)))
          · first
            | (exfalso; omega)
            |
              refine x_aload_n C dX5_lineOf_18 (q := 19) rfl rfl 0 rfl ?_
              refine x_getR C (ci := 4) (v := .ref a5) hw0 (hro (o, .inr (4, [.ref a0, .ref a1, .ref a2, .ref a3, .ref a4, .ref a5, .int (nI mk), .int (nI rs), .int (ky)])) (List.mem_of_getElem? (i := 0) rfl)) rfl 5 (by decide) hw2 rfl dX5_lineOf_19 (q := 22) rfl ?_
              refine x_iload_n C dX5_lineOf_22 (q := 23) rfl rfl 1 rfl ?_
              refine x_ialdR C (j := i) (v := nI (lr i)) (hro (a5, .inl (cy 1, 24, .inl (fun k => nI (lr k)))) (List.mem_of_getElem? (i := 6) rfl)) (nI_toInt (by omega)) (by omega) rfl dX5_lineOf_23 (q := 24) rfl ?_
              refine x_goto C (tgt := 29) dX5_lineOf_24 (by decide) ?_
              refine x_iret C hA hQ hr dX5_lineOf_29 (Nat.le_of_ble_eq_true rfl) ?_
              first | exact ⟨rfl, rfl⟩ | exact ⟨_, rfl, rfl, by first | rfl | omega | assumption⟩ | (refine ⟨_, rfl, rfl, ?_⟩; (first | rfl | omega | (simp only []; omega)))

set_option maxHeartbeats 4000000 in
set_option maxRecDepth 100000 in
/-- Progress.faultPart -/
theorem c_X5_faultPart (l : Launch) (D : va_G) (cy : Nat → ClassId) (o : Nat) (a0 : Nat) (a1 : Nat) (a2 : Nat) (a3 : Nat) (a4 : Nat) (a5 : Nat) (st : Nat → Nat) (fa : Nat → Int32) (ca : Nat → Int32) (dc : Nat → Int32) (rl : Nat → Int32) (lr : Nat → Nat) (mk : Nat) (rs : Nat) (ky : Int32) (i : Int32) (k : Int32) (hmk : mk ≤ 24) (hrs : rs ≤ 24) : xMet l D cy xT yX5_faultPart wsX5_faultPart ({ frames := 2, cells := 0, slots := 0, locals := 200 } : Room) [.ref o, .int (i), .int (k)] [] [(o, .inr (4, [.ref a0, .ref a1, .ref a2, .ref a3, .ref a4, .ref a5, .int (nI mk), .int (nI rs), .int (ky)])), (a0, .inl (cy 1, 5, .inl (fun k => nI (st k)))), (a1, .inl (cy 1, 24, .inl fa)), (a2, .inl (cy 1, 24, .inl ca)), (a3, .inl (cy 1, 24, .inl dc)), (a4, .inl (cy 1, 24, .inl rl)), (a5, .inl (cy 1, 24, .inl (fun k => nI (lr k))))] (fun (v9 : Option Value) (w9 : va_W) => (v9 = some (.int ((-5))) ∧ w9 = [] ∧ (i.toInt < 0 ∨ mk ≤ i.toInt)) ∨ (v9 = some (.int (fa i.toInt.toNat)) ∧ w9 = [] ∧ 0 ≤ i.toInt ∧ i.toInt < mk ∧ k.toInt = 0) ∨ (v9 = some (.int (ca i.toInt.toNat)) ∧ w9 = [] ∧ 0 ≤ i.toInt ∧ i.toInt < mk ∧ k.toInt = 1) ∨ (v9 = some (.int (dc i.toInt.toNat)) ∧ w9 = [] ∧ 0 ≤ i.toInt ∧ i.toInt < mk ∧ k.toInt = 2) ∨ (v9 = some (.int ((-5))) ∧ w9 = [] ∧ 0 ≤ i.toInt ∧ i.toInt < mk ∧ (k.toInt < 0 ∨ 2 < k.toInt))) := by
  refine xMet_of (cc := cX5_faultPart) (maxL := 3) (ret := (some .int)) (by decide) rfl (Nat.le_of_ble_eq_true rfl) (fun p e s m args below meth c A R Q hA hR hQ C hr hnm hro hX => ?_)
  have hw0 : ∀ w ∈ u_ws RX5 TX5 9, w ∈ wsX5_faultPart := by decide +kernel
  have hw1 : Cond.fieldLink RX5 15 (TX5 1).1 (TX5 1).2.1 (TX5 1).2.2.1 ∈ wsX5_faultPart := by decide +kernel
  have hw2 : Cond.fieldLink RX5 18 (TX5 2).1 (TX5 2).2.1 (TX5 2).2.2.1 ∈ wsX5_faultPart := by decide +kernel
  have hw3 : Cond.fieldLink RX5 21 (TX5 3).1 (TX5 3).2.1 (TX5 3).2.2.1 ∈ wsX5_faultPart := by decide +kernel
  refine x_L (L' := [(0, .ref o), (1, .int (i)), (2, .int (k))]) [0, 1, 2] rfl ?_
  refine x_aload_n C dX5_faultPart_0 (q := 1) rfl rfl 0 rfl ?_
  refine x_iload_n C dX5_faultPart_1 (q := 2) rfl rfl 1 rfl ?_
  refine x_callV C (roW := []) (roR := [(o, .inr (4, [.ref a0, .ref a1, .ref a2, .ref a3, .ref a4, .ref a5, .int (nI mk), .int (nI rs), .int (ky)])), (a0, .inl (cy 1, 5, .inl (fun k => nI (st k)))), (a1, .inl (cy 1, 24, .inl fa)), (a2, .inl (cy 1, 24, .inl ca)), (a3, .inl (cy 1, 24, .inl dc)), (a4, .inl (cy 1, 24, .inl rl)), (a5, .inl (cy 1, 24, .inl (fun k => nI (lr k))))]) (c_X5_isImported l D cy o a0 a1 a2 a3 a4 a5 st fa ca dc rl lr mk rs ky i (by first | assumption | omega | (simp only []; omega)) (by first | assumption | omega | (simp only []; omega))) (cwV 1 C.2.2.2.2.1 gX5_faultPart_X5_isImported rfl rfl rfl (by decide +kernel) (by rw [hR]; exact ⟨Nat.le_of_ble_eq_true rfl, Nat.le_of_ble_eq_true rfl⟩)) [] [] rfl (by decide) rfl (by decide) (xro_cons (hro (o, .inr (4, [.ref a0, .ref a1, .ref a2, .ref a3, .ref a4, .ref a5, .int (nI mk), .int (nI rs), .int (ky)])) (List.mem_of_getElem? (i := 0) rfl)) (xro_cons (hro (a0, .inl (cy 1, 5, .inl (fun k => nI (st k)))) (List.mem_of_getElem? (i := 1) rfl)) (xro_cons (hro (a1, .inl (cy 1, 24, .inl fa)) (List.mem_of_getElem? (i := 2) rfl)) (xro_cons (hro (a2, .inl (cy 1, 24, .inl ca)) (List.mem_of_getElem? (i := 3) rfl)) (xro_cons (hro (a3, .inl (cy 1, 24, .inl dc)) (List.mem_of_getElem? (i := 4) rfl)) (xro_cons (hro (a4, .inl (cy 1, 24, .inl rl)) (List.mem_of_getElem? (i := 5) rfl)) (xro_cons (hro (a5, .inl (cy 1, 24, .inl (fun k => nI (lr k)))) (List.mem_of_getElem? (i := 6) rfl)) xro_nil))))))) (List.mem_of_getElem? (i := 0) rfl) (ci := 4) rfl xT_bl (fun _ _ _ _ _ _ _ => trivial) rfl rfl dX5_faultPart_2 rfl rfl (Nat.le_of_ble_eq_true rfl) (q := 5) rfl (k' := 0) rfl (n' := 0) rfl (by rw [hR]; exact ⟨Nat.le_of_ble_eq_true rfl, Nat.le_of_ble_eq_true rfl⟩) (fun v1 w1 hp1 => ?_)
  rcases hp1 with hp1 | hp1
  · skip
    obtain ⟨rfl, rfl, hc2, hc3⟩ := hp1
    refine x_ws (ws' := []) (List.append_nil _) ?_
    refine x_if_ne C (tgt := 11) dX5_faultPart_5 (by decide) (q := 8) rfl (a := 1) rfl (fun h4 => ?_) (fun h4 => (by omega : False).elim)
    refine x_iload_n C dX5_faultPart_11 (q := 12) rfl rfl 2 rfl ?_
    by_cases hs5 : k.toInt < 0 ∨ 2 < k.toInt
    · refine x_tableOut C (tgt := 61) dX5_faultPart_12 hs5 (by decide) ?_
      refine x_bipush C dX5_faultPart_61 (q := 63) rfl (v := (-5)) (by decide) ?_
      refine x_iret C hA hQ hr dX5_faultPart_63 (Nat.le_of_ble_eq_true rfl) ?_
      first | exact Or.inl ⟨rfl, rfl, by omega⟩ | exact Or.inr (Or.inl ⟨rfl, rfl, by omega, by omega, by omega⟩) | exact Or.inr (Or.inr (Or.inl ⟨rfl, rfl, by omega, by omega, by omega⟩)) | exact Or.inr (Or.inr (Or.inr (Or.inl ⟨rfl, rfl, by omega, by omega, by omega⟩))) | exact Or.inr (Or.inr (Or.inr (Or.inr ⟨rfl, rfl, by omega, by omega, by omega⟩)))
    · have hs5' : k.toInt = 0 ∨ k.toInt = 1 ∨ k.toInt = 2 := by omega
      rcases hs5' with hs5e | hs5e | hs5e
      · refine x_tableIn C (tgt := 40) (0 : Int) ((rfl : (k : Int32).toInt = k.toInt).trans hs5e) dX5_faultPart_12 (by decide) (by decide) rfl (by decide) ?_
        refine x_aload_n C dX5_faultPart_40 (q := 41) rfl rfl 0 rfl ?_
        refine x_getR C (ci := 4) (v := .ref a1) hw0 (hro (o, .inr (4, [.ref a0, .ref a1, .ref a2, .ref a3, .ref a4, .ref a5, .int (nI mk), .int (nI rs), .int (ky)])) (List.mem_of_getElem? (i := 0) rfl)) rfl 1 (by decide) hw1 rfl dX5_faultPart_41 (q := 44) rfl ?_
        refine x_iload_n C dX5_faultPart_44 (q := 45) rfl rfl 1 rfl ?_
        refine x_ialdR C (j := i.toInt.toNat) (v := fa i.toInt.toNat) (hro (a1, .inl (cy 1, 24, .inl fa)) (List.mem_of_getElem? (i := 2) rfl)) (by have h9 := (rfl : (i : Int32).toInt = i.toInt); omega) (by omega) rfl dX5_faultPart_45 (q := 46) rfl ?_
        refine x_iret C hA hQ hr dX5_faultPart_46 (Nat.le_of_ble_eq_true rfl) ?_
        first | exact Or.inl ⟨rfl, rfl, by omega⟩ | exact Or.inr (Or.inl ⟨rfl, rfl, by omega, by omega, by omega⟩) | exact Or.inr (Or.inr (Or.inl ⟨rfl, rfl, by omega, by omega, by omega⟩)) | exact Or.inr (Or.inr (Or.inr (Or.inl ⟨rfl, rfl, by omega, by omega, by omega⟩))) | exact Or.inr (Or.inr (Or.inr (Or.inr ⟨rfl, rfl, by omega, by omega, by omega⟩)))
      · refine x_tableIn C (tgt := 47) (1 : Int) ((rfl : (k : Int32).toInt = k.toInt).trans hs5e) dX5_faultPart_12 (by decide) (by decide) rfl (by decide) ?_
        refine x_aload_n C dX5_faultPart_47 (q := 48) rfl rfl 0 rfl ?_
        refine x_getR C (ci := 4) (v := .ref a2) hw0 (hro (o, .inr (4, [.ref a0, .ref a1, .ref a2, .ref a3, .ref a4, .ref a5, .int (nI mk), .int (nI rs), .int (ky)])) (List.mem_of_getElem? (i := 0) rfl)) rfl 2 (by decide) hw2 rfl dX5_faultPart_48 (q := 51) rfl ?_
        refine x_iload_n C dX5_faultPart_51 (q := 52) rfl rfl 1 rfl ?_
        refine x_ialdR C (j := i.toInt.toNat) (v := ca i.toInt.toNat) (hro (a2, .inl (cy 1, 24, .inl ca)) (List.mem_of_getElem? (i := 3) rfl)) (by have h9 := (rfl : (i : Int32).toInt = i.toInt); omega) (by omega) rfl dX5_faultPart_52 (q := 53) rfl ?_
        refine x_iret C hA hQ hr dX5_faultPart_53 (Nat.le_of_ble_eq_true rfl) ?_
        first | exact Or.inl ⟨rfl, rfl, by omega⟩ | exact Or.inr (Or.inl ⟨rfl, rfl, by omega, by omega, by omega⟩) | exact Or.inr (Or.inr (Or.inl ⟨rfl, rfl, by omega, by omega, by omega⟩)) | exact Or.inr (Or.inr (Or.inr (Or.inl ⟨rfl, rfl, by omega, by omega, by omega⟩))) | exact Or.inr (Or.inr (Or.inr (Or.inr ⟨rfl, rfl, by omega, by omega, by omega⟩)))
      · refine x_tableIn C (tgt := 54) (2 : Int) ((rfl : (k : Int32).toInt = k.toInt).trans hs5e) dX5_faultPart_12 (by decide) (by decide) rfl (by decide) ?_
        refine x_aload_n C dX5_faultPart_54 (q := 55) rfl rfl 0 rfl ?_
        refine x_getR C (ci := 4) (v := .ref a3) hw0 (hro (o, .inr (4, [.ref a0, .ref a1, .ref a2, .ref a3, .ref a4, .ref a5, .int (nI mk), .int (nI rs), .int (ky)])) (List.mem_of_getElem? (i := 0) rfl)) rfl 3 (by decide) hw3 rfl dX5_faultPart_55 (q := 58) rfl ?_
        refine x_iload_n C dX5_faultPart_58 (q := 59) rfl rfl 1 rfl ?_
        refine x_ialdR C (j := i.toInt.toNat) (v := dc i.toInt.toNat) (hro (a3, .inl (cy 1, 24, .inl dc)) (List.mem_of_getElem? (i := 4) rfl)) (by have h9 := (rfl : (i : Int32).toInt = i.toInt); omega) (by omega) rfl dX5_faultPart_59 (q := 60) rfl ?_
        refine x_iret C hA hQ hr dX5_faultPart_60 (Nat.le_of_ble_eq_true rfl) ?_
        first | exact Or.inl ⟨rfl, rfl, by omega⟩ | exact Or.inr (Or.inl ⟨rfl, rfl, by omega, by omega, by omega⟩) | exact Or.inr (Or.inr (Or.inl ⟨rfl, rfl, by omega, by omega, by omega⟩)) | exact Or.inr (Or.inr (Or.inr (Or.inl ⟨rfl, rfl, by omega, by omega, by omega⟩))) | exact Or.inr (Or.inr (Or.inr (Or.inr ⟨rfl, rfl, by omega, by omega, by omega⟩)))
  · skip
    obtain ⟨rfl, rfl, hc6⟩ := hp1
    refine x_ws (ws' := []) (List.append_nil _) ?_
    refine x_if_ne C (tgt := 11) dX5_faultPart_5 (by decide) (q := 8) rfl (a := 0) rfl (fun h7 => (by omega : False).elim) (fun h7 => ?_)
    refine x_bipush C dX5_faultPart_8 (q := 10) rfl (v := (-5)) (by decide) ?_
    refine x_iret C hA hQ hr dX5_faultPart_10 (Nat.le_of_ble_eq_true rfl) ?_
    first | exact Or.inl ⟨rfl, rfl, by omega⟩ | exact Or.inr (Or.inl ⟨rfl, rfl, by omega, by omega, by omega⟩) | exact Or.inr (Or.inr (Or.inl ⟨rfl, rfl, by omega, by omega, by omega⟩)) | exact Or.inr (Or.inr (Or.inr (Or.inl ⟨rfl, rfl, by omega, by omega, by omega⟩))) | exact Or.inr (Or.inr (Or.inr (Or.inr ⟨rfl, rfl, by omega, by omega, by omega⟩)))

set_option maxHeartbeats 4000000 in
set_option maxRecDepth 100000 in
/-- Progress.faultyLines -/
theorem c_X5_faultyLines (l : Launch) (D : va_G) (cy : Nat → ClassId) (o : Nat) (a0 : Nat) (a1 : Nat) (a2 : Nat) (a3 : Nat) (a4 : Nat) (a5 : Nat) (st : Nat → Nat) (fa : Nat → Int32) (ca : Nat → Int32) (dc : Nat → Int32) (rl : Nat → Int32) (lr : Nat → Nat) (mk : Nat) (rs : Nat) (ky : Int32) (hmk : mk ≤ 24) (hrs : rs ≤ 24) (hle : rs ≤ mk) : xMet l D cy xT yX5_faultyLines wsX5_faultyLines ({ frames := 1, cells := 0, slots := 0, locals := 0 } : Room) [.ref o] [] [(o, .inr (4, [.ref a0, .ref a1, .ref a2, .ref a3, .ref a4, .ref a5, .int (nI mk), .int (nI rs), .int (ky)])), (a0, .inl (cy 1, 5, .inl (fun k => nI (st k)))), (a1, .inl (cy 1, 24, .inl fa)), (a2, .inl (cy 1, 24, .inl ca)), (a3, .inl (cy 1, 24, .inl dc)), (a4, .inl (cy 1, 24, .inl rl)), (a5, .inl (cy 1, 24, .inl (fun k => nI (lr k))))] (fun (v9 : Option Value) (w9 : va_W) => (v9 = some (.int (nI (mk - rs))) ∧ w9 = [])) := by
  refine xMet_of (cc := cX5_faultyLines) (maxL := 1) (ret := (some .int)) (by decide) rfl (Nat.le_of_ble_eq_true rfl) (fun p e s m args below meth c A R Q hA hR hQ C hr hnm hro hX => ?_)
  have hw0 : ∀ w ∈ u_ws RX5 TX5 9, w ∈ wsX5_faultyLines := by decide +kernel
  have hw1 : Cond.fieldLink RX5 30 (TX5 6).1 (TX5 6).2.1 (TX5 6).2.2.1 ∈ wsX5_faultyLines := by decide +kernel
  have hw2 : Cond.fieldLink RX5 34 (TX5 7).1 (TX5 7).2.1 (TX5 7).2.2.1 ∈ wsX5_faultyLines := by decide +kernel
  refine x_L (L' := [(0, .ref o)]) [0] rfl ?_
  refine x_aload_n C dX5_faultyLines_0 (q := 1) rfl rfl 0 rfl ?_
  refine x_getR C (ci := 4) (v := .int (nI mk)) hw0 (hro (o, .inr (4, [.ref a0, .ref a1, .ref a2, .ref a3, .ref a4, .ref a5, .int (nI mk), .int (nI rs), .int (ky)])) (List.mem_of_getElem? (i := 0) rfl)) rfl 6 (by decide) hw1 rfl dX5_faultyLines_1 (q := 4) rfl ?_
  refine x_aload_n C dX5_faultyLines_4 (q := 5) rfl rfl 0 rfl ?_
  refine x_getR C (ci := 4) (v := .int (nI rs)) hw0 (hro (o, .inr (4, [.ref a0, .ref a1, .ref a2, .ref a3, .ref a4, .ref a5, .int (nI mk), .int (nI rs), .int (ky)])) (List.mem_of_getElem? (i := 0) rfl)) rfl 7 (by decide) hw2 rfl dX5_faultyLines_5 (q := 8) rfl ?_
  refine x_isub C dX5_faultyLines_8 (q := 9) rfl (z := nI (mk - rs)) (xi_subN (by omega) (by omega)) ?_
  refine x_iret C hA hQ hr dX5_faultyLines_9 (Nat.le_of_ble_eq_true rfl) ?_
  first | exact ⟨rfl, rfl⟩ | exact ⟨_, rfl, rfl, by first | rfl | omega | assumption⟩ | (refine ⟨_, rfl, rfl, ?_⟩; (first | rfl | omega | (simp only []; omega)))

set_option maxHeartbeats 4000000 in
set_option maxRecDepth 100000 in
/-- Progress.linesWith -/
theorem c_X5_linesWith (l : Launch) (D : va_G) (cy : Nat → ClassId) (o : Nat) (a0 : Nat) (a1 : Nat) (a2 : Nat) (a3 : Nat) (a4 : Nat) (a5 : Nat) (st : Nat → Nat) (fa : Nat → Int32) (ca : Nat → Int32) (dc : Nat → Int32) (rl : Nat → Int32) (lr : Nat → Nat) (mk : Nat) (rs : Nat) (ky : Int32) (x : Int32) (hmk : mk ≤ 24) (hrs : rs ≤ 24) : xMet l D cy xT yX5_linesWith wsX5_linesWith ({ frames := 1, cells := 0, slots := 0, locals := 0 } : Room) [.ref o, .int (x)] [] [(o, .inr (4, [.ref a0, .ref a1, .ref a2, .ref a3, .ref a4, .ref a5, .int (nI mk), .int (nI rs), .int (ky)])), (a0, .inl (cy 1, 5, .inl (fun k => nI (st k)))), (a1, .inl (cy 1, 24, .inl fa)), (a2, .inl (cy 1, 24, .inl ca)), (a3, .inl (cy 1, 24, .inl dc)), (a4, .inl (cy 1, 24, .inl rl)), (a5, .inl (cy 1, 24, .inl (fun k => nI (lr k))))] (fun (v9 : Option Value) (w9 : va_W) => (v9 = some (.int (nI (cntE fa x mk))) ∧ w9 = [])) := by
  refine xMet_of (cc := cX5_linesWith) (maxL := 4) (ret := (some .int)) (by decide) rfl (Nat.le_of_ble_eq_true rfl) (fun p e s m args below meth c A R Q hA hR hQ C hr hnm hro hX => ?_)
  have hw0 : ∀ w ∈ u_ws RX5 TX5 9, w ∈ wsX5_linesWith := by decide +kernel
  have hw1 : Cond.fieldLink RX5 30 (TX5 6).1 (TX5 6).2.1 (TX5 6).2.2.1 ∈ wsX5_linesWith := by decide +kernel
  have hw2 : Cond.fieldLink RX5 15 (TX5 1).1 (TX5 1).2.1 (TX5 1).2.2.1 ∈ wsX5_linesWith := by decide +kernel
  refine x_L (L' := [(0, .ref o), (1, .int (x))]) [0, 1] rfl ?_
  refine x_iconst C dX5_linesWith_0 (q := 1) rfl (v := nI 0) (by decide) ?_
  refine x_istore_n C (L' := [(2, .int (nI 0)), (0, .ref o), (1, .int (x))]) dX5_linesWith_1 (q := 2) rfl rfl (by decide) rfl ?_
  refine x_iconst C dX5_linesWith_2 (q := 3) rfl (v := nI 0) (by decide) ?_
  refine x_istore_n C (L' := [(3, .int (nI 0)), (2, .int (nI 0)), (0, .ref o), (1, .int (x))]) dX5_linesWith_3 (q := 4) rfl rfl (by decide) rfl ?_
  have cut4 : ∀ (fuel : Nat) (i : Nat) (t : Nat), (i ≤ mk) → (t = cntE fa x i) → mk - i < fuel → xG p l e R s m args below meth c Q D A 4 [] 0 0 4 [(0, .ref o), (1, .int (x)), (2, .int (nI t)), (3, .int (nI i))] [] := by
    intro fuel
    induction fuel with
    | zero =>
      intro i t hi ht hmu
      exact absurd hmu (Nat.not_lt_zero _)
    | succ fuel ih =>
      intro i t hi ht hmu
      have hcl := cntE_le fa x i
      have ih4 := ih
      clear ih
      refine x_iload_n C dX5_linesWith_4 (q := 5) rfl rfl 3 rfl ?_
      refine x_aload_n C dX5_linesWith_5 (q := 6) rfl rfl 0 rfl ?_
      refine x_getR C (ci := 4) (v := .int (nI mk)) hw0 (hro (o, .inr (4, [.ref a0, .ref a1, .ref a2, .ref a3, .ref a4, .ref a5, .int (nI mk), .int (nI rs), .int (ky)])) (List.mem_of_getElem? (i := 0) rfl)) rfl 6 (by decide) hw1 rfl dX5_linesWith_6 (q := 9) rfl ?_
      refine x_icmp_ge C (tgt := 37) dX5_linesWith_9 (by decide) (q := 12) rfl (a := ((i : Nat) : Int)) (b := ((mk : Nat) : Int)) (nI_toInt (by omega)) (nI_toInt (by omega)) (fun h1 => ?_) (fun h1 => ?_)
      · first
        | (exfalso; omega)
        |
          refine x_iload_n C dX5_linesWith_37 (q := 38) rfl rfl 2 rfl ?_
          refine x_iret C hA hQ hr dX5_linesWith_38 (Nat.le_of_ble_eq_true rfl) ?_
          have e9 : i = mk := by omega
          subst e9
          subst ht
          exact ⟨rfl, rfl⟩
      · first
        | (exfalso; omega)
        |
          refine x_iload_n C dX5_linesWith_12 (q := 13) rfl rfl 3 rfl ?_
          refine x_bipush C dX5_linesWith_13 (q := 15) rfl (v := nI 24) (by decide) ?_
          refine x_icmp_ge C (tgt := 37) dX5_linesWith_15 (by decide) (q := 18) rfl (a := ((i : Nat) : Int)) (b := 24) (nI_toInt (by omega)) rfl (fun h2 => ?_) (fun h2 => ?_)
          · first
            | (exfalso; omega)
            |
              refine x_iload_n C dX5_linesWith_37 (q := 38) rfl rfl 2 rfl ?_
              refine x_iret C hA hQ hr dX5_linesWith_38 (Nat.le_of_ble_eq_true rfl) ?_
              have e9 : i = mk := by omega
              subst e9
              subst ht
              exact ⟨rfl, rfl⟩
          · first
            | (exfalso; omega)
            |
              refine x_aload_n C dX5_linesWith_18 (q := 19) rfl rfl 0 rfl ?_
              refine x_getR C (ci := 4) (v := .ref a1) hw0 (hro (o, .inr (4, [.ref a0, .ref a1, .ref a2, .ref a3, .ref a4, .ref a5, .int (nI mk), .int (nI rs), .int (ky)])) (List.mem_of_getElem? (i := 0) rfl)) rfl 1 (by decide) hw2 rfl dX5_linesWith_19 (q := 22) rfl ?_
              refine x_iload_n C dX5_linesWith_22 (q := 23) rfl rfl 3 rfl ?_
              refine x_ialdR C (j := i) (v := fa i) (hro (a1, .inl (cy 1, 24, .inl fa)) (List.mem_of_getElem? (i := 2) rfl)) (nI_toInt (by omega)) (by omega) rfl dX5_linesWith_23 (q := 24) rfl ?_
              refine x_iload_n C dX5_linesWith_24 (q := 25) rfl rfl 1 rfl ?_
              refine x_icmp_ne C (tgt := 31) dX5_linesWith_25 (by decide) (q := 28) rfl (a := (fa i).toInt) (b := x.toInt) rfl rfl (fun h3 => ?_) (fun h3 => ?_)
              · first
                | (exfalso; omega)
                |
                  refine x_iinc C (L' := [(3, .int (nI (i + 1))), (0, .ref o), (1, .int (x)), (2, .int (nI t))]) dX5_linesWith_31 (q := 34) rfl 3 rfl (v := nI (i + 1)) (nI_add i 1) (by decide) rfl ?_
                  refine x_goto C (tgt := 4) dX5_linesWith_34 (by decide) ?_
                  refine x_L (L' := [(0, .ref o), (1, .int (x)), (2, .int (nI t)), (3, .int (nI (i + 1)))]) [1, 2, 3, 0] rfl ?_
                  exact ih4 (i + 1) t (by first | omega | assumption) (by unfold cntE; first | (rw [if_pos (Int32.toInt_inj.mp (by omega))]; omega) | (rw [if_neg (fun z => by have z2 := congrArg Int32.toInt z; omega)]; omega)) (by omega)
              · first
                | (exfalso; omega)
                |
                  refine x_iinc C (L' := [(2, .int (nI (t + 1))), (0, .ref o), (1, .int (x)), (3, .int (nI i))]) dX5_linesWith_28 (q := 31) rfl 2 rfl (v := nI (t + 1)) (nI_add t 1) (by decide) rfl ?_
                  refine x_iinc C (L' := [(3, .int (nI (i + 1))), (2, .int (nI (t + 1))), (0, .ref o), (1, .int (x))]) dX5_linesWith_31 (q := 34) rfl 3 rfl (v := nI (i + 1)) (nI_add i 1) (by decide) rfl ?_
                  refine x_goto C (tgt := 4) dX5_linesWith_34 (by decide) ?_
                  refine x_L (L' := [(0, .ref o), (1, .int (x)), (2, .int (nI (t + 1))), (3, .int (nI (i + 1)))]) [2, 3, 1, 0] rfl ?_
                  exact ih4 (i + 1) (t + 1) (by first | omega | assumption) (by unfold cntE; first | (rw [if_pos (Int32.toInt_inj.mp (by omega))]; omega) | (rw [if_neg (fun z => by have z2 := congrArg Int32.toInt z; omega)]; omega)) (by omega)
  refine x_L (L' := [(0, .ref o), (1, .int (x)), (2, .int (nI 0)), (3, .int (nI 0))]) [2, 3, 1, 0] rfl ?_
  exact cut4 (mk - 0 + 1) 0 0 (by first | omega | assumption) (by rfl) (by omega)
