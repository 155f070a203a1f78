set_option maxHeartbeats 4000000 in
set_option maxRecDepth 100000 in
/-- Table.guessBy: the GUESS -/
theorem c_X7_guessBy (l : Launch) (D : va_G) (cy : Nat → ClassId) (tb : Nat) (nz : Nat) (tl : Nat) (pg : Nat) (se : Nat) (pa : Nat) (bo : Nat) (li : Nat) (ba : Nat) (cols : Nat) (lc : Nat) (smp : Nat) (lnf : Nat → Option Nat) (bal : Nat → Nat) (ld : LD) (pl : va_W) (cq : Nat) (bz : Nat) (hcols : cols ≤ 5) (hlc : lc ≤ 24) (hTL : TbL cy pl lc lnf ld) (hfm : ∀ k i, dFm ld k i ≤ 4) (hcq : cq < 5) (hbz : bz ≤ 24) : xMet l D cy xT yX7_guessBy wsX7_guessBy ({ frames := 4, cells := 0, slots := 0, locals := 400 } : Room) [.ref tb, .int (nI cq), .int (nI bz)] [(tb, .inr (6, [.ref nz, .ref tl, .ref pg, .ref se, .ref pa, .ref bo, .ref li, .ref ba, .int (nI cols), .int (nI lc), .int (nI smp)])), (li, .inl (cy 4, 24, .inr (.inr (.inr (.inr lnf))))), (ba, .inl (cy 1, 5, .inl (fun k => nI (bal k))))] pl (fun (v9 : Option Value) (w9 : va_W) => (v9 = some (.int (nI (gsS (vtF ld cq (min bz lc))))) ∧ w9 = [(tb, .inr (6, [.ref nz, .ref tl, .ref pg, .ref se, .ref pa, .ref bo, .ref li, .ref ba, .int (nI cols), .int (nI lc), .int (nI smp)])), (li, .inl (cy 4, 24, .inr (.inr (.inr (.inr lnf))))), (ba, .inl (cy 1, 5, .inl (fun k => nI ((vtF ld cq (min bz lc)) k))))])) := by
  refine xMet_of (cc := cX7_guessBy) (maxL := 5) (ret := (some .int)) (by decide) rfl (Nat.le_of_ble_eq_true rfl) (fun p e s m args below meth c A R Q hA hR hQ C hr hnm hro hX => ?_)
  have hw0 : ∀ w ∈ u_ws RX7 TX7 11, w ∈ wsX7_guessBy := by decide +kernel
  have hw1 : Cond.fieldLink RX7 46 (TX7 7).1 (TX7 7).2.1 (TX7 7).2.2.1 ∈ wsX7_guessBy := by decide +kernel
  refine x_L (L' := [(0, .ref tb), (1, .int (nI cq)), (2, .int (nI bz))]) [0, 1, 2] rfl ?_
  have hpool : ∀ q ∈ pl, xRo D A s q := hro
  have hvt := vtF_le ld cq (min bz lc) (by omega)
  refine x_aload_n C dX7_guessBy_0 (q := 1) rfl rfl 0 rfl ?_
  refine x_iload_n C dX7_guessBy_1 (q := 2) rfl rfl 1 rfl ?_
  refine x_iload_n C dX7_guessBy_2 (q := 3) rfl rfl 2 rfl ?_
  refine x_callV C (roW := []) (roR := pl) (c_X7_countForms l D cy tb nz tl pg se pa bo li ba cols lc smp lnf bal ld pl cq bz (by first | assumption | omega | (simp only []; omega)) (by first | assumption | omega | (simp only []; omega)) (by assumption) (by assumption) (by first | assumption | omega | (simp only []; omega)) (by first | assumption | omega | (simp only []; omega))) (cwV 2 C.2.2.2.2.1 gX7_guessBy_X7_countForms rfl rfl rfl (by decide +kernel) (by rw [hR]; exact ⟨Nat.le_of_ble_eq_true rfl, Nat.le_of_ble_eq_true rfl⟩)) [0, 1, 2] [] rfl (by decide) rfl (by decide) hpool (List.mem_of_getElem? (i := 0) rfl) (ci := 6) rfl xT_bl (fun _ _ _ _ _ _ _ => trivial) rfl rfl dX7_guessBy_3 rfl rfl (Nat.le_of_ble_eq_true rfl) (q := 6) rfl (k' := 0) rfl (n' := 0) rfl (by rw [hR]; exact ⟨Nat.le_of_ble_eq_true rfl, Nat.le_of_ble_eq_true rfl⟩) (fun v1 w1 hp1 => ?_)
  obtain ⟨rfl, rfl⟩ := hp1
  refine x_ws (ws' := [(tb, .inr (6, [.ref nz, .ref tl, .ref pg, .ref se, .ref pa, .ref bo, .ref li, .ref ba, .int (nI cols), .int (nI lc), .int (nI smp)])), (li, .inl (cy 4, 24, .inr (.inr (.inr (.inr lnf))))), (ba, .inl (cy 1, 5, .inl (fun k => nI ((vtF ld cq (min bz lc)) k))))]) rfl ?_
  refine x_iconst C dX7_guessBy_6 (q := 7) rfl (v := nI 4) (by decide) ?_
  refine x_istore_n C (L' := [(3, .int (nI 4)), (0, .ref tb), (1, .int (nI cq)), (2, .int (nI bz))]) dX7_guessBy_7 (q := 8) rfl rfl (by decide) rfl ?_
  refine x_iconst C dX7_guessBy_8 (q := 9) rfl (v := nI 3) (by decide) ?_
  refine x_istore C (L' := [(4, .int (nI 3)), (3, .int (nI 4)), (0, .ref tb), (1, .int (nI cq)), (2, .int (nI bz))]) dX7_guessBy_9 (q := 11) rfl (by decide) rfl ?_
  refine x_iload C dX7_guessBy_11 (q := 13) rfl 0 rfl ?_
  refine x_iconst C dX7_guessBy_13 (q := 14) rfl (v := nI 1) (by decide) ?_
  refine x_icmp_lt C (tgt := 42) dX7_guessBy_14 (by decide) (q := 17) rfl (a := 3) (b := 1) rfl rfl (fun h2 => (by omega : False).elim) (fun h2 => ?_)
  refine x_aload_n C dX7_guessBy_17 (q := 18) rfl rfl 2 rfl ?_
  refine x_get C (ci := 6) (v := .ref ba) hw0 0 rfl rfl 7 (by decide) hw1 rfl dX7_guessBy_18 (q := 21) rfl ?_
  refine x_iload C dX7_guessBy_21 (q := 23) rfl 0 rfl ?_
  have hb3 := hvt 3
  refine x_iald C (j := 3) (v := nI ((vtF ld cq (min bz lc)) 3)) 2 rfl rfl (by omega) rfl dX7_guessBy_23 (q := 24) rfl ?_
  refine x_aload_n C dX7_guessBy_24 (q := 25) rfl rfl 2 rfl ?_
  refine x_get C (ci := 6) (v := .ref ba) hw0 0 rfl rfl 7 (by decide) hw1 rfl dX7_guessBy_25 (q := 28) rfl ?_
  refine x_iload_n C dX7_guessBy_28 (q := 29) rfl rfl 1 rfl ?_
  have hb4 := hvt 4
  refine x_iald C (j := 4) (v := nI ((vtF ld cq (min bz lc)) 4)) 2 rfl rfl (by omega) rfl dX7_guessBy_29 (q := 30) rfl ?_
  refine x_icmp_le C (tgt := 36) dX7_guessBy_30 (by decide) (q := 33) rfl (a := (((vtF ld cq (min bz lc)) 3 : Nat) : Int)) (b := (((vtF ld cq (min bz lc)) 4 : Nat) : Int)) (nI_toInt (by omega)) (nI_toInt (by omega)) (fun h5 => ?_) (fun h5 => ?_)
  · first
    | (exfalso; omega)
    |
      refine x_iinc C (L' := [(4, .int (nI 2)), (3, .int (nI 4)), (0, .ref tb), (1, .int (nI cq)), (2, .int (nI bz))]) dX7_guessBy_36 (q := 39) rfl 0 rfl (v := nI 2) (by decide) (by decide) rfl ?_
      refine x_goto C (tgt := 11) dX7_guessBy_39 (by decide) ?_
      refine x_iload C dX7_guessBy_11 (q := 13) rfl 0 rfl ?_
      refine x_iconst C dX7_guessBy_13 (q := 14) rfl (v := nI 1) (by decide) ?_
      refine x_icmp_lt C (tgt := 42) dX7_guessBy_14 (by decide) (q := 17) rfl (a := 2) (b := 1) rfl rfl (fun h6 => (by omega : False).elim) (fun h6 => ?_)
      refine x_aload_n C dX7_guessBy_17 (q := 18) rfl rfl 2 rfl ?_
      refine x_get C (ci := 6) (v := .ref ba) hw0 0 rfl rfl 7 (by decide) hw1 rfl dX7_guessBy_18 (q := 21) rfl ?_
      refine x_iload C dX7_guessBy_21 (q := 23) rfl 0 rfl ?_
      have hb7 := hvt 2
      refine x_iald C (j := 2) (v := nI ((vtF ld cq (min bz lc)) 2)) 2 rfl rfl (by omega) rfl dX7_guessBy_23 (q := 24) rfl ?_
      refine x_aload_n C dX7_guessBy_24 (q := 25) rfl rfl 2 rfl ?_
      refine x_get C (ci := 6) (v := .ref ba) hw0 0 rfl rfl 7 (by decide) hw1 rfl dX7_guessBy_25 (q := 28) rfl ?_
      refine x_iload_n C dX7_guessBy_28 (q := 29) rfl rfl 1 rfl ?_
      have hb8 := hvt 4
      refine x_iald C (j := 4) (v := nI ((vtF ld cq (min bz lc)) 4)) 2 rfl rfl (by omega) rfl dX7_guessBy_29 (q := 30) rfl ?_
      refine x_icmp_le C (tgt := 36) dX7_guessBy_30 (by decide) (q := 33) rfl (a := (((vtF ld cq (min bz lc)) 2 : Nat) : Int)) (b := (((vtF ld cq (min bz lc)) 4 : Nat) : Int)) (nI_toInt (by omega)) (nI_toInt (by omega)) (fun h9 => ?_) (fun h9 => ?_)
      · first
        | (exfalso; omega)
        |
          refine x_iinc C (L' := [(4, .int (nI 1)), (3, .int (nI 4)), (0, .ref tb), (1, .int (nI cq)), (2, .int (nI bz))]) dX7_guessBy_36 (q := 39) rfl 0 rfl (v := nI 1) (by decide) (by decide) rfl ?_
          refine x_goto C (tgt := 11) dX7_guessBy_39 (by decide) ?_
          refine x_iload C dX7_guessBy_11 (q := 13) rfl 0 rfl ?_
          refine x_iconst C dX7_guessBy_13 (q := 14) rfl (v := nI 1) (by decide) ?_
          refine x_icmp_lt C (tgt := 42) dX7_guessBy_14 (by decide) (q := 17) rfl (a := 1) (b := 1) rfl rfl (fun h10 => (by omega : False).elim) (fun h10 => ?_)
          refine x_aload_n C dX7_guessBy_17 (q := 18) rfl rfl 2 rfl ?_
          refine x_get C (ci := 6) (v := .ref ba) hw0 0 rfl rfl 7 (by decide) hw1 rfl dX7_guessBy_18 (q := 21) rfl ?_
          refine x_iload C dX7_guessBy_21 (q := 23) rfl 0 rfl ?_
          have hb11 := hvt 1
          refine x_iald C (j := 1) (v := nI ((vtF ld cq (min bz lc)) 1)) 2 rfl rfl (by omega) rfl dX7_guessBy_23 (q := 24) rfl ?_
          refine x_aload_n C dX7_guessBy_24 (q := 25) rfl rfl 2 rfl ?_
          refine x_get C (ci := 6) (v := .ref ba) hw0 0 rfl rfl 7 (by decide) hw1 rfl dX7_guessBy_25 (q := 28) rfl ?_
          refine x_iload_n C dX7_guessBy_28 (q := 29) rfl rfl 1 rfl ?_
          have hb12 := hvt 4
          refine x_iald C (j := 4) (v := nI ((vtF ld cq (min bz lc)) 4)) 2 rfl rfl (by omega) rfl dX7_guessBy_29 (q := 30) rfl ?_
          refine x_icmp_le C (tgt := 36) dX7_guessBy_30 (by decide) (q := 33) rfl (a := (((vtF ld cq (min bz lc)) 1 : Nat) : Int)) (b := (((vtF ld cq (min bz lc)) 4 : Nat) : Int)) (nI_toInt (by omega)) (nI_toInt (by omega)) (fun h13 => ?_) (fun h13 => ?_)
          · first
            | (exfalso; omega)
            |
              refine x_iinc C (L' := [(4, .int (nI 0)), (3, .int (nI 4)), (0, .ref tb), (1, .int (nI cq)), (2, .int (nI bz))]) dX7_guessBy_36 (q := 39) rfl 0 rfl (v := nI 0) (by decide) (by decide) rfl ?_
              refine x_goto C (tgt := 11) dX7_guessBy_39 (by decide) ?_
              refine x_iload C dX7_guessBy_11 (q := 13) rfl 0 rfl ?_
              refine x_iconst C dX7_guessBy_13 (q := 14) rfl (v := nI 1) (by decide) ?_
              refine x_icmp_lt C (tgt := 42) dX7_guessBy_14 (by decide) (q := 17) rfl (a := 0) (b := 1) rfl rfl (fun h14 => ?_) (fun h14 => (by omega : False).elim)
              refine x_iload_n C dX7_guessBy_42 (q := 43) rfl rfl 1 rfl ?_
              refine x_iret C hA hQ hr dX7_guessBy_43 (Nat.le_of_ble_eq_true rfl) ?_
              exact ⟨by unfold gsS; repeat (first | rw [if_pos (by omega)] | rw [if_neg (by omega)]), rfl⟩
          · first
            | (exfalso; omega)
            |
              refine x_iload C dX7_guessBy_33 (q := 35) rfl 0 rfl ?_
              refine x_istore_n C (L' := [(3, .int (nI 1)), (4, .int (nI 1)), (0, .ref tb), (1, .int (nI cq)), (2, .int (nI bz))]) dX7_guessBy_35 (q := 36) rfl rfl (by decide) rfl ?_
              refine x_iinc C (L' := [(4, .int (nI 0)), (3, .int (nI 1)), (0, .ref tb), (1, .int (nI cq)), (2, .int (nI bz))]) dX7_guessBy_36 (q := 39) rfl 1 rfl (v := nI 0) (by decide) (by decide) rfl ?_
              refine x_goto C (tgt := 11) dX7_guessBy_39 (by decide) ?_
              refine x_iload C dX7_guessBy_11 (q := 13) rfl 0 rfl ?_
              refine x_iconst C dX7_guessBy_13 (q := 14) rfl (v := nI 1) (by decide) ?_
              refine x_icmp_lt C (tgt := 42) dX7_guessBy_14 (by decide) (q := 17) rfl (a := 0) (b := 1) rfl rfl (fun h15 => ?_) (fun h15 => (by omega : False).elim)
              refine x_iload_n C dX7_guessBy_42 (q := 43) rfl rfl 1 rfl ?_
              refine x_iret C hA hQ hr dX7_guessBy_43 (Nat.le_of_ble_eq_true rfl) ?_
              exact ⟨by unfold gsS; repeat (first | rw [if_pos (by omega)] | rw [if_neg (by omega)]), rfl⟩
      · first
        | (exfalso; omega)
        |
          refine x_iload C dX7_guessBy_33 (q := 35) rfl 0 rfl ?_
          refine x_istore_n C (L' := [(3, .int (nI 2)), (4, .int (nI 2)), (0, .ref tb), (1, .int (nI cq)), (2, .int (nI bz))]) dX7_guessBy_35 (q := 36) rfl rfl (by decide) rfl ?_
          refine x_iinc C (L' := [(4, .int (nI 1)), (3, .int (nI 2)), (0, .ref tb), (1, .int (nI cq)), (2, .int (nI bz))]) dX7_guessBy_36 (q := 39) rfl 1 rfl (v := nI 1) (by decide) (by decide) rfl ?_
          refine x_goto C (tgt := 11) dX7_guessBy_39 (by decide) ?_
          refine x_iload C dX7_guessBy_11 (q := 13) rfl 0 rfl ?_
          refine x_iconst C dX7_guessBy_13 (q := 14) rfl (v := nI 1) (by decide) ?_
          refine x_icmp_lt C (tgt := 42) dX7_guessBy_14 (by decide) (q := 17) rfl (a := 1) (b := 1) rfl rfl (fun h16 => (by omega : False).elim) (fun h16 => ?_)
          refine x_aload_n C dX7_guessBy_17 (q := 18) rfl rfl 2 rfl ?_
          refine x_get C (ci := 6) (v := .ref ba) hw0 0 rfl rfl 7 (by decide) hw1 rfl dX7_guessBy_18 (q := 21) rfl ?_
          refine x_iload C dX7_guessBy_21 (q := 23) rfl 0 rfl ?_
          have hb17 := hvt 1
          refine x_iald C (j := 1) (v := nI ((vtF ld cq (min bz lc)) 1)) 2 rfl rfl (by omega) rfl dX7_guessBy_23 (q := 24) rfl ?_
          refine x_aload_n C dX7_guessBy_24 (q := 25) rfl rfl 2 rfl ?_
          refine x_get C (ci := 6) (v := .ref ba) hw0 0 rfl rfl 7 (by decide) hw1 rfl dX7_guessBy_25 (q := 28) rfl ?_
          refine x_iload_n C dX7_guessBy_28 (q := 29) rfl rfl 1 rfl ?_
          have hb18 := hvt 2
          refine x_iald C (j := 2) (v := nI ((vtF ld cq (min bz lc)) 2)) 2 rfl rfl (by omega) rfl dX7_guessBy_29 (q := 30) rfl ?_
          refine x_icmp_le C (tgt := 36) dX7_guessBy_30 (by decide) (q := 33) rfl (a := (((vtF ld cq (min bz lc)) 1 : Nat) : Int)) (b := (((vtF ld cq (min bz lc)) 2 : Nat) : Int)) (nI_toInt (by omega)) (nI_toInt (by omega)) (fun h19 => ?_) (fun h19 => ?_)
          · first
            | (exfalso; omega)
            |
              refine x_iinc C (L' := [(4, .int (nI 0)), (3, .int (nI 2)), (0, .ref tb), (1, .int (nI cq)), (2, .int (nI bz))]) dX7_guessBy_36 (q := 39) rfl 0 rfl (v := nI 0) (by decide) (by decide) rfl ?_
              refine x_goto C (tgt := 11) dX7_guessBy_39 (by decide) ?_
              refine x_iload C dX7_guessBy_11 (q := 13) rfl 0 rfl ?_
              refine x_iconst C dX7_guessBy_13 (q := 14) rfl (v := nI 1) (by decide) ?_
              refine x_icmp_lt C (tgt := 42) dX7_guessBy_14 (by decide) (q := 17) rfl (a := 0) (b := 1) rfl rfl (fun h20 => ?_) (fun h20 => (by omega : False).elim)
              refine x_iload_n C dX7_guessBy_42 (q := 43) rfl rfl 1 rfl ?_
              refine x_iret C hA hQ hr dX7_guessBy_43 (Nat.le_of_ble_eq_true rfl) ?_
              exact ⟨by unfold gsS; repeat (first | rw [if_pos (by omega)] | rw [if_neg (by omega)]), rfl⟩
          · first
            | (exfalso; omega)
            |
              refine x_iload C dX7_guessBy_33 (q := 35) rfl 0 rfl ?_
              refine x_istore_n C (L' := [(3, .int (nI 1)), (4, .int (nI 1)), (0, .ref tb), (1, .int (nI cq)), (2, .int (nI bz))]) dX7_guessBy_35 (q := 36) rfl rfl (by decide) rfl ?_
              refine x_iinc C (L' := [(4, .int (nI 0)), (3, .int (nI 1)), (0, .ref tb), (1, .int (nI cq)), (2, .int (nI bz))]) dX7_guessBy_36 (q := 39) rfl 1 rfl (v := nI 0) (by decide) (by decide) rfl ?_
              refine x_goto C (tgt := 11) dX7_guessBy_39 (by decide) ?_
              refine x_iload C dX7_guessBy_11 (q := 13) rfl 0 rfl ?_
              refine x_iconst C dX7_guessBy_13 (q := 14) rfl (v := nI 1) (by decide) ?_
              refine x_icmp_lt C (tgt := 42) dX7_guessBy_14 (by decide) (q := 17) rfl (a := 0) (b := 1) rfl rfl (fun h21 => ?_) (fun h21 => (by omega : False).elim)
              refine x_iload_n C dX7_guessBy_42 (q := 43) rfl rfl 1 rfl ?_
              refine x_iret C hA hQ hr dX7_guessBy_43 (Nat.le_of_ble_eq_true rfl) ?_
              exact ⟨by unfold gsS; repeat (first | rw [if_pos (by omega)] | rw [if_neg (by omega)]), rfl⟩
  · first
    | (exfalso; omega)
    |
      refine x_iload C dX7_guessBy_33 (q := 35) rfl 0 rfl ?_
      refine x_istore_n C (L' := [(3, .int (nI 3)), (4, .int (nI 3)), (0, .ref tb), (1, .int (nI cq)), (2, .int (nI bz))]) dX7_guessBy_35 (q := 36) rfl rfl (by decide) rfl ?_
      refine x_iinc C (L' := [(4, .int (nI 2)), (3, .int (nI 3)), (0, .ref tb), (1, .int (nI cq)), (2, .int (nI bz))]) dX7_guessBy_36 (q := 39) rfl 1 rfl (v := nI 2) (by decide) (by decide) rfl ?_
      refine x_goto C (tgt := 11) dX7_guessBy_39 (by decide) ?_
      refine x_iload C dX7_guessBy_11 (q := 13) rfl 0 rfl ?_
      refine x_iconst C dX7_guessBy_13 (q := 14) rfl (v := nI 1) (by decide) ?_
      refine x_icmp_lt C (tgt := 42) dX7_guessBy_14 (by decide) (q := 17) rfl (a := 2) (b := 1) rfl rfl (fun h22 => (by omega : False).elim) (fun h22 => ?_)
      refine x_aload_n C dX7_guessBy_17 (q := 18) rfl rfl 2 rfl ?_
      refine x_get C (ci := 6) (v := .ref ba) hw0 0 rfl rfl 7 (by decide) hw1 rfl dX7_guessBy_18 (q := 21) rfl ?_
      refine x_iload C dX7_guessBy_21 (q := 23) rfl 0 rfl ?_
      have hb23 := hvt 2
      refine x_iald C (j := 2) (v := nI ((vtF ld cq (min bz lc)) 2)) 2 rfl rfl (by omega) rfl dX7_guessBy_23 (q := 24) rfl ?_
      refine x_aload_n C dX7_guessBy_24 (q := 25) rfl rfl 2 rfl ?_
      refine x_get C (ci := 6) (v := .ref ba) hw0 0 rfl rfl 7 (by decide) hw1 rfl dX7_guessBy_25 (q := 28) rfl ?_
      refine x_iload_n C dX7_guessBy_28 (q := 29) rfl rfl 1 rfl ?_
      have hb24 := hvt 3
      refine x_iald C (j := 3) (v := nI ((vtF ld cq (min bz lc)) 3)) 2 rfl rfl (by omega) rfl dX7_guessBy_29 (q := 30) rfl ?_
      refine x_icmp_le C (tgt := 36) dX7_guessBy_30 (by decide) (q := 33) rfl (a := (((vtF ld cq (min bz lc)) 2 : Nat) : Int)) (b := (((vtF ld cq (min bz lc)) 3 : Nat) : Int)) (nI_toInt (by omega)) (nI_toInt (by omega)) (fun h25 => ?_) (fun h25 => ?_)
      · first
        | (exfalso; omega)
        |
          refine x_iinc C (L' := [(4, .int (nI 1)), (3, .int (nI 3)), (0, .ref tb), (1, .int (nI cq)), (2, .int (nI bz))]) dX7_guessBy_36 (q := 39) rfl 0 rfl (v := nI 1) (by decide) (by decide) rfl ?_
          refine x_goto C (tgt := 11) dX7_guessBy_39 (by decide) ?_
          refine x_iload C dX7_guessBy_11 (q := 13) rfl 0 rfl ?_
          refine x_iconst C dX7_guessBy_13 (q := 14) rfl (v := nI 1) (by decide) ?_
          refine x_icmp_lt C (tgt := 42) dX7_guessBy_14 (by decide) (q := 17) rfl (a := 1) (b := 1) rfl rfl (fun h26 => (by omega : False).elim) (fun h26 => ?_)
          refine x_aload_n C dX7_guessBy_17 (q := 18) rfl rfl 2 rfl ?_
          refine x_get C (ci := 6) (v := .ref ba) hw0 0 rfl rfl 7 (by decide) hw1 rfl dX7_guessBy_18 (q := 21) rfl ?_
          refine x_iload C dX7_guessBy_21 (q := 23) rfl 0 rfl ?_
          have hb27 := hvt 1
          refine x_iald C (j := 1) (v := nI ((vtF ld cq (min bz lc)) 1)) 2 rfl rfl (by omega) rfl dX7_guessBy_23 (q := 24) rfl ?_
          refine x_aload_n C dX7_guessBy_24 (q := 25) rfl rfl 2 rfl ?_
          refine x_get C (ci := 6) (v := .ref ba) hw0 0 rfl rfl 7 (by decide) hw1 rfl dX7_guessBy_25 (q := 28) rfl ?_
          refine x_iload_n C dX7_guessBy_28 (q := 29) rfl rfl 1 rfl ?_
          have hb28 := hvt 3
          refine x_iald C (j := 3) (v := nI ((vtF ld cq (min bz lc)) 3)) 2 rfl rfl (by omega) rfl dX7_guessBy_29 (q := 30) rfl ?_
          refine x_icmp_le C (tgt := 36) dX7_guessBy_30 (by decide) (q := 33) rfl (a := (((vtF ld cq (min bz lc)) 1 : Nat) : Int)) (b := (((vtF ld cq (min bz lc)) 3 : Nat) : Int)) (nI_toInt (by omega)) (nI_toInt (by omega)) (fun h29 => ?_) (fun h29 => ?_)
          · first
            | (exfalso; omega)
            |
              refine x_iinc C (L' := [(4, .int (nI 0)), (3, .int (nI 3)), (0, .ref tb), (1, .int (nI cq)), (2, .int (nI bz))]) dX7_guessBy_36 (q := 39) rfl 0 rfl (v := nI 0) (by decide) (by decide) rfl ?_
              refine x_goto C (tgt := 11) dX7_guessBy_39 (by decide) ?_
              refine x_iload C dX7_guessBy_11 (q := 13) rfl 0 rfl ?_
              refine x_iconst C dX7_guessBy_13 (q := 14) rfl (v := nI 1) (by decide) ?_
              refine x_icmp_lt C (tgt := 42) dX7_guessBy_14 (by decide) (q := 17) rfl (a := 0) (b := 1) rfl rfl (fun h30 => ?_) (fun h30 => (by omega : False).elim)
              refine x_iload_n C dX7_guessBy_42 (q := 43) rfl rfl 1 rfl ?_
              refine x_iret C hA hQ hr dX7_guessBy_43 (Nat.le_of_ble_eq_true rfl) ?_
              exact ⟨by unfold gsS; repeat (first | rw [if_pos (by omega)] | rw [if_neg (by omega)]), rfl⟩
          · first
            | (exfalso; omega)
            |
              refine x_iload C dX7_guessBy_33 (q := 35) rfl 0 rfl ?_
              refine x_istore_n C (L' := [(3, .int (nI 1)), (4, .int (nI 1)), (0, .ref tb), (1, .int (nI cq)), (2, .int (nI bz))]) dX7_guessBy_35 (q := 36) rfl rfl (by decide) rfl ?_
              refine x_iinc C (L' := [(4, .int (nI 0)), (3, .int (nI 1)), (0, .ref tb), (1, .int (nI cq)), (2, .int (nI bz))]) dX7_guessBy_36 (q := 39) rfl 1 rfl (v := nI 0) (by decide) (by decide) rfl ?_
              refine x_goto C (tgt := 11) dX7_guessBy_39 (by decide) ?_
              refine x_iload C dX7_guessBy_11 (q := 13) rfl 0 rfl ?_
              refine x_iconst C dX7_guessBy_13 (q := 14) rfl (v := nI 1) (by decide) ?_
              refine x_icmp_lt C (tgt := 42) dX7_guessBy_14 (by decide) (q := 17) rfl (a := 0) (b := 1) rfl rfl (fun h31 => ?_) (fun h31 => (by omega : False).elim)
              refine x_iload_n C dX7_guessBy_42 (q := 43) rfl rfl 1 rfl ?_
              refine x_iret C hA hQ hr dX7_guessBy_43 (Nat.le_of_ble_eq_true rfl) ?_
              exact ⟨by unfold gsS; repeat (first | rw [if_pos (by omega)] | rw [if_neg (by omega)]), rfl⟩
      · first
        | (exfalso; omega)
        |
          refine x_iload C dX7_guessBy_33 (q := 35) rfl 0 rfl ?_
          refine x_istore_n C (L' := [(3, .int (nI 2)), (4, .int (nI 2)), (0, .ref tb), (1, .int (nI cq)), (2, .int (nI bz))]) dX7_guessBy_35 (q := 36) rfl rfl (by decide) rfl ?_
          refine x_iinc C (L' := [(4, .int (nI 1)), (3, .int (nI 2)), (0, .ref tb), (1, .int (nI cq)), (2, .int (nI bz))]) dX7_guessBy_36 (q := 39) rfl 1 rfl (v := nI 1) (by decide) (by decide) rfl ?_
          refine x_goto C (tgt := 11) dX7_guessBy_39 (by decide) ?_
          refine x_iload C dX7_guessBy_11 (q := 13) rfl 0 rfl ?_
          refine x_iconst C dX7_guessBy_13 (q := 14) rfl (v := nI 1) (by decide) ?_
          refine x_icmp_lt C (tgt := 42) dX7_guessBy_14 (by decide) (q := 17) rfl (a := 1) (b := 1) rfl rfl (fun h32 => (by omega : False).elim) (fun h32 => ?_)
          refine x_aload_n C dX7_guessBy_17 (q := 18) rfl rfl 2 rfl ?_
          refine x_get C (ci := 6) (v := .ref ba) hw0 0 rfl rfl 7 (by decide) hw1 rfl dX7_guessBy_18 (q := 21) rfl ?_
          refine x_iload C dX7_guessBy_21 (q := 23) rfl 0 rfl ?_
          have hb33 := hvt 1
          refine x_iald C (j := 1) (v := nI ((vtF ld cq (min bz lc)) 1)) 2 rfl rfl (by omega) rfl dX7_guessBy_23 (q := 24) rfl ?_
          refine x_aload_n C dX7_guessBy_24 (q := 25) rfl rfl 2 rfl ?_
          refine x_get C (ci := 6) (v := .ref ba) hw0 0 rfl rfl 7 (by decide) hw1 rfl dX7_guessBy_25 (q := 28) rfl ?_
          refine x_iload_n C dX7_guessBy_28 (q := 29) rfl rfl 1 rfl ?_
          have hb34 := hvt 2
          refine x_iald C (j := 2) (v := nI ((vtF ld cq (min bz lc)) 2)) 2 rfl rfl (by omega) rfl dX7_guessBy_29 (q := 30) rfl ?_
          refine x_icmp_le C (tgt := 36) dX7_guessBy_30 (by decide) (q := 33) rfl (a := (((vtF ld cq (min bz lc)) 1 : Nat) : Int)) (b := (((vtF ld cq (min bz lc)) 2 : Nat) : Int)) (nI_toInt (by omega)) (nI_toInt (by omega)) (fun h35 => ?_) (fun h35 => ?_)
          · first
            | (exfalso; omega)
            |
              refine x_iinc C (L' := [(4, .int (nI 0)), (3, .int (nI 2)), (0, .ref tb), (1, .int (nI cq)), (2, .int (nI bz))]) dX7_guessBy_36 (q := 39) rfl 0 rfl (v := nI 0) (by decide) (by decide) rfl ?_
              refine x_goto C (tgt := 11) dX7_guessBy_39 (by decide) ?_
              refine x_iload C dX7_guessBy_11 (q := 13) rfl 0 rfl ?_
              refine x_iconst C dX7_guessBy_13 (q := 14) rfl (v := nI 1) (by decide) ?_
              refine x_icmp_lt C (tgt := 42) dX7_guessBy_14 (by decide) (q := 17) rfl (a := 0) (b := 1) rfl rfl (fun h36 => ?_) (fun h36 => (by omega : False).elim)
              refine x_iload_n C dX7_guessBy_42 (q := 43) rfl rfl 1 rfl ?_
              refine x_iret C hA hQ hr dX7_guessBy_43 (Nat.le_of_ble_eq_true rfl) ?_
              exact ⟨by unfold gsS; repeat (first | rw [if_pos (by omega)] | rw [if_neg (by omega)]), rfl⟩
          · first
            | (exfalso; omega)
            |
              refine x_iload C dX7_guessBy_33 (q := 35) rfl 0 rfl ?_
              refine x_istore_n C (L' := [(3, .int (nI 1)), (4, .int (nI 1)), (0, .ref tb), (1, .int (nI cq)), (2, .int (nI bz))]) dX7_guessBy_35 (q := 36) rfl rfl (by decide) rfl ?_
              refine x_iinc C (L' := [(4, .int (nI 0)), (3, .int (nI 1)), (0, .ref tb), (1, .int (nI cq)), (2, .int (nI bz))]) dX7_guessBy_36 (q := 39) rfl 1 rfl (v := nI 0) (by decide) (by decide) rfl ?_
              refine x_goto C (tgt := 11) dX7_guessBy_39 (by decide) ?_
              refine x_iload C dX7_guessBy_11 (q := 13) rfl 0 rfl ?_
              refine x_iconst C dX7_guessBy_13 (q := 14) rfl (v := nI 1) (by decide) ?_
              refine x_icmp_lt C (tgt := 42) dX7_guessBy_14 (by decide) (q := 17) rfl (a := 0) (b := 1) rfl rfl (fun h37 => ?_) (fun h37 => (by omega : False).elim)
              refine x_iload_n C dX7_guessBy_42 (q := 43) rfl rfl 1 rfl ?_
              refine x_iret C hA hQ hr dX7_guessBy_43 (Nat.le_of_ble_eq_true rfl) ?_
              exact ⟨by unfold gsS; repeat (first | rw [if_pos (by omega)] | rw [if_neg (by omega)]), rfl⟩

set_option maxHeartbeats 4000000 in
set_option maxRecDepth 100000 in
/-- Table.votesFor -/
theorem c_X7_votesFor (l : Launch) (D : va_G) (cy : Nat → ClassId) (tb : Nat) (nz : Nat) (tl : Nat) (pg : Nat) (se : Nat) (pa : Nat) (bo : Nat) (li : Nat) (ba : Nat) (cols : Nat) (lc : Nat) (smp : Nat) (lnf : Nat → Option Nat) (bal : Nat → Nat) (ld : LD) (pl : va_W) (cq : Nat) (fq : Nat) (bz : Nat) (hcols : cols ≤ 5) (hlc : lc ≤ 24) (hTL : TbL cy pl lc lnf ld) (hfm : ∀ k i, dFm ld k i ≤ 4) (hcq : cq < 5) (hfq : fq ≤ 4) (hbz : bz ≤ 24) : xMet l D cy xT yX7_votesFor wsX7_votesFor ({ frames := 4, cells := 0, slots := 0, locals := 400 } : Room) [.ref tb, .int (nI cq), .int (nI fq), .int (nI bz)] [(tb, .inr (6, [.ref nz, .ref tl, .ref pg, .ref se, .ref pa, .ref bo, .ref li, .ref ba, .int (nI cols), .int (nI lc), .int (nI smp)])), (li, .inl (cy 4, 24, .inr (.inr (.inr (.inr lnf))))), (ba, .inl (cy 1, 5, .inl (fun k => nI (bal k))))] pl (fun (v9 : Option Value) (w9 : va_W) => (v9 = some (.int (nI (vtF ld cq (min bz lc) fq))) ∧ w9 = [(tb, .inr (6, [.ref nz, .ref tl, .ref pg, .ref se, .ref pa, .ref bo, .ref li, .ref ba, .int (nI cols), .int (nI lc), .int (nI smp)])), (li, .inl (cy 4, 24, .inr (.inr (.inr (.inr lnf))))), (ba, .inl (cy 1, 5, .inl (fun k => nI ((vtF ld cq (min bz lc)) k))))])) := by
  refine xMet_of (cc := cX7_votesFor) (maxL := 4) (ret := (some .int)) (by decide) rfl (Nat.le_of_ble_eq_true rfl) (fun p e s m args below meth c A R Q hA hR hQ C hr hnm hro hX => ?_)
  have hw0 : ∀ w ∈ u_ws RX7 TX7 11, w ∈ wsX7_votesFor := by decide +kernel
  have hw1 : Cond.fieldLink RX7 46 (TX7 7).1 (TX7 7).2.1 (TX7 7).2.2.1 ∈ wsX7_votesFor := by decide +kernel
  refine x_L (L' := [(0, .ref tb), (1, .int (nI cq)), (2, .int (nI fq)), (3, .int (nI bz))]) [0, 1, 2, 3] rfl ?_
  have hpool : ∀ q ∈ pl, xRo D A s q := hro
  have hvt := vtF_le ld cq (min bz lc) (by omega)
  refine x_aload_n C dX7_votesFor_0 (q := 1) rfl rfl 0 rfl ?_
  refine x_iload_n C dX7_votesFor_1 (q := 2) rfl rfl 1 rfl ?_
  refine x_iload_n C dX7_votesFor_2 (q := 3) rfl rfl 3 rfl ?_
  refine x_callV C (roW := []) (roR := pl) (c_X7_countForms l D cy tb nz tl pg se pa bo li ba cols lc smp lnf bal ld pl cq bz (by first | assumption | omega | (simp only []; omega)) (by first | assumption | omega | (simp only []; omega)) (by assumption) (by assumption) (by first | assumption | omega | (simp only []; omega)) (by first | assumption | omega | (simp only []; omega))) (cwV 2 C.2.2.2.2.1 gX7_votesFor_X7_countForms rfl rfl rfl (by decide +kernel) (by rw [hR]; exact ⟨Nat.le_of_ble_eq_true rfl, Nat.le_of_ble_eq_true rfl⟩)) [0, 1, 2] [] rfl (by decide) rfl (by decide) hpool (List.mem_of_getElem? (i := 0) rfl) (ci := 6) rfl xT_bl (fun _ _ _ _ _ _ _ => trivial) rfl rfl dX7_votesFor_3 rfl rfl (Nat.le_of_ble_eq_true rfl) (q := 6) rfl (k' := 0) rfl (n' := 0) rfl (by rw [hR]; exact ⟨Nat.le_of_ble_eq_true rfl, Nat.le_of_ble_eq_true rfl⟩) (fun v1 w1 hp1 => ?_)
  obtain ⟨rfl, rfl⟩ := hp1
  refine x_ws (ws' := [(tb, .inr (6, [.ref nz, .ref tl, .ref pg, .ref se, .ref pa, .ref bo, .ref li, .ref ba, .int (nI cols), .int (nI lc), .int (nI smp)])), (li, .inl (cy 4, 24, .inr (.inr (.inr (.inr lnf))))), (ba, .inl (cy 1, 5, .inl (fun k => nI ((vtF ld cq (min bz lc)) k))))]) rfl ?_
  refine x_iload_n C dX7_votesFor_6 (q := 7) rfl rfl 2 rfl ?_
  refine x_if_lt C (tgt := 28) dX7_votesFor_7 (by decide) (q := 10) rfl (a := ((fq : Nat) : Int)) (nI_toInt (by omega)) (fun h2 => ?_) (fun h2 => ?_)
  · first
    | (exfalso; omega)
    |
      refine x_iconst C dX7_votesFor_28 (q := 29) rfl (v := nI 0) (by decide) ?_
      refine x_iret C hA hQ hr dX7_votesFor_29 (Nat.le_of_ble_eq_true rfl) ?_
      exact ⟨rfl, rfl⟩
  · first
    | (exfalso; omega)
    |
      refine x_iload_n C dX7_votesFor_10 (q := 11) rfl rfl 2 rfl ?_
      refine x_aload_n C dX7_votesFor_11 (q := 12) rfl rfl 0 rfl ?_
      refine x_get C (ci := 6) (v := .ref ba) hw0 0 rfl rfl 7 (by decide) hw1 rfl dX7_votesFor_12 (q := 15) rfl ?_
      refine x_alen C 2 1 rfl rfl (v := nI 5) rfl dX7_votesFor_15 (q := 16) rfl ?_
      refine x_icmp_ge C (tgt := 28) dX7_votesFor_16 (by decide) (q := 19) rfl (a := ((fq : Nat) : Int)) (b := 5) (nI_toInt (by omega)) rfl (fun h3 => ?_) (fun h3 => ?_)
      · first
        | (exfalso; omega)
        |
          refine x_iconst C dX7_votesFor_28 (q := 29) rfl (v := nI 0) (by decide) ?_
          refine x_iret C hA hQ hr dX7_votesFor_29 (Nat.le_of_ble_eq_true rfl) ?_
          exact ⟨rfl, rfl⟩
      · first
        | (exfalso; omega)
        |
          refine x_aload_n C dX7_votesFor_19 (q := 20) rfl rfl 0 rfl ?_
          refine x_get C (ci := 6) (v := .ref ba) hw0 0 rfl rfl 7 (by decide) hw1 rfl dX7_votesFor_20 (q := 23) rfl ?_
          refine x_iload_n C dX7_votesFor_23 (q := 24) rfl rfl 2 rfl ?_
          have hb4 := hvt fq
          refine x_iald C (j := fq) (v := nI ((vtF ld cq (min bz lc)) fq)) 2 rfl (nI_toInt (by omega)) (by omega) rfl dX7_votesFor_24 (q := 25) rfl ?_
          refine x_goto C (tgt := 29) dX7_votesFor_25 (by decide) ?_
          refine x_iret C hA hQ hr dX7_votesFor_29 (Nat.le_of_ble_eq_true rfl) ?_
          exact ⟨rfl, rfl⟩

set_option maxHeartbeats 4000000 in
set_option maxRecDepth 100000 in
/-- Table.toldOrGuess -/
theorem c_X7_toldOrGuess (l : Launch) (D : va_G) (cy : Nat → ClassId) (tb : Nat) (nz : Nat) (tl : Nat) (pg : Nat) (se : Nat) (pa : Nat) (bo : Nat) (li : Nat) (ba : Nat) (cols : Nat) (lc : Nat) (smp : Nat) (tlf : Nat → Nat) (lnf : Nat → Option Nat) (bal : Nat → Nat) (ld : LD) (pl : va_W) (cq : Nat) (bz : Nat) (hcols : cols ≤ 5) (hlc : lc ≤ 24) (hTL : TbL cy pl lc lnf ld) (hfm : ∀ k i, dFm ld k i ≤ 4) (htl : ∀ k, tlf k ≤ 4) (hcq : cq < cols) (hbz : bz ≤ 24) : xMet l D cy xT yX7_toldOrGuess wsX7_toldOrGuess ({ frames := 5, cells := 0, slots := 0, locals := 500 } : Room) [.ref tb, .int (nI cq), .int (nI bz)] [(tb, .inr (6, [.ref nz, .ref tl, .ref pg, .ref se, .ref pa, .ref bo, .ref li, .ref ba, .int (nI cols), .int (nI lc), .int (nI smp)])), (tl, .inl (cy 1, 5, .inl (fun k => nI (tlf k)))), (li, .inl (cy 4, 24, .inr (.inr (.inr (.inr lnf))))), (ba, .inl (cy 1, 5, .inl (fun k => nI (bal k))))] pl (fun (v9 : Option Value) (w9 : va_W) => (∃ b2 : Nat → Nat, v9 = some (.int (nI (tgS tlf ld cq (min bz lc)))) ∧ w9 = [(tb, .inr (6, [.ref nz, .ref tl, .ref pg, .ref se, .ref pa, .ref bo, .ref li, .ref ba, .int (nI cols), .int (nI lc), .int (nI smp)])), (tl, .inl (cy 1, 5, .inl (fun k => nI (tlf k)))), (li, .inl (cy 4, 24, .inr (.inr (.inr (.inr lnf))))), (ba, .inl (cy 1, 5, .inl (fun k => nI (b2 k))))])) := by
  refine xMet_of (cc := cX7_toldOrGuess) (maxL := 3) (ret := (some .int)) (by decide) rfl (Nat.le_of_ble_eq_true rfl) (fun p e s m args below meth c A R Q hA hR hQ C hr hnm hro hX => ?_)
  have hw0 : ∀ w ∈ u_ws RX7 TX7 11, w ∈ wsX7_toldOrGuess := by decide +kernel
  have hw1 : Cond.fieldLink RX7 15 (TX7 1).1 (TX7 1).2.1 (TX7 1).2.2.1 ∈ wsX7_toldOrGuess := by decide +kernel
  refine x_L (L' := [(0, .ref tb), (1, .int (nI cq)), (2, .int (nI bz))]) [0, 1, 2] rfl ?_
  have hpool : ∀ q ∈ pl, xRo D A s q := hro
  refine x_aload_n C dX7_toldOrGuess_0 (q := 1) rfl rfl 0 rfl ?_
  refine x_iload_n C dX7_toldOrGuess_1 (q := 2) rfl rfl 1 rfl ?_
  refine x_callV C (roW := [(tb, .inr (6, [.ref nz, .ref tl, .ref pg, .ref se, .ref pa, .ref bo, .ref li, .ref ba, .int (nI cols), .int (nI lc), .int (nI smp)]))]) (roR := []) (c_X7_hasColumn_n l D cy tb nz tl pg se pa bo li ba cols lc smp cq (by first | assumption | omega | (simp only []; omega)) (by first | assumption | omega | (simp only []; omega)) (by first | assumption | omega | (simp only []; omega))) (cwV 1 C.2.2.2.2.1 gX7_toldOrGuess_X7_hasColumn rfl rfl rfl (by decide +kernel) (by rw [hR]; exact ⟨Nat.le_of_ble_eq_true rfl, Nat.le_of_ble_eq_true rfl⟩)) [] [0] rfl (by decide) rfl (by decide) xro_nil (List.mem_of_getElem? (i := 0) rfl) (ci := 6) rfl xT_bl (fun _ _ _ _ _ _ _ => trivial) rfl rfl dX7_toldOrGuess_2 rfl rfl (Nat.le_of_ble_eq_true rfl) (q := 5) rfl (k' := 0) rfl (n' := 0) rfl (by rw [hR]; exact ⟨Nat.le_of_ble_eq_true rfl, Nat.le_of_ble_eq_true rfl⟩) (fun v1 w1 hp1 => ?_)
  rcases hp1 with hp1 | hp1
  · skip
    obtain ⟨rfl, rfl, hc2⟩ := hp1
    refine x_ws (ws' := [(tb, .inr (6, [.ref nz, .ref tl, .ref pg, .ref se, .ref pa, .ref bo, .ref li, .ref ba, .int (nI cols), .int (nI lc), .int (nI smp)])), (tl, .inl (cy 1, 5, .inl (fun k => nI (tlf k)))), (li, .inl (cy 4, 24, .inr (.inr (.inr (.inr lnf))))), (ba, .inl (cy 1, 5, .inl (fun k => nI (bal k))))]) (List.append_nil _) ?_
    refine x_if_ne C (tgt := 10) dX7_toldOrGuess_5 (by decide) (q := 8) rfl (a := 1) rfl (fun h3 => ?_) (fun h3 => (by omega : False).elim)
    refine x_aload_n C dX7_toldOrGuess_10 (q := 11) rfl rfl 0 rfl ?_
    refine x_get C (ci := 6) (v := .ref tl) hw0 0 rfl rfl 1 (by decide) hw1 rfl dX7_toldOrGuess_11 (q := 14) rfl ?_
    refine x_iload_n C dX7_toldOrGuess_14 (q := 15) rfl rfl 1 rfl ?_
    have hb4 := htl cq
    refine x_iald C (j := cq) (v := nI (tlf cq)) 1 rfl (nI_toInt (by omega)) (by omega) rfl dX7_toldOrGuess_15 (q := 16) rfl ?_
    refine x_if_eq C (tgt := 28) dX7_toldOrGuess_16 (by decide) (q := 19) rfl (a := ((tlf cq : Nat) : Int)) (nI_toInt (by omega)) (fun h5 => ?_) (fun h5 => ?_)
    · first
      | (exfalso; omega)
      |
        refine x_aload_n C dX7_toldOrGuess_28 (q := 29) rfl rfl 0 rfl ?_
        refine x_iload_n C dX7_toldOrGuess_29 (q := 30) rfl rfl 1 rfl ?_
        refine x_iload_n C dX7_toldOrGuess_30 (q := 31) rfl rfl 2 rfl ?_
        refine x_callV C (roW := []) (roR := pl) (c_X7_guessBy l D cy tb nz tl pg se pa bo li ba cols lc smp lnf bal ld pl cq bz (by first | assumption | omega | (simp only []; omega)) (by first | assumption | omega | (simp only []; omega)) (by assumption) (by assumption) (by first | assumption | omega | (simp only []; omega)) (by first | assumption | omega | (simp only []; omega))) (cwV 2 C.2.2.2.2.1 gX7_toldOrGuess_X7_guessBy rfl rfl rfl (by decide +kernel) (by rw [hR]; exact ⟨Nat.le_of_ble_eq_true rfl, Nat.le_of_ble_eq_true rfl⟩)) [0, 2, 3] [] rfl (by decide) rfl (by decide) hpool (List.mem_of_getElem? (i := 0) rfl) (ci := 6) rfl xT_bl (fun _ _ _ _ _ _ _ => trivial) rfl rfl dX7_toldOrGuess_31 rfl rfl (Nat.le_of_ble_eq_true rfl) (q := 34) rfl (k' := 0) rfl (n' := 0) rfl (by rw [hR]; exact ⟨Nat.le_of_ble_eq_true rfl, Nat.le_of_ble_eq_true rfl⟩) (fun v6 w6 hp6 => ?_)
        obtain ⟨rfl, rfl⟩ := hp6
        refine x_ws (ws' := [(tb, .inr (6, [.ref nz, .ref tl, .ref pg, .ref se, .ref pa, .ref bo, .ref li, .ref ba, .int (nI cols), .int (nI lc), .int (nI smp)])), (tl, .inl (cy 1, 5, .inl (fun k => nI (tlf k)))), (li, .inl (cy 4, 24, .inr (.inr (.inr (.inr lnf))))), (ba, .inl (cy 1, 5, .inl (fun k => nI ((vtF ld cq (min bz lc)) k))))]) rfl ?_
        refine x_iret C hA hQ hr dX7_toldOrGuess_34 (Nat.le_of_ble_eq_true rfl) ?_
        first | exact ⟨_, by unfold tgS; rw [if_pos (by omega)], rfl⟩ | exact ⟨_, by unfold tgS; rw [if_neg (by omega)], rfl⟩
    · first
      | (exfalso; omega)
      |
        refine x_aload_n C dX7_toldOrGuess_19 (q := 20) rfl rfl 0 rfl ?_
        refine x_get C (ci := 6) (v := .ref tl) hw0 0 rfl rfl 1 (by decide) hw1 rfl dX7_toldOrGuess_20 (q := 23) rfl ?_
        refine x_iload_n C dX7_toldOrGuess_23 (q := 24) rfl rfl 1 rfl ?_
        have hb7 := htl cq
        refine x_iald C (j := cq) (v := nI (tlf cq)) 1 rfl (nI_toInt (by omega)) (by omega) rfl dX7_toldOrGuess_24 (q := 25) rfl ?_
        refine x_goto C (tgt := 34) dX7_toldOrGuess_25 (by decide) ?_
        refine x_iret C hA hQ hr dX7_toldOrGuess_34 (Nat.le_of_ble_eq_true rfl) ?_
        first | exact ⟨_, by unfold tgS; rw [if_pos (by omega)], rfl⟩ | exact ⟨_, by unfold tgS; rw [if_neg (by omega)], rfl⟩
  · exfalso; obtain ⟨_, _, hc8⟩ := hp1; omega

set_option maxHeartbeats 4000000 in
set_option maxRecDepth 100000 in
/-- Table.typeOf -/
theorem c_X7_typeOf (l : Launch) (D : va_G) (cy : Nat → ClassId) (tb : Nat) (nz : Nat) (tl : Nat) (pg : Nat) (se : Nat) (pa : Nat) (bo : Nat) (li : Nat) (ba : Nat) (cols : Nat) (lc : Nat) (smp : Nat) (tlf : Nat → Nat) (lnf : Nat → Option Nat) (bal : Nat → Nat) (a0 : Nat) (a1 : Nat) (a2 : Nat) (a3 : Nat) (a4 : Nat) (a5 : Nat) (mk : Nat) (rs : Nat) (ky : Int32) (st : Nat → Nat) (ld : LD) (pl : va_W) (cq : Nat) (hcols : cols ≤ 5) (hlc : lc ≤ 24) (hTL : TbL cy pl lc lnf ld) (hfm : ∀ k i, dFm ld k i ≤ 4) (htl : ∀ k, tlf k ≤ 4) (hcq : cq < cols) (hsmp : smp ≤ 24) (hst : ∀ k, st k ≤ 4) : xMet l D cy xT yX7_typeOf wsX7_typeOf ({ frames := 6, cells := 0, slots := 0, locals := 600 } : Room) [.ref tb, .int (nI cq)] [(tb, .inr (6, [.ref nz, .ref tl, .ref pg, .ref se, .ref pa, .ref bo, .ref li, .ref ba, .int (nI cols), .int (nI lc), .int (nI smp)])), (tl, .inl (cy 1, 5, .inl (fun k => nI (tlf k)))), (li, .inl (cy 4, 24, .inr (.inr (.inr (.inr lnf))))), (ba, .inl (cy 1, 5, .inl (fun k => nI (bal k)))), (pg, .inr (4, [.ref a0, .ref a1, .ref a2, .ref a3, .ref a4, .ref a5, .int (nI mk), .int (nI rs), .int (ky)])), (a0, .inl (cy 1, 5, .inl (fun k => nI (st k))))] pl (fun (v9 : Option Value) (w9 : va_W) => (∃ b2 : Nat → Nat, v9 = some (.int (nI (tyS st tlf ld cq (min smp lc)))) ∧ w9 = [(tb, .inr (6, [.ref nz, .ref tl, .ref pg, .ref se, .ref pa, .ref bo, .ref li, .ref ba, .int (nI cols), .int (nI lc), .int (nI smp)])), (tl, .inl (cy 1, 5, .inl (fun k => nI (tlf k)))), (li, .inl (cy 4, 24, .inr (.inr (.inr (.inr lnf))))), (ba, .inl (cy 1, 5, .inl (fun k => nI (b2 k)))), (pg, .inr (4, [.ref a0, .ref a1, .ref a2, .ref a3, .ref a4, .ref a5, .int (nI mk), .int (nI rs), .int (ky)])), (a0, .inl (cy 1, 5, .inl (fun k => nI (st k))))])) := by
  refine xMet_of (cc := cX7_typeOf) (maxL := 3) (ret := (some .int)) (by decide) rfl (Nat.le_of_ble_eq_true rfl) (fun p e s m args below meth c A R Q hA hR hQ C hr hnm hro hX => ?_)
  have hw0 : ∀ w ∈ u_ws RX7 TX7 11, w ∈ wsX7_typeOf := by decide +kernel
  have hw1 : Cond.fieldLink RX7 21 (TX7 2).1 (TX7 2).2.1 (TX7 2).2.2.1 ∈ wsX7_typeOf := by decide +kernel
  have hw2 : ∀ w ∈ u_ws RX5 TX5 9, w ∈ wsX7_typeOf := by decide +kernel
  have hw3 : Cond.fieldLink RX7 100 (TX5 0).1 (TX5 0).2.1 (TX5 0).2.2.1 ∈ wsX7_typeOf := by decide +kernel
  have hw4 : Cond.fieldLink RX7 56 (TX7 10).1 (TX7 10).2.1 (TX7 10).2.2.1 ∈ wsX7_typeOf := by decide +kernel
  refine x_L (L' := [(0, .ref tb), (1, .int (nI cq))]) [0, 1] rfl ?_
  have hpool : ∀ q ∈ pl, xRo D A s q := hro
  refine x_aload_n C dX7_typeOf_0 (q := 1) rfl rfl 0 rfl ?_
  refine x_iload_n C dX7_typeOf_1 (q := 2) rfl rfl 1 rfl ?_
  refine x_callV C (roW := [(tb, .inr (6, [.ref nz, .ref tl, .ref pg, .ref se, .ref pa, .ref bo, .ref li, .ref ba, .int (nI cols), .int (nI lc), .int (nI smp)]))]) (roR := []) (c_X7_hasColumn_n l D cy tb nz tl pg se pa bo li ba cols lc smp cq (by first | assumption | omega | (simp only []; omega)) (by first | assumption | omega | (simp only []; omega)) (by first | assumption | omega | (simp only []; omega))) (cwV 1 C.2.2.2.2.1 gX7_typeOf_X7_hasColumn rfl rfl rfl (by decide +kernel) (by rw [hR]; exact ⟨Nat.le_of_ble_eq_true rfl, Nat.le_of_ble_eq_true rfl⟩)) [] [0] rfl (by decide) rfl (by decide) xro_nil (List.mem_of_getElem? (i := 0) rfl) (ci := 6) rfl xT_bl (fun _ _ _ _ _ _ _ => trivial) rfl rfl dX7_typeOf_2 rfl rfl (Nat.le_of_ble_eq_true rfl) (q := 5) rfl (k' := 0) rfl (n' := 0) rfl (by rw [hR]; exact ⟨Nat.le_of_ble_eq_true rfl, Nat.le_of_ble_eq_true rfl⟩) (fun v1 w1 hp1 => ?_)
  rcases hp1 with hp1 | hp1
  · skip
    obtain ⟨rfl, rfl, hc2⟩ := hp1
    refine x_ws (ws' := [(tb, .inr (6, [.ref nz, .ref tl, .ref pg, .ref se, .ref pa, .ref bo, .ref li, .ref ba, .int (nI cols), .int (nI lc), .int (nI smp)])), (tl, .inl (cy 1, 5, .inl (fun k => nI (tlf k)))), (li, .inl (cy 4, 24, .inr (.inr (.inr (.inr lnf))))), (ba, .inl (cy 1, 5, .inl (fun k => nI (bal k)))), (pg, .inr (4, [.ref a0, .ref a1, .ref a2, .ref a3, .ref a4, .ref a5, .int (nI mk), .int (nI rs), .int (ky)])), (a0, .inl (cy 1, 5, .inl (fun k => nI (st k))))]) (List.append_nil _) ?_
    refine x_if_ne C (tgt := 10) dX7_typeOf_5 (by decide) (q := 8) rfl (a := 1) rfl (fun h3 => ?_) (fun h3 => (by omega : False).elim)
    refine x_aload_n C dX7_typeOf_10 (q := 11) rfl rfl 0 rfl ?_
    refine x_get C (ci := 6) (v := .ref pg) hw0 0 rfl rfl 2 (by decide) hw1 rfl dX7_typeOf_11 (q := 14) rfl ?_
    refine x_get C (ci := 4) (v := .ref a0) hw2 4 rfl rfl 0 (by decide) hw3 rfl dX7_typeOf_14 (q := 17) rfl ?_
    refine x_iload_n C dX7_typeOf_17 (q := 18) rfl rfl 1 rfl ?_
    have hb4 := hst cq
    refine x_iald C (j := cq) (v := nI (st cq)) 5 rfl (nI_toInt (by omega)) (by omega) rfl dX7_typeOf_18 (q := 19) rfl ?_
    refine x_istore_n C (L' := [(2, .int (nI (st cq))), (0, .ref tb), (1, .int (nI cq))]) dX7_typeOf_19 (q := 20) rfl rfl (by decide) rfl ?_
    refine x_iload_n C dX7_typeOf_20 (q := 21) rfl rfl 0 rfl ?_
    refine x_if_eq C (tgt := 28) dX7_typeOf_21 (by decide) (q := 24) rfl (a := ((st cq : Nat) : Int)) (nI_toInt (by omega)) (fun h5 => ?_) (fun h5 => ?_)
    · first
      | (exfalso; omega)
      |
        refine x_aload_n C dX7_typeOf_28 (q := 29) rfl rfl 1 rfl ?_
        refine x_iload_n C dX7_typeOf_29 (q := 30) rfl rfl 2 rfl ?_
        refine x_aload_n C dX7_typeOf_30 (q := 31) rfl rfl 1 rfl ?_
        refine x_get C (ci := 6) (v := .int (nI smp)) hw0 0 rfl rfl 10 (by decide) hw4 rfl dX7_typeOf_31 (q := 34) rfl ?_
        refine x_callV C (roW := []) (roR := pl) (c_X7_toldOrGuess l D cy tb nz tl pg se pa bo li ba cols lc smp tlf lnf bal ld pl cq smp (by first | assumption | omega | (simp only []; omega)) (by first | assumption | omega | (simp only []; omega)) (by assumption) (by assumption) (by assumption) (by first | assumption | omega | (simp only []; omega)) (by first | assumption | omega | (simp only []; omega))) (cwV 2 C.2.2.2.2.1 gX7_typeOf_X7_toldOrGuess rfl rfl rfl (by decide +kernel) (by rw [hR]; exact ⟨Nat.le_of_ble_eq_true rfl, Nat.le_of_ble_eq_true rfl⟩)) [0, 1, 2, 3] [] rfl (by decide) rfl (by decide) hpool (List.mem_of_getElem? (i := 0) rfl) (ci := 6) rfl xT_bl (fun _ _ _ _ _ _ _ => trivial) rfl rfl dX7_typeOf_34 rfl rfl (Nat.le_of_ble_eq_true rfl) (q := 37) rfl (k' := 0) rfl (n' := 0) rfl (by rw [hR]; exact ⟨Nat.le_of_ble_eq_true rfl, Nat.le_of_ble_eq_true rfl⟩) (fun v6 w6 hp6 => ?_)
        obtain ⟨b2_7, rfl, rfl⟩ := hp6
        refine x_ws (ws' := [(tb, .inr (6, [.ref nz, .ref tl, .ref pg, .ref se, .ref pa, .ref bo, .ref li, .ref ba, .int (nI cols), .int (nI lc), .int (nI smp)])), (tl, .inl (cy 1, 5, .inl (fun k => nI (tlf k)))), (li, .inl (cy 4, 24, .inr (.inr (.inr (.inr lnf))))), (ba, .inl (cy 1, 5, .inl (fun k => nI (b2_7 k)))), (pg, .inr (4, [.ref a0, .ref a1, .ref a2, .ref a3, .ref a4, .ref a5, .int (nI mk), .int (nI rs), .int (ky)])), (a0, .inl (cy 1, 5, .inl (fun k => nI (st k))))]) rfl ?_
        refine x_iret C hA hQ hr dX7_typeOf_37 (Nat.le_of_ble_eq_true rfl) ?_
        first | exact ⟨_, by unfold tyS; rw [if_pos (by omega)], rfl⟩ | exact ⟨_, by unfold tyS; rw [if_neg (by omega)], rfl⟩
    · first
      | (exfalso; omega)
      |
        refine x_iload_n C dX7_typeOf_24 (q := 25) rfl rfl 0 rfl ?_
        refine x_goto C (tgt := 37) dX7_typeOf_25 (by decide) ?_
        refine x_iret C hA hQ hr dX7_typeOf_37 (Nat.le_of_ble_eq_true rfl) ?_
        first | exact ⟨_, by unfold tyS; rw [if_pos (by omega)], rfl⟩ | exact ⟨_, by unfold tyS; rw [if_neg (by omega)], rfl⟩
  · exfalso; obtain ⟨_, _, hc8⟩ := hp1; omega


/-- the types as they are settled, one told perhaps -/
def seS (cols : Nat) (tc : Int) (ty : Nat) (tl : Nat → Nat) (ld : LD) (z : Nat) (st : Nat → Nat) : Nat → Nat := fun c => if c < cols then (if (c : Int) = tc then ty else tgS tl ld c z) else st c
theorem seS_le {cols : Nat} {tc : Int} {ty : Nat} {tl : Nat → Nat} {ld : LD} {z : Nat} {st : Nat → Nat} (h1 : ty ≤ 4) (h2 : ∀ k, tl k ≤ 4) (h3 : ∀ k, st k ≤ 4) : ∀ k, seS cols tc ty tl ld z st k ≤ 4 := fun k => by
  unfold seS
  have h4 := tgS_in (tl := tl) (ld := ld) (c := k) (z := z) (h2 k)
  have h5 := h3 k
  split
  · split <;> omega
  · exact h5
theorem seS_upd {cols i v : Nat} {tc : Int} {ty : Nat} {tl : Nat → Nat} {ld : LD} {z : Nat} {st s9 : Nat → Nat} (h : ∀ j, s9 j = if j < i then seS cols tc ty tl ld z st j else st j) (hi : i < cols) (hv : v = if (i : Int) = tc then ty else tgS tl ld i z) : ∀ j, va_up s9 i v j = if j < i + 1 then seS cols tc ty tl ld z st j else st j := by
  intro j
  by_cases h9 : j = i
  · subst h9
    rw [va_up_eq, if_pos (Nat.lt_succ_self j), hv]
    unfold seS
    rw [if_pos hi]
  · rw [va_up_ne' h9, h j]
    by_cases h8 : j < i
    · rw [if_pos h8, if_pos (by omega)]
    · rw [if_neg h8, if_neg (by omega)]

set_option maxHeartbeats 4000000 in
set_option maxRecDepth 100000 in
/-- Table.settle: TYPES are SETTLED -/
theorem c_X7_settle (l : Launch) (D : va_G) (cy : Nat → ClassId) (tb : Nat) (nz : Nat) (tl : Nat) (pg : Nat) (se : Nat) (pa : Nat) (bo : Nat) (li : Nat) (ba : Nat) (cols : Nat) (lc : Nat) (smp : Nat) (tlf : Nat → Nat) (lnf : Nat → Option Nat) (bal : Nat → Nat) (io : Nat) (a0 : Nat) (a1 : Nat) (a2 : Nat) (a3 : Nat) (a4 : Nat) (a5 : Nat) (mk : Nat) (rs : Nat) (ky : Int32) (st : Nat → Nat) (ld : LD) (pl : va_W) (bz : Nat) (tc : Int32) (tcz : Int) (ty : Nat) (hcols : cols ≤ 5) (hlc : lc ≤ 24) (hTL : TbL cy pl lc lnf ld) (hfm : ∀ k i, dFm ld k i ≤ 4) (htl : ∀ k, tlf k ≤ 4) (hbz : bz ≤ 24) (hty : ty ≤ 4) (htc : tc.toInt = tcz) : xMet l D cy xT yX7_settle wsX7_settle ({ frames := 6, cells := 0, slots := 0, locals := 600 } : Room) [.ref tb, .ref io, .int (nI bz), .int (tc), .int (nI ty)] [(tb, .inr (6, [.ref nz, .ref tl, .ref pg, .ref se, .ref pa, .ref bo, .ref li, .ref ba, .int (nI cols), .int (nI lc), .int (nI smp)])), (tl, .inl (cy 1, 5, .inl (fun k => nI (tlf k)))), (li, .inl (cy 4, 24, .inr (.inr (.inr (.inr lnf))))), (ba, .inl (cy 1, 5, .inl (fun k => nI (bal k)))), (io, .inr (4, [.ref a0, .ref a1, .ref a2, .ref a3, .ref a4, .ref a5, .int (nI mk), .int (nI rs), .int (ky)])), (a0, .inl (cy 1, 5, .inl (fun k => nI (st k))))] pl (fun (v9 : Option Value) (w9 : va_W) => (∃ b2 : Nat → Nat, v9 = none ∧ w9 = [(tb, .inr (6, [.ref nz, .ref tl, .ref pg, .ref se, .ref pa, .ref bo, .ref li, .ref ba, .int (nI cols), .int (nI lc), .int (nI smp)])), (tl, .inl (cy 1, 5, .inl (fun k => nI (tlf k)))), (li, .inl (cy 4, 24, .inr (.inr (.inr (.inr lnf))))), (ba, .inl (cy 1, 5, .inl (fun k => nI (b2 k)))), (io, .inr (4, [.ref a0, .ref a1, .ref a2, .ref a3, .ref a4, .ref a5, .int (nI mk), .int (nI rs), .int (ky)])), (a0, .inl (cy 1, 5, .inl (fun k => nI ((seS cols tcz ty tlf ld (min bz lc) st) k))))])) := by
  refine xMet_of (cc := cX7_settle) (maxL := 6) (ret := none) (by decide) rfl (Nat.le_of_ble_eq_true rfl) (fun p e s m args below meth c A R Q hA hR hQ C hr hnm hro hX => ?_)
  have hw0 : ∀ w ∈ u_ws RX7 TX7 11, w ∈ wsX7_settle := by decide +kernel
  have hw1 : Cond.fieldLink RX7 49 (TX7 8).1 (TX7 8).2.1 (TX7 8).2.2.1 ∈ wsX7_settle := by decide +kernel
  have hw2 : ∀ w ∈ u_ws RX5 TX5 9, w ∈ wsX7_settle := by decide +kernel
  have hw3 : Cond.fieldLink RX7 100 (TX5 0).1 (TX5 0).2.1 (TX5 0).2.2.1 ∈ wsX7_settle := by decide +kernel
  refine x_L (L' := [(0, .ref tb), (1, .ref io), (2, .int (nI bz)), (3, .int (tc)), (4, .int (nI ty))]) [0, 1, 2, 3, 4] rfl ?_
  have hpool : ∀ q ∈ pl, xRo D A s q := hro
  refine x_iconst C dX7_settle_0 (q := 1) rfl (v := nI 0) (by decide) ?_
  refine x_istore C (L' := [(5, .int (nI 0)), (0, .ref tb), (1, .ref io), (2, .int (nI bz)), (3, .int (tc)), (4, .int (nI ty))]) dX7_settle_1 (q := 3) rfl (by decide) rfl ?_
  have cut3 : ∀ (fuel : Nat) (i : Nat) (b9 : Nat → Nat) (s9 : Nat → Nat), (i ≤ cols) → (∀ j, s9 j = if j < i then seS cols tcz ty tlf ld (min bz lc) st j else st j) → cols - i < fuel → xG p l e R s m args below meth c Q D A 6 [(tb, .inr (6, [.ref nz, .ref tl, .ref pg, .ref se, .ref pa, .ref bo, .ref li, .ref ba, .int (nI cols), .int (nI lc), .int (nI smp)])), (tl, .inl (cy 1, 5, .inl (fun k => nI (tlf k)))), (li, .inl (cy 4, 24, .inr (.inr (.inr (.inr lnf))))), (ba, .inl (cy 1, 5, .inl (fun k => nI (b9 k)))), (io, .inr (4, [.ref a0, .ref a1, .ref a2, .ref a3, .ref a4, .ref a5, .int (nI mk), .int (nI rs), .int (ky)])), (a0, .inl (cy 1, 5, .inl (fun k => nI (s9 k))))] 0 0 3 [(0, .ref tb), (1, .ref io), (2, .int (nI bz)), (3, .int (tc)), (4, .int (nI ty)), (5, .int (nI i))] [] := by
    intro fuel
    induction fuel with
    | zero =>
      intro i b9 s9 hi hs9 hmu
      exact absurd hmu (Nat.not_lt_zero _)
    | succ fuel ih =>
      intro i b9 s9 hi hs9 hmu
      have ih3 := ih
      clear ih
      refine x_iload C dX7_settle_3 (q := 5) rfl 5 rfl ?_
      refine x_aload_n C dX7_settle_5 (q := 6) rfl rfl 0 rfl ?_
      refine x_get C (ci := 6) (v := .int (nI cols)) hw0 0 rfl rfl 8 (by decide) hw1 rfl dX7_settle_6 (q := 9) rfl ?_
      refine x_icmp_ge C (tgt := 49) dX7_settle_9 (by decide) (q := 12) rfl (a := ((i : Nat) : Int)) (b := ((cols : Nat) : Int)) (nI_toInt (by omega)) (nI_toInt (by omega)) (fun h1 => ?_) (fun h1 => ?_)
      · first
        | (exfalso; omega)
        |
          refine x_recI (ws' := [(tb, .inr (6, [.ref nz, .ref tl, .ref pg, .ref se, .ref pa, .ref bo, .ref li, .ref ba, .int (nI cols), .int (nI lc), .int (nI smp)])), (tl, .inl (cy 1, 5, .inl (fun k => nI (tlf k)))), (li, .inl (cy 4, 24, .inr (.inr (.inr (.inr lnf))))), (ba, .inl (cy 1, 5, .inl (fun k => nI (b9 k)))), (io, .inr (4, [.ref a0, .ref a1, .ref a2, .ref a3, .ref a4, .ref a5, .int (nI mk), .int (nI rs), .int (ky)])), (a0, .inl (cy 1, 5, .inl (fun k => nI ((seS cols tcz ty tlf ld (min bz lc) st) k))))]) 5 rfl (fun j hj => by rw [hs9 j]; by_cases h8 : j < i; (rw [if_pos h8]); (rw [if_neg h8]; unfold seS; rw [if_neg (by omega)])) rfl ?_
          refine x_vret C hA hQ hr dX7_settle_49 (Nat.le_of_ble_eq_true rfl) ?_
          exact ⟨_, rfl, rfl⟩
      · first
        | (exfalso; omega)
        |
          refine x_iload C dX7_settle_12 (q := 14) rfl 5 rfl ?_
          refine x_iconst C dX7_settle_14 (q := 15) rfl (v := nI 5) (by decide) ?_
          refine x_icmp_ge C (tgt := 49) dX7_settle_15 (by decide) (q := 18) rfl (a := ((i : Nat) : Int)) (b := 5) (nI_toInt (by omega)) rfl (fun h2 => ?_) (fun h2 => ?_)
          · first
            | (exfalso; omega)
            |
              refine x_recI (ws' := [(tb, .inr (6, [.ref nz, .ref tl, .ref pg, .ref se, .ref pa, .ref bo, .ref li, .ref ba, .int (nI cols), .int (nI lc), .int (nI smp)])), (tl, .inl (cy 1, 5, .inl (fun k => nI (tlf k)))), (li, .inl (cy 4, 24, .inr (.inr (.inr (.inr lnf))))), (ba, .inl (cy 1, 5, .inl (fun k => nI (b9 k)))), (io, .inr (4, [.ref a0, .ref a1, .ref a2, .ref a3, .ref a4, .ref a5, .int (nI mk), .int (nI rs), .int (ky)])), (a0, .inl (cy 1, 5, .inl (fun k => nI ((seS cols tcz ty tlf ld (min bz lc) st) k))))]) 5 rfl (fun j hj => by rw [hs9 j]; by_cases h8 : j < i; (rw [if_pos h8]); (rw [if_neg h8]; unfold seS; rw [if_neg (by omega)])) rfl ?_
              refine x_vret C hA hQ hr dX7_settle_49 (Nat.le_of_ble_eq_true rfl) ?_
              exact ⟨_, rfl, rfl⟩
          · first
            | (exfalso; omega)
            |
              refine x_aload_n C dX7_settle_18 (q := 19) rfl rfl 1 rfl ?_
              refine x_get C (ci := 4) (v := .ref a0) hw2 4 rfl rfl 0 (by decide) hw3 rfl dX7_settle_19 (q := 22) rfl ?_
              refine x_iload C dX7_settle_22 (q := 24) rfl 5 rfl ?_
              refine x_iload C dX7_settle_24 (q := 26) rfl 5 rfl ?_
              refine x_iload_n C dX7_settle_26 (q := 27) rfl rfl 3 rfl ?_
              refine x_icmp_ne C (tgt := 35) dX7_settle_27 (by decide) (q := 30) rfl (a := ((i : Nat) : Int)) (b := tc.toInt) (nI_toInt (by omega)) rfl (fun h3 => ?_) (fun h3 => ?_)
              · first
                | (exfalso; omega)
                |
                  refine x_aload_n C dX7_settle_35 (q := 36) rfl rfl 0 rfl ?_
                  refine x_iload C dX7_settle_36 (q := 38) rfl 5 rfl ?_
                  refine x_iload_n C dX7_settle_38 (q := 39) rfl rfl 2 rfl ?_
                  refine x_callV C (roW := []) (roR := pl) (c_X7_toldOrGuess l D cy tb nz tl pg se pa bo li ba cols lc smp tlf lnf b9 ld pl i bz (by first | assumption | omega | (simp only []; omega)) (by first | assumption | omega | (simp only []; omega)) (by assumption) (by assumption) (by assumption) (by first | assumption | omega | (simp only []; omega)) (by first | assumption | omega | (simp only []; omega))) (cwV 2 C.2.2.2.2.1 gX7_settle_X7_toldOrGuess rfl rfl rfl (by decide +kernel) (by rw [hR]; exact ⟨Nat.le_of_ble_eq_true rfl, Nat.le_of_ble_eq_true rfl⟩)) [0, 1, 2, 3] [] rfl (by decide) rfl (by decide) hpool (List.mem_of_getElem? (i := 0) rfl) (ci := 6) rfl xT_bl (fun _ _ _ _ _ _ _ => trivial) rfl rfl dX7_settle_39 rfl rfl (Nat.le_of_ble_eq_true rfl) (q := 42) rfl (k' := 0) rfl (n' := 0) rfl (by rw [hR]; exact ⟨Nat.le_of_ble_eq_true rfl, Nat.le_of_ble_eq_true rfl⟩) (fun v4 w4 hp4 => ?_)
                  obtain ⟨b2_5, rfl, rfl⟩ := hp4
                  refine x_ws (ws' := [(tb, .inr (6, [.ref nz, .ref tl, .ref pg, .ref se, .ref pa, .ref bo, .ref li, .ref ba, .int (nI cols), .int (nI lc), .int (nI smp)])), (tl, .inl (cy 1, 5, .inl (fun k => nI (tlf k)))), (li, .inl (cy 4, 24, .inr (.inr (.inr (.inr lnf))))), (ba, .inl (cy 1, 5, .inl (fun k => nI (b2_5 k)))), (io, .inr (4, [.ref a0, .ref a1, .ref a2, .ref a3, .ref a4, .ref a5, .int (nI mk), .int (nI rs), .int (ky)])), (a0, .inl (cy 1, 5, .inl (fun k => nI (s9 k))))]) rfl ?_
                  refine x_iast C (ws' := [(tb, .inr (6, [.ref nz, .ref tl, .ref pg, .ref se, .ref pa, .ref bo, .ref li, .ref ba, .int (nI cols), .int (nI lc), .int (nI smp)])), (tl, .inl (cy 1, 5, .inl (fun k => nI (tlf k)))), (li, .inl (cy 4, 24, .inr (.inr (.inr (.inr lnf))))), (ba, .inl (cy 1, 5, .inl (fun k => nI (b2_5 k)))), (io, .inr (4, [.ref a0, .ref a1, .ref a2, .ref a3, .ref a4, .ref a5, .int (nI mk), .int (nI rs), .int (ky)])), (a0, .inl (cy 1, 5, .inl (fun k => nI ((va_up s9 i (tgS tlf ld i (min bz lc))) k))))]) 5 rfl (j := i) (nI_toInt (by omega)) (by omega) (xup_n s9 i (tgS tlf ld i (min bz lc))) rfl dX7_settle_42 (q := 43) rfl ?_
                  refine x_iinc C (L' := [(5, .int (nI (i + 1))), (0, .ref tb), (1, .ref io), (2, .int (nI bz)), (3, .int (tc)), (4, .int (nI ty))]) dX7_settle_43 (q := 46) rfl 5 rfl (v := nI (i + 1)) (nI_add i 1) (by decide) rfl ?_
                  refine x_goto C (tgt := 3) dX7_settle_46 (by decide) ?_
                  refine x_L (L' := [(0, .ref tb), (1, .ref io), (2, .int (nI bz)), (3, .int (tc)), (4, .int (nI ty)), (5, .int (nI (i + 1)))]) [1, 2, 3, 4, 5, 0] rfl ?_
                  exact ih3 (i + 1) b2_5 (va_up s9 i (tgS tlf ld i (min bz lc))) (by first | omega | assumption) (by exact seS_upd hs9 (by omega) (by first | rw [if_pos (by omega)] | rw [if_neg (by omega)])) (by omega)
              · first
                | (exfalso; omega)
                |
                  refine x_iload C dX7_settle_30 (q := 32) rfl 4 rfl ?_
                  refine x_goto C (tgt := 42) dX7_settle_32 (by decide) ?_
                  refine x_iast C (ws' := [(tb, .inr (6, [.ref nz, .ref tl, .ref pg, .ref se, .ref pa, .ref bo, .ref li, .ref ba, .int (nI cols), .int (nI lc), .int (nI smp)])), (tl, .inl (cy 1, 5, .inl (fun k => nI (tlf k)))), (li, .inl (cy 4, 24, .inr (.inr (.inr (.inr lnf))))), (ba, .inl (cy 1, 5, .inl (fun k => nI (b9 k)))), (io, .inr (4, [.ref a0, .ref a1, .ref a2, .ref a3, .ref a4, .ref a5, .int (nI mk), .int (nI rs), .int (ky)])), (a0, .inl (cy 1, 5, .inl (fun k => nI ((va_up s9 i ty) k))))]) 5 rfl (j := i) (nI_toInt (by omega)) (by omega) (xup_n s9 i ty) rfl dX7_settle_42 (q := 43) rfl ?_
                  refine x_iinc C (L' := [(5, .int (nI (i + 1))), (0, .ref tb), (1, .ref io), (2, .int (nI bz)), (3, .int (tc)), (4, .int (nI ty))]) dX7_settle_43 (q := 46) rfl 5 rfl (v := nI (i + 1)) (nI_add i 1) (by decide) rfl ?_
                  refine x_goto C (tgt := 3) dX7_settle_46 (by decide) ?_
                  refine x_L (L' := [(0, .ref tb), (1, .ref io), (2, .int (nI bz)), (3, .int (tc)), (4, .int (nI ty)), (5, .int (nI (i + 1)))]) [1, 2, 3, 4, 5, 0] rfl ?_
                  exact ih3 (i + 1) b9 (va_up s9 i ty) (by first | omega | assumption) (by exact seS_upd hs9 (by omega) (by first | rw [if_pos (by omega)] | rw [if_neg (by omega)])) (by omega)
  refine x_L (L' := [(0, .ref tb), (1, .ref io), (2, .int (nI bz)), (3, .int (tc)), (4, .int (nI ty)), (5, .int (nI 0))]) [1, 2, 3, 4, 5, 0] rfl ?_
  exact cut3 (cols - 0 + 1) 0 bal st (by first | omega | assumption) (by intro j; rw [if_neg (Nat.not_lt_zero j)]) (by omega)
