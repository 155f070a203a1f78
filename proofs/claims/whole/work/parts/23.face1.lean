
/-! THE FACE: what each call answers -/
theorem xi_nat {x : Int32} (h : 0 ≤ x.toInt) : x = nI x.toInt.toNat := Int32.toInt_inj.mp (by rw [nI_toInt (by have := x.toInt_lt; omega)]; omega)
def feA (n : Nat) (x : Int32) : Int32 := if x.toInt < 0 ∨ 127 < x.toInt then -2 else if 60 ≤ n then -4 else nI (n + 1)
def feN (n : Nat) (tx : Nat → Nat) (x : Int32) : Nat × (Nat → Nat) := if x.toInt < 0 ∨ 127 < x.toInt then (n, tx) else if 60 ≤ n then (n, tx) else (n + 1, va_up tx n x.toInt.toNat)
def saA (smp : Nat) (x : Int32) : Int32 := if x.toInt < 1 ∨ 24 < x.toInt then -2 else nI smp
def saN (smp : Nat) (x : Int32) : Nat := if x.toInt < 1 ∨ 24 < x.toInt then smp else x.toInt.toNat
def typA (cols : Nat) (tl : Nat → Nat) (x y : Int32) : Int32 := if x.toInt < 0 ∨ cols ≤ x.toInt then -1 else if y.toInt < 0 ∨ 4 < y.toInt then -2 else nI (tl x.toInt.toNat)
def typN (cols : Nat) (tl : Nat → Nat) (x y : Int32) : Nat → Nat := if x.toInt < 0 ∨ cols ≤ x.toInt then tl else if y.toInt < 0 ∨ 4 < y.toInt then tl else va_up tl x.toInt.toNat y.toInt.toNat
def kaA (ky : Int32) : Int32 := if ky.toInt = -1 then -5 else ky
def keA (cols mk : Nat) (ky x : Int32) : Int32 := if ¬ x.toInt = -1 ∧ (x.toInt < 0 ∨ cols ≤ x.toInt) then -1 else if 0 < mk then -3 else kaA ky
def keN (cols mk : Nat) (ky x : Int32) : Int32 := if ¬ x.toInt = -1 ∧ (x.toInt < 0 ∨ cols ≤ x.toInt) then ky else if 0 < mk then ky else x

set_option maxHeartbeats 4000000 in
set_option maxRecDepth 100000 in
/-- feed -/
theorem c_X9_feed (l : Launch) (D : va_G) (cy : Nat → ClassId) (fi : Nat) (tO : Nat) (gO : Nat) (nO : Nat) (tb : Nat) (tb' : Nat) (trO : Nat) (gA : Nat) (tP : Nat) (kf : Nat) (tB : Nat) (tn : Nat) (tx : Nat → Nat) (x : Int32) (htn : tn ≤ 60) (htx : ∀ k, tx k < 128) : xMet l D cy xT yX9_feed wsX9_feed ({ frames := 3, cells := 0, slots := 0, locals := 300 } : Room) [.ref fi, .int (x)] [(fi, .inr (8, [.ref tO, .ref gO, .ref nO, .ref tb, .ref tb', .ref trO, .ref gA, .ref tP, .int (nI kf)])), (tO, .inr (5, [.ref tB, .int (nI tn)])), (tB, .inl (cy 0, 60, .inl (fun k => nI (tx k))))] [] (fun (v9 : Option Value) (w9 : va_W) => (v9 = some (.int (feA tn x)) ∧ w9 = [(fi, .inr (8, [.ref tO, .ref gO, .ref nO, .ref tb, .ref tb', .ref trO, .ref gA, .ref tP, .int (nI kf)])), (tO, .inr (5, [.ref tB, .int (nI ((feN tn tx x).1))])), (tB, .inl (cy 0, 60, .inl (fun k => nI (((feN tn tx x).2) k))))])) := by
  refine xMet_of (cc := cX9_feed) (maxL := 2) (ret := (some .int)) (by decide) rfl (Nat.le_of_ble_eq_true rfl) (fun p e s m args below meth c A R Q hA hR hQ C hr hnm hro hX => ?_)
  have hw0 : ∀ w ∈ u_ws RX9 TX9 9, w ∈ wsX9_feed := by decide +kernel
  have hw1 : Cond.fieldLink RX9 16 (TX9 0).1 (TX9 0).2.1 (TX9 0).2.2.1 ∈ wsX9_feed := by decide +kernel
  have hw2 : ∀ w ∈ u_ws RX6 TX6 2, w ∈ wsX9_feed := by decide +kernel
  have hw3 : Cond.fieldLink RX9 62 (TX6 1).1 (TX6 1).2.1 (TX6 1).2.2.1 ∈ wsX9_feed := by decide +kernel
  refine x_L (L' := [(0, .ref fi), (1, .int (x))]) [0, 1] rfl ?_
  refine x_iload_n C dX9_feed_0 (q := 1) rfl rfl 1 rfl ?_
  refine x_if_lt C (tgt := 10) dX9_feed_1 (by decide) (q := 4) rfl (a := x.toInt) rfl (fun h1 => ?_) (fun h1 => ?_)
  · first
    | (exfalso; omega)
    |
      refine x_bipush C dX9_feed_10 (q := 12) rfl (v := (-2)) (by decide) ?_
      refine x_iret C hA hQ hr dX9_feed_12 (Nat.le_of_ble_eq_true rfl) ?_
      unfold feA feN
      repeat (first | rw [if_pos (by omega)] | rw [if_neg (by omega)])
      exact ⟨rfl, rfl⟩
  · first
    | (exfalso; omega)
    |
      refine x_iload_n C dX9_feed_4 (q := 5) rfl rfl 1 rfl ?_
      refine x_bipush C dX9_feed_5 (q := 7) rfl (v := nI 127) (by decide) ?_
      refine x_icmp_le C (tgt := 13) dX9_feed_7 (by decide) (q := 10) rfl (a := x.toInt) (b := 127) rfl rfl (fun h2 => ?_) (fun h2 => ?_)
      · first
        | (exfalso; omega)
        |
          refine x_aload_n C dX9_feed_13 (q := 14) rfl rfl 0 rfl ?_
          refine x_get C (ci := 8) (v := .ref tO) hw0 0 rfl rfl 0 (by decide) hw1 rfl dX9_feed_14 (q := 17) rfl ?_
          refine x_get C (ci := 5) (v := .int (nI tn)) hw2 1 rfl rfl 1 (by decide) hw3 rfl dX9_feed_17 (q := 20) rfl ?_
          refine x_bipush C dX9_feed_20 (q := 22) rfl (v := nI 60) (by decide) ?_
          refine x_icmp_lt C (tgt := 28) dX9_feed_22 (by decide) (q := 25) rfl (a := ((tn : Nat) : Int)) (b := 60) (nI_toInt (by omega)) rfl (fun h3 => ?_) (fun h3 => ?_)
          · first
            | (exfalso; omega)
            |
              refine x_aload_n C dX9_feed_28 (q := 29) rfl rfl 0 rfl ?_
              refine x_get C (ci := 8) (v := .ref tO) hw0 0 rfl rfl 0 (by decide) hw1 rfl dX9_feed_29 (q := 32) rfl ?_
              refine x_iload_n C dX9_feed_32 (q := 33) rfl rfl 1 rfl ?_
              refine x_st (st' := [.int (nI x.toInt.toNat), .ref tO]) (congrArg (fun z9 => ([.int z9, .ref tO] : List Value)) (xi_nat (by omega))) ?_
              refine x_callV C (roW := []) (roR := []) (c_X6_add l D cy tO tB tn 60 tx x.toInt.toNat (by first | assumption | omega | (simp only []; omega)) (by first | assumption | omega | (simp only []; omega)) (by first | assumption | omega | (simp only []; omega))) (cwV 1 C.2.2.2.2.1 gX9_feed_X6_add rfl rfl rfl (by decide +kernel) (by rw [hR]; exact ⟨Nat.le_of_ble_eq_true rfl, Nat.le_of_ble_eq_true rfl⟩)) [1, 2] [] rfl (by decide) rfl (by decide) xro_nil (List.mem_of_getElem? (i := 0) rfl) (ci := 5) rfl xT_bl (fun _ _ _ _ _ _ _ => trivial) rfl rfl dX9_feed_33 rfl rfl (Nat.le_of_ble_eq_true rfl) (q := 36) rfl (k' := 0) rfl (n' := 0) rfl (by rw [hR]; exact ⟨Nat.le_of_ble_eq_true rfl, Nat.le_of_ble_eq_true rfl⟩) (fun v4 w4 hp4 => ?_)
              obtain ⟨rfl, rfl⟩ := hp4
              refine x_ws (ws' := [(fi, .inr (8, [.ref tO, .ref gO, .ref nO, .ref tb, .ref tb', .ref trO, .ref gA, .ref tP, .int (nI kf)])), (tO, .inr (5, [.ref tB, .int (nI (tn + 1))])), (tB, .inl (cy 0, 60, .inl (fun k => nI ((va_up tx tn x.toInt.toNat) k))))]) rfl ?_
              refine x_aload_n C dX9_feed_36 (q := 37) rfl rfl 0 rfl ?_
              refine x_get C (ci := 8) (v := .ref tO) hw0 0 rfl rfl 0 (by decide) hw1 rfl dX9_feed_37 (q := 40) rfl ?_
              refine x_get C (ci := 5) (v := .int (nI (tn + 1))) hw2 1 rfl rfl 1 (by decide) hw3 rfl dX9_feed_40 (q := 43) rfl ?_
              refine x_iret C hA hQ hr dX9_feed_43 (Nat.le_of_ble_eq_true rfl) ?_
              unfold feA feN
              repeat (first | rw [if_pos (by omega)] | rw [if_neg (by omega)])
              exact ⟨rfl, rfl⟩
          · first
            | (exfalso; omega)
            |
              refine x_bipush C dX9_feed_25 (q := 27) rfl (v := (-4)) (by decide) ?_
              refine x_iret C hA hQ hr dX9_feed_27 (Nat.le_of_ble_eq_true rfl) ?_
              unfold feA feN
              repeat (first | rw [if_pos (by omega)] | rw [if_neg (by omega)])
              exact ⟨rfl, rfl⟩
      · first
        | (exfalso; omega)
        |
          refine x_bipush C dX9_feed_10 (q := 12) rfl (v := (-2)) (by decide) ?_
          refine x_iret C hA hQ hr dX9_feed_12 (Nat.le_of_ble_eq_true rfl) ?_
          unfold feA feN
          repeat (first | rw [if_pos (by omega)] | rw [if_neg (by omega)])
          exact ⟨rfl, rfl⟩

set_option maxHeartbeats 4000000 in
set_option maxRecDepth 100000 in
/-- sample -/
theorem c_X9_sample (l : Launch) (D : va_G) (cy : Nat → ClassId) (fi : Nat) (tO : Nat) (gO : Nat) (nO : Nat) (tb : Nat) (tb' : Nat) (trO : Nat) (gA : Nat) (tP : Nat) (kf : Nat) (nz : Nat) (tl : Nat) (pg : Nat) (se : Nat) (pa : Nat) (bo : Nat) (li : Nat) (ba : Nat) (cols : Nat) (lc : Nat) (smp : Nat) (x : Int32) (hcols : cols ≤ 5) (hlc : lc ≤ 24) (hsmp : smp ≤ 24) : xMet l D cy xT yX9_sample wsX9_sample ({ frames := 1, cells := 0, slots := 0, locals := 0 } : Room) [.ref fi, .int (x)] [(fi, .inr (8, [.ref tO, .ref gO, .ref nO, .ref tb, .ref tb', .ref trO, .ref gA, .ref tP, .int (nI kf)])), (tb, .inr (6, [.ref nz, .ref tl, .ref pg, .ref se, .ref pa, .ref bo, .ref li, .ref ba, .int (nI cols), .int (nI lc), .int (nI smp)]))] [] (fun (v9 : Option Value) (w9 : va_W) => (v9 = some (.int (saA smp x)) ∧ w9 = [(fi, .inr (8, [.ref tO, .ref gO, .ref nO, .ref tb, .ref tb', .ref trO, .ref gA, .ref tP, .int (nI kf)])), (tb, .inr (6, [.ref nz, .ref tl, .ref pg, .ref se, .ref pa, .ref bo, .ref li, .ref ba, .int (nI cols), .int (nI lc), .int (nI (saN smp x))]))])) := by
  refine xMet_of (cc := cX9_sample) (maxL := 3) (ret := (some .int)) (by decide) rfl (Nat.le_of_ble_eq_true rfl) (fun p e s m args below meth c A R Q hA hR hQ C hr hnm hro hX => ?_)
  have hw0 : ∀ w ∈ u_ws RX9 TX9 9, w ∈ wsX9_sample := by decide +kernel
  have hw1 : Cond.fieldLink RX9 33 (TX9 3).1 (TX9 3).2.1 (TX9 3).2.2.1 ∈ wsX9_sample := by decide +kernel
  have hw2 : ∀ w ∈ u_ws RX7 TX7 11, w ∈ wsX9_sample := by decide +kernel
  have hw3 : Cond.fieldLink RX9 98 (TX7 10).1 (TX7 10).2.1 (TX7 10).2.2.1 ∈ wsX9_sample := by decide +kernel
  refine x_L (L' := [(0, .ref fi), (1, .int (x))]) [0, 1] rfl ?_
  refine x_iload_n C dX9_sample_0 (q := 1) rfl rfl 1 rfl ?_
  refine x_iconst C dX9_sample_1 (q := 2) rfl (v := nI 1) (by decide) ?_
  refine x_icmp_lt C (tgt := 11) dX9_sample_2 (by decide) (q := 5) rfl (a := x.toInt) (b := 1) rfl rfl (fun h1 => ?_) (fun h1 => ?_)
  · first
    | (exfalso; omega)
    |
      refine x_bipush C dX9_sample_11 (q := 13) rfl (v := (-2)) (by decide) ?_
      refine x_iret C hA hQ hr dX9_sample_13 (Nat.le_of_ble_eq_true rfl) ?_
      unfold saA saN
      repeat (first | rw [if_pos (by omega)] | rw [if_neg (by omega)])
      exact ⟨rfl, rfl⟩
  · first
    | (exfalso; omega)
    |
      refine x_iload_n C dX9_sample_5 (q := 6) rfl rfl 1 rfl ?_
      refine x_bipush C dX9_sample_6 (q := 8) rfl (v := nI 24) (by decide) ?_
      refine x_icmp_le C (tgt := 14) dX9_sample_8 (by decide) (q := 11) rfl (a := x.toInt) (b := 24) rfl rfl (fun h2 => ?_) (fun h2 => ?_)
      · first
        | (exfalso; omega)
        |
          refine x_aload_n C dX9_sample_14 (q := 15) rfl rfl 0 rfl ?_
          refine x_get C (ci := 8) (v := .ref tb) hw0 0 rfl rfl 3 (by decide) hw1 rfl dX9_sample_15 (q := 18) rfl ?_
          refine x_get C (ci := 6) (v := .int (nI smp)) hw2 1 rfl rfl 10 (by decide) hw3 rfl dX9_sample_18 (q := 21) rfl ?_
          refine x_istore_n C (L' := [(2, .int (nI smp)), (0, .ref fi), (1, .int (x))]) dX9_sample_21 (q := 22) rfl rfl (by decide) rfl ?_
          refine x_aload_n C dX9_sample_22 (q := 23) rfl rfl 1 rfl ?_
          refine x_get C (ci := 8) (v := .ref tb) hw0 0 rfl rfl 3 (by decide) hw1 rfl dX9_sample_23 (q := 26) rfl ?_
          refine x_iload_n C dX9_sample_26 (q := 27) rfl rfl 2 rfl ?_
          refine x_topi (y := nI x.toInt.toNat) (xi_nat (by omega)) ?_
          refine x_put C (ci := 6) (ty := .int) (ws' := [(fi, .inr (8, [.ref tO, .ref gO, .ref nO, .ref tb, .ref tb', .ref trO, .ref gA, .ref tP, .int (nI kf)])), (tb, .inr (6, [.ref nz, .ref tl, .ref pg, .ref se, .ref pa, .ref bo, .ref li, .ref ba, .int (nI cols), .int (nI lc), .int (nI x.toInt.toNat)]))]) hw2 tyX7 tyX7_ok nmX7 1 rfl rfl 10 (by decide) hw3 rfl (by decide +kernel) rfl rfl (Nat.le_of_ble_eq_true rfl) rfl dX9_sample_27 (q := 30) rfl ?_
          refine x_iload_n C dX9_sample_30 (q := 31) rfl rfl 0 rfl ?_
          refine x_iret C hA hQ hr dX9_sample_31 (Nat.le_of_ble_eq_true rfl) ?_
          unfold saA saN
          repeat (first | rw [if_pos (by omega)] | rw [if_neg (by omega)])
          exact ⟨rfl, rfl⟩
      · first
        | (exfalso; omega)
        |
          refine x_bipush C dX9_sample_11 (q := 13) rfl (v := (-2)) (by decide) ?_
          refine x_iret C hA hQ hr dX9_sample_13 (Nat.le_of_ble_eq_true rfl) ?_
          unfold saA saN
          repeat (first | rw [if_pos (by omega)] | rw [if_neg (by omega)])
          exact ⟨rfl, rfl⟩

set_option maxHeartbeats 4000000 in
set_option maxRecDepth 100000 in
/-- type -/
theorem c_X9_type (l : Launch) (D : va_G) (cy : Nat → ClassId) (fi : Nat) (tO : Nat) (gO : Nat) (nO : Nat) (tb : Nat) (tb' : Nat) (trO : Nat) (gA : Nat) (tP : Nat) (kf : Nat) (nz : Nat) (tl : Nat) (pg : Nat) (se : Nat) (pa : Nat) (bo : Nat) (li : Nat) (ba : Nat) (cols : Nat) (lc : Nat) (smp : Nat) (tlf : Nat → Nat) (x : Int32) (y : Int32) (hcols : cols ≤ 5) (hlc : lc ≤ 24) (htl : ∀ k, tlf k ≤ 4) : xMet l D cy xT yX9_type wsX9_type ({ frames := 2, cells := 0, slots := 0, locals := 200 } : Room) [.ref fi, .int (x), .int (y)] [(fi, .inr (8, [.ref tO, .ref gO, .ref nO, .ref tb, .ref tb', .ref trO, .ref gA, .ref tP, .int (nI kf)])), (tb, .inr (6, [.ref nz, .ref tl, .ref pg, .ref se, .ref pa, .ref bo, .ref li, .ref ba, .int (nI cols), .int (nI lc), .int (nI smp)])), (tl, .inl (cy 1, 5, .inl (fun k => nI (tlf k))))] [] (fun (v9 : Option Value) (w9 : va_W) => (v9 = some (.int (typA cols tlf x y)) ∧ w9 = [(fi, .inr (8, [.ref tO, .ref gO, .ref nO, .ref tb, .ref tb', .ref trO, .ref gA, .ref tP, .int (nI kf)])), (tb, .inr (6, [.ref nz, .ref tl, .ref pg, .ref se, .ref pa, .ref bo, .ref li, .ref ba, .int (nI cols), .int (nI lc), .int (nI smp)])), (tl, .inl (cy 1, 5, .inl (fun k => nI ((typN cols tlf x y) k))))])) := by
  refine xMet_of (cc := cX9_type) (maxL := 4) (ret := (some .int)) (by decide) rfl (Nat.le_of_ble_eq_true rfl) (fun p e s m args below meth c A R Q hA hR hQ C hr hnm hro hX => ?_)
  have hw0 : ∀ w ∈ u_ws RX9 TX9 9, w ∈ wsX9_type := by decide +kernel
  have hw1 : Cond.fieldLink RX9 33 (TX9 3).1 (TX9 3).2.1 (TX9 3).2.2.1 ∈ wsX9_type := by decide +kernel
  have hw2 : ∀ w ∈ u_ws RX7 TX7 11, w ∈ wsX9_type := by decide +kernel
  have hw3 : Cond.fieldLink RX9 105 (TX7 1).1 (TX7 1).2.1 (TX7 1).2.2.1 ∈ wsX9_type := by decide +kernel
  refine x_L (L' := [(0, .ref fi), (1, .int (x)), (2, .int (y))]) [0, 1, 2] rfl ?_
  refine x_aload_n C dX9_type_0 (q := 1) rfl rfl 0 rfl ?_
  refine x_get C (ci := 8) (v := .ref tb) hw0 0 rfl rfl 3 (by decide) hw1 rfl dX9_type_1 (q := 4) rfl ?_
  refine x_iload_n C dX9_type_4 (q := 5) rfl rfl 1 rfl ?_
  refine x_callV C (roW := [(tb, .inr (6, [.ref nz, .ref tl, .ref pg, .ref se, .ref pa, .ref bo, .ref li, .ref ba, .int (nI cols), .int (nI lc), .int (nI smp)]))]) (roR := []) (c_X7_hasColumn l D cy tb nz tl pg se pa bo li ba cols lc smp x (by first | assumption | omega | (simp only []; omega)) (by first | assumption | omega | (simp only []; omega))) (cwV 1 C.2.2.2.2.1 gX9_type_X7_hasColumn rfl rfl rfl (by decide +kernel) (by rw [hR]; exact ⟨Nat.le_of_ble_eq_true rfl, Nat.le_of_ble_eq_true rfl⟩)) [] [1] rfl (by decide) rfl (by decide) xro_nil (List.mem_of_getElem? (i := 0) rfl) (ci := 6) rfl xT_bl (fun _ _ _ _ _ _ _ => trivial) rfl rfl dX9_type_5 rfl rfl (Nat.le_of_ble_eq_true rfl) (q := 8) rfl (k' := 0) rfl (n' := 0) rfl (by rw [hR]; exact ⟨Nat.le_of_ble_eq_true rfl, Nat.le_of_ble_eq_true rfl⟩) (fun v1 w1 hp1 => ?_)
  rcases hp1 with hp1 | hp1
  · skip
    obtain ⟨rfl, rfl, hc2, hc3⟩ := hp1
    refine x_ws (ws' := [(fi, .inr (8, [.ref tO, .ref gO, .ref nO, .ref tb, .ref tb', .ref trO, .ref gA, .ref tP, .int (nI kf)])), (tb, .inr (6, [.ref nz, .ref tl, .ref pg, .ref se, .ref pa, .ref bo, .ref li, .ref ba, .int (nI cols), .int (nI lc), .int (nI smp)])), (tl, .inl (cy 1, 5, .inl (fun k => nI (tlf k))))]) (List.append_nil _) ?_
    refine x_if_ne C (tgt := 13) dX9_type_8 (by decide) (q := 11) rfl (a := 1) rfl (fun h4 => ?_) (fun h4 => (by omega : False).elim)
    refine x_iload_n C dX9_type_13 (q := 14) rfl rfl 2 rfl ?_
    refine x_if_lt C (tgt := 22) dX9_type_14 (by decide) (q := 17) rfl (a := y.toInt) rfl (fun h5 => ?_) (fun h5 => ?_)
    · first
      | (exfalso; omega)
      |
        refine x_bipush C dX9_type_22 (q := 24) rfl (v := (-2)) (by decide) ?_
        refine x_iret C hA hQ hr dX9_type_24 (Nat.le_of_ble_eq_true rfl) ?_
        unfold typA typN
        repeat (first | rw [if_pos (by omega)] | rw [if_neg (by omega)])
        exact ⟨rfl, rfl⟩
    · first
      | (exfalso; omega)
      |
        refine x_iload_n C dX9_type_17 (q := 18) rfl rfl 2 rfl ?_
        refine x_iconst C dX9_type_18 (q := 19) rfl (v := nI 4) (by decide) ?_
        refine x_icmp_le C (tgt := 25) dX9_type_19 (by decide) (q := 22) rfl (a := y.toInt) (b := 4) rfl rfl (fun h6 => ?_) (fun h6 => ?_)
        · first
          | (exfalso; omega)
          |
            refine x_aload_n C dX9_type_25 (q := 26) rfl rfl 0 rfl ?_
            refine x_get C (ci := 8) (v := .ref tb) hw0 0 rfl rfl 3 (by decide) hw1 rfl dX9_type_26 (q := 29) rfl ?_
            refine x_get C (ci := 6) (v := .ref tl) hw2 1 rfl rfl 1 (by decide) hw3 rfl dX9_type_29 (q := 32) rfl ?_
            refine x_iload_n C dX9_type_32 (q := 33) rfl rfl 1 rfl ?_
            have hb7 := htl x.toInt.toNat
            refine x_iald C (j := x.toInt.toNat) (v := nI (tlf x.toInt.toNat)) 2 rfl (by have h9 := (rfl : (x : Int32).toInt = x.toInt); omega) (by omega) rfl dX9_type_33 (q := 34) rfl ?_
            refine x_istore_n C (L' := [(3, .int (nI (tlf x.toInt.toNat))), (0, .ref fi), (1, .int (x)), (2, .int (y))]) dX9_type_34 (q := 35) rfl rfl (by decide) rfl ?_
            refine x_aload_n C dX9_type_35 (q := 36) rfl rfl 1 rfl ?_
            refine x_get C (ci := 8) (v := .ref tb) hw0 0 rfl rfl 3 (by decide) hw1 rfl dX9_type_36 (q := 39) rfl ?_
            refine x_get C (ci := 6) (v := .ref tl) hw2 1 rfl rfl 1 (by decide) hw3 rfl dX9_type_39 (q := 42) rfl ?_
            refine x_iload_n C dX9_type_42 (q := 43) rfl rfl 2 rfl ?_
            refine x_iload_n C dX9_type_43 (q := 44) rfl rfl 3 rfl ?_
            refine x_topi (y := nI y.toInt.toNat) (xi_nat (by omega)) ?_
            refine x_iast C (ws' := [(fi, .inr (8, [.ref tO, .ref gO, .ref nO, .ref tb, .ref tb', .ref trO, .ref gA, .ref tP, .int (nI kf)])), (tb, .inr (6, [.ref nz, .ref tl, .ref pg, .ref se, .ref pa, .ref bo, .ref li, .ref ba, .int (nI cols), .int (nI lc), .int (nI smp)])), (tl, .inl (cy 1, 5, .inl (fun k => nI ((va_up tlf x.toInt.toNat y.toInt.toNat) k))))]) 2 rfl (j := x.toInt.toNat) (by have h9 := (rfl : (x : Int32).toInt = x.toInt); omega) (by omega) (xup_n tlf x.toInt.toNat y.toInt.toNat) rfl dX9_type_44 (q := 45) rfl ?_
            refine x_iload_n C dX9_type_45 (q := 46) rfl rfl 0 rfl ?_
            refine x_iret C hA hQ hr dX9_type_46 (Nat.le_of_ble_eq_true rfl) ?_
            unfold typA typN
            repeat (first | rw [if_pos (by omega)] | rw [if_neg (by omega)])
            exact ⟨rfl, rfl⟩
        · first
          | (exfalso; omega)
          |
            refine x_bipush C dX9_type_22 (q := 24) rfl (v := (-2)) (by decide) ?_
            refine x_iret C hA hQ hr dX9_type_24 (Nat.le_of_ble_eq_true rfl) ?_
            unfold typA typN
            repeat (first | rw [if_pos (by omega)] | rw [if_neg (by omega)])
            exact ⟨rfl, rfl⟩
  · skip
    obtain ⟨rfl, rfl, hc8⟩ := hp1
    refine x_ws (ws' := [(fi, .inr (8, [.ref tO, .ref gO, .ref nO, .ref tb, .ref tb', .ref trO, .ref gA, .ref tP, .int (nI kf)])), (tb, .inr (6, [.ref nz, .ref tl, .ref pg, .ref se, .ref pa, .ref bo, .ref li, .ref ba, .int (nI cols), .int (nI lc), .int (nI smp)])), (tl, .inl (cy 1, 5, .inl (fun k => nI (tlf k))))]) (List.append_nil _) ?_
    refine x_if_ne C (tgt := 13) dX9_type_8 (by decide) (q := 11) rfl (a := 0) rfl (fun h9 => (by omega : False).elim) (fun h9 => ?_)
    refine x_iconst C dX9_type_11 (q := 12) rfl (v := (-1)) (by decide) ?_
    refine x_iret C hA hQ hr dX9_type_12 (Nat.le_of_ble_eq_true rfl) ?_
    unfold typA typN
    repeat (first | rw [if_pos (by omega)] | rw [if_neg (by omega)])
    exact ⟨rfl, rfl⟩

set_option maxHeartbeats 4000000 in
set_option maxRecDepth 100000 in
/-- KEY, or ABSENT -/
theorem c_X9_keyOrAbsent (l : Launch) (D : va_G) (cy : Nat → ClassId) (fi : Nat) (tO : Nat) (gO : Nat) (nO : Nat) (tb : Nat) (tb' : Nat) (trO : Nat) (gA : Nat) (tP : Nat) (kf : Nat) (nz : Nat) (tl : Nat) (pg : Nat) (se : Nat) (pa : Nat) (bo : Nat) (li : Nat) (ba : Nat) (cols : Nat) (lc : Nat) (smp : Nat) (g0 : Nat) (g1 : Nat) (g2 : Nat) (g3 : Nat) (g4 : Nat) (g5 : Nat) (mk : Nat) (rs : Nat) (ky : Int32)  : xMet l D cy xT yX9_keyOrAbsent wsX9_keyOrAbsent ({ frames := 1, cells := 0, slots := 0, locals := 0 } : Room) [.ref fi] [(fi, .inr (8, [.ref tO, .ref gO, .ref nO, .ref tb, .ref tb', .ref trO, .ref gA, .ref tP, .int (nI kf)])), (tb, .inr (6, [.ref nz, .ref tl, .ref pg, .ref se, .ref pa, .ref bo, .ref li, .ref ba, .int (nI cols), .int (nI lc), .int (nI smp)])), (pg, .inr (4, [.ref g0, .ref g1, .ref g2, .ref g3, .ref g4, .ref g5, .int (nI mk), .int (nI rs), .int (ky)]))] [] (fun (v9 : Option Value) (w9 : va_W) => (v9 = some (.int (kaA ky)) ∧ w9 = [(fi, .inr (8, [.ref tO, .ref gO, .ref nO, .ref tb, .ref tb', .ref trO, .ref gA, .ref tP, .int (nI kf)])), (tb, .inr (6, [.ref nz, .ref tl, .ref pg, .ref se, .ref pa, .ref bo, .ref li, .ref ba, .int (nI cols), .int (nI lc), .int (nI smp)])), (pg, .inr (4, [.ref g0, .ref g1, .ref g2, .ref g3, .ref g4, .ref g5, .int (nI mk), .int (nI rs), .int (ky)]))])) := by
  refine xMet_of (cc := cX9_keyOrAbsent) (maxL := 1) (ret := (some .int)) (by decide) rfl (Nat.le_of_ble_eq_true rfl) (fun p e s m args below meth c A R Q hA hR hQ C hr hnm hro hX => ?_)
  have hw0 : ∀ w ∈ u_ws RX9 TX9 9, w ∈ wsX9_keyOrAbsent := by decide +kernel
  have hw1 : Cond.fieldLink RX9 33 (TX9 3).1 (TX9 3).2.1 (TX9 3).2.2.1 ∈ wsX9_keyOrAbsent := by decide +kernel
  have hw2 : ∀ w ∈ u_ws RX7 TX7 11, w ∈ wsX9_keyOrAbsent := by decide +kernel
  have hw3 : Cond.fieldLink RX9 109 (TX7 2).1 (TX7 2).2.1 (TX7 2).2.2.1 ∈ wsX9_keyOrAbsent := by decide +kernel
  have hw4 : ∀ w ∈ u_ws RX5 TX5 9, w ∈ wsX9_keyOrAbsent := by decide +kernel
  have hw5 : Cond.fieldLink RX9 119 (TX5 8).1 (TX5 8).2.1 (TX5 8).2.2.1 ∈ wsX9_keyOrAbsent := by decide +kernel
  refine x_L (L' := [(0, .ref fi)]) [0] rfl ?_
  refine x_aload_n C dX9_keyOrAbsent_0 (q := 1) rfl rfl 0 rfl ?_
  refine x_get C (ci := 8) (v := .ref tb) hw0 0 rfl rfl 3 (by decide) hw1 rfl dX9_keyOrAbsent_1 (q := 4) rfl ?_
  refine x_get C (ci := 6) (v := .ref pg) hw2 1 rfl rfl 2 (by decide) hw3 rfl dX9_keyOrAbsent_4 (q := 7) rfl ?_
  refine x_get C (ci := 4) (v := .int (ky)) hw4 2 rfl rfl 8 (by decide) hw5 rfl dX9_keyOrAbsent_7 (q := 10) rfl ?_
  refine x_iconst C dX9_keyOrAbsent_10 (q := 11) rfl (v := (-1)) (by decide) ?_
  refine x_icmp_ne C (tgt := 19) dX9_keyOrAbsent_11 (by decide) (q := 14) rfl (a := ky.toInt) (b := (-1)) rfl rfl (fun h1 => ?_) (fun h1 => ?_)
  · first
    | (exfalso; omega)
    |
      refine x_aload_n C dX9_keyOrAbsent_19 (q := 20) rfl rfl 0 rfl ?_
      refine x_get C (ci := 8) (v := .ref tb) hw0 0 rfl rfl 3 (by decide) hw1 rfl dX9_keyOrAbsent_20 (q := 23) rfl ?_
      refine x_get C (ci := 6) (v := .ref pg) hw2 1 rfl rfl 2 (by decide) hw3 rfl dX9_keyOrAbsent_23 (q := 26) rfl ?_
      refine x_get C (ci := 4) (v := .int (ky)) hw4 2 rfl rfl 8 (by decide) hw5 rfl dX9_keyOrAbsent_26 (q := 29) rfl ?_
      refine x_iret C hA hQ hr dX9_keyOrAbsent_29 (Nat.le_of_ble_eq_true rfl) ?_
      unfold kaA
      repeat (first | rw [if_pos (by omega)] | rw [if_neg (by omega)])
      exact ⟨rfl, rfl⟩
  · first
    | (exfalso; omega)
    |
      refine x_bipush C dX9_keyOrAbsent_14 (q := 16) rfl (v := (-5)) (by decide) ?_
      refine x_goto C (tgt := 29) dX9_keyOrAbsent_16 (by decide) ?_
      refine x_iret C hA hQ hr dX9_keyOrAbsent_29 (Nat.le_of_ble_eq_true rfl) ?_
      unfold kaA
      repeat (first | rw [if_pos (by omega)] | rw [if_neg (by omega)])
      exact ⟨rfl, rfl⟩

set_option maxHeartbeats 4000000 in
set_option maxRecDepth 100000 in
/-- key -/
theorem c_X9_key (l : Launch) (D : va_G) (cy : Nat → ClassId) (fi : Nat) (tO : Nat) (gO : Nat) (nO : Nat) (tb : Nat) (tb' : Nat) (trO : Nat) (gA : Nat) (tP : Nat) (kf : Nat) (nz : Nat) (tl : Nat) (pg : Nat) (se : Nat) (pa : Nat) (bo : Nat) (li : Nat) (ba : Nat) (cols : Nat) (lc : Nat) (smp : Nat) (g0 : Nat) (g1 : Nat) (g2 : Nat) (g3 : Nat) (g4 : Nat) (g5 : Nat) (mk : Nat) (rs : Nat) (ky : Int32) (x : Int32) (hcols : cols ≤ 5) (hlc : lc ≤ 24) (hmk : mk ≤ 24) : xMet l D cy xT yX9_key wsX9_key ({ frames := 2, cells := 0, slots := 0, locals := 200 } : Room) [.ref fi, .int (x)] [(fi, .inr (8, [.ref tO, .ref gO, .ref nO, .ref tb, .ref tb', .ref trO, .ref gA, .ref tP, .int (nI kf)])), (tb, .inr (6, [.ref nz, .ref tl, .ref pg, .ref se, .ref pa, .ref bo, .ref li, .ref ba, .int (nI cols), .int (nI lc), .int (nI smp)])), (pg, .inr (4, [.ref g0, .ref g1, .ref g2, .ref g3, .ref g4, .ref g5, .int (nI mk), .int (nI rs), .int (ky)]))] [] (fun (v9 : Option Value) (w9 : va_W) => (v9 = some (.int (keA cols mk ky x)) ∧ w9 = [(fi, .inr (8, [.ref tO, .ref gO, .ref nO, .ref tb, .ref tb', .ref trO, .ref gA, .ref tP, .int (nI kf)])), (tb, .inr (6, [.ref nz, .ref tl, .ref pg, .ref se, .ref pa, .ref bo, .ref li, .ref ba, .int (nI cols), .int (nI lc), .int (nI smp)])), (pg, .inr (4, [.ref g0, .ref g1, .ref g2, .ref g3, .ref g4, .ref g5, .int (nI mk), .int (nI rs), .int (keN cols mk ky x)]))])) := by
  refine xMet_of (cc := cX9_key) (maxL := 3) (ret := (some .int)) (by decide) rfl (Nat.le_of_ble_eq_true rfl) (fun p e s m args below meth c A R Q hA hR hQ C hr hnm hro hX => ?_)
  have hw0 : ∀ w ∈ u_ws RX9 TX9 9, w ∈ wsX9_key := by decide +kernel
  have hw1 : Cond.fieldLink RX9 33 (TX9 3).1 (TX9 3).2.1 (TX9 3).2.2.1 ∈ wsX9_key := by decide +kernel
  have hw2 : ∀ w ∈ u_ws RX7 TX7 11, w ∈ wsX9_key := by decide +kernel
  have hw3 : Cond.fieldLink RX9 109 (TX7 2).1 (TX7 2).2.1 (TX7 2).2.2.1 ∈ wsX9_key := by decide +kernel
  have hw4 : ∀ w ∈ u_ws RX5 TX5 9, w ∈ wsX9_key := by decide +kernel
  have hw5 : Cond.fieldLink RX9 112 (TX5 6).1 (TX5 6).2.1 (TX5 6).2.2.1 ∈ wsX9_key := by decide +kernel
  have hw6 : Cond.fieldLink RX9 119 (TX5 8).1 (TX5 8).2.1 (TX5 8).2.2.1 ∈ wsX9_key := by decide +kernel
  refine x_L (L' := [(0, .ref fi), (1, .int (x))]) [0, 1] rfl ?_
  refine x_iload_n C dX9_key_0 (q := 1) rfl rfl 1 rfl ?_
  refine x_iconst C dX9_key_1 (q := 2) rfl (v := (-1)) (by decide) ?_
  refine x_icmp_eq C (tgt := 18) dX9_key_2 (by decide) (q := 5) rfl (a := x.toInt) (b := (-1)) rfl rfl (fun h1 => ?_) (fun h1 => ?_)
  · first
    | (exfalso; omega)
    |
      refine x_aload_n C dX9_key_18 (q := 19) rfl rfl 0 rfl ?_
      refine x_get C (ci := 8) (v := .ref tb) hw0 0 rfl rfl 3 (by decide) hw1 rfl dX9_key_19 (q := 22) rfl ?_
      refine x_get C (ci := 6) (v := .ref pg) hw2 1 rfl rfl 2 (by decide) hw3 rfl dX9_key_22 (q := 25) rfl ?_
      refine x_get C (ci := 4) (v := .int (nI mk)) hw4 2 rfl rfl 6 (by decide) hw5 rfl dX9_key_25 (q := 28) rfl ?_
      refine x_if_le C (tgt := 34) dX9_key_28 (by decide) (q := 31) rfl (a := ((mk : Nat) : Int)) (nI_toInt (by omega)) (fun h2 => ?_) (fun h2 => ?_)
      · first
        | (exfalso; omega)
        |
          refine x_aload_n C dX9_key_34 (q := 35) rfl rfl 0 rfl ?_
          refine x_callV C (roW := []) (roR := []) (c_X9_keyOrAbsent l D cy fi tO gO nO tb tb' trO gA tP kf nz tl pg se pa bo li ba cols lc smp g0 g1 g2 g3 g4 g5 mk rs ky ) (cwV 0 C.2.2.2.2.1 gX9_key_X9_keyOrAbsent rfl rfl rfl (by decide +kernel) (by rw [hR]; exact ⟨Nat.le_of_ble_eq_true rfl, Nat.le_of_ble_eq_true rfl⟩)) [0, 1, 2] [] rfl (by decide) rfl (by decide) xro_nil (List.mem_of_getElem? (i := 0) rfl) (ci := 8) rfl xT_bl (fun _ _ _ _ _ _ _ => trivial) rfl rfl dX9_key_35 rfl rfl (Nat.le_of_ble_eq_true rfl) (q := 38) rfl (k' := 0) rfl (n' := 0) rfl (by rw [hR]; exact ⟨Nat.le_of_ble_eq_true rfl, Nat.le_of_ble_eq_true rfl⟩) (fun v3 w3 hp3 => ?_)
          obtain ⟨rfl, rfl⟩ := hp3
          refine x_ws (ws' := [(fi, .inr (8, [.ref tO, .ref gO, .ref nO, .ref tb, .ref tb', .ref trO, .ref gA, .ref tP, .int (nI kf)])), (tb, .inr (6, [.ref nz, .ref tl, .ref pg, .ref se, .ref pa, .ref bo, .ref li, .ref ba, .int (nI cols), .int (nI lc), .int (nI smp)])), (pg, .inr (4, [.ref g0, .ref g1, .ref g2, .ref g3, .ref g4, .ref g5, .int (nI mk), .int (nI rs), .int (ky)]))]) rfl ?_
          refine x_istore_n C (L' := [(2, .int (kaA ky)), (0, .ref fi), (1, .int (x))]) dX9_key_38 (q := 39) rfl rfl (by decide) rfl ?_
          refine x_aload_n C dX9_key_39 (q := 40) rfl rfl 1 rfl ?_
          refine x_get C (ci := 8) (v := .ref tb) hw0 0 rfl rfl 3 (by decide) hw1 rfl dX9_key_40 (q := 43) rfl ?_
          refine x_get C (ci := 6) (v := .ref pg) hw2 1 rfl rfl 2 (by decide) hw3 rfl dX9_key_43 (q := 46) rfl ?_
          refine x_iload_n C dX9_key_46 (q := 47) rfl rfl 2 rfl ?_
          refine x_put C (ci := 4) (ty := .int) (ws' := [(fi, .inr (8, [.ref tO, .ref gO, .ref nO, .ref tb, .ref tb', .ref trO, .ref gA, .ref tP, .int (nI kf)])), (tb, .inr (6, [.ref nz, .ref tl, .ref pg, .ref se, .ref pa, .ref bo, .ref li, .ref ba, .int (nI cols), .int (nI lc), .int (nI smp)])), (pg, .inr (4, [.ref g0, .ref g1, .ref g2, .ref g3, .ref g4, .ref g5, .int (nI mk), .int (nI rs), .int (x)]))]) hw4 tyX5 tyX5_ok nmX5 2 rfl rfl 8 (by decide) hw6 rfl (by decide +kernel) rfl rfl (Nat.le_of_ble_eq_true rfl) rfl dX9_key_47 (q := 50) rfl ?_
          refine x_iload_n C dX9_key_50 (q := 51) rfl rfl 0 rfl ?_
          refine x_iret C hA hQ hr dX9_key_51 (Nat.le_of_ble_eq_true rfl) ?_
          unfold keA keN
          repeat (first | rw [if_pos (by omega)] | rw [if_neg (by omega)])
          exact ⟨rfl, rfl⟩
      · first
        | (exfalso; omega)
        |
          refine x_bipush C dX9_key_31 (q := 33) rfl (v := (-3)) (by decide) ?_
          refine x_iret C hA hQ hr dX9_key_33 (Nat.le_of_ble_eq_true rfl) ?_
          unfold keA keN
          repeat (first | rw [if_pos (by omega)] | rw [if_neg (by omega)])
          exact ⟨rfl, rfl⟩
  · first
    | (exfalso; omega)
    |
      refine x_aload_n C dX9_key_5 (q := 6) rfl rfl 0 rfl ?_
      refine x_get C (ci := 8) (v := .ref tb) hw0 0 rfl rfl 3 (by decide) hw1 rfl dX9_key_6 (q := 9) rfl ?_
      refine x_iload_n C dX9_key_9 (q := 10) rfl rfl 1 rfl ?_
      refine x_callV C (roW := [(tb, .inr (6, [.ref nz, .ref tl, .ref pg, .ref se, .ref pa, .ref bo, .ref li, .ref ba, .int (nI cols), .int (nI lc), .int (nI smp)]))]) (roR := []) (c_X7_hasColumn l D cy tb nz tl pg se pa bo li ba cols lc smp x (by first | assumption | omega | (simp only []; omega)) (by first | assumption | omega | (simp only []; omega))) (cwV 1 C.2.2.2.2.1 gX9_key_X7_hasColumn rfl rfl rfl (by decide +kernel) (by rw [hR]; exact ⟨Nat.le_of_ble_eq_true rfl, Nat.le_of_ble_eq_true rfl⟩)) [] [1] rfl (by decide) rfl (by decide) xro_nil (List.mem_of_getElem? (i := 0) rfl) (ci := 6) rfl xT_bl (fun _ _ _ _ _ _ _ => trivial) rfl rfl dX9_key_10 rfl rfl (Nat.le_of_ble_eq_true rfl) (q := 13) rfl (k' := 0) rfl (n' := 0) rfl (by rw [hR]; exact ⟨Nat.le_of_ble_eq_true rfl, Nat.le_of_ble_eq_true rfl⟩) (fun v4 w4 hp4 => ?_)
      rcases hp4 with hp4 | hp4
      · skip
        obtain ⟨rfl, rfl, hc5, hc6⟩ := hp4
        refine x_ws (ws' := [(fi, .inr (8, [.ref tO, .ref gO, .ref nO, .ref tb, .ref tb', .ref trO, .ref gA, .ref tP, .int (nI kf)])), (tb, .inr (6, [.ref nz, .ref tl, .ref pg, .ref se, .ref pa, .ref bo, .ref li, .ref ba, .int (nI cols), .int (nI lc), .int (nI smp)])), (pg, .inr (4, [.ref g0, .ref g1, .ref g2, .ref g3, .ref g4, .ref g5, .int (nI mk), .int (nI rs), .int (ky)]))]) (List.append_nil _) ?_
        refine x_if_ne C (tgt := 18) dX9_key_13 (by decide) (q := 16) rfl (a := 1) rfl (fun h7 => ?_) (fun h7 => (by omega : False).elim)
        refine x_aload_n C dX9_key_18 (q := 19) rfl rfl 0 rfl ?_
        refine x_get C (ci := 8) (v := .ref tb) hw0 0 rfl rfl 3 (by decide) hw1 rfl dX9_key_19 (q := 22) rfl ?_
        refine x_get C (ci := 6) (v := .ref pg) hw2 1 rfl rfl 2 (by decide) hw3 rfl dX9_key_22 (q := 25) rfl ?_
        refine x_get C (ci := 4) (v := .int (nI mk)) hw4 2 rfl rfl 6 (by decide) hw5 rfl dX9_key_25 (q := 28) rfl ?_
        refine x_if_le C (tgt := 34) dX9_key_28 (by decide) (q := 31) rfl (a := ((mk : Nat) : Int)) (nI_toInt (by omega)) (fun h8 => ?_) (fun h8 => ?_)
        · first
          | (exfalso; omega)
          |
            refine x_aload_n C dX9_key_34 (q := 35) rfl rfl 0 rfl ?_
            refine x_callV C (roW := []) (roR := []) (c_X9_keyOrAbsent l D cy fi tO gO nO tb tb' trO gA tP kf nz tl pg se pa bo li ba cols lc smp g0 g1 g2 g3 g4 g5 mk rs ky ) (cwV 0 C.2.2.2.2.1 gX9_key_X9_keyOrAbsent rfl rfl rfl (by decide +kernel) (by rw [hR]; exact ⟨Nat.le_of_ble_eq_true rfl, Nat.le_of_ble_eq_true rfl⟩)) [0, 1, 2] [] rfl (by decide) rfl (by decide) xro_nil (List.mem_of_getElem? (i := 0) rfl) (ci := 8) rfl xT_bl (fun _ _ _ _ _ _ _ => trivial) rfl rfl dX9_key_35 rfl rfl (Nat.le_of_ble_eq_true rfl) (q := 38) rfl (k' := 0) rfl (n' := 0) rfl (by rw [hR]; exact ⟨Nat.le_of_ble_eq_true rfl, Nat.le_of_ble_eq_true rfl⟩) (fun v9 w9 hp9 => ?_)
            obtain ⟨rfl, rfl⟩ := hp9
            refine x_ws (ws' := [(fi, .inr (8, [.ref tO, .ref gO, .ref nO, .ref tb, .ref tb', .ref trO, .ref gA, .ref tP, .int (nI kf)])), (tb, .inr (6, [.ref nz, .ref tl, .ref pg, .ref se, .ref pa, .ref bo, .ref li, .ref ba, .int (nI cols), .int (nI lc), .int (nI smp)])), (pg, .inr (4, [.ref g0, .ref g1, .ref g2, .ref g3, .ref g4, .ref g5, .int (nI mk), .int (nI rs), .int (ky)]))]) rfl ?_
            refine x_istore_n C (L' := [(2, .int (kaA ky)), (0, .ref fi), (1, .int (x))]) dX9_key_38 (q := 39) rfl rfl (by decide) rfl ?_
            refine x_aload_n C dX9_key_39 (q := 40) rfl rfl 1 rfl ?_
            refine x_get C (ci := 8) (v := .ref tb) hw0 0 rfl rfl 3 (by decide) hw1 rfl dX9_key_40 (q := 43) rfl ?_
            refine x_get C (ci := 6) (v := .ref pg) hw2 1 rfl rfl 2 (by decide) hw3 rfl dX9_key_43 (q := 46) rfl ?_
            refine x_iload_n C dX9_key_46 (q := 47) rfl rfl 2 rfl ?_
            refine x_put C (ci := 4) (ty := .int) (ws' := [(fi, .inr (8, [.ref tO, .ref gO, .ref nO, .ref tb, .ref tb', .ref trO, .ref gA, .ref tP, .int (nI kf)])), (tb, .inr (6, [.ref nz, .ref tl, .ref pg, .ref se, .ref pa, .ref bo, .ref li, .ref ba, .int (nI cols), .int (nI lc), .int (nI smp)])), (pg, .inr (4, [.ref g0, .ref g1, .ref g2, .ref g3, .ref g4, .ref g5, .int (nI mk), .int (nI rs), .int (x)]))]) hw4 tyX5 tyX5_ok nmX5 2 rfl rfl 8 (by decide) hw6 rfl (by decide +kernel) rfl rfl (Nat.le_of_ble_eq_true rfl) rfl dX9_key_47 (q := 50) rfl ?_
            refine x_iload_n C dX9_key_50 (q := 51) rfl rfl 0 rfl ?_
            refine x_iret C hA hQ hr dX9_key_51 (Nat.le_of_ble_eq_true rfl) ?_
            unfold keA keN
            repeat (first | rw [if_pos (by omega)] | rw [if_neg (by omega)])
            exact ⟨rfl, rfl⟩
        · first
          | (exfalso; omega)
          |
            refine x_bipush C dX9_key_31 (q := 33) rfl (v := (-3)) (by decide) ?_
            refine x_iret C hA hQ hr dX9_key_33 (Nat.le_of_ble_eq_true rfl) ?_
            unfold keA keN
            repeat (first | rw [if_pos (by omega)] | rw [if_neg (by omega)])
            exact ⟨rfl, rfl⟩
      · skip
        obtain ⟨rfl, rfl, hc10⟩ := hp4
        refine x_ws (ws' := [(fi, .inr (8, [.ref tO, .ref gO, .ref nO, .ref tb, .ref tb', .ref trO, .ref gA, .ref tP, .int (nI kf)])), (tb, .inr (6, [.ref nz, .ref tl, .ref pg, .ref se, .ref pa, .ref bo, .ref li, .ref ba, .int (nI cols), .int (nI lc), .int (nI smp)])), (pg, .inr (4, [.ref g0, .ref g1, .ref g2, .ref g3, .ref g4, .ref g5, .int (nI mk), .int (nI rs), .int (ky)]))]) (List.append_nil _) ?_
        refine x_if_ne C (tgt := 18) dX9_key_13 (by decide) (q := 16) rfl (a := 0) rfl (fun h11 => (by omega : False).elim) (fun h11 => ?_)
        refine x_iconst C dX9_key_16 (q := 17) rfl (v := (-1)) (by decide) ?_
        refine x_iret C hA hQ hr dX9_key_17 (Nat.le_of_ble_eq_true rfl) ?_
        unfold keA keN
        repeat (first | rw [if_pos (by omega)] | rw [if_neg (by omega)])
        exact ⟨rfl, rfl⟩
