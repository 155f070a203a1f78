
/-- signs, how many and which -/
abbrev SGN : Type := Nat × (Nat → Nat)
def dgP (v wd : Nat) (s : SGN) : SGN := (s.1 + (dgE v wd 17 0 + 1), dgF v (dgE v wd 17 0) s.2 s.1 (dgE v wd 17 0 + 1))
def adP (v : Nat) (s : SGN) : SGN := (s.1 + 1, va_up s.2 s.1 v)
def wnB (nm : Int64) (gx : Nat → Nat) : SGN := if nm.toInt < 0 then (1, va_up gx 0 45) else (0, gx)
theorem wnB_n {nm : Int64} {gx : Nat → Nat} (h : nm.toInt < 0) : wnB nm gx = (1, va_up gx 0 45) := if_pos h
theorem wnB_p {nm : Int64} {gx : Nat → Nat} (h : ¬ nm.toInt < 0) : wnB nm gx = (0, gx) := if_neg h
def wnP (nm : Int64) (fl : Nat) (gx : Nat → Nat) : SGN := if fl = 0 then dgP nm.toInt.natAbs 1 (wnB nm gx) else dgP (nm.toInt.natAbs % 1000) 3 (adP 46 (dgP (nm.toInt.natAbs / 1000) 1 (wnB nm gx)))
def wdF (bs gx : Nat → Nat) : Nat → (Nat → Nat)
  | 0 => gx
  | k + 1 => va_up (wdF bs gx k) k (bs k)
theorem wdF_lt {bs gx : Nat → Nat} (hb : ∀ k, bs k < 128) (hg : ∀ k, gx k < 128) : ∀ i k, wdF bs gx i k < 128
  | 0, k => hg k
  | i + 1, k => va_up_lt (fun j => wdF_lt hb hg i j) (hb i) k
/-- what a FIELD is SHOWN as -/
def wsP (fm : Nat) (nm wd : Int64) (bl : Nat) (bs : Nat → Nat) (ty : Nat) (gx : Nat → Nat) : SGN :=
  if fm = 0 then (0, gx) else if ty = 4 then (bl, wdF bs gx bl) else if ty = 3 then dgP (dyS bs) 2 (adP 45 (dgP (moS bs) 2 (adP 45 (dgP (yrS bs) 4 (0, gx))))) else wnP (valS fm nm wd ty) (if ty = 2 then 1 else 0) gx
/-- that a FIELD can be shown by a TYPE -/
def shK (ld : LD) (k i ty : Nat) : Prop := dBl ld k i ≤ 12 ∧ (∀ j, dBs ld k i j < 128) ∧ (dFm ld k i = 0 ∨ ((¬ ty = 4 → (valS (dFm ld k i) (dNm ld k i) (dWd ld k i) ty).toInt.natAbs < 1000000000) ∧ (ty = 3 → dBl ld k i = 10 ∧ (patD (dBs ld k i) ∨ patY (dBs ld k i)))))
def shS (ld : LD) (ty k i : Nat) (gx : Nat → Nat) : SGN := wsP (dFm ld k i) (dNm ld k i) (dWd ld k i) (dBl ld k i) (dBs ld k i) ty gx
def shoA (ld : LD) (cols : Nat) (tl : Nat → Nat) (z : Nat) (P : PS) (gx : Nat → Nat) (x y i : Int) : Int32 := if x < 0 ∨ pRs P ≤ x ∨ y < 0 ∨ cols ≤ y then -1 else if i < 0 ∨ (shS ld (tyS (pSt P) tl ld y.toNat z) (pLr P x.toNat) y.toNat gx).1 ≤ i then -1 else nI ((shS ld (tyS (pSt P) tl ld y.toNat z) (pLr P x.toNat) y.toNat gx).2 i.toNat)

set_option maxHeartbeats 4000000 in
set_option maxRecDepth 100000 in
/-- a number is written -/
theorem c_X9_writeNumber (l : Launch) (D : va_G) (cy : Nat → ClassId) (fi : Nat) (tO : Nat) (gO : Nat) (nO : Nat) (tb : Nat) (tb' : Nat) (trO : Nat) (gA : Nat) (tP : Nat) (kf : Nat) (gB : Nat) (gx : Nat → Nat) (nm : Int64) (fl : Nat) (hgx : ∀ k, gx k < 128) (hnm : nm.toInt.natAbs < 1000000000) (hfl : fl ≤ 1) : xMet l D cy xT yX9_writeNumber wsX9_writeNumber ({ frames := 4, cells := 0, slots := 0, locals := 500 } : Room) [.ref fi, .long (nm), .int (nI fl)] [(fi, .inr (8, [.ref tO, .ref gO, .ref nO, .ref tb, .ref tb', .ref trO, .ref gA, .ref tP, .int (nI kf)])), (gO, .inr (5, [.ref gB, .int (nI 0)])), (gB, .inl (cy 0, 12, .inl (fun k => nI (gx k))))] [] (fun (v9 : Option Value) (w9 : va_W) => (∃ n2 : Nat, ∃ t2 : Nat → Nat, v9 = none ∧ w9 = [(fi, .inr (8, [.ref tO, .ref gO, .ref nO, .ref tb, .ref tb', .ref trO, .ref gA, .ref tP, .int (nI kf)])), (gO, .inr (5, [.ref gB, .int (nI n2)])), (gB, .inl (cy 0, 12, .inl (fun k => nI (t2 k))))] ∧ n2 = (wnP nm fl gx).1 ∧ t2 = (wnP nm fl gx).2 ∧ n2 ≤ 12 ∧ ∀ k, t2 k < 128)) := by
  refine xMet_of (cc := cX9_writeNumber) (maxL := 6) (ret := none) (by decide) rfl (Nat.le_of_ble_eq_true rfl) (fun p e s m args below meth c A R Q hA hR hQ C hr hnm hro hX => ?_)
  have hw0 : Cond.methodLink RX9 319 Lib.MathLoose.abs_long.x ∈ wsX9_writeNumber := by decide +kernel
  have hw1 : Cond.static Lib.MathLoose.abs_long.x ∈ wsX9_writeNumber := by decide +kernel
  have hw2 : Cond.initialized "java/lang/Math" ∈ wsX9_writeNumber := by decide +kernel
  have hw3 : Cond.code Lib.MathLoose.abs_long.x Lib.MathLoose.abs_long.code 2 (some .long) ∈ wsX9_writeNumber := by decide +kernel
  have hw4 : ∀ w ∈ u_ws RX9 TX9 9, w ∈ wsX9_writeNumber := by decide +kernel
  have hw5 : Cond.fieldLink RX9 20 (TX9 1).1 (TX9 1).2.1 (TX9 1).2.2.1 ∈ wsX9_writeNumber := by decide +kernel
  have hw6 : Jvm.Cond.constantLong RX9 325 (1000) ∈ wsX9_writeNumber := by decide +kernel
  refine x_L (L' := [(0, .ref fi), (1, .long (nm)), (3, .int (nI fl))]) [0, 1, 2] rfl ?_
  have cut15 : ∀ (n0 : Nat) (t0 : Nat → Nat), (n0 = (wnB nm gx).1) → (t0 = (wnB nm gx).2) → (n0 ≤ 1) → (∀ k, t0 k < 128) → xG p l e R s m args below meth c Q D A 6 [(fi, .inr (8, [.ref tO, .ref gO, .ref nO, .ref tb, .ref tb', .ref trO, .ref gA, .ref tP, .int (nI kf)])), (gO, .inr (5, [.ref gB, .int (nI n0)])), (gB, .inl (cy 0, 12, .inl (fun k => nI (t0 k))))] 0 0 15 [(0, .ref fi), (1, .long (nm)), (3, .int (nI fl))] [] := by
    intro n0 t0 hn0 ht0 hn1 hl0
    have hd1 := dgE_lt (v := nm.toInt.natAbs / 1000) (wd := 1) (m := 5) (by show _ < 1000000; omega) (by decide) 17 0 (by decide)
    have hd2 := dgE_lt (v := nm.toInt.natAbs % 1000) (wd := 3) (m := 2) (by show _ < 1000; omega) (by decide) 17 0 (by decide)
    have hd3 := dgE_lt (v := nm.toInt.natAbs) (wd := 1) (m := 8) (by show _ < 1000000000; omega) (by decide) 17 0 (by decide)
    refine x_lload_n C dX9_writeNumber_15 (q := 16) rfl rfl 1 rfl ?_
    refine x_mabsl C hw0 hw1 hw2 hw3 (by rw [hR]; exact Nat.le_of_ble_eq_true rfl) (by rw [hR]; exact Nat.le_of_ble_eq_true rfl) (by rw [hR]; exact ⟨Nat.le_of_ble_eq_true rfl, Nat.le_of_ble_eq_true rfl⟩) (z := lN nm.toInt.natAbs) (xl_abs (by omega)) dX9_writeNumber_16 (q := 19) rfl ?_
    refine x_lstore C (L' := [(4, .long (lN nm.toInt.natAbs)), (0, .ref fi), (1, .long (nm)), (3, .int (nI fl))]) dX9_writeNumber_19 (q := 21) rfl (by decide) rfl ?_
    refine x_iload_n C dX9_writeNumber_21 (q := 22) rfl rfl 3 rfl ?_
    refine x_if_eq C (tgt := 65) dX9_writeNumber_22 (by decide) (q := 25) rfl (a := ((fl : Nat) : Int)) (nI_toInt (by omega)) (fun h1 => ?_) (fun h1 => ?_)
    · first
      | (exfalso; omega)
      |
        refine x_aload_n C dX9_writeNumber_65 (q := 66) rfl rfl 1 rfl ?_
        refine x_get C (ci := 8) (v := .ref gO) hw4 0 rfl rfl 1 (by decide) hw5 rfl dX9_writeNumber_66 (q := 69) rfl ?_
        refine x_lload C dX9_writeNumber_69 (q := 71) rfl 0 rfl ?_
        refine x_iconst C dX9_writeNumber_71 (q := 72) rfl (v := nI 1) (by decide) ?_
        refine x_callV C (roW := []) (roR := []) (c_X6_addDigits l D cy gO gB n0 12 t0 nm.toInt.natAbs 1 (by first | assumption | omega | (simp only []; omega)) (by first | assumption | omega | (simp only []; omega)) (by first | assumption | omega | (simp only []; omega)) (by first | assumption | omega | (simp only []; omega))) (cwV 2 C.2.2.2.2.1 gX9_writeNumber_X6_addDigits rfl rfl rfl (by decide +kernel) (by rw [hR]; exact ⟨Nat.le_of_ble_eq_true rfl, Nat.le_of_ble_eq_true rfl⟩)) [1, 2] [] rfl (by decide) rfl (by decide) xro_nil (List.mem_of_getElem? (i := 0) rfl) (ci := 5) rfl xT_bl (fun _ _ _ _ _ _ _ => trivial) rfl rfl dX9_writeNumber_72 rfl rfl (Nat.le_of_ble_eq_true rfl) (q := 75) rfl (k' := 0) rfl (n' := 0) rfl (by rw [hR]; exact ⟨Nat.le_of_ble_eq_true rfl, Nat.le_of_ble_eq_true rfl⟩) (fun v2 w2 hp2 => ?_)
        obtain ⟨rfl, rfl⟩ := hp2
        refine x_ws (ws' := [(fi, .inr (8, [.ref tO, .ref gO, .ref nO, .ref tb, .ref tb', .ref trO, .ref gA, .ref tP, .int (nI kf)])), (gO, .inr (5, [.ref gB, .int (nI (n0 + (dgE nm.toInt.natAbs 1 17 0 + 1)))])), (gB, .inl (cy 0, 12, .inl (fun k => nI ((dgF nm.toInt.natAbs (dgE nm.toInt.natAbs 1 17 0) t0 n0 (dgE nm.toInt.natAbs 1 17 0 + 1)) k))))]) rfl ?_
        refine x_vret C hA hQ hr dX9_writeNumber_75 (Nat.le_of_ble_eq_true rfl) ?_
        refine ⟨_, _, rfl, rfl, ?_, ?_, by omega, ?_⟩
        · unfold wnP
          repeat (first | rw [if_pos (by omega)] | rw [if_neg (by omega)])
          rw [hn0]
          rfl
        · unfold wnP
          repeat (first | rw [if_pos (by omega)] | rw [if_neg (by omega)])
          rw [hn0, ht0]
          rfl
        · first | exact dgF_lt (va_up_lt (dgF_lt hl0 _) (by decide)) _ | exact dgF_lt hl0 _
    · first
      | (exfalso; omega)
      |
        refine x_aload_n C dX9_writeNumber_25 (q := 26) rfl rfl 1 rfl ?_
        refine x_get C (ci := 8) (v := .ref gO) hw4 0 rfl rfl 1 (by decide) hw5 rfl dX9_writeNumber_26 (q := 29) rfl ?_
        refine x_lload C dX9_writeNumber_29 (q := 31) rfl 0 rfl ?_
        refine x_ldc2 C (v := lN 1000) hw6 dX9_writeNumber_31 (q := 34) rfl ?_
        refine x_ldiv C dX9_writeNumber_34 (q := 35) rfl (xl_ne0 (b := 1000) rfl (by omega)) (z := lN (nm.toInt.natAbs / 1000)) (pk_lDiv (by omega) (by omega) (by omega)) ?_
        refine x_iconst C dX9_writeNumber_35 (q := 36) rfl (v := nI 1) (by decide) ?_
        refine x_callV C (roW := []) (roR := []) (c_X6_addDigits l D cy gO gB n0 12 t0 (nm.toInt.natAbs / 1000) 1 (by first | assumption | omega | (simp only []; omega)) (by first | assumption | omega | (simp only []; omega)) (by first | assumption | omega | (simp only []; omega)) (by first | assumption | omega | (simp only []; omega))) (cwV 2 C.2.2.2.2.1 gX9_writeNumber_X6_addDigits rfl rfl rfl (by decide +kernel) (by rw [hR]; exact ⟨Nat.le_of_ble_eq_true rfl, Nat.le_of_ble_eq_true rfl⟩)) [1, 2] [] rfl (by decide) rfl (by decide) xro_nil (List.mem_of_getElem? (i := 0) rfl) (ci := 5) rfl xT_bl (fun _ _ _ _ _ _ _ => trivial) rfl rfl dX9_writeNumber_36 rfl rfl (Nat.le_of_ble_eq_true rfl) (q := 39) rfl (k' := 0) rfl (n' := 0) rfl (by rw [hR]; exact ⟨Nat.le_of_ble_eq_true rfl, Nat.le_of_ble_eq_true rfl⟩) (fun v3 w3 hp3 => ?_)
        obtain ⟨rfl, rfl⟩ := hp3
        refine x_ws (ws' := [(fi, .inr (8, [.ref tO, .ref gO, .ref nO, .ref tb, .ref tb', .ref trO, .ref gA, .ref tP, .int (nI kf)])), (gO, .inr (5, [.ref gB, .int (nI (n0 + (dgE (nm.toInt.natAbs / 1000) 1 17 0 + 1)))])), (gB, .inl (cy 0, 12, .inl (fun k => nI ((dgF (nm.toInt.natAbs / 1000) (dgE (nm.toInt.natAbs / 1000) 1 17 0) t0 n0 (dgE (nm.toInt.natAbs / 1000) 1 17 0 + 1)) k))))]) rfl ?_
        refine x_aload_n C dX9_writeNumber_39 (q := 40) rfl rfl 1 rfl ?_
        refine x_get C (ci := 8) (v := .ref gO) hw4 0 rfl rfl 1 (by decide) hw5 rfl dX9_writeNumber_40 (q := 43) rfl ?_
        refine x_bipush C dX9_writeNumber_43 (q := 45) rfl (v := nI 46) (by decide) ?_
        refine x_callV C (roW := []) (roR := []) (c_X6_add l D cy gO gB (n0 + (dgE (nm.toInt.natAbs / 1000) 1 17 0 + 1)) 12 (dgF (nm.toInt.natAbs / 1000) (dgE (nm.toInt.natAbs / 1000) 1 17 0) t0 n0 (dgE (nm.toInt.natAbs / 1000) 1 17 0 + 1)) 46 (by first | assumption | omega | (simp only []; omega)) (by first | assumption | omega | (simp only []; omega)) (by first | assumption | omega | (simp only []; omega))) (cwV 1 C.2.2.2.2.1 gX9_writeNumber_X6_add rfl rfl rfl (by decide +kernel) (by rw [hR]; exact ⟨Nat.le_of_ble_eq_true rfl, Nat.le_of_ble_eq_true rfl⟩)) [1, 2] [] rfl (by decide) rfl (by decide) xro_nil (List.mem_of_getElem? (i := 0) rfl) (ci := 5) rfl xT_bl (fun _ _ _ _ _ _ _ => trivial) rfl rfl dX9_writeNumber_45 rfl rfl (Nat.le_of_ble_eq_true rfl) (q := 48) rfl (k' := 0) rfl (n' := 0) rfl (by rw [hR]; exact ⟨Nat.le_of_ble_eq_true rfl, Nat.le_of_ble_eq_true rfl⟩) (fun v4 w4 hp4 => ?_)
        obtain ⟨rfl, rfl⟩ := hp4
        refine x_ws (ws' := [(fi, .inr (8, [.ref tO, .ref gO, .ref nO, .ref tb, .ref tb', .ref trO, .ref gA, .ref tP, .int (nI kf)])), (gO, .inr (5, [.ref gB, .int (nI ((n0 + (dgE (nm.toInt.natAbs / 1000) 1 17 0 + 1)) + 1))])), (gB, .inl (cy 0, 12, .inl (fun k => nI ((va_up (dgF (nm.toInt.natAbs / 1000) (dgE (nm.toInt.natAbs / 1000) 1 17 0) t0 n0 (dgE (nm.toInt.natAbs / 1000) 1 17 0 + 1)) (n0 + (dgE (nm.toInt.natAbs / 1000) 1 17 0 + 1)) 46) k))))]) rfl ?_
        refine x_aload_n C dX9_writeNumber_48 (q := 49) rfl rfl 1 rfl ?_
        refine x_get C (ci := 8) (v := .ref gO) hw4 0 rfl rfl 1 (by decide) hw5 rfl dX9_writeNumber_49 (q := 52) rfl ?_
        refine x_lload C dX9_writeNumber_52 (q := 54) rfl 0 rfl ?_
        refine x_ldc2 C (v := lN 1000) hw6 dX9_writeNumber_54 (q := 57) rfl ?_
        refine x_lrem C dX9_writeNumber_57 (q := 58) rfl (xl_ne0 (b := 1000) rfl (by omega)) (z := lN (nm.toInt.natAbs % 1000)) (pk_lRem (by omega) (by omega) (by omega)) ?_
        refine x_iconst C dX9_writeNumber_58 (q := 59) rfl (v := nI 3) (by decide) ?_
        refine x_callV C (roW := []) (roR := []) (c_X6_addDigits l D cy gO gB ((n0 + (dgE (nm.toInt.natAbs / 1000) 1 17 0 + 1)) + 1) 12 (va_up (dgF (nm.toInt.natAbs / 1000) (dgE (nm.toInt.natAbs / 1000) 1 17 0) t0 n0 (dgE (nm.toInt.natAbs / 1000) 1 17 0 + 1)) (n0 + (dgE (nm.toInt.natAbs / 1000) 1 17 0 + 1)) 46) (nm.toInt.natAbs % 1000) 3 (by first | assumption | omega | (simp only []; omega)) (by first | assumption | omega | (simp only []; omega)) (by first | assumption | omega | (simp only []; omega)) (by first | assumption | omega | (simp only []; omega))) (cwV 2 C.2.2.2.2.1 gX9_writeNumber_X6_addDigits rfl rfl rfl (by decide +kernel) (by rw [hR]; exact ⟨Nat.le_of_ble_eq_true rfl, Nat.le_of_ble_eq_true rfl⟩)) [1, 2] [] rfl (by decide) rfl (by decide) xro_nil (List.mem_of_getElem? (i := 0) rfl) (ci := 5) rfl xT_bl (fun _ _ _ _ _ _ _ => trivial) rfl rfl dX9_writeNumber_59 rfl rfl (Nat.le_of_ble_eq_true rfl) (q := 62) rfl (k' := 0) rfl (n' := 0) rfl (by rw [hR]; exact ⟨Nat.le_of_ble_eq_true rfl, Nat.le_of_ble_eq_true rfl⟩) (fun v5 w5 hp5 => ?_)
        obtain ⟨rfl, rfl⟩ := hp5
        refine x_ws (ws' := [(fi, .inr (8, [.ref tO, .ref gO, .ref nO, .ref tb, .ref tb', .ref trO, .ref gA, .ref tP, .int (nI kf)])), (gO, .inr (5, [.ref gB, .int (nI (((n0 + (dgE (nm.toInt.natAbs / 1000) 1 17 0 + 1)) + 1) + (dgE (nm.toInt.natAbs % 1000) 3 17 0 + 1)))])), (gB, .inl (cy 0, 12, .inl (fun k => nI ((dgF (nm.toInt.natAbs % 1000) (dgE (nm.toInt.natAbs % 1000) 3 17 0) (va_up (dgF (nm.toInt.natAbs / 1000) (dgE (nm.toInt.natAbs / 1000) 1 17 0) t0 n0 (dgE (nm.toInt.natAbs / 1000) 1 17 0 + 1)) (n0 + (dgE (nm.toInt.natAbs / 1000) 1 17 0 + 1)) 46) ((n0 + (dgE (nm.toInt.natAbs / 1000) 1 17 0 + 1)) + 1) (dgE (nm.toInt.natAbs % 1000) 3 17 0 + 1)) k))))]) rfl ?_
        refine x_goto C (tgt := 75) dX9_writeNumber_62 (by decide) ?_
        refine x_vret C hA hQ hr dX9_writeNumber_75 (Nat.le_of_ble_eq_true rfl) ?_
        refine ⟨_, _, rfl, rfl, ?_, ?_, by omega, ?_⟩
        · unfold wnP
          repeat (first | rw [if_pos (by omega)] | rw [if_neg (by omega)])
          rw [hn0]
          rfl
        · unfold wnP
          repeat (first | rw [if_pos (by omega)] | rw [if_neg (by omega)])
          rw [hn0, ht0]
          rfl
        · first | exact dgF_lt (va_up_lt (dgF_lt hl0 _) (by decide)) _ | exact dgF_lt hl0 _
  refine x_lload_n C dX9_writeNumber_0 (q := 1) rfl rfl 1 rfl ?_
  refine x_lconst C dX9_writeNumber_1 (q := 2) rfl (v := lN 0) rfl ?_
  refine x_lcmp_ge C (tgt := 15) dX9_writeNumber_2 dX9_writeNumber_3 (by decide) (q := 6) rfl (a := nm.toInt) (b := 0) rfl rfl (fun h6 => ?_) (fun h6 => ?_)
  · first
    | (exfalso; omega)
    |
      exact cut15 0 gx (by first | rw [wnB_n (by omega)] | rw [wnB_p (by omega)]) (by first | rw [wnB_n (by omega)] | rw [wnB_p (by omega)]) (by first | omega | assumption) (by first | exact va_up_lt hgx (by decide) | exact hgx)
  · first
    | (exfalso; omega)
    |
      refine x_aload_n C dX9_writeNumber_6 (q := 7) rfl rfl 0 rfl ?_
      refine x_get C (ci := 8) (v := .ref gO) hw4 0 rfl rfl 1 (by decide) hw5 rfl dX9_writeNumber_7 (q := 10) rfl ?_
      refine x_bipush C dX9_writeNumber_10 (q := 12) rfl (v := nI 45) (by decide) ?_
      refine x_callV C (roW := []) (roR := []) (c_X6_add l D cy gO gB 0 12 gx 45 (by first | assumption | omega | (simp only []; omega)) (by first | assumption | omega | (simp only []; omega)) (by first | assumption | omega | (simp only []; omega))) (cwV 1 C.2.2.2.2.1 gX9_writeNumber_X6_add rfl rfl rfl (by decide +kernel) (by rw [hR]; exact ⟨Nat.le_of_ble_eq_true rfl, Nat.le_of_ble_eq_true rfl⟩)) [1, 2] [] rfl (by decide) rfl (by decide) xro_nil (List.mem_of_getElem? (i := 0) rfl) (ci := 5) rfl xT_bl (fun _ _ _ _ _ _ _ => trivial) rfl rfl dX9_writeNumber_12 rfl rfl (Nat.le_of_ble_eq_true rfl) (q := 15) rfl (k' := 0) rfl (n' := 0) rfl (by rw [hR]; exact ⟨Nat.le_of_ble_eq_true rfl, Nat.le_of_ble_eq_true rfl⟩) (fun v7 w7 hp7 => ?_)
      obtain ⟨rfl, rfl⟩ := hp7
      refine x_ws (ws' := [(fi, .inr (8, [.ref tO, .ref gO, .ref nO, .ref tb, .ref tb', .ref trO, .ref gA, .ref tP, .int (nI kf)])), (gO, .inr (5, [.ref gB, .int (nI 1)])), (gB, .inl (cy 0, 12, .inl (fun k => nI ((va_up gx 0 45) k))))]) rfl ?_
      exact cut15 1 (va_up gx 0 45) (by first | rw [wnB_n (by omega)] | rw [wnB_p (by omega)]) (by first | rw [wnB_n (by omega)] | rw [wnB_p (by omega)]) (by first | omega | assumption) (by first | exact va_up_lt hgx (by decide) | exact hgx)

set_option maxHeartbeats 4000000 in
set_option maxRecDepth 100000 in
/-- a FIELD is written -/
theorem c_X9_writeShown (l : Launch) (D : va_G) (cy : Nat → ClassId) (fi : Nat) (tO : Nat) (gO : Nat) (nO : Nat) (tb : Nat) (tb' : Nat) (trO : Nat) (gA : Nat) (tP : Nat) (kf : Nat) (gB : Nat) (gx : Nat → Nat) (q : Nat) (sg : Nat) (fm : Nat) (nmb : Int64) (wd : Int64) (bl : Nat) (bs : Nat → Nat) (ty : Nat) (hgx : ∀ k, gx k < 128) (hf : fm ≤ 4) (ht : ty ≤ 4) (hbl : bl ≤ 12) (hbs : ∀ k, bs k < 128) (hsh : fm = 0 ∨ ((¬ ty = 4 → (valS fm nmb wd ty).toInt.natAbs < 1000000000) ∧ (ty = 3 → bl = 10 ∧ (patD bs ∨ patY bs)))) : xMet l D cy xT yX9_writeShown wsX9_writeShown ({ frames := 5, cells := 0, slots := 0, locals := 700 } : Room) [.ref fi, .ref q, .int (nI ty)] [(fi, .inr (8, [.ref tO, .ref gO, .ref nO, .ref tb, .ref tb', .ref trO, .ref gA, .ref tP, .int (nI kf)])), (gO, .inr (5, [.ref gB, .int (nI 0)])), (gB, .inl (cy 0, 12, .inl (fun k => nI (gx k))))] [(q, .inr (0, [.ref sg, .int (nI fm), .long (nmb), .long (wd)])), (sg, .inl (cy 0, bl, .inl (fun k => nI (bs k))))] (fun (v9 : Option Value) (w9 : va_W) => (∃ n2 : Nat, ∃ t2 : Nat → Nat, v9 = none ∧ w9 = [(fi, .inr (8, [.ref tO, .ref gO, .ref nO, .ref tb, .ref tb', .ref trO, .ref gA, .ref tP, .int (nI kf)])), (gO, .inr (5, [.ref gB, .int (nI n2)])), (gB, .inl (cy 0, 12, .inl (fun k => nI (t2 k))))] ∧ n2 = (wsP fm nmb wd bl bs ty gx).1 ∧ t2 = (wsP fm nmb wd bl bs ty gx).2 ∧ n2 ≤ 12 ∧ ∀ k, t2 k < 128)) := by
  refine xMet_of (cc := cX9_writeShown) (maxL := 4) (ret := none) (by decide) rfl (Nat.le_of_ble_eq_true rfl) (fun p e s m args below meth c A R Q hA hR hQ C hr hnm hro hX => ?_)
  have hw0 : ∀ w ∈ u_ws RX1 TX1 4, w ∈ wsX9_writeShown := by decide +kernel
  have hw1 : Cond.fieldLink RX9 154 (TX1 1).1 (TX1 1).2.1 (TX1 1).2.2.1 ∈ wsX9_writeShown := by decide +kernel
  have hw2 : ∀ w ∈ u_ws RX9 TX9 9, w ∈ wsX9_writeShown := by decide +kernel
  have hw3 : Cond.fieldLink RX9 20 (TX9 1).1 (TX9 1).2.1 (TX9 1).2.2.1 ∈ wsX9_writeShown := by decide +kernel
  have hw4 : Cond.fieldLink RX9 295 (TX1 0).1 (TX1 0).2.1 (TX1 0).2.2.1 ∈ wsX9_writeShown := by decide +kernel
  refine x_L (L' := [(0, .ref fi), (1, .ref q), (2, .int (nI ty))]) [0, 1, 2] rfl ?_
  refine x_aload_n C dX9_writeShown_0 (q := 1) rfl rfl 1 rfl ?_
  refine x_getR C (ci := 0) (v := .int (nI fm)) hw0 (hro (q, .inr (0, [.ref sg, .int (nI fm), .long (nmb), .long (wd)])) (List.mem_of_getElem? (i := 0) rfl)) rfl 1 (by decide) hw1 rfl dX9_writeShown_1 (q := 4) rfl ?_
  refine x_if_ne C (tgt := 8) dX9_writeShown_4 (by decide) (q := 7) rfl (a := ((fm : Nat) : Int)) (nI_toInt (by omega)) (fun h1 => ?_) (fun h1 => ?_)
  · first
    | (exfalso; omega)
    |
      refine x_iload_n C dX9_writeShown_8 (q := 9) rfl rfl 2 rfl ?_
      refine x_iconst C dX9_writeShown_9 (q := 10) rfl (v := nI 4) (by decide) ?_
      refine x_icmp_ne C (tgt := 46) dX9_writeShown_10 (by decide) (q := 13) rfl (a := ((ty : Nat) : Int)) (b := 4) (nI_toInt (by omega)) rfl (fun h2 => ?_) (fun h2 => ?_)
      · first
        | (exfalso; omega)
        |
          refine x_iload_n C dX9_writeShown_46 (q := 47) rfl rfl 2 rfl ?_
          refine x_iconst C dX9_writeShown_47 (q := 48) rfl (v := nI 3) (by decide) ?_
          refine x_icmp_ne C (tgt := 120) dX9_writeShown_48 (by decide) (q := 51) rfl (a := ((ty : Nat) : Int)) (b := 3) (nI_toInt (by omega)) rfl (fun h3 => ?_) (fun h3 => ?_)
          · first
            | (exfalso; omega)
            |
              have hv9 := (hsh.resolve_left (by omega)).1 (by omega)
              refine x_aload_n C dX9_writeShown_120 (q := 121) rfl rfl 0 rfl ?_
              refine x_aload_n C dX9_writeShown_121 (q := 122) rfl rfl 1 rfl ?_
              refine x_iload_n C dX9_writeShown_122 (q := 123) rfl rfl 2 rfl ?_
              refine x_callV C (roW := []) (roR := [(q, .inr (0, [.ref sg, .int (nI fm), .long (nmb), .long (wd)]))]) (c_X1_valueAs l D cy q sg fm nmb wd ty (by first | assumption | omega | (simp only []; omega)) (by first | assumption | omega | (simp only []; omega))) (cwV 1 C.2.2.2.2.1 gX9_writeShown_X1_valueAs rfl rfl rfl (by decide +kernel) (by rw [hR]; exact ⟨Nat.le_of_ble_eq_true rfl, Nat.le_of_ble_eq_true rfl⟩)) [] [] rfl (by decide) rfl (by decide) (xro_cons (hro (q, .inr (0, [.ref sg, .int (nI fm), .long (nmb), .long (wd)])) (List.mem_of_getElem? (i := 0) rfl)) xro_nil) (List.mem_of_getElem? (i := 0) rfl) (ci := 0) rfl xT_bl (fun _ _ _ _ _ _ _ => trivial) rfl rfl dX9_writeShown_123 rfl rfl (Nat.le_of_ble_eq_true rfl) (q := 126) rfl (k' := 0) rfl (n' := 0) rfl (by rw [hR]; exact ⟨Nat.le_of_ble_eq_true rfl, Nat.le_of_ble_eq_true rfl⟩) (fun v4 w4 hp4 => ?_)
              obtain ⟨rfl, rfl⟩ := hp4
              refine x_ws (ws' := [(fi, .inr (8, [.ref tO, .ref gO, .ref nO, .ref tb, .ref tb', .ref trO, .ref gA, .ref tP, .int (nI kf)])), (gO, .inr (5, [.ref gB, .int (nI 0)])), (gB, .inl (cy 0, 12, .inl (fun k => nI (gx k))))]) (List.append_nil _) ?_
              refine x_iload_n C dX9_writeShown_126 (q := 127) rfl rfl 2 rfl ?_
              refine x_iconst C dX9_writeShown_127 (q := 128) rfl (v := nI 2) (by decide) ?_
              refine x_icmp_ne C (tgt := 135) dX9_writeShown_128 (by decide) (q := 131) rfl (a := ((ty : Nat) : Int)) (b := 2) (nI_toInt (by omega)) rfl (fun h5 => ?_) (fun h5 => ?_)
              · first
                | (exfalso; omega)
                |
                  refine x_iconst C dX9_writeShown_135 (q := 136) rfl (v := nI 0) (by decide) ?_
                  refine x_callV C (roW := []) (roR := []) (c_X9_writeNumber l D cy fi tO gO nO tb tb' trO gA tP kf gB gx (valS fm nmb wd ty) 0 (by assumption) (by first | assumption | omega | (simp only []; omega)) (by first | assumption | omega | (simp only []; omega))) (cwV 2 C.2.2.2.2.1 gX9_writeShown_X9_writeNumber rfl rfl rfl (by decide +kernel) (by rw [hR]; exact ⟨Nat.le_of_ble_eq_true rfl, Nat.le_of_ble_eq_true rfl⟩)) [0, 1, 2] [] rfl (by decide) rfl (by decide) xro_nil (List.mem_of_getElem? (i := 0) rfl) (ci := 8) rfl xT_bl (fun _ _ _ _ _ _ _ => trivial) rfl rfl dX9_writeShown_136 rfl rfl (Nat.le_of_ble_eq_true rfl) (q := 139) rfl (k' := 0) rfl (n' := 0) rfl (by rw [hR]; exact ⟨Nat.le_of_ble_eq_true rfl, Nat.le_of_ble_eq_true rfl⟩) (fun v6 w6 hp6 => ?_)
                  obtain ⟨n2_7, t2_8, rfl, rfl, hc9, hc10, hc11, hc12⟩ := hp6
                  refine x_ws (ws' := [(fi, .inr (8, [.ref tO, .ref gO, .ref nO, .ref tb, .ref tb', .ref trO, .ref gA, .ref tP, .int (nI kf)])), (gO, .inr (5, [.ref gB, .int (nI n2_7)])), (gB, .inl (cy 0, 12, .inl (fun k => nI (t2_8 k))))]) rfl ?_
                  refine x_vret C hA hQ hr dX9_writeShown_139 (Nat.le_of_ble_eq_true rfl) ?_
                  refine ⟨_, _, rfl, rfl, ?_, ?_, by omega, by assumption⟩
                  · unfold wsP
                    repeat (first | rw [if_pos (by omega)] | rw [if_neg (by omega)])
                    assumption
                  · unfold wsP
                    repeat (first | rw [if_pos (by omega)] | rw [if_neg (by omega)])
                    assumption
              · first
                | (exfalso; omega)
                |
                  refine x_iconst C dX9_writeShown_131 (q := 132) rfl (v := nI 1) (by decide) ?_
                  refine x_goto C (tgt := 136) dX9_writeShown_132 (by decide) ?_
                  refine x_callV C (roW := []) (roR := []) (c_X9_writeNumber l D cy fi tO gO nO tb tb' trO gA tP kf gB gx (valS fm nmb wd ty) 1 (by assumption) (by first | assumption | omega | (simp only []; omega)) (by first | assumption | omega | (simp only []; omega))) (cwV 2 C.2.2.2.2.1 gX9_writeShown_X9_writeNumber rfl rfl rfl (by decide +kernel) (by rw [hR]; exact ⟨Nat.le_of_ble_eq_true rfl, Nat.le_of_ble_eq_true rfl⟩)) [0, 1, 2] [] rfl (by decide) rfl (by decide) xro_nil (List.mem_of_getElem? (i := 0) rfl) (ci := 8) rfl xT_bl (fun _ _ _ _ _ _ _ => trivial) rfl rfl dX9_writeShown_136 rfl rfl (Nat.le_of_ble_eq_true rfl) (q := 139) rfl (k' := 0) rfl (n' := 0) rfl (by rw [hR]; exact ⟨Nat.le_of_ble_eq_true rfl, Nat.le_of_ble_eq_true rfl⟩) (fun v13 w13 hp13 => ?_)
                  obtain ⟨n2_14, t2_15, rfl, rfl, hc16, hc17, hc18, hc19⟩ := hp13
                  refine x_ws (ws' := [(fi, .inr (8, [.ref tO, .ref gO, .ref nO, .ref tb, .ref tb', .ref trO, .ref gA, .ref tP, .int (nI kf)])), (gO, .inr (5, [.ref gB, .int (nI n2_14)])), (gB, .inl (cy 0, 12, .inl (fun k => nI (t2_15 k))))]) rfl ?_
                  refine x_vret C hA hQ hr dX9_writeShown_139 (Nat.le_of_ble_eq_true rfl) ?_
                  refine ⟨_, _, rfl, rfl, ?_, ?_, by omega, by assumption⟩
                  · unfold wsP
                    repeat (first | rw [if_pos (by omega)] | rw [if_neg (by omega)])
                    assumption
                  · unfold wsP
                    repeat (first | rw [if_pos (by omega)] | rw [if_neg (by omega)])
                    assumption
          · first
            | (exfalso; omega)
            |
              obtain ⟨hl10, hpt⟩ := (hsh.resolve_left (by omega)).2 (by omega)
              have hyl := yrS_lt hpt
              have hml := moS_lt hpt
              have hdl := dyS_lt hpt
              have hd1 := dgE_lt (v := yrS bs) (wd := 4) (m := 3) hyl (by decide) 17 0 (by decide)
              have hd2 := dgE_lt (v := moS bs) (wd := 2) (m := 1) hml (by decide) 17 0 (by decide)
              have hd3 := dgE_lt (v := dyS bs) (wd := 2) (m := 1) hdl (by decide) 17 0 (by decide)
              refine x_aload_n C dX9_writeShown_51 (q := 52) rfl rfl 0 rfl ?_
              refine x_get C (ci := 8) (v := .ref gO) hw2 0 rfl rfl 1 (by decide) hw3 rfl dX9_writeShown_52 (q := 55) rfl ?_
              refine x_aload_n C dX9_writeShown_55 (q := 56) rfl rfl 1 rfl ?_
              refine x_getR C (ci := 0) (v := .ref sg) hw0 (hro (q, .inr (0, [.ref sg, .int (nI fm), .long (nmb), .long (wd)])) (List.mem_of_getElem? (i := 0) rfl)) rfl 0 (by decide) hw4 rfl dX9_writeShown_56 (q := 59) rfl ?_
              refine x_callS C (roW := []) (roR := [(sg, .inl (cy 0, bl, .inl (fun k => nI (bs k))))]) (c_X0_yearIn l D cy sg bl bs (by assumption) (by first | assumption | omega | (simp only []; omega)) (by first | assumption | omega | (simp only []; omega))) (va_cwS 1 C.2.2.2.2.1 gX9_writeShown_X0_yearIn rfl rfl rfl (by decide +kernel) (by rw [hR]; exact ⟨Nat.le_of_ble_eq_true rfl, Nat.le_of_ble_eq_true rfl⟩)) [] [] rfl (by decide) rfl (by decide) (xro_cons (hro (sg, .inl (cy 0, bl, .inl (fun k => nI (bs k)))) (List.mem_of_getElem? (i := 1) rfl)) xro_nil) xT_bl (fun _ _ _ _ _ _ _ => trivial) rfl rfl dX9_writeShown_59 rfl rfl (Nat.le_of_ble_eq_true rfl) (q := 62) rfl (k' := 0) rfl (n' := 0) rfl (by rw [hR]; exact ⟨Nat.le_of_ble_eq_true rfl, Nat.le_of_ble_eq_true rfl⟩) (fun v20 w20 hp20 => ?_)
              obtain ⟨rfl, rfl⟩ := hp20
              refine x_ws (ws' := [(fi, .inr (8, [.ref tO, .ref gO, .ref nO, .ref tb, .ref tb', .ref trO, .ref gA, .ref tP, .int (nI kf)])), (gO, .inr (5, [.ref gB, .int (nI 0)])), (gB, .inl (cy 0, 12, .inl (fun k => nI (gx k))))]) (List.append_nil _) ?_
              refine x_i2l C dX9_writeShown_62 (q := 63) rfl (v := lN (yrS bs)) (nI_l (by omega)) ?_
              refine x_iconst C dX9_writeShown_63 (q := 64) rfl (v := nI 4) (by decide) ?_
              refine x_callV C (roW := []) (roR := []) (c_X6_addDigits l D cy gO gB 0 12 gx (yrS bs) 4 (by first | assumption | omega | (simp only []; omega)) (by first | assumption | omega | (simp only []; omega)) (by first | assumption | omega | (simp only []; omega)) (by first | assumption | omega | (simp only []; omega))) (cwV 2 C.2.2.2.2.1 gX9_writeShown_X6_addDigits rfl rfl rfl (by decide +kernel) (by rw [hR]; exact ⟨Nat.le_of_ble_eq_true rfl, Nat.le_of_ble_eq_true rfl⟩)) [1, 2] [] rfl (by decide) rfl (by decide) xro_nil (List.mem_of_getElem? (i := 0) rfl) (ci := 5) rfl xT_bl (fun _ _ _ _ _ _ _ => trivial) rfl rfl dX9_writeShown_64 rfl rfl (Nat.le_of_ble_eq_true rfl) (q := 67) rfl (k' := 0) rfl (n' := 0) rfl (by rw [hR]; exact ⟨Nat.le_of_ble_eq_true rfl, Nat.le_of_ble_eq_true rfl⟩) (fun v21 w21 hp21 => ?_)
              obtain ⟨rfl, rfl⟩ := hp21
              refine x_ws (ws' := [(fi, .inr (8, [.ref tO, .ref gO, .ref nO, .ref tb, .ref tb', .ref trO, .ref gA, .ref tP, .int (nI kf)])), (gO, .inr (5, [.ref gB, .int (nI (0 + (dgE (yrS bs) 4 17 0 + 1)))])), (gB, .inl (cy 0, 12, .inl (fun k => nI ((dgF (yrS bs) (dgE (yrS bs) 4 17 0) gx 0 (dgE (yrS bs) 4 17 0 + 1)) k))))]) rfl ?_
              refine x_aload_n C dX9_writeShown_67 (q := 68) rfl rfl 0 rfl ?_
              refine x_get C (ci := 8) (v := .ref gO) hw2 0 rfl rfl 1 (by decide) hw3 rfl dX9_writeShown_68 (q := 71) rfl ?_
              refine x_bipush C dX9_writeShown_71 (q := 73) rfl (v := nI 45) (by decide) ?_
              refine x_callV C (roW := []) (roR := []) (c_X6_add l D cy gO gB (0 + (dgE (yrS bs) 4 17 0 + 1)) 12 (dgF (yrS bs) (dgE (yrS bs) 4 17 0) gx 0 (dgE (yrS bs) 4 17 0 + 1)) 45 (by first | assumption | omega | (simp only []; omega)) (by first | assumption | omega | (simp only []; omega)) (by first | assumption | omega | (simp only []; omega))) (cwV 1 C.2.2.2.2.1 gX9_writeShown_X6_add rfl rfl rfl (by decide +kernel) (by rw [hR]; exact ⟨Nat.le_of_ble_eq_true rfl, Nat.le_of_ble_eq_true rfl⟩)) [1, 2] [] rfl (by decide) rfl (by decide) xro_nil (List.mem_of_getElem? (i := 0) rfl) (ci := 5) rfl xT_bl (fun _ _ _ _ _ _ _ => trivial) rfl rfl dX9_writeShown_73 rfl rfl (Nat.le_of_ble_eq_true rfl) (q := 76) rfl (k' := 0) rfl (n' := 0) rfl (by rw [hR]; exact ⟨Nat.le_of_ble_eq_true rfl, Nat.le_of_ble_eq_true rfl⟩) (fun v22 w22 hp22 => ?_)
              obtain ⟨rfl, rfl⟩ := hp22
              refine x_ws (ws' := [(fi, .inr (8, [.ref tO, .ref gO, .ref nO, .ref tb, .ref tb', .ref trO, .ref gA, .ref tP, .int (nI kf)])), (gO, .inr (5, [.ref gB, .int (nI ((0 + (dgE (yrS bs) 4 17 0 + 1)) + 1))])), (gB, .inl (cy 0, 12, .inl (fun k => nI ((va_up (dgF (yrS bs) (dgE (yrS bs) 4 17 0) gx 0 (dgE (yrS bs) 4 17 0 + 1)) (0 + (dgE (yrS bs) 4 17 0 + 1)) 45) k))))]) rfl ?_
              refine x_aload_n C dX9_writeShown_76 (q := 77) rfl rfl 0 rfl ?_
              refine x_get C (ci := 8) (v := .ref gO) hw2 0 rfl rfl 1 (by decide) hw3 rfl dX9_writeShown_77 (q := 80) rfl ?_
              refine x_aload_n C dX9_writeShown_80 (q := 81) rfl rfl 1 rfl ?_
              refine x_getR C (ci := 0) (v := .ref sg) hw0 (hro (q, .inr (0, [.ref sg, .int (nI fm), .long (nmb), .long (wd)])) (List.mem_of_getElem? (i := 0) rfl)) rfl 0 (by decide) hw4 rfl dX9_writeShown_81 (q := 84) rfl ?_
              refine x_callS C (roW := []) (roR := [(sg, .inl (cy 0, bl, .inl (fun k => nI (bs k))))]) (c_X0_monthIn l D cy sg bl bs (by assumption) (by first | assumption | omega | (simp only []; omega)) (by first | assumption | omega | (simp only []; omega))) (va_cwS 1 C.2.2.2.2.1 gX9_writeShown_X0_monthIn rfl rfl rfl (by decide +kernel) (by rw [hR]; exact ⟨Nat.le_of_ble_eq_true rfl, Nat.le_of_ble_eq_true rfl⟩)) [] [] rfl (by decide) rfl (by decide) (xro_cons (hro (sg, .inl (cy 0, bl, .inl (fun k => nI (bs k)))) (List.mem_of_getElem? (i := 1) rfl)) xro_nil) xT_bl (fun _ _ _ _ _ _ _ => trivial) rfl rfl dX9_writeShown_84 rfl rfl (Nat.le_of_ble_eq_true rfl) (q := 87) rfl (k' := 0) rfl (n' := 0) rfl (by rw [hR]; exact ⟨Nat.le_of_ble_eq_true rfl, Nat.le_of_ble_eq_true rfl⟩) (fun v23 w23 hp23 => ?_)
              obtain ⟨rfl, rfl⟩ := hp23
              refine x_ws (ws' := [(fi, .inr (8, [.ref tO, .ref gO, .ref nO, .ref tb, .ref tb', .ref trO, .ref gA, .ref tP, .int (nI kf)])), (gO, .inr (5, [.ref gB, .int (nI ((0 + (dgE (yrS bs) 4 17 0 + 1)) + 1))])), (gB, .inl (cy 0, 12, .inl (fun k => nI ((va_up (dgF (yrS bs) (dgE (yrS bs) 4 17 0) gx 0 (dgE (yrS bs) 4 17 0 + 1)) (0 + (dgE (yrS bs) 4 17 0 + 1)) 45) k))))]) (List.append_nil _) ?_
              refine x_i2l C dX9_writeShown_87 (q := 88) rfl (v := lN (moS bs)) (nI_l (by omega)) ?_
              refine x_iconst C dX9_writeShown_88 (q := 89) rfl (v := nI 2) (by decide) ?_
              refine x_callV C (roW := []) (roR := []) (c_X6_addDigits l D cy gO gB ((0 + (dgE (yrS bs) 4 17 0 + 1)) + 1) 12 (va_up (dgF (yrS bs) (dgE (yrS bs) 4 17 0) gx 0 (dgE (yrS bs) 4 17 0 + 1)) (0 + (dgE (yrS bs) 4 17 0 + 1)) 45) (moS bs) 2 (by first | assumption | omega | (simp only []; omega)) (by first | assumption | omega | (simp only []; omega)) (by first | assumption | omega | (simp only []; omega)) (by first | assumption | omega | (simp only []; omega))) (cwV 2 C.2.2.2.2.1 gX9_writeShown_X6_addDigits rfl rfl rfl (by decide +kernel) (by rw [hR]; exact ⟨Nat.le_of_ble_eq_true rfl, Nat.le_of_ble_eq_true rfl⟩)) [1, 2] [] rfl (by decide) rfl (by decide) xro_nil (List.mem_of_getElem? (i := 0) rfl) (ci := 5) rfl xT_bl (fun _ _ _ _ _ _ _ => trivial) rfl rfl dX9_writeShown_89 rfl rfl (Nat.le_of_ble_eq_true rfl) (q := 92) rfl (k' := 0) rfl (n' := 0) rfl (by rw [hR]; exact ⟨Nat.le_of_ble_eq_true rfl, Nat.le_of_ble_eq_true rfl⟩) (fun v24 w24 hp24 => ?_)
              obtain ⟨rfl, rfl⟩ := hp24
              refine x_ws (ws' := [(fi, .inr (8, [.ref tO, .ref gO, .ref nO, .ref tb, .ref tb', .ref trO, .ref gA, .ref tP, .int (nI kf)])), (gO, .inr (5, [.ref gB, .int (nI (((0 + (dgE (yrS bs) 4 17 0 + 1)) + 1) + (dgE (moS bs) 2 17 0 + 1)))])), (gB, .inl (cy 0, 12, .inl (fun k => nI ((dgF (moS bs) (dgE (moS bs) 2 17 0) (va_up (dgF (yrS bs) (dgE (yrS bs) 4 17 0) gx 0 (dgE (yrS bs) 4 17 0 + 1)) (0 + (dgE (yrS bs) 4 17 0 + 1)) 45) ((0 + (dgE (yrS bs) 4 17 0 + 1)) + 1) (dgE (moS bs) 2 17 0 + 1)) k))))]) rfl ?_
              refine x_aload_n C dX9_writeShown_92 (q := 93) rfl rfl 0 rfl ?_
              refine x_get C (ci := 8) (v := .ref gO) hw2 0 rfl rfl 1 (by decide) hw3 rfl dX9_writeShown_93 (q := 96) rfl ?_
              refine x_bipush C dX9_writeShown_96 (q := 98) rfl (v := nI 45) (by decide) ?_
              refine x_callV C (roW := []) (roR := []) (c_X6_add l D cy gO gB (((0 + (dgE (yrS bs) 4 17 0 + 1)) + 1) + (dgE (moS bs) 2 17 0 + 1)) 12 (dgF (moS bs) (dgE (moS bs) 2 17 0) (va_up (dgF (yrS bs) (dgE (yrS bs) 4 17 0) gx 0 (dgE (yrS bs) 4 17 0 + 1)) (0 + (dgE (yrS bs) 4 17 0 + 1)) 45) ((0 + (dgE (yrS bs) 4 17 0 + 1)) + 1) (dgE (moS bs) 2 17 0 + 1)) 45 (by first | assumption | omega | (simp only []; omega)) (by first | assumption | omega | (simp only []; omega)) (by first | assumption | omega | (simp only []; omega))) (cwV 1 C.2.2.2.2.1 gX9_writeShown_X6_add rfl rfl rfl (by decide +kernel) (by rw [hR]; exact ⟨Nat.le_of_ble_eq_true rfl, Nat.le_of_ble_eq_true rfl⟩)) [1, 2] [] rfl (by decide) rfl (by decide) xro_nil (List.mem_of_getElem? (i := 0) rfl) (ci := 5) rfl xT_bl (fun _ _ _ _ _ _ _ => trivial) rfl rfl dX9_writeShown_98 rfl rfl (Nat.le_of_ble_eq_true rfl) (q := 101) rfl (k' := 0) rfl (n' := 0) rfl (by rw [hR]; exact ⟨Nat.le_of_ble_eq_true rfl, Nat.le_of_ble_eq_true rfl⟩) (fun v25 w25 hp25 => ?_)
              obtain ⟨rfl, rfl⟩ := hp25
              refine x_ws (ws' := [(fi, .inr (8, [.ref tO, .ref gO, .ref nO, .ref tb, .ref tb', .ref trO, .ref gA, .ref tP, .int (nI kf)])), (gO, .inr (5, [.ref gB, .int (nI ((((0 + (dgE (yrS bs) 4 17 0 + 1)) + 1) + (dgE (moS bs) 2 17 0 + 1)) + 1))])), (gB, .inl (cy 0, 12, .inl (fun k => nI ((va_up (dgF (moS bs) (dgE (moS bs) 2 17 0) (va_up (dgF (yrS bs) (dgE (yrS bs) 4 17 0) gx 0 (dgE (yrS bs) 4 17 0 + 1)) (0 + (dgE (yrS bs) 4 17 0 + 1)) 45) ((0 + (dgE (yrS bs) 4 17 0 + 1)) + 1) (dgE (moS bs) 2 17 0 + 1)) (((0 + (dgE (yrS bs) 4 17 0 + 1)) + 1) + (dgE (moS bs) 2 17 0 + 1)) 45) k))))]) rfl ?_
              refine x_aload_n C dX9_writeShown_101 (q := 102) rfl rfl 0 rfl ?_
              refine x_get C (ci := 8) (v := .ref gO) hw2 0 rfl rfl 1 (by decide) hw3 rfl dX9_writeShown_102 (q := 105) rfl ?_
              refine x_aload_n C dX9_writeShown_105 (q := 106) rfl rfl 1 rfl ?_
              refine x_getR C (ci := 0) (v := .ref sg) hw0 (hro (q, .inr (0, [.ref sg, .int (nI fm), .long (nmb), .long (wd)])) (List.mem_of_getElem? (i := 0) rfl)) rfl 0 (by decide) hw4 rfl dX9_writeShown_106 (q := 109) rfl ?_
              refine x_callS C (roW := []) (roR := [(sg, .inl (cy 0, bl, .inl (fun k => nI (bs k))))]) (c_X0_dayIn l D cy sg bl bs (by assumption) (by first | assumption | omega | (simp only []; omega)) (by first | assumption | omega | (simp only []; omega))) (va_cwS 1 C.2.2.2.2.1 gX9_writeShown_X0_dayIn rfl rfl rfl (by decide +kernel) (by rw [hR]; exact ⟨Nat.le_of_ble_eq_true rfl, Nat.le_of_ble_eq_true rfl⟩)) [] [] rfl (by decide) rfl (by decide) (xro_cons (hro (sg, .inl (cy 0, bl, .inl (fun k => nI (bs k)))) (List.mem_of_getElem? (i := 1) rfl)) xro_nil) xT_bl (fun _ _ _ _ _ _ _ => trivial) rfl rfl dX9_writeShown_109 rfl rfl (Nat.le_of_ble_eq_true rfl) (q := 112) rfl (k' := 0) rfl (n' := 0) rfl (by rw [hR]; exact ⟨Nat.le_of_ble_eq_true rfl, Nat.le_of_ble_eq_true rfl⟩) (fun v26 w26 hp26 => ?_)
              obtain ⟨rfl, rfl⟩ := hp26
              refine x_ws (ws' := [(fi, .inr (8, [.ref tO, .ref gO, .ref nO, .ref tb, .ref tb', .ref trO, .ref gA, .ref tP, .int (nI kf)])), (gO, .inr (5, [.ref gB, .int (nI ((((0 + (dgE (yrS bs) 4 17 0 + 1)) + 1) + (dgE (moS bs) 2 17 0 + 1)) + 1))])), (gB, .inl (cy 0, 12, .inl (fun k => nI ((va_up (dgF (moS bs) (dgE (moS bs) 2 17 0) (va_up (dgF (yrS bs) (dgE (yrS bs) 4 17 0) gx 0 (dgE (yrS bs) 4 17 0 + 1)) (0 + (dgE (yrS bs) 4 17 0 + 1)) 45) ((0 + (dgE (yrS bs) 4 17 0 + 1)) + 1) (dgE (moS bs) 2 17 0 + 1)) (((0 + (dgE (yrS bs) 4 17 0 + 1)) + 1) + (dgE (moS bs) 2 17 0 + 1)) 45) k))))]) (List.append_nil _) ?_
              refine x_i2l C dX9_writeShown_112 (q := 113) rfl (v := lN (dyS bs)) (nI_l (by omega)) ?_
              refine x_iconst C dX9_writeShown_113 (q := 114) rfl (v := nI 2) (by decide) ?_
              refine x_callV C (roW := []) (roR := []) (c_X6_addDigits l D cy gO gB ((((0 + (dgE (yrS bs) 4 17 0 + 1)) + 1) + (dgE (moS bs) 2 17 0 + 1)) + 1) 12 (va_up (dgF (moS bs) (dgE (moS bs) 2 17 0) (va_up (dgF (yrS bs) (dgE (yrS bs) 4 17 0) gx 0 (dgE (yrS bs) 4 17 0 + 1)) (0 + (dgE (yrS bs) 4 17 0 + 1)) 45) ((0 + (dgE (yrS bs) 4 17 0 + 1)) + 1) (dgE (moS bs) 2 17 0 + 1)) (((0 + (dgE (yrS bs) 4 17 0 + 1)) + 1) + (dgE (moS bs) 2 17 0 + 1)) 45) (dyS bs) 2 (by first | assumption | omega | (simp only []; omega)) (by first | assumption | omega | (simp only []; omega)) (by first | assumption | omega | (simp only []; omega)) (by first | assumption | omega | (simp only []; omega))) (cwV 2 C.2.2.2.2.1 gX9_writeShown_X6_addDigits rfl rfl rfl (by decide +kernel) (by rw [hR]; exact ⟨Nat.le_of_ble_eq_true rfl, Nat.le_of_ble_eq_true rfl⟩)) [1, 2] [] rfl (by decide) rfl (by decide) xro_nil (List.mem_of_getElem? (i := 0) rfl) (ci := 5) rfl xT_bl (fun _ _ _ _ _ _ _ => trivial) rfl rfl dX9_writeShown_114 rfl rfl (Nat.le_of_ble_eq_true rfl) (q := 117) rfl (k' := 0) rfl (n' := 0) rfl (by rw [hR]; exact ⟨Nat.le_of_ble_eq_true rfl, Nat.le_of_ble_eq_true rfl⟩) (fun v27 w27 hp27 => ?_)
              obtain ⟨rfl, rfl⟩ := hp27
              refine x_ws (ws' := [(fi, .inr (8, [.ref tO, .ref gO, .ref nO, .ref tb, .ref tb', .ref trO, .ref gA, .ref tP, .int (nI kf)])), (gO, .inr (5, [.ref gB, .int (nI (((((0 + (dgE (yrS bs) 4 17 0 + 1)) + 1) + (dgE (moS bs) 2 17 0 + 1)) + 1) + (dgE (dyS bs) 2 17 0 + 1)))])), (gB, .inl (cy 0, 12, .inl (fun k => nI ((dgF (dyS bs) (dgE (dyS bs) 2 17 0) (va_up (dgF (moS bs) (dgE (moS bs) 2 17 0) (va_up (dgF (yrS bs) (dgE (yrS bs) 4 17 0) gx 0 (dgE (yrS bs) 4 17 0 + 1)) (0 + (dgE (yrS bs) 4 17 0 + 1)) 45) ((0 + (dgE (yrS bs) 4 17 0 + 1)) + 1) (dgE (moS bs) 2 17 0 + 1)) (((0 + (dgE (yrS bs) 4 17 0 + 1)) + 1) + (dgE (moS bs) 2 17 0 + 1)) 45) ((((0 + (dgE (yrS bs) 4 17 0 + 1)) + 1) + (dgE (moS bs) 2 17 0 + 1)) + 1) (dgE (dyS bs) 2 17 0 + 1)) k))))]) rfl ?_
              refine x_goto C (tgt := 139) dX9_writeShown_117 (by decide) ?_
              refine x_vret C hA hQ hr dX9_writeShown_139 (Nat.le_of_ble_eq_true rfl) ?_
              refine ⟨_, _, rfl, rfl, ?_, ?_, by omega, ?_⟩
              · unfold wsP
                repeat (first | rw [if_pos (by omega)] | rw [if_neg (by omega)])
                simp only [dgP, adP, Nat.zero_add]
              · unfold wsP
                repeat (first | rw [if_pos (by omega)] | rw [if_neg (by omega)])
                simp only [dgP, adP, Nat.zero_add]
              · exact dgF_lt (va_up_lt (dgF_lt (va_up_lt (dgF_lt hgx _) (by decide)) _) (by decide)) _
      · first
        | (exfalso; omega)
        |
          refine x_iconst C dX9_writeShown_13 (q := 14) rfl (v := nI 0) (by decide) ?_
          refine x_istore_n C (L' := [(3, .int (nI 0)), (0, .ref fi), (1, .ref q), (2, .int (nI ty))]) dX9_writeShown_14 (q := 15) rfl rfl (by decide) rfl ?_
          have cut15 : ∀ (fuel : Nat) (i : Nat) (t9 : Nat → Nat), (i ≤ bl) → (t9 = wdF bs gx i) → bl - i < fuel → xG p l e R s m args below meth c Q D A 4 [(fi, .inr (8, [.ref tO, .ref gO, .ref nO, .ref tb, .ref tb', .ref trO, .ref gA, .ref tP, .int (nI kf)])), (gO, .inr (5, [.ref gB, .int (nI i)])), (gB, .inl (cy 0, 12, .inl (fun k => nI (t9 k))))] 0 0 15 [(0, .ref fi), (1, .ref q), (2, .int (nI ty)), (3, .int (nI i))] [] := by
            intro fuel
            induction fuel with
            | zero =>
              intro i t9 hi ht2 hmu
              exact absurd hmu (Nat.not_lt_zero _)
            | succ fuel ih =>
              intro i t9 hi ht2 hmu
              have ih15 := ih
              clear ih
              refine x_iload_n C dX9_writeShown_15 (q := 16) rfl rfl 3 rfl ?_
              refine x_aload_n C dX9_writeShown_16 (q := 17) rfl rfl 1 rfl ?_
              refine x_getR C (ci := 0) (v := .ref sg) hw0 (hro (q, .inr (0, [.ref sg, .int (nI fm), .long (nmb), .long (wd)])) (List.mem_of_getElem? (i := 0) rfl)) rfl 0 (by decide) hw4 rfl dX9_writeShown_17 (q := 20) rfl ?_
              refine x_alenR C 0 (hro (sg, .inl (cy 0, bl, .inl (fun k => nI (bs k)))) (List.mem_of_getElem? (i := 1) rfl)) rfl (v := nI bl) rfl dX9_writeShown_20 (q := 21) rfl ?_
              refine x_icmp_ge C (tgt := 43) dX9_writeShown_21 (by decide) (q := 24) rfl (a := ((i : Nat) : Int)) (b := ((bl : Nat) : Int)) (nI_toInt (by omega)) (nI_toInt (by omega)) (fun h28 => ?_) (fun h28 => ?_)
              · first
                | (exfalso; omega)
                |
                  refine x_goto C (tgt := 139) dX9_writeShown_43 (by decide) ?_
                  refine x_vret C hA hQ hr dX9_writeShown_139 (Nat.le_of_ble_eq_true rfl) ?_
                  have e9 : i = bl := by omega
                  refine ⟨_, _, rfl, rfl, ?_, ?_, by omega, ?_⟩
                  · unfold wsP
                    repeat (first | rw [if_pos (by omega)] | rw [if_neg (by omega)])
                    exact e9
                  · unfold wsP
                    repeat (first | rw [if_pos (by omega)] | rw [if_neg (by omega)])
                    rw [ht2, e9]
                  · rw [ht2]
                    exact wdF_lt hbs hgx _
              · first
                | (exfalso; omega)
                |
                  refine x_aload_n C dX9_writeShown_24 (q := 25) rfl rfl 0 rfl ?_
                  refine x_get C (ci := 8) (v := .ref gO) hw2 0 rfl rfl 1 (by decide) hw3 rfl dX9_writeShown_25 (q := 28) rfl ?_
                  refine x_aload_n C dX9_writeShown_28 (q := 29) rfl rfl 1 rfl ?_
                  refine x_getR C (ci := 0) (v := .ref sg) hw0 (hro (q, .inr (0, [.ref sg, .int (nI fm), .long (nmb), .long (wd)])) (List.mem_of_getElem? (i := 0) rfl)) rfl 0 (by decide) hw4 rfl dX9_writeShown_29 (q := 32) rfl ?_
                  refine x_iload_n C dX9_writeShown_32 (q := 33) rfl rfl 3 rfl ?_
                  have hb29 := hbs i
                  refine x_baldR C (j := i) (v := nI (bs i)) (hro (sg, .inl (cy 0, bl, .inl (fun k => nI (bs k)))) (List.mem_of_getElem? (i := 1) rfl)) (nI_toInt (by omega)) (by omega) rfl dX9_writeShown_33 (q := 34) rfl ?_
                  refine x_callV C (roW := []) (roR := []) (c_X6_add l D cy gO gB i 12 t9 (bs i) (by first | assumption | omega | (simp only []; omega)) (by first | assumption | omega | (simp only []; omega)) (by first | assumption | omega | (simp only []; omega))) (cwV 1 C.2.2.2.2.1 gX9_writeShown_X6_add rfl rfl rfl (by decide +kernel) (by rw [hR]; exact ⟨Nat.le_of_ble_eq_true rfl, Nat.le_of_ble_eq_true rfl⟩)) [1, 2] [] rfl (by decide) rfl (by decide) xro_nil (List.mem_of_getElem? (i := 0) rfl) (ci := 5) rfl xT_bl (fun _ _ _ _ _ _ _ => trivial) rfl rfl dX9_writeShown_34 rfl rfl (Nat.le_of_ble_eq_true rfl) (q := 37) rfl (k' := 0) rfl (n' := 0) rfl (by rw [hR]; exact ⟨Nat.le_of_ble_eq_true rfl, Nat.le_of_ble_eq_true rfl⟩) (fun v30 w30 hp30 => ?_)
                  obtain ⟨rfl, rfl⟩ := hp30
                  refine x_ws (ws' := [(fi, .inr (8, [.ref tO, .ref gO, .ref nO, .ref tb, .ref tb', .ref trO, .ref gA, .ref tP, .int (nI kf)])), (gO, .inr (5, [.ref gB, .int (nI (i + 1))])), (gB, .inl (cy 0, 12, .inl (fun k => nI ((va_up t9 i (bs i)) k))))]) rfl ?_
                  refine x_iinc C (L' := [(3, .int (nI (i + 1))), (0, .ref fi), (1, .ref q), (2, .int (nI ty))]) dX9_writeShown_37 (q := 40) rfl 3 rfl (v := nI (i + 1)) (nI_add i 1) (by decide) rfl ?_
                  refine x_goto C (tgt := 15) dX9_writeShown_40 (by decide) ?_
                  refine x_L (L' := [(0, .ref fi), (1, .ref q), (2, .int (nI ty)), (3, .int (nI (i + 1)))]) [1, 2, 3, 0] rfl ?_
                  exact ih15 (i + 1) (va_up t9 i (bs i)) (by first | omega | assumption) (by rw [ht2]; rfl) (by omega)
          refine x_L (L' := [(0, .ref fi), (1, .ref q), (2, .int (nI ty)), (3, .int (nI 0))]) [1, 2, 3, 0] rfl ?_
          exact cut15 (bl - 0 + 1) 0 gx (by first | omega | assumption) (by rfl) (by omega)
  · first
    | (exfalso; omega)
    |
      refine x_vret C hA hQ hr dX9_writeShown_7 (Nat.le_of_ble_eq_true rfl) ?_
      refine ⟨_, _, rfl, rfl, ?_, ?_, by omega, hgx⟩
      · unfold wsP
        repeat (first | rw [if_pos (by omega)] | rw [if_neg (by omega)])
      · unfold wsP
        repeat (first | rw [if_pos (by omega)] | rw [if_neg (by omega)])

set_option maxHeartbeats 4000000 in
set_option maxRecDepth 100000 in
/-- shown -/
theorem c_X9_shown (l : Launch) (D : va_G) (cy : Nat → ClassId) (fi : Nat) (tO : Nat) (gO : Nat) (nO : Nat) (tb : Nat) (tb' : Nat) (trO : Nat) (gA : Nat) (tP : Nat) (kf : Nat) (nz : Nat) (tl : Nat) (pg : Nat) (se : Nat) (pa : Nat) (bo : Nat) (li : Nat) (ba : Nat) (cols : Nat) (lc : Nat) (smp : Nat) (nzf : Nat → Nat) (tlf : Nat → Nat) (lnf : Nat → Option Nat) (bal : Nat → Nat) (g0 : Nat) (g1 : Nat) (g2 : Nat) (g3 : Nat) (g4 : Nat) (g5 : Nat) (P : PS) (ky : Int32) (ld : LD) (pl : va_W) (gB : Nat) (gx : Nat → Nat) (gn : Nat) (x : Int32) (y : Int32) (z : Int32) (hcols : cols ≤ 5) (hlc : lc ≤ 24) (hTL : TbL cy pl lc lnf ld) (hfm : ∀ k i, dFm ld k i ≤ 4) (htl : ∀ k, tlf k ≤ 4) (hsmp : smp ≤ 24) (hst5 : ∀ k, pSt P k ≤ 4) (hP : InvP ld cols lc P) (hgx : ∀ k, gx k < 128) (hgn : gn ≤ 12) (hshk : ∀ r c, r < pRs P → c < cols → shK ld (pLr P r) c (tyS (pSt P) tlf ld c (min smp lc))) : xMet l D cy xT yX9_shown wsX9_shown ({ frames := 9, cells := 0, slots := 0, locals := 1100 } : Room) [.ref fi, .int (x), .int (y), .int (z)] [(fi, .inr (8, [.ref tO, .ref gO, .ref nO, .ref tb, .ref tb', .ref trO, .ref gA, .ref tP, .int (nI kf)])), (tb, .inr (6, [.ref nz, .ref tl, .ref pg, .ref se, .ref pa, .ref bo, .ref li, .ref ba, .int (nI cols), .int (nI lc), .int (nI smp)])), (nz, .inl (cy 1, 5, .inl (fun k => nI (nzf k)))), (tl, .inl (cy 1, 5, .inl (fun k => nI (tlf k)))), (li, .inl (cy 4, 24, .inr (.inr (.inr (.inr lnf))))), (ba, .inl (cy 1, 5, .inl (fun k => nI (bal k)))), (pg, .inr (4, [.ref g0, .ref g1, .ref g2, .ref g3, .ref g4, .ref g5, .int (nI (pMk P)), .int (nI (pRs P)), .int (ky)])), (g0, .inl (cy 1, 5, .inl (fun k => nI ((pSt P) k)))), (g1, .inl (cy 1, 24, .inl (pFa P))), (g2, .inl (cy 1, 24, .inl (pCa P))), (g3, .inl (cy 1, 24, .inl (pDc P))), (g4, .inl (cy 1, 24, .inl (pRl P))), (g5, .inl (cy 1, 24, .inl (fun k => nI ((pLr P) k)))), (gO, .inr (5, [.ref gB, .int (nI gn)])), (gB, .inl (cy 0, 12, .inl (fun k => nI (gx k))))] pl (fun (v9 : Option Value) (w9 : va_W) => (∃ bx : Nat → Nat, ∃ n2 : Nat, ∃ t2 : Nat → Nat, v9 = some (.int (shoA ld cols tlf (min smp lc) P gx x.toInt y.toInt z.toInt)) ∧ w9 = [(fi, .inr (8, [.ref tO, .ref gO, .ref nO, .ref tb, .ref tb', .ref trO, .ref gA, .ref tP, .int (nI kf)])), (tb, .inr (6, [.ref nz, .ref tl, .ref pg, .ref se, .ref pa, .ref bo, .ref li, .ref ba, .int (nI cols), .int (nI lc), .int (nI smp)])), (nz, .inl (cy 1, 5, .inl (fun k => nI (nzf k)))), (tl, .inl (cy 1, 5, .inl (fun k => nI (tlf k)))), (li, .inl (cy 4, 24, .inr (.inr (.inr (.inr lnf))))), (ba, .inl (cy 1, 5, .inl (fun k => nI (bx k)))), (pg, .inr (4, [.ref g0, .ref g1, .ref g2, .ref g3, .ref g4, .ref g5, .int (nI (pMk P)), .int (nI (pRs P)), .int (ky)])), (g0, .inl (cy 1, 5, .inl (fun k => nI ((pSt P) k)))), (g1, .inl (cy 1, 24, .inl (pFa P))), (g2, .inl (cy 1, 24, .inl (pCa P))), (g3, .inl (cy 1, 24, .inl (pDc P))), (g4, .inl (cy 1, 24, .inl (pRl P))), (g5, .inl (cy 1, 24, .inl (fun k => nI ((pLr P) k)))), (gO, .inr (5, [.ref gB, .int (nI n2)])), (gB, .inl (cy 0, 12, .inl (fun k => nI (t2 k))))] ∧ n2 ≤ 12 ∧ ∀ k, t2 k < 128)) := by
  refine xMet_of (cc := cX9_shown) (maxL := 5) (ret := (some .int)) (by decide) rfl (Nat.le_of_ble_eq_true rfl) (fun p e s m args below meth c A R Q hA hR hQ C hr hnm hro hX => ?_)
  have hw0 : ∀ w ∈ u_ws RX9 TX9 9, w ∈ wsX9_shown := by decide +kernel
  have hw1 : Cond.fieldLink RX9 20 (TX9 1).1 (TX9 1).2.1 (TX9 1).2.2.1 ∈ wsX9_shown := by decide +kernel
  have hw2 : Cond.fieldLink RX9 33 (TX9 3).1 (TX9 3).2.1 (TX9 3).2.2.1 ∈ wsX9_shown := by decide +kernel
  have hw3 : ∀ w ∈ u_ws RX6 TX6 2, w ∈ wsX9_shown := by decide +kernel
  have hw4 : Cond.fieldLink RX9 62 (TX6 1).1 (TX6 1).2.1 (TX6 1).2.2.1 ∈ wsX9_shown := by decide +kernel
  refine x_L (L' := [(0, .ref fi), (1, .int (x)), (2, .int (y)), (3, .int (z))]) [0, 1, 2, 3] rfl ?_
  have hpool : ∀ q ∈ pl, xRo D A s q := hro
  refine x_aload_n C dX9_shown_0 (q := 1) rfl rfl 0 rfl ?_
  refine x_iload_n C dX9_shown_1 (q := 2) rfl rfl 1 rfl ?_
  refine x_iload_n C dX9_shown_2 (q := 3) rfl rfl 2 rfl ?_
  refine x_callV C (roW := []) (roR := pl) (c_X9_rowField l D cy fi tO gO nO tb tb' trO gA tP kf nz tl pg se pa bo li ba cols lc smp lnf g0 g1 g2 g3 g4 g5 P ky ld pl x y (by first | assumption | omega | (simp only []; omega)) (by first | assumption | omega | (simp only []; omega)) (by assumption) (by assumption) (by assumption)) (cwV 2 C.2.2.2.2.1 gX9_shown_X9_rowField rfl rfl rfl (by decide +kernel) (by rw [hR]; exact ⟨Nat.le_of_ble_eq_true rfl, Nat.le_of_ble_eq_true rfl⟩)) [0, 1, 4, 6, 7, 8, 9, 10, 11, 12] [] rfl (by decide) rfl (by decide) hpool (List.mem_of_getElem? (i := 0) rfl) (ci := 8) rfl xT_bl (fun _ _ _ _ _ _ _ => trivial) rfl rfl dX9_shown_3 rfl rfl (Nat.le_of_ble_eq_true rfl) (q := 6) rfl (k' := 0) rfl (n' := 0) rfl (by rw [hR]; exact ⟨Nat.le_of_ble_eq_true rfl, Nat.le_of_ble_eq_true rfl⟩) (fun v1 w1 hp1 => ?_)
  rcases hp1 with hp1 | hp1
  · skip
    obtain ⟨q_2, rfl, rfl, hc3, hc4, hc5, hc6, hc7⟩ := hp1
    refine x_ws (ws' := [(fi, .inr (8, [.ref tO, .ref gO, .ref nO, .ref tb, .ref tb', .ref trO, .ref gA, .ref tP, .int (nI kf)])), (tb, .inr (6, [.ref nz, .ref tl, .ref pg, .ref se, .ref pa, .ref bo, .ref li, .ref ba, .int (nI cols), .int (nI lc), .int (nI smp)])), (nz, .inl (cy 1, 5, .inl (fun k => nI (nzf k)))), (tl, .inl (cy 1, 5, .inl (fun k => nI (tlf k)))), (li, .inl (cy 4, 24, .inr (.inr (.inr (.inr lnf))))), (ba, .inl (cy 1, 5, .inl (fun k => nI (bal k)))), (pg, .inr (4, [.ref g0, .ref g1, .ref g2, .ref g3, .ref g4, .ref g5, .int (nI (pMk P)), .int (nI (pRs P)), .int (ky)])), (g0, .inl (cy 1, 5, .inl (fun k => nI ((pSt P) k)))), (g1, .inl (cy 1, 24, .inl (pFa P))), (g2, .inl (cy 1, 24, .inl (pCa P))), (g3, .inl (cy 1, 24, .inl (pDc P))), (g4, .inl (cy 1, 24, .inl (pRl P))), (g5, .inl (cy 1, 24, .inl (fun k => nI ((pLr P) k)))), (gO, .inr (5, [.ref gB, .int (nI gn)])), (gB, .inl (cy 0, 12, .inl (fun k => nI (gx k))))]) (xput_eq2 [0, 1, 4, 6, 7, 8, 9, 10, 11, 12] [2, 3, 5, 13, 14] 15 [(nz, .inl (cy 1, 5, .inl (fun k => nI (nzf k)))), (tl, .inl (cy 1, 5, .inl (fun k => nI (tlf k)))), (ba, .inl (cy 1, 5, .inl (fun k => nI (bal k)))), (gO, .inr (5, [.ref gB, .int (nI gn)])), (gB, .inl (cy 0, 12, .inl (fun k => nI (gx k))))] rfl rfl (by decide) rfl rfl rfl (by decide)) ?_
    obtain ⟨sg8, kB8, kC8⟩ := hc7
    have hf98 := hfm (pLr P x.toInt.toNat) y.toInt.toNat
    refine x_astore C (L' := [(4, .ref q_2), (0, .ref fi), (1, .int (x)), (2, .int (y)), (3, .int (z))]) dX9_shown_6 (q := 8) rfl (by decide) rfl ?_
    refine x_aload C dX9_shown_8 (q := 10) rfl 0 rfl ?_
    refine x_ifnonnull C (tgt := 15) dX9_shown_10 (by decide) ?_
    refine x_aload_n C dX9_shown_15 (q := 16) rfl rfl 1 rfl ?_
    refine x_get C (ci := 8) (v := .ref gO) hw0 0 rfl rfl 1 (by decide) hw1 rfl dX9_shown_16 (q := 19) rfl ?_
    refine x_callV C (roW := []) (roR := []) (c_X6_clear l D cy gO gB gn ) (cwV 0 C.2.2.2.2.1 gX9_shown_X6_clear rfl rfl rfl (by decide +kernel) (by rw [hR]; exact ⟨Nat.le_of_ble_eq_true rfl, Nat.le_of_ble_eq_true rfl⟩)) [13] [] rfl (by decide) rfl (by decide) xro_nil (List.mem_of_getElem? (i := 0) rfl) (ci := 5) rfl xT_bl (fun _ _ _ _ _ _ _ => trivial) rfl rfl dX9_shown_19 rfl rfl (Nat.le_of_ble_eq_true rfl) (q := 22) rfl (k' := 0) rfl (n' := 0) rfl (by rw [hR]; exact ⟨Nat.le_of_ble_eq_true rfl, Nat.le_of_ble_eq_true rfl⟩) (fun v9 w9 hp9 => ?_)
    obtain ⟨rfl, rfl⟩ := hp9
    refine x_ws (ws' := [(fi, .inr (8, [.ref tO, .ref gO, .ref nO, .ref tb, .ref tb', .ref trO, .ref gA, .ref tP, .int (nI kf)])), (tb, .inr (6, [.ref nz, .ref tl, .ref pg, .ref se, .ref pa, .ref bo, .ref li, .ref ba, .int (nI cols), .int (nI lc), .int (nI smp)])), (nz, .inl (cy 1, 5, .inl (fun k => nI (nzf k)))), (tl, .inl (cy 1, 5, .inl (fun k => nI (tlf k)))), (li, .inl (cy 4, 24, .inr (.inr (.inr (.inr lnf))))), (ba, .inl (cy 1, 5, .inl (fun k => nI (bal k)))), (pg, .inr (4, [.ref g0, .ref g1, .ref g2, .ref g3, .ref g4, .ref g5, .int (nI (pMk P)), .int (nI (pRs P)), .int (ky)])), (g0, .inl (cy 1, 5, .inl (fun k => nI ((pSt P) k)))), (g1, .inl (cy 1, 24, .inl (pFa P))), (g2, .inl (cy 1, 24, .inl (pCa P))), (g3, .inl (cy 1, 24, .inl (pDc P))), (g4, .inl (cy 1, 24, .inl (pRl P))), (g5, .inl (cy 1, 24, .inl (fun k => nI ((pLr P) k)))), (gO, .inr (5, [.ref gB, .int (nI 0)])), (gB, .inl (cy 0, 12, .inl (fun k => nI (gx k))))]) rfl ?_
    refine x_aload_n C dX9_shown_22 (q := 23) rfl rfl 1 rfl ?_
    refine x_aload C dX9_shown_23 (q := 25) rfl 0 rfl ?_
    refine x_aload_n C dX9_shown_25 (q := 26) rfl rfl 1 rfl ?_
    refine x_get C (ci := 8) (v := .ref tb) hw0 0 rfl rfl 3 (by decide) hw2 rfl dX9_shown_26 (q := 29) rfl ?_
    refine x_iload_n C dX9_shown_29 (q := 30) rfl rfl 3 rfl ?_
    refine x_st (st' := [.int (nI y.toInt.toNat), .ref tb, .ref q_2, .ref fi]) (congrArg (fun z9 => ([.int z9, .ref tb, .ref q_2, .ref fi] : List Value)) (xi_nat (by omega))) ?_
    refine x_callV C (roW := []) (roR := pl) (c_X7_typeOf l D cy tb nz tl pg se pa bo li ba cols lc smp tlf lnf bal g0 g1 g2 g3 g4 g5 (pMk P) (pRs P) ky (pSt P) ld pl y.toInt.toNat (by first | assumption | omega | (simp only []; omega)) (by first | assumption | omega | (simp only []; omega)) (by assumption) (by assumption) (by assumption) (by first | assumption | omega | (simp only []; omega)) (by first | assumption | omega | (simp only []; omega)) (by assumption)) (cwV 1 C.2.2.2.2.1 gX9_shown_X7_typeOf rfl rfl rfl (by decide +kernel) (by rw [hR]; exact ⟨Nat.le_of_ble_eq_true rfl, Nat.le_of_ble_eq_true rfl⟩)) [1, 3, 4, 5, 6, 7] [] rfl (by decide) rfl (by decide) hpool (List.mem_of_getElem? (i := 0) rfl) (ci := 6) rfl xT_bl (fun _ _ _ _ _ _ _ => trivial) rfl rfl dX9_shown_30 rfl rfl (Nat.le_of_ble_eq_true rfl) (q := 33) rfl (k' := 0) rfl (n' := 0) rfl (by rw [hR]; exact ⟨Nat.le_of_ble_eq_true rfl, Nat.le_of_ble_eq_true rfl⟩) (fun v10 w10 hp10 => ?_)
    obtain ⟨b2_11, rfl, rfl⟩ := hp10
    refine x_ws (ws' := [(fi, .inr (8, [.ref tO, .ref gO, .ref nO, .ref tb, .ref tb', .ref trO, .ref gA, .ref tP, .int (nI kf)])), (tb, .inr (6, [.ref nz, .ref tl, .ref pg, .ref se, .ref pa, .ref bo, .ref li, .ref ba, .int (nI cols), .int (nI lc), .int (nI smp)])), (nz, .inl (cy 1, 5, .inl (fun k => nI (nzf k)))), (tl, .inl (cy 1, 5, .inl (fun k => nI (tlf k)))), (li, .inl (cy 4, 24, .inr (.inr (.inr (.inr lnf))))), (ba, .inl (cy 1, 5, .inl (fun k => nI (b2_11 k)))), (pg, .inr (4, [.ref g0, .ref g1, .ref g2, .ref g3, .ref g4, .ref g5, .int (nI (pMk P)), .int (nI (pRs P)), .int (ky)])), (g0, .inl (cy 1, 5, .inl (fun k => nI ((pSt P) k)))), (g1, .inl (cy 1, 24, .inl (pFa P))), (g2, .inl (cy 1, 24, .inl (pCa P))), (g3, .inl (cy 1, 24, .inl (pDc P))), (g4, .inl (cy 1, 24, .inl (pRl P))), (g5, .inl (cy 1, 24, .inl (fun k => nI ((pLr P) k)))), (gO, .inr (5, [.ref gB, .int (nI 0)])), (gB, .inl (cy 0, 12, .inl (fun k => nI (gx k))))]) rfl ?_
    have hty9 := tyS_le (ld := ld) (c := y.toInt.toNat) (z := min smp lc) hst5 htl
    have hk9 := hshk x.toInt.toNat y.toInt.toNat (by omega) (by omega)
    refine x_callV C (roW := []) (roR := [(q_2, .inr (0, [.ref sg8, .int (nI (dFm ld (pLr P x.toInt.toNat) y.toInt.toNat)), .long (dNm ld (pLr P x.toInt.toNat) y.toInt.toNat), .long (dWd ld (pLr P x.toInt.toNat) y.toInt.toNat)])), (sg8, .inl (cy 0, dBl ld (pLr P x.toInt.toNat) y.toInt.toNat, .inl (fun k => nI ((dBs ld (pLr P x.toInt.toNat) y.toInt.toNat) k))))]) (c_X9_writeShown l D cy fi tO gO nO tb tb' trO gA tP kf gB gx q_2 sg8 (dFm ld (pLr P x.toInt.toNat) y.toInt.toNat) (dNm ld (pLr P x.toInt.toNat) y.toInt.toNat) (dWd ld (pLr P x.toInt.toNat) y.toInt.toNat) (dBl ld (pLr P x.toInt.toNat) y.toInt.toNat) (dBs ld (pLr P x.toInt.toNat) y.toInt.toNat) (tyS (pSt P) tlf ld y.toInt.toNat (min smp lc)) (by exact hgx) (by first | assumption | omega | (simp only []; omega)) (by first | assumption | omega | (simp only []; omega)) (by exact hk9.1) (by exact hk9.2.1) (by exact hk9.2.2)) (cwV 2 C.2.2.2.2.1 gX9_shown_X9_writeShown rfl rfl rfl (by decide +kernel) (by rw [hR]; exact ⟨Nat.le_of_ble_eq_true rfl, Nat.le_of_ble_eq_true rfl⟩)) [0, 13, 14] [] rfl (by decide) rfl (by decide) (xro_cons (hpool _ kB8) (xro_cons (hpool _ kC8) xro_nil)) (List.mem_of_getElem? (i := 0) rfl) (ci := 8) rfl xT_bl (fun _ _ _ _ _ _ _ => trivial) rfl rfl dX9_shown_33 rfl rfl (Nat.le_of_ble_eq_true rfl) (q := 36) rfl (k' := 0) rfl (n' := 0) rfl (by rw [hR]; exact ⟨Nat.le_of_ble_eq_true rfl, Nat.le_of_ble_eq_true rfl⟩) (fun v12 w12 hp12 => ?_)
    obtain ⟨n2_13, t2_14, rfl, rfl, hc15, hc16, hc17, hc18⟩ := hp12
    refine x_ws (ws' := [(fi, .inr (8, [.ref tO, .ref gO, .ref nO, .ref tb, .ref tb', .ref trO, .ref gA, .ref tP, .int (nI kf)])), (tb, .inr (6, [.ref nz, .ref tl, .ref pg, .ref se, .ref pa, .ref bo, .ref li, .ref ba, .int (nI cols), .int (nI lc), .int (nI smp)])), (nz, .inl (cy 1, 5, .inl (fun k => nI (nzf k)))), (tl, .inl (cy 1, 5, .inl (fun k => nI (tlf k)))), (li, .inl (cy 4, 24, .inr (.inr (.inr (.inr lnf))))), (ba, .inl (cy 1, 5, .inl (fun k => nI (b2_11 k)))), (pg, .inr (4, [.ref g0, .ref g1, .ref g2, .ref g3, .ref g4, .ref g5, .int (nI (pMk P)), .int (nI (pRs P)), .int (ky)])), (g0, .inl (cy 1, 5, .inl (fun k => nI ((pSt P) k)))), (g1, .inl (cy 1, 24, .inl (pFa P))), (g2, .inl (cy 1, 24, .inl (pCa P))), (g3, .inl (cy 1, 24, .inl (pDc P))), (g4, .inl (cy 1, 24, .inl (pRl P))), (g5, .inl (cy 1, 24, .inl (fun k => nI ((pLr P) k)))), (gO, .inr (5, [.ref gB, .int (nI n2_13)])), (gB, .inl (cy 0, 12, .inl (fun k => nI (t2_14 k))))]) rfl ?_
    have hsn : n2_13 = (shS ld (tyS (pSt P) tlf ld y.toInt.toNat (min smp lc)) (pLr P x.toInt.toNat) y.toInt.toNat gx).1 := hc15
    have hst9 : t2_14 = (shS ld (tyS (pSt P) tlf ld y.toInt.toNat (min smp lc)) (pLr P x.toInt.toNat) y.toInt.toNat gx).2 := hc16
    refine x_iload_n C dX9_shown_36 (q := 37) rfl rfl 4 rfl ?_
    refine x_if_lt C (tgt := 51) dX9_shown_37 (by decide) (q := 40) rfl (a := z.toInt) rfl (fun h19 => ?_) (fun h19 => ?_)
    · first
      | (exfalso; omega)
      |
        refine x_iconst C dX9_shown_51 (q := 52) rfl (v := (-1)) (by decide) ?_
        refine x_goto C (tgt := 63) dX9_shown_52 (by decide) ?_
        refine x_iret C hA hQ hr dX9_shown_63 (Nat.le_of_ble_eq_true rfl) ?_
        refine ⟨_, _, _, ?_, rfl, by assumption, by assumption⟩
        unfold shoA
        rw [if_neg (by omega), if_pos (by omega)]
    · first
      | (exfalso; omega)
      |
        refine x_iload_n C dX9_shown_40 (q := 41) rfl rfl 4 rfl ?_
        refine x_aload_n C dX9_shown_41 (q := 42) rfl rfl 1 rfl ?_
        refine x_get C (ci := 8) (v := .ref gO) hw0 0 rfl rfl 1 (by decide) hw1 rfl dX9_shown_42 (q := 45) rfl ?_
        refine x_get C (ci := 5) (v := .int (nI n2_13)) hw3 13 rfl rfl 1 (by decide) hw4 rfl dX9_shown_45 (q := 48) rfl ?_
        refine x_icmp_lt C (tgt := 55) dX9_shown_48 (by decide) (q := 51) rfl (a := z.toInt) (b := ((n2_13 : Nat) : Int)) rfl (nI_toInt (by omega)) (fun h20 => ?_) (fun h20 => ?_)
        · first
          | (exfalso; omega)
          |
            refine x_aload_n C dX9_shown_55 (q := 56) rfl rfl 1 rfl ?_
            refine x_get C (ci := 8) (v := .ref gO) hw0 0 rfl rfl 1 (by decide) hw1 rfl dX9_shown_56 (q := 59) rfl ?_
            refine x_iload_n C dX9_shown_59 (q := 60) rfl rfl 4 rfl ?_
            have hb8 := hc18 z.toInt.toNat
            refine x_st (st' := [.int (nI z.toInt.toNat), .ref gO]) (congrArg (fun z9 => ([.int z9, .ref gO] : List Value)) (xi_nat (by omega))) ?_
            refine x_callV C (roW := [(gO, .inr (5, [.ref gB, .int (nI n2_13)])), (gB, .inl (cy 0, 12, .inl (fun k => nI (t2_14 k))))]) (roR := []) (c_X6_at l D cy gO gB n2_13 12 t2_14 z.toInt.toNat (by first | assumption | omega | (simp only []; omega)) (by first | assumption | omega | (simp only []; omega)) (by first | assumption | omega | (simp only []; omega)) (by assumption)) (cwV 1 C.2.2.2.2.1 gX9_shown_X6_at rfl rfl rfl (by decide +kernel) (by rw [hR]; exact ⟨Nat.le_of_ble_eq_true rfl, Nat.le_of_ble_eq_true rfl⟩)) [] [13, 14] rfl (by decide) rfl (by decide) xro_nil (List.mem_of_getElem? (i := 0) rfl) (ci := 5) rfl xT_bl (fun _ _ _ _ _ _ _ => trivial) rfl rfl dX9_shown_60 rfl rfl (Nat.le_of_ble_eq_true rfl) (q := 63) rfl (k' := 0) rfl (n' := 0) rfl (by rw [hR]; exact ⟨Nat.le_of_ble_eq_true rfl, Nat.le_of_ble_eq_true rfl⟩) (fun v21 w21 hp21 => ?_)
            obtain ⟨r_22, rfl, rfl, hc23⟩ := hp21
            refine x_ws (ws' := [(fi, .inr (8, [.ref tO, .ref gO, .ref nO, .ref tb, .ref tb', .ref trO, .ref gA, .ref tP, .int (nI kf)])), (tb, .inr (6, [.ref nz, .ref tl, .ref pg, .ref se, .ref pa, .ref bo, .ref li, .ref ba, .int (nI cols), .int (nI lc), .int (nI smp)])), (nz, .inl (cy 1, 5, .inl (fun k => nI (nzf k)))), (tl, .inl (cy 1, 5, .inl (fun k => nI (tlf k)))), (li, .inl (cy 4, 24, .inr (.inr (.inr (.inr lnf))))), (ba, .inl (cy 1, 5, .inl (fun k => nI (b2_11 k)))), (pg, .inr (4, [.ref g0, .ref g1, .ref g2, .ref g3, .ref g4, .ref g5, .int (nI (pMk P)), .int (nI (pRs P)), .int (ky)])), (g0, .inl (cy 1, 5, .inl (fun k => nI ((pSt P) k)))), (g1, .inl (cy 1, 24, .inl (pFa P))), (g2, .inl (cy 1, 24, .inl (pCa P))), (g3, .inl (cy 1, 24, .inl (pDc P))), (g4, .inl (cy 1, 24, .inl (pRl P))), (g5, .inl (cy 1, 24, .inl (fun k => nI ((pLr P) k)))), (gO, .inr (5, [.ref gB, .int (nI n2_13)])), (gB, .inl (cy 0, 12, .inl (fun k => nI (t2_14 k))))]) (List.append_nil _) ?_
            have hb9 := hc23
            refine x_iret C hA hQ hr dX9_shown_63 (Nat.le_of_ble_eq_true rfl) ?_
            refine ⟨_, _, _, ?_, rfl, by assumption, by assumption⟩
            unfold shoA
            rw [if_neg (by omega), if_neg (by omega), ← hst9]
            refine congrArg (fun q => some (Value.int q)) (Int32.toInt_inj.mp ?_)
            rw [nI_toInt (by omega)]
            refine (by assumption : _ = sgA _ _ _).trans (sgA_in (by omega))
        · first
          | (exfalso; omega)
          |
            refine x_iconst C dX9_shown_51 (q := 52) rfl (v := (-1)) (by decide) ?_
            refine x_goto C (tgt := 63) dX9_shown_52 (by decide) ?_
            refine x_iret C hA hQ hr dX9_shown_63 (Nat.le_of_ble_eq_true rfl) ?_
            refine ⟨_, _, _, ?_, rfl, by assumption, by assumption⟩
            unfold shoA
            rw [if_neg (by omega), if_pos (by omega)]
  · skip
    obtain ⟨rfl, rfl, hc24⟩ := hp1
    refine x_ws (ws' := [(fi, .inr (8, [.ref tO, .ref gO, .ref nO, .ref tb, .ref tb', .ref trO, .ref gA, .ref tP, .int (nI kf)])), (tb, .inr (6, [.ref nz, .ref tl, .ref pg, .ref se, .ref pa, .ref bo, .ref li, .ref ba, .int (nI cols), .int (nI lc), .int (nI smp)])), (nz, .inl (cy 1, 5, .inl (fun k => nI (nzf k)))), (tl, .inl (cy 1, 5, .inl (fun k => nI (tlf k)))), (li, .inl (cy 4, 24, .inr (.inr (.inr (.inr lnf))))), (ba, .inl (cy 1, 5, .inl (fun k => nI (bal k)))), (pg, .inr (4, [.ref g0, .ref g1, .ref g2, .ref g3, .ref g4, .ref g5, .int (nI (pMk P)), .int (nI (pRs P)), .int (ky)])), (g0, .inl (cy 1, 5, .inl (fun k => nI ((pSt P) k)))), (g1, .inl (cy 1, 24, .inl (pFa P))), (g2, .inl (cy 1, 24, .inl (pCa P))), (g3, .inl (cy 1, 24, .inl (pDc P))), (g4, .inl (cy 1, 24, .inl (pRl P))), (g5, .inl (cy 1, 24, .inl (fun k => nI ((pLr P) k)))), (gO, .inr (5, [.ref gB, .int (nI gn)])), (gB, .inl (cy 0, 12, .inl (fun k => nI (gx k))))]) (xput_eq2 [0, 1, 4, 6, 7, 8, 9, 10, 11, 12] [2, 3, 5, 13, 14] 15 [(nz, .inl (cy 1, 5, .inl (fun k => nI (nzf k)))), (tl, .inl (cy 1, 5, .inl (fun k => nI (tlf k)))), (ba, .inl (cy 1, 5, .inl (fun k => nI (bal k)))), (gO, .inr (5, [.ref gB, .int (nI gn)])), (gB, .inl (cy 0, 12, .inl (fun k => nI (gx k))))] rfl rfl (by decide) rfl rfl rfl (by decide)) ?_
    refine x_astoreN C (L' := [(4, .null), (0, .ref fi), (1, .int (x)), (2, .int (y)), (3, .int (z))]) dX9_shown_6 (q := 8) rfl (by decide) rfl ?_
    refine x_aloadN C dX9_shown_8 (q := 10) rfl 0 rfl ?_
    refine x_ifnonnullN C dX9_shown_10 (q := 13) rfl ?_
    refine x_iconst C dX9_shown_13 (q := 14) rfl (v := (-1)) (by decide) ?_
    refine x_iret C hA hQ hr dX9_shown_14 (Nat.le_of_ble_eq_true rfl) ?_
    refine ⟨_, _, _, ?_, rfl, by omega, hgx⟩
    unfold shoA
    repeat (first | rw [if_pos (by omega)] | rw [if_neg (by omega)])
