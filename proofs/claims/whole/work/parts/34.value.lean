
abbrev hasV (ld : LD) (cols : Nat) (P : PS) (x y : Int) : Prop := 0 ≤ x ∧ x < pRs P ∧ 0 ≤ y ∧ y < cols ∧ ¬ dFm ld (pLr P x.toNat) y.toNat = 0
def vlS (ld : LD) (ty : Nat) (k i : Nat) : Int64 := valS (dFm ld k i) (dNm ld k i) (dWd ld k i) ty
def vaA (ld : LD) (cols : Nat) (tl : Nat → Nat) (z : Nat) (P : PS) (x y : Int) : Int64 := if hasV ld cols P x y then vlS ld (tyS (pSt P) tl ld y.toNat z) (pLr P x.toNat) y.toNat else (-9223372036854775808)
def takA (ld : LD) (cols : Nat) (tl : Nat → Nat) (z : Nat) (P : PS) (x y w : Int) : Int32 := if w < 0 ∨ 4 < w then -2 else if ¬ hasV ld cols P x y then -11 else if (w = 0 ∧ ¬ tyS (pSt P) tl ld y.toNat z = 4) ∨ (¬ w = 0 ∧ ((tyS (pSt P) tl ld y.toNat z : Nat) : Int) = w) then nI (tyS (pSt P) tl ld y.toNat z) else -12

set_option maxHeartbeats 4000000 in
set_option maxRecDepth 100000 in
/-- value -/
theorem c_X9_value (l : Launch) (D : va_G) (cy : Nat → ClassId) (fi : Nat) (tO : Nat) (gO : Nat) (nO : Nat) (tb : Nat) (tb' : Nat) (trO : Nat) (gA : Nat) (tP : Nat) (kf : Nat) (nz : Nat) (tl : Nat) (pg : Nat) (se : Nat) (pa : Nat) (bo : Nat) (li : Nat) (ba : Nat) (cols : Nat) (lc : Nat) (smp : Nat) (nzf : Nat → Nat) (tlf : Nat → Nat) (lnf : Nat → Option Nat) (bal : Nat → Nat) (g0 : Nat) (g1 : Nat) (g2 : Nat) (g3 : Nat) (g4 : Nat) (g5 : Nat) (P : PS) (ky : Int32) (ld : LD) (pl : va_W) (x : Int32) (y : Int32) (hcols : cols ≤ 5) (hlc : lc ≤ 24) (hTL : TbL cy pl lc lnf ld) (hfm : ∀ k i, dFm ld k i ≤ 4) (htl : ∀ k, tlf k ≤ 4) (hsmp : smp ≤ 24) (hst5 : ∀ k, pSt P k ≤ 4) (hP : InvP ld cols lc P) : xMet l D cy xT yX9_value wsX9_value ({ frames := 8, cells := 0, slots := 0, locals := 900 } : Room) [.ref fi, .int (x), .int (y)] [(fi, .inr (8, [.ref tO, .ref gO, .ref nO, .ref tb, .ref tb', .ref trO, .ref gA, .ref tP, .int (nI kf)])), (tb, .inr (6, [.ref nz, .ref tl, .ref pg, .ref se, .ref pa, .ref bo, .ref li, .ref ba, .int (nI cols), .int (nI lc), .int (nI smp)])), (nz, .inl (cy 1, 5, .inl (fun k => nI (nzf k)))), (tl, .inl (cy 1, 5, .inl (fun k => nI (tlf k)))), (li, .inl (cy 4, 24, .inr (.inr (.inr (.inr lnf))))), (ba, .inl (cy 1, 5, .inl (fun k => nI (bal k)))), (pg, .inr (4, [.ref g0, .ref g1, .ref g2, .ref g3, .ref g4, .ref g5, .int (nI (pMk P)), .int (nI (pRs P)), .int (ky)])), (g0, .inl (cy 1, 5, .inl (fun k => nI ((pSt P) k)))), (g1, .inl (cy 1, 24, .inl (pFa P))), (g2, .inl (cy 1, 24, .inl (pCa P))), (g3, .inl (cy 1, 24, .inl (pDc P))), (g4, .inl (cy 1, 24, .inl (pRl P))), (g5, .inl (cy 1, 24, .inl (fun k => nI ((pLr P) k))))] pl (fun (v9 : Option Value) (w9 : va_W) => (∃ bx : Nat → Nat, v9 = some (.long (vaA ld cols tlf (min smp lc) P x.toInt y.toInt)) ∧ w9 = [(fi, .inr (8, [.ref tO, .ref gO, .ref nO, .ref tb, .ref tb', .ref trO, .ref gA, .ref tP, .int (nI kf)])), (tb, .inr (6, [.ref nz, .ref tl, .ref pg, .ref se, .ref pa, .ref bo, .ref li, .ref ba, .int (nI cols), .int (nI lc), .int (nI smp)])), (nz, .inl (cy 1, 5, .inl (fun k => nI (nzf k)))), (tl, .inl (cy 1, 5, .inl (fun k => nI (tlf k)))), (li, .inl (cy 4, 24, .inr (.inr (.inr (.inr lnf))))), (ba, .inl (cy 1, 5, .inl (fun k => nI (bx k)))), (pg, .inr (4, [.ref g0, .ref g1, .ref g2, .ref g3, .ref g4, .ref g5, .int (nI (pMk P)), .int (nI (pRs P)), .int (ky)])), (g0, .inl (cy 1, 5, .inl (fun k => nI ((pSt P) k)))), (g1, .inl (cy 1, 24, .inl (pFa P))), (g2, .inl (cy 1, 24, .inl (pCa P))), (g3, .inl (cy 1, 24, .inl (pDc P))), (g4, .inl (cy 1, 24, .inl (pRl P))), (g5, .inl (cy 1, 24, .inl (fun k => nI ((pLr P) k))))])) := by
  refine xMet_of (cc := cX9_value) (maxL := 4) (ret := (some .long)) (by decide) rfl (Nat.le_of_ble_eq_true rfl) (fun p e s m args below meth c A R Q hA hR hQ C hr hnm hro hX => ?_)
  have hw0 : ∀ w ∈ u_ws RX1 TX1 4, w ∈ wsX9_value := by decide +kernel
  have hw1 : Cond.fieldLink RX9 154 (TX1 1).1 (TX1 1).2.1 (TX1 1).2.2.1 ∈ wsX9_value := by decide +kernel
  have hw2 : ∀ w ∈ u_ws RX9 TX9 9, w ∈ wsX9_value := by decide +kernel
  have hw3 : Cond.fieldLink RX9 33 (TX9 3).1 (TX9 3).2.1 (TX9 3).2.2.1 ∈ wsX9_value := by decide +kernel
  have hw4 : Jvm.Cond.constantLong RX9 186 (-9223372036854775808) ∈ wsX9_value := by decide +kernel
  refine x_L (L' := [(0, .ref fi), (1, .int (x)), (2, .int (y))]) [0, 1, 2] rfl ?_
  have hpool : ∀ q ∈ pl, xRo D A s q := hro
  refine x_aload_n C dX9_value_0 (q := 1) rfl rfl 0 rfl ?_
  refine x_iload_n C dX9_value_1 (q := 2) rfl rfl 1 rfl ?_
  refine x_iload_n C dX9_value_2 (q := 3) rfl rfl 2 rfl ?_
  refine x_callV C (roW := []) (roR := pl) (c_X9_rowField l D cy fi tO gO nO tb tb' trO gA tP kf nz tl pg se pa bo li ba cols lc smp lnf g0 g1 g2 g3 g4 g5 P ky ld pl x y (by first | assumption | omega | (simp only []; omega)) (by first | assumption | omega | (simp only []; omega)) (by assumption) (by assumption) (by assumption)) (cwV 2 C.2.2.2.2.1 gX9_value_X9_rowField rfl rfl rfl (by decide +kernel) (by rw [hR]; exact ⟨Nat.le_of_ble_eq_true rfl, Nat.le_of_ble_eq_true rfl⟩)) [0, 1, 4, 6, 7, 8, 9, 10, 11, 12] [] rfl (by decide) rfl (by decide) hpool (List.mem_of_getElem? (i := 0) rfl) (ci := 8) rfl xT_bl (fun _ _ _ _ _ _ _ => trivial) rfl rfl dX9_value_3 rfl rfl (Nat.le_of_ble_eq_true rfl) (q := 6) rfl (k' := 0) rfl (n' := 0) rfl (by rw [hR]; exact ⟨Nat.le_of_ble_eq_true rfl, Nat.le_of_ble_eq_true rfl⟩) (fun v1 w1 hp1 => ?_)
  rcases hp1 with hp1 | hp1
  · skip
    obtain ⟨q_2, rfl, rfl, hc3, hc4, hc5, hc6, hc7⟩ := hp1
    refine x_ws (ws' := [(fi, .inr (8, [.ref tO, .ref gO, .ref nO, .ref tb, .ref tb', .ref trO, .ref gA, .ref tP, .int (nI kf)])), (tb, .inr (6, [.ref nz, .ref tl, .ref pg, .ref se, .ref pa, .ref bo, .ref li, .ref ba, .int (nI cols), .int (nI lc), .int (nI smp)])), (nz, .inl (cy 1, 5, .inl (fun k => nI (nzf k)))), (tl, .inl (cy 1, 5, .inl (fun k => nI (tlf k)))), (li, .inl (cy 4, 24, .inr (.inr (.inr (.inr lnf))))), (ba, .inl (cy 1, 5, .inl (fun k => nI (bal k)))), (pg, .inr (4, [.ref g0, .ref g1, .ref g2, .ref g3, .ref g4, .ref g5, .int (nI (pMk P)), .int (nI (pRs P)), .int (ky)])), (g0, .inl (cy 1, 5, .inl (fun k => nI ((pSt P) k)))), (g1, .inl (cy 1, 24, .inl (pFa P))), (g2, .inl (cy 1, 24, .inl (pCa P))), (g3, .inl (cy 1, 24, .inl (pDc P))), (g4, .inl (cy 1, 24, .inl (pRl P))), (g5, .inl (cy 1, 24, .inl (fun k => nI ((pLr P) k))))]) (xput_eq2 [0, 1, 4, 6, 7, 8, 9, 10, 11, 12] [2, 3, 5] 13 [(nz, .inl (cy 1, 5, .inl (fun k => nI (nzf k)))), (tl, .inl (cy 1, 5, .inl (fun k => nI (tlf k)))), (ba, .inl (cy 1, 5, .inl (fun k => nI (bal k))))] rfl rfl (by decide) rfl rfl rfl (by decide)) ?_
    obtain ⟨sg8, kB8, kC8⟩ := hc7
    have hf98 := hfm (pLr P x.toInt.toNat) y.toInt.toNat
    refine x_astore_n C (L' := [(3, .ref q_2), (0, .ref fi), (1, .int (x)), (2, .int (y))]) dX9_value_6 (q := 7) rfl rfl (by decide) rfl ?_
    refine x_aload_n C dX9_value_7 (q := 8) rfl rfl 0 rfl ?_
    refine x_ifnull C dX9_value_8 (q := 11) rfl ?_
    refine x_aload_n C dX9_value_11 (q := 12) rfl rfl 0 rfl ?_
    refine x_getR C (ci := 0) (v := .int (nI (dFm ld (pLr P x.toInt.toNat) y.toInt.toNat))) hw0 (hpool _ kB8) rfl 1 (by decide) hw1 rfl dX9_value_12 (q := 15) rfl ?_
    refine x_if_ne C (tgt := 22) dX9_value_15 (by decide) (q := 18) rfl (a := ((dFm ld (pLr P x.toInt.toNat) y.toInt.toNat : Nat) : Int)) (nI_toInt (by omega)) (fun h9 => ?_) (fun h9 => ?_)
    · first
      | (exfalso; omega)
      |
        refine x_aload_n C dX9_value_22 (q := 23) rfl rfl 0 rfl ?_
        refine x_aload_n C dX9_value_23 (q := 24) rfl rfl 1 rfl ?_
        refine x_get C (ci := 8) (v := .ref tb) hw2 0 rfl rfl 3 (by decide) hw3 rfl dX9_value_24 (q := 27) rfl ?_
        refine x_iload_n C dX9_value_27 (q := 28) rfl rfl 3 rfl ?_
        refine x_st (st' := [.int (nI y.toInt.toNat), .ref tb, .ref q_2]) (congrArg (fun z9 => ([.int z9, .ref tb, .ref q_2] : List Value)) (xi_nat (by omega))) ?_
        refine x_callV C (roW := []) (roR := pl) (c_X7_typeOf l D cy tb nz tl pg se pa bo li ba cols lc smp tlf lnf bal g0 g1 g2 g3 g4 g5 (pMk P) (pRs P) ky (pSt P) ld pl y.toInt.toNat (by first | assumption | omega | (simp only []; omega)) (by first | assumption | omega | (simp only []; omega)) (by assumption) (by assumption) (by assumption) (by first | assumption | omega | (simp only []; omega)) (by first | assumption | omega | (simp only []; omega)) (by assumption)) (cwV 1 C.2.2.2.2.1 gX9_value_X7_typeOf rfl rfl rfl (by decide +kernel) (by rw [hR]; exact ⟨Nat.le_of_ble_eq_true rfl, Nat.le_of_ble_eq_true rfl⟩)) [1, 3, 4, 5, 6, 7] [] rfl (by decide) rfl (by decide) hpool (List.mem_of_getElem? (i := 0) rfl) (ci := 6) rfl xT_bl (fun _ _ _ _ _ _ _ => trivial) rfl rfl dX9_value_28 rfl rfl (Nat.le_of_ble_eq_true rfl) (q := 31) rfl (k' := 0) rfl (n' := 0) rfl (by rw [hR]; exact ⟨Nat.le_of_ble_eq_true rfl, Nat.le_of_ble_eq_true rfl⟩) (fun v10 w10 hp10 => ?_)
        obtain ⟨b2_11, rfl, rfl⟩ := hp10
        refine x_ws (ws' := [(fi, .inr (8, [.ref tO, .ref gO, .ref nO, .ref tb, .ref tb', .ref trO, .ref gA, .ref tP, .int (nI kf)])), (tb, .inr (6, [.ref nz, .ref tl, .ref pg, .ref se, .ref pa, .ref bo, .ref li, .ref ba, .int (nI cols), .int (nI lc), .int (nI smp)])), (nz, .inl (cy 1, 5, .inl (fun k => nI (nzf k)))), (tl, .inl (cy 1, 5, .inl (fun k => nI (tlf k)))), (li, .inl (cy 4, 24, .inr (.inr (.inr (.inr lnf))))), (ba, .inl (cy 1, 5, .inl (fun k => nI (b2_11 k)))), (pg, .inr (4, [.ref g0, .ref g1, .ref g2, .ref g3, .ref g4, .ref g5, .int (nI (pMk P)), .int (nI (pRs P)), .int (ky)])), (g0, .inl (cy 1, 5, .inl (fun k => nI ((pSt P) k)))), (g1, .inl (cy 1, 24, .inl (pFa P))), (g2, .inl (cy 1, 24, .inl (pCa P))), (g3, .inl (cy 1, 24, .inl (pDc P))), (g4, .inl (cy 1, 24, .inl (pRl P))), (g5, .inl (cy 1, 24, .inl (fun k => nI ((pLr P) k))))]) rfl ?_
        have hty9 := tyS_le (ld := ld) (c := y.toInt.toNat) (z := min smp lc) hst5 htl
        refine x_callV C (roW := []) (roR := [(q_2, .inr (0, [.ref sg8, .int (nI (dFm ld (pLr P x.toInt.toNat) y.toInt.toNat)), .long (dNm ld (pLr P x.toInt.toNat) y.toInt.toNat), .long (dWd ld (pLr P x.toInt.toNat) y.toInt.toNat)]))]) (c_X1_valueAs l D cy q_2 sg8 (dFm ld (pLr P x.toInt.toNat) y.toInt.toNat) (dNm ld (pLr P x.toInt.toNat) y.toInt.toNat) (dWd ld (pLr P x.toInt.toNat) y.toInt.toNat) (tyS (pSt P) tlf ld y.toInt.toNat (min smp lc)) (by first | assumption | omega | (simp only []; omega)) (by first | assumption | omega | (simp only []; omega))) (cwV 1 C.2.2.2.2.1 gX9_value_X1_valueAs rfl rfl rfl (by decide +kernel) (by rw [hR]; exact ⟨Nat.le_of_ble_eq_true rfl, Nat.le_of_ble_eq_true rfl⟩)) [] [] rfl (by decide) rfl (by decide) (xro_cons (hpool _ kB8) xro_nil) (List.mem_of_getElem? (i := 0) rfl) (ci := 0) rfl xT_bl (fun _ _ _ _ _ _ _ => trivial) rfl rfl dX9_value_31 rfl rfl (Nat.le_of_ble_eq_true rfl) (q := 34) rfl (k' := 0) rfl (n' := 0) rfl (by rw [hR]; exact ⟨Nat.le_of_ble_eq_true rfl, Nat.le_of_ble_eq_true rfl⟩) (fun v12 w12 hp12 => ?_)
        obtain ⟨rfl, rfl⟩ := hp12
        refine x_ws (ws' := [(fi, .inr (8, [.ref tO, .ref gO, .ref nO, .ref tb, .ref tb', .ref trO, .ref gA, .ref tP, .int (nI kf)])), (tb, .inr (6, [.ref nz, .ref tl, .ref pg, .ref se, .ref pa, .ref bo, .ref li, .ref ba, .int (nI cols), .int (nI lc), .int (nI smp)])), (nz, .inl (cy 1, 5, .inl (fun k => nI (nzf k)))), (tl, .inl (cy 1, 5, .inl (fun k => nI (tlf k)))), (li, .inl (cy 4, 24, .inr (.inr (.inr (.inr lnf))))), (ba, .inl (cy 1, 5, .inl (fun k => nI (b2_11 k)))), (pg, .inr (4, [.ref g0, .ref g1, .ref g2, .ref g3, .ref g4, .ref g5, .int (nI (pMk P)), .int (nI (pRs P)), .int (ky)])), (g0, .inl (cy 1, 5, .inl (fun k => nI ((pSt P) k)))), (g1, .inl (cy 1, 24, .inl (pFa P))), (g2, .inl (cy 1, 24, .inl (pCa P))), (g3, .inl (cy 1, 24, .inl (pDc P))), (g4, .inl (cy 1, 24, .inl (pRl P))), (g5, .inl (cy 1, 24, .inl (fun k => nI ((pLr P) k))))]) (List.append_nil _) ?_
        refine x_lret C hA hQ hr dX9_value_34 (Nat.le_of_ble_eq_true rfl) ?_
        refine ⟨_, ?_, rfl⟩
        unfold vaA
        first | (rw [if_pos (show hasV ld cols P x.toInt y.toInt from ⟨by omega, by omega, by omega, by omega, by omega⟩)]; rfl) | (rw [if_neg (fun z => by have z1 := z.1; have z2 := z.2.1; have z3 := z.2.2.1; have z4 := z.2.2.2.1; have z5 := z.2.2.2.2; omega)])
    · first
      | (exfalso; omega)
      |
        refine x_ldc2 C (v := (-9223372036854775808)) hw4 dX9_value_18 (q := 21) rfl ?_
        refine x_lret C hA hQ hr dX9_value_21 (Nat.le_of_ble_eq_true rfl) ?_
        refine ⟨_, ?_, rfl⟩
        unfold vaA
        first | (rw [if_pos (show hasV ld cols P x.toInt y.toInt from ⟨by omega, by omega, by omega, by omega, by omega⟩)]; rfl) | (rw [if_neg (fun z => by have z1 := z.1; have z2 := z.2.1; have z3 := z.2.2.1; have z4 := z.2.2.2.1; have z5 := z.2.2.2.2; omega)])
  · skip
    obtain ⟨rfl, rfl, hc13⟩ := hp1
    refine x_ws (ws' := [(fi, .inr (8, [.ref tO, .ref gO, .ref nO, .ref tb, .ref tb', .ref trO, .ref gA, .ref tP, .int (nI kf)])), (tb, .inr (6, [.ref nz, .ref tl, .ref pg, .ref se, .ref pa, .ref bo, .ref li, .ref ba, .int (nI cols), .int (nI lc), .int (nI smp)])), (nz, .inl (cy 1, 5, .inl (fun k => nI (nzf k)))), (tl, .inl (cy 1, 5, .inl (fun k => nI (tlf k)))), (li, .inl (cy 4, 24, .inr (.inr (.inr (.inr lnf))))), (ba, .inl (cy 1, 5, .inl (fun k => nI (bal k)))), (pg, .inr (4, [.ref g0, .ref g1, .ref g2, .ref g3, .ref g4, .ref g5, .int (nI (pMk P)), .int (nI (pRs P)), .int (ky)])), (g0, .inl (cy 1, 5, .inl (fun k => nI ((pSt P) k)))), (g1, .inl (cy 1, 24, .inl (pFa P))), (g2, .inl (cy 1, 24, .inl (pCa P))), (g3, .inl (cy 1, 24, .inl (pDc P))), (g4, .inl (cy 1, 24, .inl (pRl P))), (g5, .inl (cy 1, 24, .inl (fun k => nI ((pLr P) k))))]) (xput_eq2 [0, 1, 4, 6, 7, 8, 9, 10, 11, 12] [2, 3, 5] 13 [(nz, .inl (cy 1, 5, .inl (fun k => nI (nzf k)))), (tl, .inl (cy 1, 5, .inl (fun k => nI (tlf k)))), (ba, .inl (cy 1, 5, .inl (fun k => nI (bal k))))] rfl rfl (by decide) rfl rfl rfl (by decide)) ?_
    refine x_astore_nN C (L' := [(3, .null), (0, .ref fi), (1, .int (x)), (2, .int (y))]) dX9_value_6 (q := 7) rfl rfl (by decide) rfl ?_
    refine x_aload_nN C dX9_value_7 (q := 8) rfl rfl 0 rfl ?_
    refine x_ifnullN C (tgt := 18) dX9_value_8 (by decide) ?_
    refine x_ldc2 C (v := (-9223372036854775808)) hw4 dX9_value_18 (q := 21) rfl ?_
    refine x_lret C hA hQ hr dX9_value_21 (Nat.le_of_ble_eq_true rfl) ?_
    refine ⟨_, ?_, rfl⟩
    unfold vaA
    first | (rw [if_pos (show hasV ld cols P x.toInt y.toInt from ⟨by omega, by omega, by omega, by omega, by omega⟩)]; rfl) | (rw [if_neg (fun z => by have z1 := z.1; have z2 := z.2.1; have z3 := z.2.2.1; have z4 := z.2.2.2.1; have z5 := z.2.2.2.2; omega)])

set_option maxHeartbeats 4000000 in
set_option maxRecDepth 100000 in
/-- taken -/
theorem c_X9_taken (l : Launch) (D : va_G) (cy : Nat → ClassId) (fi : Nat) (tO : Nat) (gO : Nat) (nO : Nat) (tb : Nat) (tb' : Nat) (trO : Nat) (gA : Nat) (tP : Nat) (kf : Nat) (nz : Nat) (tl : Nat) (pg : Nat) (se : Nat) (pa : Nat) (bo : Nat) (li : Nat) (ba : Nat) (cols : Nat) (lc : Nat) (smp : Nat) (nzf : Nat → Nat) (tlf : Nat → Nat) (lnf : Nat → Option Nat) (bal : Nat → Nat) (g0 : Nat) (g1 : Nat) (g2 : Nat) (g3 : Nat) (g4 : Nat) (g5 : Nat) (P : PS) (ky : Int32) (ld : LD) (pl : va_W) (x : Int32) (y : Int32) (z : Int32) (hcols : cols ≤ 5) (hlc : lc ≤ 24) (hTL : TbL cy pl lc lnf ld) (hfm : ∀ k i, dFm ld k i ≤ 4) (htl : ∀ k, tlf k ≤ 4) (hsmp : smp ≤ 24) (hst5 : ∀ k, pSt P k ≤ 4) (hP : InvP ld cols lc P) : xMet l D cy xT yX9_taken wsX9_taken ({ frames := 8, cells := 0, slots := 0, locals := 900 } : Room) [.ref fi, .int (x), .int (y), .int (z)] [(fi, .inr (8, [.ref tO, .ref gO, .ref nO, .ref tb, .ref tb', .ref trO, .ref gA, .ref tP, .int (nI kf)])), (tb, .inr (6, [.ref nz, .ref tl, .ref pg, .ref se, .ref pa, .ref bo, .ref li, .ref ba, .int (nI cols), .int (nI lc), .int (nI smp)])), (nz, .inl (cy 1, 5, .inl (fun k => nI (nzf k)))), (tl, .inl (cy 1, 5, .inl (fun k => nI (tlf k)))), (li, .inl (cy 4, 24, .inr (.inr (.inr (.inr lnf))))), (ba, .inl (cy 1, 5, .inl (fun k => nI (bal k)))), (pg, .inr (4, [.ref g0, .ref g1, .ref g2, .ref g3, .ref g4, .ref g5, .int (nI (pMk P)), .int (nI (pRs P)), .int (ky)])), (g0, .inl (cy 1, 5, .inl (fun k => nI ((pSt P) k)))), (g1, .inl (cy 1, 24, .inl (pFa P))), (g2, .inl (cy 1, 24, .inl (pCa P))), (g3, .inl (cy 1, 24, .inl (pDc P))), (g4, .inl (cy 1, 24, .inl (pRl P))), (g5, .inl (cy 1, 24, .inl (fun k => nI ((pLr P) k))))] pl (fun (v9 : Option Value) (w9 : va_W) => (∃ bx : Nat → Nat, v9 = some (.int (takA ld cols tlf (min smp lc) P x.toInt y.toInt z.toInt)) ∧ w9 = [(fi, .inr (8, [.ref tO, .ref gO, .ref nO, .ref tb, .ref tb', .ref trO, .ref gA, .ref tP, .int (nI kf)])), (tb, .inr (6, [.ref nz, .ref tl, .ref pg, .ref se, .ref pa, .ref bo, .ref li, .ref ba, .int (nI cols), .int (nI lc), .int (nI smp)])), (nz, .inl (cy 1, 5, .inl (fun k => nI (nzf k)))), (tl, .inl (cy 1, 5, .inl (fun k => nI (tlf k)))), (li, .inl (cy 4, 24, .inr (.inr (.inr (.inr lnf))))), (ba, .inl (cy 1, 5, .inl (fun k => nI (bx k)))), (pg, .inr (4, [.ref g0, .ref g1, .ref g2, .ref g3, .ref g4, .ref g5, .int (nI (pMk P)), .int (nI (pRs P)), .int (ky)])), (g0, .inl (cy 1, 5, .inl (fun k => nI ((pSt P) k)))), (g1, .inl (cy 1, 24, .inl (pFa P))), (g2, .inl (cy 1, 24, .inl (pCa P))), (g3, .inl (cy 1, 24, .inl (pDc P))), (g4, .inl (cy 1, 24, .inl (pRl P))), (g5, .inl (cy 1, 24, .inl (fun k => nI ((pLr P) k))))])) := by
  refine xMet_of (cc := cX9_taken) (maxL := 7) (ret := (some .int)) (by decide) rfl (Nat.le_of_ble_eq_true rfl) (fun p e s m args below meth c A R Q hA hR hQ C hr hnm hro hX => ?_)
  have hw0 : ∀ w ∈ u_ws RX1 TX1 4, w ∈ wsX9_taken := by decide +kernel
  have hw1 : Cond.fieldLink RX9 154 (TX1 1).1 (TX1 1).2.1 (TX1 1).2.2.1 ∈ wsX9_taken := by decide +kernel
  have hw2 : ∀ w ∈ u_ws RX9 TX9 9, w ∈ wsX9_taken := by decide +kernel
  have hw3 : Cond.fieldLink RX9 33 (TX9 3).1 (TX9 3).2.1 (TX9 3).2.2.1 ∈ wsX9_taken := by decide +kernel
  refine x_L (L' := [(0, .ref fi), (1, .int (x)), (2, .int (y)), (3, .int (z))]) [0, 1, 2, 3] rfl ?_
  have hpool : ∀ q ∈ pl, xRo D A s q := hro
  refine x_iload_n C dX9_taken_0 (q := 1) rfl rfl 3 rfl ?_
  refine x_if_lt C (tgt := 9) dX9_taken_1 (by decide) (q := 4) rfl (a := z.toInt) rfl (fun h1 => ?_) (fun h1 => ?_)
  · first
    | (exfalso; omega)
    |
      refine x_bipush C dX9_taken_9 (q := 11) rfl (v := (-2)) (by decide) ?_
      refine x_iret C hA hQ hr dX9_taken_11 (Nat.le_of_ble_eq_true rfl) ?_
      refine ⟨_, ?_, rfl⟩
      unfold takA
      rw [if_pos (by omega)]
  · first
    | (exfalso; omega)
    |
      refine x_iload_n C dX9_taken_4 (q := 5) rfl rfl 3 rfl ?_
      refine x_iconst C dX9_taken_5 (q := 6) rfl (v := nI 4) (by decide) ?_
      refine x_icmp_le C (tgt := 12) dX9_taken_6 (by decide) (q := 9) rfl (a := z.toInt) (b := 4) rfl rfl (fun h2 => ?_) (fun h2 => ?_)
      · first
        | (exfalso; omega)
        |
          refine x_aload_n C dX9_taken_12 (q := 13) rfl rfl 0 rfl ?_
          refine x_iload_n C dX9_taken_13 (q := 14) rfl rfl 1 rfl ?_
          refine x_iload_n C dX9_taken_14 (q := 15) rfl rfl 2 rfl ?_
          refine x_callV C (roW := []) (roR := pl) (c_X9_rowField l D cy fi tO gO nO tb tb' trO gA tP kf nz tl pg se pa bo li ba cols lc smp lnf g0 g1 g2 g3 g4 g5 P ky ld pl x y (by first | assumption | omega | (simp only []; omega)) (by first | assumption | omega | (simp only []; omega)) (by assumption) (by assumption) (by assumption)) (cwV 2 C.2.2.2.2.1 gX9_taken_X9_rowField rfl rfl rfl (by decide +kernel) (by rw [hR]; exact ⟨Nat.le_of_ble_eq_true rfl, Nat.le_of_ble_eq_true rfl⟩)) [0, 1, 4, 6, 7, 8, 9, 10, 11, 12] [] rfl (by decide) rfl (by decide) hpool (List.mem_of_getElem? (i := 0) rfl) (ci := 8) rfl xT_bl (fun _ _ _ _ _ _ _ => trivial) rfl rfl dX9_taken_15 rfl rfl (Nat.le_of_ble_eq_true rfl) (q := 18) rfl (k' := 0) rfl (n' := 0) rfl (by rw [hR]; exact ⟨Nat.le_of_ble_eq_true rfl, Nat.le_of_ble_eq_true rfl⟩) (fun v3 w3 hp3 => ?_)
          rcases hp3 with hp3 | hp3
          · skip
            obtain ⟨q_4, rfl, rfl, hc5, hc6, hc7, hc8, hc9⟩ := hp3
            refine x_ws (ws' := [(fi, .inr (8, [.ref tO, .ref gO, .ref nO, .ref tb, .ref tb', .ref trO, .ref gA, .ref tP, .int (nI kf)])), (tb, .inr (6, [.ref nz, .ref tl, .ref pg, .ref se, .ref pa, .ref bo, .ref li, .ref ba, .int (nI cols), .int (nI lc), .int (nI smp)])), (nz, .inl (cy 1, 5, .inl (fun k => nI (nzf k)))), (tl, .inl (cy 1, 5, .inl (fun k => nI (tlf k)))), (li, .inl (cy 4, 24, .inr (.inr (.inr (.inr lnf))))), (ba, .inl (cy 1, 5, .inl (fun k => nI (bal k)))), (pg, .inr (4, [.ref g0, .ref g1, .ref g2, .ref g3, .ref g4, .ref g5, .int (nI (pMk P)), .int (nI (pRs P)), .int (ky)])), (g0, .inl (cy 1, 5, .inl (fun k => nI ((pSt P) k)))), (g1, .inl (cy 1, 24, .inl (pFa P))), (g2, .inl (cy 1, 24, .inl (pCa P))), (g3, .inl (cy 1, 24, .inl (pDc P))), (g4, .inl (cy 1, 24, .inl (pRl P))), (g5, .inl (cy 1, 24, .inl (fun k => nI ((pLr P) k))))]) (xput_eq2 [0, 1, 4, 6, 7, 8, 9, 10, 11, 12] [2, 3, 5] 13 [(nz, .inl (cy 1, 5, .inl (fun k => nI (nzf k)))), (tl, .inl (cy 1, 5, .inl (fun k => nI (tlf k)))), (ba, .inl (cy 1, 5, .inl (fun k => nI (bal k))))] rfl rfl (by decide) rfl rfl rfl (by decide)) ?_
            obtain ⟨sg10, kB10, kC10⟩ := hc9
            have hf910 := hfm (pLr P x.toInt.toNat) y.toInt.toNat
            refine x_astore C (L' := [(4, .ref q_4), (0, .ref fi), (1, .int (x)), (2, .int (y)), (3, .int (z))]) dX9_taken_18 (q := 20) rfl (by decide) rfl ?_
            refine x_aload C dX9_taken_20 (q := 22) rfl 0 rfl ?_
            refine x_ifnull C dX9_taken_22 (q := 25) rfl ?_
            refine x_aload C dX9_taken_25 (q := 27) rfl 0 rfl ?_
            refine x_getR C (ci := 0) (v := .int (nI (dFm ld (pLr P x.toInt.toNat) y.toInt.toNat))) hw0 (hpool _ kB10) rfl 1 (by decide) hw1 rfl dX9_taken_27 (q := 30) rfl ?_
            refine x_if_ne C (tgt := 36) dX9_taken_30 (by decide) (q := 33) rfl (a := ((dFm ld (pLr P x.toInt.toNat) y.toInt.toNat : Nat) : Int)) (nI_toInt (by omega)) (fun h11 => ?_) (fun h11 => ?_)
            · first
              | (exfalso; omega)
              |
                refine x_aload_n C dX9_taken_36 (q := 37) rfl rfl 1 rfl ?_
                refine x_get C (ci := 8) (v := .ref tb) hw2 0 rfl rfl 3 (by decide) hw3 rfl dX9_taken_37 (q := 40) rfl ?_
                refine x_iload_n C dX9_taken_40 (q := 41) rfl rfl 3 rfl ?_
                refine x_st (st' := [.int (nI y.toInt.toNat), .ref tb]) (congrArg (fun z9 => ([.int z9, .ref tb] : List Value)) (xi_nat (by omega))) ?_
                refine x_callV C (roW := []) (roR := pl) (c_X7_typeOf l D cy tb nz tl pg se pa bo li ba cols lc smp tlf lnf bal g0 g1 g2 g3 g4 g5 (pMk P) (pRs P) ky (pSt P) ld pl y.toInt.toNat (by first | assumption | omega | (simp only []; omega)) (by first | assumption | omega | (simp only []; omega)) (by assumption) (by assumption) (by assumption) (by first | assumption | omega | (simp only []; omega)) (by first | assumption | omega | (simp only []; omega)) (by assumption)) (cwV 1 C.2.2.2.2.1 gX9_taken_X7_typeOf rfl rfl rfl (by decide +kernel) (by rw [hR]; exact ⟨Nat.le_of_ble_eq_true rfl, Nat.le_of_ble_eq_true rfl⟩)) [1, 3, 4, 5, 6, 7] [] rfl (by decide) rfl (by decide) hpool (List.mem_of_getElem? (i := 0) rfl) (ci := 6) rfl xT_bl (fun _ _ _ _ _ _ _ => trivial) rfl rfl dX9_taken_41 rfl rfl (Nat.le_of_ble_eq_true rfl) (q := 44) rfl (k' := 0) rfl (n' := 0) rfl (by rw [hR]; exact ⟨Nat.le_of_ble_eq_true rfl, Nat.le_of_ble_eq_true rfl⟩) (fun v12 w12 hp12 => ?_)
                obtain ⟨b2_13, rfl, rfl⟩ := hp12
                refine x_ws (ws' := [(fi, .inr (8, [.ref tO, .ref gO, .ref nO, .ref tb, .ref tb', .ref trO, .ref gA, .ref tP, .int (nI kf)])), (tb, .inr (6, [.ref nz, .ref tl, .ref pg, .ref se, .ref pa, .ref bo, .ref li, .ref ba, .int (nI cols), .int (nI lc), .int (nI smp)])), (nz, .inl (cy 1, 5, .inl (fun k => nI (nzf k)))), (tl, .inl (cy 1, 5, .inl (fun k => nI (tlf k)))), (li, .inl (cy 4, 24, .inr (.inr (.inr (.inr lnf))))), (ba, .inl (cy 1, 5, .inl (fun k => nI (b2_13 k)))), (pg, .inr (4, [.ref g0, .ref g1, .ref g2, .ref g3, .ref g4, .ref g5, .int (nI (pMk P)), .int (nI (pRs P)), .int (ky)])), (g0, .inl (cy 1, 5, .inl (fun k => nI ((pSt P) k)))), (g1, .inl (cy 1, 24, .inl (pFa P))), (g2, .inl (cy 1, 24, .inl (pCa P))), (g3, .inl (cy 1, 24, .inl (pDc P))), (g4, .inl (cy 1, 24, .inl (pRl P))), (g5, .inl (cy 1, 24, .inl (fun k => nI ((pLr P) k))))]) rfl ?_
                have hty9 := tyS_le (ld := ld) (c := y.toInt.toNat) (z := min smp lc) hst5 htl
                refine x_istore C (L' := [(5, .int (nI (tyS (pSt P) tlf ld y.toInt.toNat (min smp lc)))), (4, .ref q_4), (0, .ref fi), (1, .int (x)), (2, .int (y)), (3, .int (z))]) dX9_taken_44 (q := 46) rfl (by decide) rfl ?_
                refine x_iload_n C dX9_taken_46 (q := 47) rfl rfl 5 rfl ?_
                refine x_if_ne C (tgt := 64) dX9_taken_47 (by decide) (q := 50) rfl (a := z.toInt) rfl (fun h14 => ?_) (fun h14 => ?_)
                · first
                  | (exfalso; omega)
                  |
                    refine x_iload C dX9_taken_64 (q := 66) rfl 0 rfl ?_
                    refine x_iload_n C dX9_taken_66 (q := 67) rfl rfl 5 rfl ?_
                    refine x_icmp_ne C (tgt := 74) dX9_taken_67 (by decide) (q := 70) rfl (a := ((tyS (pSt P) tlf ld y.toInt.toNat (min smp lc) : Nat) : Int)) (b := z.toInt) (nI_toInt (by omega)) rfl (fun h15 => ?_) (fun h15 => ?_)
                    · first
                      | (exfalso; omega)
                      |
                        refine x_iconst C dX9_taken_74 (q := 75) rfl (v := nI 0) (by decide) ?_
                        refine x_istore C (L' := [(6, .int (nI 0)), (5, .int (nI (tyS (pSt P) tlf ld y.toInt.toNat (min smp lc)))), (4, .ref q_4), (0, .ref fi), (1, .int (x)), (2, .int (y)), (3, .int (z))]) dX9_taken_75 (q := 77) rfl (by decide) rfl ?_
                        refine x_iload C dX9_taken_77 (q := 79) rfl 0 rfl ?_
                        refine x_if_eq C (tgt := 87) dX9_taken_79 (by decide) (q := 82) rfl (a := 0) rfl (fun h16 => ?_) (fun h16 => (by omega : False).elim)
                        refine x_bipush C dX9_taken_87 (q := 89) rfl (v := (-12)) (by decide) ?_
                        refine x_iret C hA hQ hr dX9_taken_89 (Nat.le_of_ble_eq_true rfl) ?_
                        refine ⟨_, ?_, rfl⟩
                        unfold takA
                        rw [if_neg (by omega), if_neg (fun q => q (show hasV ld cols P x.toInt y.toInt from ⟨by omega, by omega, by omega, by omega, by omega⟩))]
                        first | rw [if_pos (by omega)] | rw [if_neg (by omega)]
                    · first
                      | (exfalso; omega)
                      |
                        refine x_iconst C dX9_taken_70 (q := 71) rfl (v := nI 1) (by decide) ?_
                        refine x_goto C (tgt := 75) dX9_taken_71 (by decide) ?_
                        refine x_istore C (L' := [(6, .int (nI 1)), (5, .int (nI (tyS (pSt P) tlf ld y.toInt.toNat (min smp lc)))), (4, .ref q_4), (0, .ref fi), (1, .int (x)), (2, .int (y)), (3, .int (z))]) dX9_taken_75 (q := 77) rfl (by decide) rfl ?_
                        refine x_iload C dX9_taken_77 (q := 79) rfl 0 rfl ?_
                        refine x_if_eq C (tgt := 87) dX9_taken_79 (by decide) (q := 82) rfl (a := 1) rfl (fun h17 => (by omega : False).elim) (fun h17 => ?_)
                        refine x_iload C dX9_taken_82 (q := 84) rfl 1 rfl ?_
                        refine x_goto C (tgt := 89) dX9_taken_84 (by decide) ?_
                        refine x_iret C hA hQ hr dX9_taken_89 (Nat.le_of_ble_eq_true rfl) ?_
                        refine ⟨_, ?_, rfl⟩
                        unfold takA
                        rw [if_neg (by omega), if_neg (fun q => q (show hasV ld cols P x.toInt y.toInt from ⟨by omega, by omega, by omega, by omega, by omega⟩))]
                        first | rw [if_pos (by omega)] | rw [if_neg (by omega)]
                · first
                  | (exfalso; omega)
                  |
                    refine x_iload C dX9_taken_50 (q := 52) rfl 0 rfl ?_
                    refine x_iconst C dX9_taken_52 (q := 53) rfl (v := nI 4) (by decide) ?_
                    refine x_icmp_eq C (tgt := 60) dX9_taken_53 (by decide) (q := 56) rfl (a := ((tyS (pSt P) tlf ld y.toInt.toNat (min smp lc) : Nat) : Int)) (b := 4) (nI_toInt (by omega)) rfl (fun h18 => ?_) (fun h18 => ?_)
                    · first
                      | (exfalso; omega)
                      |
                        refine x_iconst C dX9_taken_60 (q := 61) rfl (v := nI 0) (by decide) ?_
                        refine x_goto C (tgt := 75) dX9_taken_61 (by decide) ?_
                        refine x_istore C (L' := [(6, .int (nI 0)), (5, .int (nI (tyS (pSt P) tlf ld y.toInt.toNat (min smp lc)))), (4, .ref q_4), (0, .ref fi), (1, .int (x)), (2, .int (y)), (3, .int (z))]) dX9_taken_75 (q := 77) rfl (by decide) rfl ?_
                        refine x_iload C dX9_taken_77 (q := 79) rfl 0 rfl ?_
                        refine x_if_eq C (tgt := 87) dX9_taken_79 (by decide) (q := 82) rfl (a := 0) rfl (fun h19 => ?_) (fun h19 => (by omega : False).elim)
                        refine x_bipush C dX9_taken_87 (q := 89) rfl (v := (-12)) (by decide) ?_
                        refine x_iret C hA hQ hr dX9_taken_89 (Nat.le_of_ble_eq_true rfl) ?_
                        refine ⟨_, ?_, rfl⟩
                        unfold takA
                        rw [if_neg (by omega), if_neg (fun q => q (show hasV ld cols P x.toInt y.toInt from ⟨by omega, by omega, by omega, by omega, by omega⟩))]
                        first | rw [if_pos (by omega)] | rw [if_neg (by omega)]
                    · first
                      | (exfalso; omega)
                      |
                        refine x_iconst C dX9_taken_56 (q := 57) rfl (v := nI 1) (by decide) ?_
                        refine x_goto C (tgt := 75) dX9_taken_57 (by decide) ?_
                        refine x_istore C (L' := [(6, .int (nI 1)), (5, .int (nI (tyS (pSt P) tlf ld y.toInt.toNat (min smp lc)))), (4, .ref q_4), (0, .ref fi), (1, .int (x)), (2, .int (y)), (3, .int (z))]) dX9_taken_75 (q := 77) rfl (by decide) rfl ?_
                        refine x_iload C dX9_taken_77 (q := 79) rfl 0 rfl ?_
                        refine x_if_eq C (tgt := 87) dX9_taken_79 (by decide) (q := 82) rfl (a := 1) rfl (fun h20 => (by omega : False).elim) (fun h20 => ?_)
                        refine x_iload C dX9_taken_82 (q := 84) rfl 1 rfl ?_
                        refine x_goto C (tgt := 89) dX9_taken_84 (by decide) ?_
                        refine x_iret C hA hQ hr dX9_taken_89 (Nat.le_of_ble_eq_true rfl) ?_
                        refine ⟨_, ?_, rfl⟩
                        unfold takA
                        rw [if_neg (by omega), if_neg (fun q => q (show hasV ld cols P x.toInt y.toInt from ⟨by omega, by omega, by omega, by omega, by omega⟩))]
                        first | rw [if_pos (by omega)] | rw [if_neg (by omega)]
            · first
              | (exfalso; omega)
              |
                refine x_bipush C dX9_taken_33 (q := 35) rfl (v := (-11)) (by decide) ?_
                refine x_iret C hA hQ hr dX9_taken_35 (Nat.le_of_ble_eq_true rfl) ?_
                refine ⟨_, ?_, rfl⟩
                unfold takA
                rw [if_neg (by omega), if_pos (fun q => by have z1 := q.1; have z2 := q.2.1; have z3 := q.2.2.1; have z4 := q.2.2.2.1; have z5 := q.2.2.2.2; omega)]
          · skip
            obtain ⟨rfl, rfl, hc21⟩ := hp3
            refine x_ws (ws' := [(fi, .inr (8, [.ref tO, .ref gO, .ref nO, .ref tb, .ref tb', .ref trO, .ref gA, .ref tP, .int (nI kf)])), (tb, .inr (6, [.ref nz, .ref tl, .ref pg, .ref se, .ref pa, .ref bo, .ref li, .ref ba, .int (nI cols), .int (nI lc), .int (nI smp)])), (nz, .inl (cy 1, 5, .inl (fun k => nI (nzf k)))), (tl, .inl (cy 1, 5, .inl (fun k => nI (tlf k)))), (li, .inl (cy 4, 24, .inr (.inr (.inr (.inr lnf))))), (ba, .inl (cy 1, 5, .inl (fun k => nI (bal k)))), (pg, .inr (4, [.ref g0, .ref g1, .ref g2, .ref g3, .ref g4, .ref g5, .int (nI (pMk P)), .int (nI (pRs P)), .int (ky)])), (g0, .inl (cy 1, 5, .inl (fun k => nI ((pSt P) k)))), (g1, .inl (cy 1, 24, .inl (pFa P))), (g2, .inl (cy 1, 24, .inl (pCa P))), (g3, .inl (cy 1, 24, .inl (pDc P))), (g4, .inl (cy 1, 24, .inl (pRl P))), (g5, .inl (cy 1, 24, .inl (fun k => nI ((pLr P) k))))]) (xput_eq2 [0, 1, 4, 6, 7, 8, 9, 10, 11, 12] [2, 3, 5] 13 [(nz, .inl (cy 1, 5, .inl (fun k => nI (nzf k)))), (tl, .inl (cy 1, 5, .inl (fun k => nI (tlf k)))), (ba, .inl (cy 1, 5, .inl (fun k => nI (bal k))))] rfl rfl (by decide) rfl rfl rfl (by decide)) ?_
            refine x_astoreN C (L' := [(4, .null), (0, .ref fi), (1, .int (x)), (2, .int (y)), (3, .int (z))]) dX9_taken_18 (q := 20) rfl (by decide) rfl ?_
            refine x_aloadN C dX9_taken_20 (q := 22) rfl 0 rfl ?_
            refine x_ifnullN C (tgt := 33) dX9_taken_22 (by decide) ?_
            refine x_bipush C dX9_taken_33 (q := 35) rfl (v := (-11)) (by decide) ?_
            refine x_iret C hA hQ hr dX9_taken_35 (Nat.le_of_ble_eq_true rfl) ?_
            refine ⟨_, ?_, rfl⟩
            unfold takA
            rw [if_neg (by omega), if_pos (fun q => by have z1 := q.1; have z2 := q.2.1; have z3 := q.2.2.1; have z4 := q.2.2.2.1; have z5 := q.2.2.2.2; omega)]
      · first
        | (exfalso; omega)
        |
          refine x_bipush C dX9_taken_9 (q := 11) rfl (v := (-2)) (by decide) ?_
          refine x_iret C hA hQ hr dX9_taken_11 (Nat.le_of_ble_eq_true rfl) ?_
          refine ⟨_, ?_, rfl⟩
          unfold takA
          rw [if_pos (by omega)]
