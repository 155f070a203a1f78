
def coA (st tl : Nat → Nat) (ld : LD) (nz : Nat → Nat) (cols z : Nat) (x y : Int32) : Int32 :=
  if x.toInt < 0 ∨ cols ≤ x.toInt then -1 else if y.toInt = 0 then nI (tyS st tl ld x.toInt.toNat z) else if y.toInt = 1 then nI (gsS (vtF ld x.toInt.toNat z)) else if y.toInt = 2 then nI (tl x.toInt.toNat) else if y.toInt = 3 then nI (st x.toInt.toNat) else if y.toInt = 4 then nI (nz x.toInt.toNat) else -1
def roA (P : PS) (x : Int) : Int32 := if x < pMk P then pRl P x.toNat else -5
def ofA (ld : LD) (lc : Nat) (P : PS) (x y : Int32) : Int32 :=
  if x.toInt < 0 ∨ lc ≤ x.toInt ∨ y.toInt < 0 then -1 else if y.toInt = 0 then nI (dNf ld x.toInt.toNat) else if y.toInt = 1 then (if x.toInt < pMk P then nI 1 else nI 0) else if y.toInt = 2 then roA P x.toInt else if y.toInt - 3 < dNf ld x.toInt.toNat then nI (dFm ld x.toInt.toNat (y.toInt - 3).toNat) else -5
def voA (ld : LD) (cols z : Nat) (x y : Int32) : Int32 := if x.toInt < 0 ∨ cols ≤ x.toInt ∨ y.toInt < 0 ∨ 4 < y.toInt then -1 else nI (vtF ld x.toInt.toNat z y.toInt.toNat)
def ruA (lc : Nat) (P : PS) (x : Int32) : Int32 := if x.toInt < 0 ∨ 24 < x.toInt then -2 else nI (min x.toInt.toNat (lc - pMk P))
def ruN (ld : LD) (cols lc : Nat) (tl : Nat → Nat) (z : Nat) (ky : Int) (P : PS) (x : Int32) : PS := if x.toInt < 0 ∨ 24 < x.toInt then P else goS ld cols tl z ky (min x.toInt.toNat (lc - pMk P)) P
def fpA (P : PS) (x : Int) (y : Int) : Int32 := if x < 0 ∨ pMk P ≤ x then -5 else if y = 0 then pFa P x.toNat else if y = 1 then pCa P x.toNat else if y = 2 then pDc P x.toNat else -5
def fauA (lc : Nat) (P : PS) (x y : Int32) : Int32 := if x.toInt < 0 ∨ lc ≤ x.toInt ∨ y.toInt < 0 then -1 else fpA P x.toInt y.toInt
def tolA (cols smp : Nat) (ky : Int32) (P : PS) (x : Int32) : Int32 :=
  if x.toInt = 0 then nI (pMk P) else if x.toInt = 1 then nI (pRs P) else if x.toInt = 2 then nI (pMk P - pRs P) else if x.toInt = 3 then nI cols else if x.toInt = 4 then kaA ky else if x.toInt = 5 then nI smp else if x.toInt = 6 then nI (cntE (pFa P) (nI 3) (pMk P)) else if x.toInt = 7 then nI (cntE (pFa P) (nI 5) (pMk P)) else -1
theorem xi_sub3 {y : Int32} (h : 0 ≤ y.toInt) : (y - nI 3).toInt = y.toInt - 3 := by
  rw [Int32.toInt_sub, show (nI 3).toInt = 3 from rfl]
  have := y.toInt_lt
  exact Int.bmod_eq_of_le (by omega) (by omega)

set_option maxHeartbeats 4000000 in
set_option maxRecDepth 100000 in
/-- column -/
theorem c_X9_column (l : Launch) (D : va_G) (cy : Nat → ClassId) (fi : Nat) (tO : Nat) (gO : Nat) (nO : Nat) (tb : Nat) (tb' : Nat) (trO : Nat) (gA : Nat) (tP : Nat) (kf : Nat) (nz : Nat) (tl : Nat) (pg : Nat) (se : Nat) (pa : Nat) (bo : Nat) (li : Nat) (ba : Nat) (cols : Nat) (lc : Nat) (smp : Nat) (nzf : Nat → Nat) (tlf : Nat → Nat) (lnf : Nat → Option Nat) (bal : Nat → Nat) (g0 : Nat) (g1 : Nat) (g2 : Nat) (g3 : Nat) (g4 : Nat) (g5 : Nat) (P : PS) (ky : Int32) (ld : LD) (pl : va_W) (x : Int32) (y : Int32) (hcols : cols ≤ 5) (hlc : lc ≤ 24) (hTL : TbL cy pl lc lnf ld) (hfm : ∀ k i, dFm ld k i ≤ 4) (htl : ∀ k, tlf k ≤ 4) (hsmp : smp ≤ 24) (hst5 : ∀ k, pSt P k ≤ 4) : xMet l D cy xT yX9_column wsX9_column ({ frames := 8, cells := 0, slots := 0, locals := 900 } : Room) [.ref fi, .int (x), .int (y)] [(fi, .inr (8, [.ref tO, .ref gO, .ref nO, .ref tb, .ref tb', .ref trO, .ref gA, .ref tP, .int (nI kf)])), (tb, .inr (6, [.ref nz, .ref tl, .ref pg, .ref se, .ref pa, .ref bo, .ref li, .ref ba, .int (nI cols), .int (nI lc), .int (nI smp)])), (nz, .inl (cy 1, 5, .inl (fun k => nI (nzf k)))), (tl, .inl (cy 1, 5, .inl (fun k => nI (tlf k)))), (li, .inl (cy 4, 24, .inr (.inr (.inr (.inr lnf))))), (ba, .inl (cy 1, 5, .inl (fun k => nI (bal k)))), (pg, .inr (4, [.ref g0, .ref g1, .ref g2, .ref g3, .ref g4, .ref g5, .int (nI (pMk P)), .int (nI (pRs P)), .int (ky)])), (g0, .inl (cy 1, 5, .inl (fun k => nI ((pSt P) k)))), (g1, .inl (cy 1, 24, .inl (pFa P))), (g2, .inl (cy 1, 24, .inl (pCa P))), (g3, .inl (cy 1, 24, .inl (pDc P))), (g4, .inl (cy 1, 24, .inl (pRl P))), (g5, .inl (cy 1, 24, .inl (fun k => nI ((pLr P) k))))] pl (fun (v9 : Option Value) (w9 : va_W) => (∃ b2 : Nat → Nat, v9 = some (.int (coA (pSt P) tlf ld nzf cols (min smp lc) x y)) ∧ w9 = [(fi, .inr (8, [.ref tO, .ref gO, .ref nO, .ref tb, .ref tb', .ref trO, .ref gA, .ref tP, .int (nI kf)])), (tb, .inr (6, [.ref nz, .ref tl, .ref pg, .ref se, .ref pa, .ref bo, .ref li, .ref ba, .int (nI cols), .int (nI lc), .int (nI smp)])), (nz, .inl (cy 1, 5, .inl (fun k => nI (nzf k)))), (tl, .inl (cy 1, 5, .inl (fun k => nI (tlf k)))), (li, .inl (cy 4, 24, .inr (.inr (.inr (.inr lnf))))), (ba, .inl (cy 1, 5, .inl (fun k => nI (b2 k)))), (pg, .inr (4, [.ref g0, .ref g1, .ref g2, .ref g3, .ref g4, .ref g5, .int (nI (pMk P)), .int (nI (pRs P)), .int (ky)])), (g0, .inl (cy 1, 5, .inl (fun k => nI ((pSt P) k)))), (g1, .inl (cy 1, 24, .inl (pFa P))), (g2, .inl (cy 1, 24, .inl (pCa P))), (g3, .inl (cy 1, 24, .inl (pDc P))), (g4, .inl (cy 1, 24, .inl (pRl P))), (g5, .inl (cy 1, 24, .inl (fun k => nI ((pLr P) k))))])) := by
  refine xMet_of (cc := cX9_column) (maxL := 3) (ret := (some .int)) (by decide) rfl (Nat.le_of_ble_eq_true rfl) (fun p e s m args below meth c A R Q hA hR hQ C hr hnm hro hX => ?_)
  have hw0 : ∀ w ∈ u_ws RX9 TX9 9, w ∈ wsX9_column := by decide +kernel
  have hw1 : Cond.fieldLink RX9 33 (TX9 3).1 (TX9 3).2.1 (TX9 3).2.2.1 ∈ wsX9_column := by decide +kernel
  have hw2 : ∀ w ∈ u_ws RX7 TX7 11, w ∈ wsX9_column := by decide +kernel
  have hw3 : Cond.fieldLink RX9 98 (TX7 10).1 (TX7 10).2.1 (TX7 10).2.2.1 ∈ wsX9_column := by decide +kernel
  have hw4 : Cond.fieldLink RX9 105 (TX7 1).1 (TX7 1).2.1 (TX7 1).2.2.1 ∈ wsX9_column := by decide +kernel
  have hw5 : Cond.fieldLink RX9 109 (TX7 2).1 (TX7 2).2.1 (TX7 2).2.2.1 ∈ wsX9_column := by decide +kernel
  have hw6 : ∀ w ∈ u_ws RX5 TX5 9, w ∈ wsX9_column := by decide +kernel
  have hw7 : Cond.fieldLink RX9 130 (TX5 0).1 (TX5 0).2.1 (TX5 0).2.2.1 ∈ wsX9_column := by decide +kernel
  have hw8 : Cond.fieldLink RX9 133 (TX7 0).1 (TX7 0).2.1 (TX7 0).2.2.1 ∈ wsX9_column := by decide +kernel
  refine x_L (L' := [(0, .ref fi), (1, .int (x)), (2, .int (y))]) [0, 1, 2] rfl ?_
  have hpool : ∀ q ∈ pl, xRo D A s q := hro
  refine x_aload_n C dX9_column_0 (q := 1) rfl rfl 0 rfl ?_
  refine x_get C (ci := 8) (v := .ref tb) hw0 0 rfl rfl 3 (by decide) hw1 rfl dX9_column_1 (q := 4) rfl ?_
  refine x_iload_n C dX9_column_4 (q := 5) rfl rfl 1 rfl ?_
  refine x_callV C (roW := [(tb, .inr (6, [.ref nz, .ref tl, .ref pg, .ref se, .ref pa, .ref bo, .ref li, .ref ba, .int (nI cols), .int (nI lc), .int (nI smp)]))]) (roR := []) (c_X7_hasColumn l D cy tb nz tl pg se pa bo li ba cols lc smp x (by first | assumption | omega | (simp only []; omega)) (by first | assumption | omega | (simp only []; omega))) (cwV 1 C.2.2.2.2.1 gX9_column_X7_hasColumn rfl rfl rfl (by decide +kernel) (by rw [hR]; exact ⟨Nat.le_of_ble_eq_true rfl, Nat.le_of_ble_eq_true rfl⟩)) [] [1] rfl (by decide) rfl (by decide) xro_nil (List.mem_of_getElem? (i := 0) rfl) (ci := 6) rfl xT_bl (fun _ _ _ _ _ _ _ => trivial) rfl rfl dX9_column_5 rfl rfl (Nat.le_of_ble_eq_true rfl) (q := 8) rfl (k' := 0) rfl (n' := 0) rfl (by rw [hR]; exact ⟨Nat.le_of_ble_eq_true rfl, Nat.le_of_ble_eq_true rfl⟩) (fun v1 w1 hp1 => ?_)
  rcases hp1 with hp1 | hp1
  · skip
    obtain ⟨rfl, rfl, hc2, hc3⟩ := hp1
    refine x_ws (ws' := [(fi, .inr (8, [.ref tO, .ref gO, .ref nO, .ref tb, .ref tb', .ref trO, .ref gA, .ref tP, .int (nI kf)])), (tb, .inr (6, [.ref nz, .ref tl, .ref pg, .ref se, .ref pa, .ref bo, .ref li, .ref ba, .int (nI cols), .int (nI lc), .int (nI smp)])), (nz, .inl (cy 1, 5, .inl (fun k => nI (nzf k)))), (tl, .inl (cy 1, 5, .inl (fun k => nI (tlf k)))), (li, .inl (cy 4, 24, .inr (.inr (.inr (.inr lnf))))), (ba, .inl (cy 1, 5, .inl (fun k => nI (bal k)))), (pg, .inr (4, [.ref g0, .ref g1, .ref g2, .ref g3, .ref g4, .ref g5, .int (nI (pMk P)), .int (nI (pRs P)), .int (ky)])), (g0, .inl (cy 1, 5, .inl (fun k => nI ((pSt P) k)))), (g1, .inl (cy 1, 24, .inl (pFa P))), (g2, .inl (cy 1, 24, .inl (pCa P))), (g3, .inl (cy 1, 24, .inl (pDc P))), (g4, .inl (cy 1, 24, .inl (pRl P))), (g5, .inl (cy 1, 24, .inl (fun k => nI ((pLr P) k))))]) (List.append_nil _) ?_
    refine x_if_ne C (tgt := 13) dX9_column_8 (by decide) (q := 11) rfl (a := 1) rfl (fun h4 => ?_) (fun h4 => (by omega : False).elim)
    refine x_iload_n C dX9_column_13 (q := 14) rfl rfl 2 rfl ?_
    by_cases hs5 : y.toInt < 0 ∨ 4 < y.toInt
    · refine x_tableOut C (tgt := 106) dX9_column_14 hs5 (by decide) ?_
      refine x_iconst C dX9_column_106 (q := 107) rfl (v := (-1)) (by decide) ?_
      refine x_iret C hA hQ hr dX9_column_107 (Nat.le_of_ble_eq_true rfl) ?_
      refine ⟨_, ?_, rfl⟩
      unfold coA
      repeat (first | rw [if_pos (by omega)] | rw [if_neg (by omega)])
    · have hs5' : y.toInt = 0 ∨ y.toInt = 1 ∨ y.toInt = 2 ∨ y.toInt = 3 ∨ y.toInt = 4 := by omega
      rcases hs5' with hs5e | hs5e | hs5e | hs5e | hs5e
      · refine x_tableIn C (tgt := 48) (0 : Int) ((rfl : (y : Int32).toInt = y.toInt).trans hs5e) dX9_column_14 (by decide) (by decide) rfl (by decide) ?_
        refine x_aload_n C dX9_column_48 (q := 49) rfl rfl 0 rfl ?_
        refine x_get C (ci := 8) (v := .ref tb) hw0 0 rfl rfl 3 (by decide) hw1 rfl dX9_column_49 (q := 52) rfl ?_
        refine x_iload_n C dX9_column_52 (q := 53) rfl rfl 1 rfl ?_
        refine x_st (st' := [.int (nI x.toInt.toNat), .ref tb]) (congrArg (fun z9 => ([.int z9, .ref tb] : List Value)) (xi_nat (by omega))) ?_
        refine x_callV C (roW := []) (roR := pl) (c_X7_typeOf l D cy tb nz tl pg se pa bo li ba cols lc smp tlf lnf bal g0 g1 g2 g3 g4 g5 (pMk P) (pRs P) ky (pSt P) ld pl x.toInt.toNat (by first | assumption | omega | (simp only []; omega)) (by first | assumption | omega | (simp only []; omega)) (by assumption) (by assumption) (by assumption) (by first | assumption | omega | (simp only []; omega)) (by first | assumption | omega | (simp only []; omega)) (by assumption)) (cwV 1 C.2.2.2.2.1 gX9_column_X7_typeOf rfl rfl rfl (by decide +kernel) (by rw [hR]; exact ⟨Nat.le_of_ble_eq_true rfl, Nat.le_of_ble_eq_true rfl⟩)) [1, 3, 4, 5, 6, 7] [] rfl (by decide) rfl (by decide) hpool (List.mem_of_getElem? (i := 0) rfl) (ci := 6) rfl xT_bl (fun _ _ _ _ _ _ _ => trivial) rfl rfl dX9_column_53 rfl rfl (Nat.le_of_ble_eq_true rfl) (q := 56) rfl (k' := 0) rfl (n' := 0) rfl (by rw [hR]; exact ⟨Nat.le_of_ble_eq_true rfl, Nat.le_of_ble_eq_true rfl⟩) (fun v6 w6 hp6 => ?_)
        obtain ⟨b2_7, rfl, rfl⟩ := hp6
        refine x_ws (ws' := [(fi, .inr (8, [.ref tO, .ref gO, .ref nO, .ref tb, .ref tb', .ref trO, .ref gA, .ref tP, .int (nI kf)])), (tb, .inr (6, [.ref nz, .ref tl, .ref pg, .ref se, .ref pa, .ref bo, .ref li, .ref ba, .int (nI cols), .int (nI lc), .int (nI smp)])), (nz, .inl (cy 1, 5, .inl (fun k => nI (nzf k)))), (tl, .inl (cy 1, 5, .inl (fun k => nI (tlf k)))), (li, .inl (cy 4, 24, .inr (.inr (.inr (.inr lnf))))), (ba, .inl (cy 1, 5, .inl (fun k => nI (b2_7 k)))), (pg, .inr (4, [.ref g0, .ref g1, .ref g2, .ref g3, .ref g4, .ref g5, .int (nI (pMk P)), .int (nI (pRs P)), .int (ky)])), (g0, .inl (cy 1, 5, .inl (fun k => nI ((pSt P) k)))), (g1, .inl (cy 1, 24, .inl (pFa P))), (g2, .inl (cy 1, 24, .inl (pCa P))), (g3, .inl (cy 1, 24, .inl (pDc P))), (g4, .inl (cy 1, 24, .inl (pRl P))), (g5, .inl (cy 1, 24, .inl (fun k => nI ((pLr P) k))))]) rfl ?_
        refine x_iret C hA hQ hr dX9_column_56 (Nat.le_of_ble_eq_true rfl) ?_
        refine ⟨_, ?_, rfl⟩
        unfold coA
        repeat (first | rw [if_pos (by omega)] | rw [if_neg (by omega)])
      · refine x_tableIn C (tgt := 57) (1 : Int) ((rfl : (y : Int32).toInt = y.toInt).trans hs5e) dX9_column_14 (by decide) (by decide) rfl (by decide) ?_
        refine x_aload_n C dX9_column_57 (q := 58) rfl rfl 0 rfl ?_
        refine x_get C (ci := 8) (v := .ref tb) hw0 0 rfl rfl 3 (by decide) hw1 rfl dX9_column_58 (q := 61) rfl ?_
        refine x_iload_n C dX9_column_61 (q := 62) rfl rfl 1 rfl ?_
        refine x_aload_n C dX9_column_62 (q := 63) rfl rfl 0 rfl ?_
        refine x_get C (ci := 8) (v := .ref tb) hw0 0 rfl rfl 3 (by decide) hw1 rfl dX9_column_63 (q := 66) rfl ?_
        refine x_get C (ci := 6) (v := .int (nI smp)) hw2 1 rfl rfl 10 (by decide) hw3 rfl dX9_column_66 (q := 69) rfl ?_
        refine x_st (st' := [.int (nI smp), .int (nI x.toInt.toNat), .ref tb]) (congrArg (fun z9 => ([.int (nI smp), .int z9, .ref tb] : List Value)) (xi_nat (by omega))) ?_
        refine x_callV C (roW := []) (roR := pl) (c_X7_guessBy l D cy tb nz tl pg se pa bo li ba cols lc smp lnf bal ld pl x.toInt.toNat smp (by first | assumption | omega | (simp only []; omega)) (by first | assumption | omega | (simp only []; omega)) (by assumption) (by assumption) (by first | assumption | omega | (simp only []; omega)) (by first | assumption | omega | (simp only []; omega))) (cwV 2 C.2.2.2.2.1 gX9_column_X7_guessBy rfl rfl rfl (by decide +kernel) (by rw [hR]; exact ⟨Nat.le_of_ble_eq_true rfl, Nat.le_of_ble_eq_true rfl⟩)) [1, 4, 5] [] rfl (by decide) rfl (by decide) hpool (List.mem_of_getElem? (i := 0) rfl) (ci := 6) rfl xT_bl (fun _ _ _ _ _ _ _ => trivial) rfl rfl dX9_column_69 rfl rfl (Nat.le_of_ble_eq_true rfl) (q := 72) rfl (k' := 0) rfl (n' := 0) rfl (by rw [hR]; exact ⟨Nat.le_of_ble_eq_true rfl, Nat.le_of_ble_eq_true rfl⟩) (fun v8 w8 hp8 => ?_)
        obtain ⟨rfl, rfl⟩ := hp8
        refine x_ws (ws' := [(fi, .inr (8, [.ref tO, .ref gO, .ref nO, .ref tb, .ref tb', .ref trO, .ref gA, .ref tP, .int (nI kf)])), (tb, .inr (6, [.ref nz, .ref tl, .ref pg, .ref se, .ref pa, .ref bo, .ref li, .ref ba, .int (nI cols), .int (nI lc), .int (nI smp)])), (nz, .inl (cy 1, 5, .inl (fun k => nI (nzf k)))), (tl, .inl (cy 1, 5, .inl (fun k => nI (tlf k)))), (li, .inl (cy 4, 24, .inr (.inr (.inr (.inr lnf))))), (ba, .inl (cy 1, 5, .inl (fun k => nI ((vtF ld x.toInt.toNat (min smp lc)) k)))), (pg, .inr (4, [.ref g0, .ref g1, .ref g2, .ref g3, .ref g4, .ref g5, .int (nI (pMk P)), .int (nI (pRs P)), .int (ky)])), (g0, .inl (cy 1, 5, .inl (fun k => nI ((pSt P) k)))), (g1, .inl (cy 1, 24, .inl (pFa P))), (g2, .inl (cy 1, 24, .inl (pCa P))), (g3, .inl (cy 1, 24, .inl (pDc P))), (g4, .inl (cy 1, 24, .inl (pRl P))), (g5, .inl (cy 1, 24, .inl (fun k => nI ((pLr P) k))))]) rfl ?_
        refine x_iret C hA hQ hr dX9_column_72 (Nat.le_of_ble_eq_true rfl) ?_
        refine ⟨_, ?_, rfl⟩
        unfold coA
        repeat (first | rw [if_pos (by omega)] | rw [if_neg (by omega)])
      · refine x_tableIn C (tgt := 73) (2 : Int) ((rfl : (y : Int32).toInt = y.toInt).trans hs5e) dX9_column_14 (by decide) (by decide) rfl (by decide) ?_
        refine x_aload_n C dX9_column_73 (q := 74) rfl rfl 0 rfl ?_
        refine x_get C (ci := 8) (v := .ref tb) hw0 0 rfl rfl 3 (by decide) hw1 rfl dX9_column_74 (q := 77) rfl ?_
        refine x_get C (ci := 6) (v := .ref tl) hw2 1 rfl rfl 1 (by decide) hw4 rfl dX9_column_77 (q := 80) rfl ?_
        refine x_iload_n C dX9_column_80 (q := 81) rfl rfl 1 rfl ?_
        have hb9 := htl x.toInt.toNat
        refine x_iald C (j := x.toInt.toNat) (v := nI (tlf x.toInt.toNat)) 3 rfl (by have h9 := (rfl : (x : Int32).toInt = x.toInt); omega) (by omega) rfl dX9_column_81 (q := 82) rfl ?_
        refine x_iret C hA hQ hr dX9_column_82 (Nat.le_of_ble_eq_true rfl) ?_
        refine ⟨_, ?_, rfl⟩
        unfold coA
        repeat (first | rw [if_pos (by omega)] | rw [if_neg (by omega)])
      · refine x_tableIn C (tgt := 83) (3 : Int) ((rfl : (y : Int32).toInt = y.toInt).trans hs5e) dX9_column_14 (by decide) (by decide) rfl (by decide) ?_
        refine x_aload_n C dX9_column_83 (q := 84) rfl rfl 0 rfl ?_
        refine x_get C (ci := 8) (v := .ref tb) hw0 0 rfl rfl 3 (by decide) hw1 rfl dX9_column_84 (q := 87) rfl ?_
        refine x_get C (ci := 6) (v := .ref pg) hw2 1 rfl rfl 2 (by decide) hw5 rfl dX9_column_87 (q := 90) rfl ?_
        refine x_get C (ci := 4) (v := .ref g0) hw6 6 rfl rfl 0 (by decide) hw7 rfl dX9_column_90 (q := 93) rfl ?_
        refine x_iload_n C dX9_column_93 (q := 94) rfl rfl 1 rfl ?_
        have hb10 := hst5 x.toInt.toNat
        refine x_iald C (j := x.toInt.toNat) (v := nI ((pSt P) x.toInt.toNat)) 7 rfl (by have h9 := (rfl : (x : Int32).toInt = x.toInt); omega) (by omega) rfl dX9_column_94 (q := 95) rfl ?_
        refine x_iret C hA hQ hr dX9_column_95 (Nat.le_of_ble_eq_true rfl) ?_
        refine ⟨_, ?_, rfl⟩
        unfold coA
        repeat (first | rw [if_pos (by omega)] | rw [if_neg (by omega)])
      · refine x_tableIn C (tgt := 96) (4 : Int) ((rfl : (y : Int32).toInt = y.toInt).trans hs5e) dX9_column_14 (by decide) (by decide) rfl (by decide) ?_
        refine x_aload_n C dX9_column_96 (q := 97) rfl rfl 0 rfl ?_
        refine x_get C (ci := 8) (v := .ref tb) hw0 0 rfl rfl 3 (by decide) hw1 rfl dX9_column_97 (q := 100) rfl ?_
        refine x_get C (ci := 6) (v := .ref nz) hw2 1 rfl rfl 0 (by decide) hw8 rfl dX9_column_100 (q := 103) rfl ?_
        refine x_iload_n C dX9_column_103 (q := 104) rfl rfl 1 rfl ?_
        refine x_iald C (j := x.toInt.toNat) (v := nI (nzf x.toInt.toNat)) 2 rfl (by have h9 := (rfl : (x : Int32).toInt = x.toInt); omega) (by omega) rfl dX9_column_104 (q := 105) rfl ?_
        refine x_iret C hA hQ hr dX9_column_105 (Nat.le_of_ble_eq_true rfl) ?_
        refine ⟨_, ?_, rfl⟩
        unfold coA
        repeat (first | rw [if_pos (by omega)] | rw [if_neg (by omega)])
  · skip
    obtain ⟨rfl, rfl, hc11⟩ := hp1
    refine x_ws (ws' := [(fi, .inr (8, [.ref tO, .ref gO, .ref nO, .ref tb, .ref tb', .ref trO, .ref gA, .ref tP, .int (nI kf)])), (tb, .inr (6, [.ref nz, .ref tl, .ref pg, .ref se, .ref pa, .ref bo, .ref li, .ref ba, .int (nI cols), .int (nI lc), .int (nI smp)])), (nz, .inl (cy 1, 5, .inl (fun k => nI (nzf k)))), (tl, .inl (cy 1, 5, .inl (fun k => nI (tlf k)))), (li, .inl (cy 4, 24, .inr (.inr (.inr (.inr lnf))))), (ba, .inl (cy 1, 5, .inl (fun k => nI (bal k)))), (pg, .inr (4, [.ref g0, .ref g1, .ref g2, .ref g3, .ref g4, .ref g5, .int (nI (pMk P)), .int (nI (pRs P)), .int (ky)])), (g0, .inl (cy 1, 5, .inl (fun k => nI ((pSt P) k)))), (g1, .inl (cy 1, 24, .inl (pFa P))), (g2, .inl (cy 1, 24, .inl (pCa P))), (g3, .inl (cy 1, 24, .inl (pDc P))), (g4, .inl (cy 1, 24, .inl (pRl P))), (g5, .inl (cy 1, 24, .inl (fun k => nI ((pLr P) k))))]) (List.append_nil _) ?_
    refine x_if_ne C (tgt := 13) dX9_column_8 (by decide) (q := 11) rfl (a := 0) rfl (fun h12 => (by omega : False).elim) (fun h12 => ?_)
    refine x_iconst C dX9_column_11 (q := 12) rfl (v := (-1)) (by decide) ?_
    refine x_iret C hA hQ hr dX9_column_12 (Nat.le_of_ble_eq_true rfl) ?_
    refine ⟨_, ?_, rfl⟩
    unfold coA
    repeat (first | rw [if_pos (by omega)] | rw [if_neg (by omega)])

set_option maxHeartbeats 4000000 in
set_option maxRecDepth 100000 in
/-- of -/
theorem c_X9_of (l : Launch) (D : va_G) (cy : Nat → ClassId) (fi : Nat) (tO : Nat) (gO : Nat) (nO : Nat) (tb : Nat) (tb' : Nat) (trO : Nat) (gA : Nat) (tP : Nat) (kf : Nat) (nz : Nat) (tl : Nat) (pg : Nat) (se : Nat) (pa : Nat) (bo : Nat) (li : Nat) (ba : Nat) (cols : Nat) (lc : Nat) (smp : Nat) (lnf : Nat → Option Nat) (g0 : Nat) (g1 : Nat) (g2 : Nat) (g3 : Nat) (g4 : Nat) (g5 : Nat) (P : PS) (ky : Int32) (ld : LD) (pl : va_W) (x : Int32) (y : Int32) (hcols : cols ≤ 5) (hlc : lc ≤ 24) (hTL : TbL cy pl lc lnf ld) (hfm : ∀ k i, dFm ld k i ≤ 4) (hmk : pMk P ≤ 24) (hrs : pRs P ≤ 24) : xMet l D cy xT yX9_of wsX9_of ({ frames := 4, cells := 0, slots := 0, locals := 400 } : Room) [.ref fi, .int (x), .int (y)] [(fi, .inr (8, [.ref tO, .ref gO, .ref nO, .ref tb, .ref tb', .ref trO, .ref gA, .ref tP, .int (nI kf)])), (tb, .inr (6, [.ref nz, .ref tl, .ref pg, .ref se, .ref pa, .ref bo, .ref li, .ref ba, .int (nI cols), .int (nI lc), .int (nI smp)])), (li, .inl (cy 4, 24, .inr (.inr (.inr (.inr lnf))))), (pg, .inr (4, [.ref g0, .ref g1, .ref g2, .ref g3, .ref g4, .ref g5, .int (nI (pMk P)), .int (nI (pRs P)), .int (ky)])), (g0, .inl (cy 1, 5, .inl (fun k => nI ((pSt P) k)))), (g1, .inl (cy 1, 24, .inl (pFa P))), (g2, .inl (cy 1, 24, .inl (pCa P))), (g3, .inl (cy 1, 24, .inl (pDc P))), (g4, .inl (cy 1, 24, .inl (pRl P))), (g5, .inl (cy 1, 24, .inl (fun k => nI ((pLr P) k))))] pl (fun (v9 : Option Value) (w9 : va_W) => (v9 = some (.int (ofA ld lc P x y)) ∧ w9 = [(fi, .inr (8, [.ref tO, .ref gO, .ref nO, .ref tb, .ref tb', .ref trO, .ref gA, .ref tP, .int (nI kf)])), (tb, .inr (6, [.ref nz, .ref tl, .ref pg, .ref se, .ref pa, .ref bo, .ref li, .ref ba, .int (nI cols), .int (nI lc), .int (nI smp)])), (li, .inl (cy 4, 24, .inr (.inr (.inr (.inr lnf))))), (pg, .inr (4, [.ref g0, .ref g1, .ref g2, .ref g3, .ref g4, .ref g5, .int (nI (pMk P)), .int (nI (pRs P)), .int (ky)])), (g0, .inl (cy 1, 5, .inl (fun k => nI ((pSt P) k)))), (g1, .inl (cy 1, 24, .inl (pFa P))), (g2, .inl (cy 1, 24, .inl (pCa P))), (g3, .inl (cy 1, 24, .inl (pDc P))), (g4, .inl (cy 1, 24, .inl (pRl P))), (g5, .inl (cy 1, 24, .inl (fun k => nI ((pLr P) k))))])) := by
  refine xMet_of (cc := cX9_of) (maxL := 5) (ret := (some .int)) (by decide) rfl (Nat.le_of_ble_eq_true rfl) (fun p e s m args below meth c A R Q hA hR hQ C hr hnm hro hX => ?_)
  have hw0 : ∀ w ∈ u_ws RX9 TX9 9, w ∈ wsX9_of := by decide +kernel
  have hw1 : Cond.fieldLink RX9 33 (TX9 3).1 (TX9 3).2.1 (TX9 3).2.2.1 ∈ wsX9_of := by decide +kernel
  have hw2 : ∀ w ∈ u_ws RX1 TX1 4, w ∈ wsX9_of := by decide +kernel
  have hw3 : Cond.fieldLink RX9 154 (TX1 1).1 (TX1 1).2.1 (TX1 1).2.2.1 ∈ wsX9_of := by decide +kernel
  have hw4 : ∀ w ∈ u_ws RX4 TX4 1, w ∈ wsX9_of := by decide +kernel
  have hw5 : Cond.fieldLink RX9 140 (TX4 0).1 (TX4 0).2.1 (TX4 0).2.2.1 ∈ wsX9_of := by decide +kernel
  have hw6 : ∀ w ∈ u_ws RX7 TX7 11, w ∈ wsX9_of := by decide +kernel
  have hw7 : Cond.fieldLink RX9 109 (TX7 2).1 (TX7 2).2.1 (TX7 2).2.2.1 ∈ wsX9_of := by decide +kernel
  refine x_L (L' := [(0, .ref fi), (1, .int (x)), (2, .int (y))]) [0, 1, 2] rfl ?_
  have hpool : ∀ q ∈ pl, xRo D A s q := hro
  refine x_aload_n C dX9_of_0 (q := 1) rfl rfl 0 rfl ?_
  refine x_get C (ci := 8) (v := .ref tb) hw0 0 rfl rfl 3 (by decide) hw1 rfl dX9_of_1 (q := 4) rfl ?_
  refine x_iload_n C dX9_of_4 (q := 5) rfl rfl 1 rfl ?_
  refine x_callV C (roW := [(tb, .inr (6, [.ref nz, .ref tl, .ref pg, .ref se, .ref pa, .ref bo, .ref li, .ref ba, .int (nI cols), .int (nI lc), .int (nI smp)])), (li, .inl (cy 4, 24, .inr (.inr (.inr (.inr lnf)))))]) (roR := []) (c_X7_lineAt l D cy tb nz tl pg se pa bo li ba cols lc smp lnf x (by first | assumption | omega | (simp only []; omega)) (by first | assumption | omega | (simp only []; omega)) (by exact hTL.some)) (cwV 1 C.2.2.2.2.1 gX9_of_X7_lineAt rfl rfl rfl (by decide +kernel) (by rw [hR]; exact ⟨Nat.le_of_ble_eq_true rfl, Nat.le_of_ble_eq_true rfl⟩)) [] [1, 2] rfl (by decide) rfl (by decide) xro_nil (List.mem_of_getElem? (i := 0) rfl) (ci := 6) rfl xT_bl (fun _ _ _ _ _ _ _ => trivial) rfl rfl dX9_of_5 rfl rfl (Nat.le_of_ble_eq_true rfl) (q := 8) rfl (k' := 0) rfl (n' := 0) rfl (by rw [hR]; exact ⟨Nat.le_of_ble_eq_true rfl, Nat.le_of_ble_eq_true rfl⟩) (fun v1 w1 hp1 => ?_)
  rcases hp1 with hp1 | hp1
  · skip
    obtain ⟨a_2, rfl, rfl, hc3, hc4, hc5⟩ := hp1
    refine x_ws (ws' := [(fi, .inr (8, [.ref tO, .ref gO, .ref nO, .ref tb, .ref tb', .ref trO, .ref gA, .ref tP, .int (nI kf)])), (tb, .inr (6, [.ref nz, .ref tl, .ref pg, .ref se, .ref pa, .ref bo, .ref li, .ref ba, .int (nI cols), .int (nI lc), .int (nI smp)])), (li, .inl (cy 4, 24, .inr (.inr (.inr (.inr lnf))))), (pg, .inr (4, [.ref g0, .ref g1, .ref g2, .ref g3, .ref g4, .ref g5, .int (nI (pMk P)), .int (nI (pRs P)), .int (ky)])), (g0, .inl (cy 1, 5, .inl (fun k => nI ((pSt P) k)))), (g1, .inl (cy 1, 24, .inl (pFa P))), (g2, .inl (cy 1, 24, .inl (pCa P))), (g3, .inl (cy 1, 24, .inl (pDc P))), (g4, .inl (cy 1, 24, .inl (pRl P))), (g5, .inl (cy 1, 24, .inl (fun k => nI ((pLr P) k))))]) (List.append_nil _) ?_
    obtain ⟨a96, fa6, ad6, gA6, gB6, gC6, gD6, gE6⟩ := hTL x.toInt.toNat (by omega)
    obtain rfl : a_2 = a96 := Option.some.inj (hc5.symm.trans gA6)
    refine x_astore_n C (L' := [(3, .ref a_2), (0, .ref fi), (1, .int (x)), (2, .int (y))]) dX9_of_8 (q := 9) rfl rfl (by decide) rfl ?_
    refine x_aload_n C dX9_of_9 (q := 10) rfl rfl 0 rfl ?_
    refine x_ifnull C dX9_of_10 (q := 13) rfl ?_
    refine x_iload_n C dX9_of_13 (q := 14) rfl rfl 3 rfl ?_
    refine x_if_ge C (tgt := 19) dX9_of_14 (by decide) (q := 17) rfl (a := y.toInt) rfl (fun h7 => ?_) (fun h7 => ?_)
    · first
      | (exfalso; omega)
      |
        refine x_iload_n C dX9_of_19 (q := 20) rfl rfl 3 rfl ?_
        by_cases hs8 : y.toInt < 0 ∨ 2 < y.toInt
        · refine x_tableOut C (tgt := 86) dX9_of_20 hs8 (by decide) ?_
          have h30 := xi_sub3 (y := y) (by omega)
          refine x_aload_n C dX9_of_86 (q := 87) rfl rfl 0 rfl ?_
          refine x_iload_n C dX9_of_87 (q := 88) rfl rfl 3 rfl ?_
          refine x_iconst C dX9_of_88 (q := 89) rfl (v := nI 3) (by decide) ?_
          refine x_isub C dX9_of_89 (q := 90) rfl (z := y - (nI 3)) (rfl) ?_
          refine x_callV C (roW := []) (roR := [(a_2, .inr (3, [.ref fa6])), (fa6, .inl (cy 3, dNf ld x.toInt.toNat, .inr (.inr (.inr (.inr ad6)))))]) (c_X4_fieldAt l D cy a_2 fa6 (dNf ld x.toInt.toNat) ad6 (y - (nI 3)) (by omega) (by exact LnG.some (by assumption))) (cwV 1 C.2.2.2.2.1 gX9_of_X4_fieldAt rfl rfl rfl (by decide +kernel) (by rw [hR]; exact ⟨Nat.le_of_ble_eq_true rfl, Nat.le_of_ble_eq_true rfl⟩)) [] [] rfl (by decide) rfl (by decide) (xro_cons (hpool _ gB6) (xro_cons (hpool _ gC6) xro_nil)) (List.mem_of_getElem? (i := 0) rfl) (ci := 3) rfl xT_bl (fun _ _ _ _ _ _ _ => trivial) rfl rfl dX9_of_90 rfl rfl (Nat.le_of_ble_eq_true rfl) (q := 93) rfl (k' := 0) rfl (n' := 0) rfl (by rw [hR]; exact ⟨Nat.le_of_ble_eq_true rfl, Nat.le_of_ble_eq_true rfl⟩) (fun v9 w9 hp9 => ?_)
          rcases hp9 with hp9 | hp9
          · skip
            obtain ⟨q_10, rfl, rfl, hc11, hc12, hc13⟩ := hp9
            refine x_ws (ws' := [(fi, .inr (8, [.ref tO, .ref gO, .ref nO, .ref tb, .ref tb', .ref trO, .ref gA, .ref tP, .int (nI kf)])), (tb, .inr (6, [.ref nz, .ref tl, .ref pg, .ref se, .ref pa, .ref bo, .ref li, .ref ba, .int (nI cols), .int (nI lc), .int (nI smp)])), (li, .inl (cy 4, 24, .inr (.inr (.inr (.inr lnf))))), (pg, .inr (4, [.ref g0, .ref g1, .ref g2, .ref g3, .ref g4, .ref g5, .int (nI (pMk P)), .int (nI (pRs P)), .int (ky)])), (g0, .inl (cy 1, 5, .inl (fun k => nI ((pSt P) k)))), (g1, .inl (cy 1, 24, .inl (pFa P))), (g2, .inl (cy 1, 24, .inl (pCa P))), (g3, .inl (cy 1, 24, .inl (pDc P))), (g4, .inl (cy 1, 24, .inl (pRl P))), (g5, .inl (cy 1, 24, .inl (fun k => nI ((pLr P) k))))]) (List.append_nil _) ?_
            obtain ⟨q914, sg14, kA14, kB14, kC14⟩ := gE6 ((y - nI 3).toInt.toNat) (by omega)
            obtain rfl : q_10 = q914 := Option.some.inj (hc13.symm.trans kA14)
            have hf914 := hfm x.toInt.toNat ((y - nI 3).toInt.toNat)
            refine x_astore C (L' := [(4, .ref q_10), (3, .ref a_2), (0, .ref fi), (1, .int (x)), (2, .int (y))]) dX9_of_93 (q := 95) rfl (by decide) rfl ?_
            refine x_aload C dX9_of_95 (q := 97) rfl 0 rfl ?_
            refine x_ifnonnull C (tgt := 105) dX9_of_97 (by decide) ?_
            refine x_aload C dX9_of_105 (q := 107) rfl 0 rfl ?_
            refine x_getR C (ci := 0) (v := .int (nI (dFm ld x.toInt.toNat ((y - nI 3).toInt.toNat)))) hw2 (hpool _ kB14) rfl 1 (by decide) hw3 rfl dX9_of_107 (q := 110) rfl ?_
            refine x_iret C hA hQ hr dX9_of_110 (Nat.le_of_ble_eq_true rfl) ?_
            refine ⟨?_, rfl⟩
            unfold ofA roA
            repeat (first | rw [if_pos (by omega)] | rw [if_neg (by omega)])
            try rw [h30]
          · skip
            obtain ⟨rfl, rfl, hc15⟩ := hp9
            refine x_ws (ws' := [(fi, .inr (8, [.ref tO, .ref gO, .ref nO, .ref tb, .ref tb', .ref trO, .ref gA, .ref tP, .int (nI kf)])), (tb, .inr (6, [.ref nz, .ref tl, .ref pg, .ref se, .ref pa, .ref bo, .ref li, .ref ba, .int (nI cols), .int (nI lc), .int (nI smp)])), (li, .inl (cy 4, 24, .inr (.inr (.inr (.inr lnf))))), (pg, .inr (4, [.ref g0, .ref g1, .ref g2, .ref g3, .ref g4, .ref g5, .int (nI (pMk P)), .int (nI (pRs P)), .int (ky)])), (g0, .inl (cy 1, 5, .inl (fun k => nI ((pSt P) k)))), (g1, .inl (cy 1, 24, .inl (pFa P))), (g2, .inl (cy 1, 24, .inl (pCa P))), (g3, .inl (cy 1, 24, .inl (pDc P))), (g4, .inl (cy 1, 24, .inl (pRl P))), (g5, .inl (cy 1, 24, .inl (fun k => nI ((pLr P) k))))]) (List.append_nil _) ?_
            refine x_astoreN C (L' := [(4, .null), (3, .ref a_2), (0, .ref fi), (1, .int (x)), (2, .int (y))]) dX9_of_93 (q := 95) rfl (by decide) rfl ?_
            refine x_aloadN C dX9_of_95 (q := 97) rfl 0 rfl ?_
            refine x_ifnonnullN C dX9_of_97 (q := 100) rfl ?_
            refine x_bipush C dX9_of_100 (q := 102) rfl (v := (-5)) (by decide) ?_
            refine x_goto C (tgt := 110) dX9_of_102 (by decide) ?_
            refine x_iret C hA hQ hr dX9_of_110 (Nat.le_of_ble_eq_true rfl) ?_
            refine ⟨?_, rfl⟩
            unfold ofA roA
            repeat (first | rw [if_pos (by omega)] | rw [if_neg (by omega)])
            try rw [h30]
        · have hs8' : y.toInt = 0 ∨ y.toInt = 1 ∨ y.toInt = 2 := by omega
          rcases hs8' with hs8e | hs8e | hs8e
          · refine x_tableIn C (tgt := 48) (0 : Int) ((rfl : (y : Int32).toInt = y.toInt).trans hs8e) dX9_of_20 (by decide) (by decide) rfl (by decide) ?_
            refine x_aload_n C dX9_of_48 (q := 49) rfl rfl 0 rfl ?_
            refine x_getR C (ci := 3) (v := .ref fa6) hw4 (hpool _ gB6) rfl 0 (by decide) hw5 rfl dX9_of_49 (q := 52) rfl ?_
            refine x_alenR C 3 (hpool _ gC6) rfl (v := nI (dNf ld x.toInt.toNat)) rfl dX9_of_52 (q := 53) rfl ?_
            refine x_iret C hA hQ hr dX9_of_53 (Nat.le_of_ble_eq_true rfl) ?_
            refine ⟨?_, rfl⟩
            unfold ofA roA
            repeat (first | rw [if_pos (by omega)] | rw [if_neg (by omega)])
            try rw [h30]
          · refine x_tableIn C (tgt := 54) (1 : Int) ((rfl : (y : Int32).toInt = y.toInt).trans hs8e) dX9_of_20 (by decide) (by decide) rfl (by decide) ?_
            refine x_aload_n C dX9_of_54 (q := 55) rfl rfl 1 rfl ?_
            refine x_get C (ci := 8) (v := .ref tb) hw0 0 rfl rfl 3 (by decide) hw1 rfl dX9_of_55 (q := 58) rfl ?_
            refine x_get C (ci := 6) (v := .ref pg) hw6 1 rfl rfl 2 (by decide) hw7 rfl dX9_of_58 (q := 61) rfl ?_
            refine x_iload_n C dX9_of_61 (q := 62) rfl rfl 2 rfl ?_
            refine x_callV C (roW := [(pg, .inr (4, [.ref g0, .ref g1, .ref g2, .ref g3, .ref g4, .ref g5, .int (nI (pMk P)), .int (nI (pRs P)), .int (ky)])), (g0, .inl (cy 1, 5, .inl (fun k => nI ((pSt P) k)))), (g1, .inl (cy 1, 24, .inl (pFa P))), (g2, .inl (cy 1, 24, .inl (pCa P))), (g3, .inl (cy 1, 24, .inl (pDc P))), (g4, .inl (cy 1, 24, .inl (pRl P))), (g5, .inl (cy 1, 24, .inl (fun k => nI ((pLr P) k))))]) (roR := []) (c_X5_isImported l D cy pg g0 g1 g2 g3 g4 g5 (pSt P) (pFa P) (pCa P) (pDc P) (pRl P) (pLr P) (pMk P) (pRs P) ky x (by first | assumption | omega | (simp only []; omega)) (by first | assumption | omega | (simp only []; omega))) (cwV 1 C.2.2.2.2.1 gX9_of_X5_isImported rfl rfl rfl (by decide +kernel) (by rw [hR]; exact ⟨Nat.le_of_ble_eq_true rfl, Nat.le_of_ble_eq_true rfl⟩)) [] [3, 4, 5, 6, 7, 8, 9] rfl (by decide) rfl (by decide) xro_nil (List.mem_of_getElem? (i := 0) rfl) (ci := 4) rfl xT_bl (fun _ _ _ _ _ _ _ => trivial) rfl rfl dX9_of_62 rfl rfl (Nat.le_of_ble_eq_true rfl) (q := 65) rfl (k' := 0) rfl (n' := 0) rfl (by rw [hR]; exact ⟨Nat.le_of_ble_eq_true rfl, Nat.le_of_ble_eq_true rfl⟩) (fun v16 w16 hp16 => ?_)
            rcases hp16 with hp16 | hp16
            · skip
              obtain ⟨rfl, rfl, hc17, hc18⟩ := hp16
              refine x_ws (ws' := [(fi, .inr (8, [.ref tO, .ref gO, .ref nO, .ref tb, .ref tb', .ref trO, .ref gA, .ref tP, .int (nI kf)])), (tb, .inr (6, [.ref nz, .ref tl, .ref pg, .ref se, .ref pa, .ref bo, .ref li, .ref ba, .int (nI cols), .int (nI lc), .int (nI smp)])), (li, .inl (cy 4, 24, .inr (.inr (.inr (.inr lnf))))), (pg, .inr (4, [.ref g0, .ref g1, .ref g2, .ref g3, .ref g4, .ref g5, .int (nI (pMk P)), .int (nI (pRs P)), .int (ky)])), (g0, .inl (cy 1, 5, .inl (fun k => nI ((pSt P) k)))), (g1, .inl (cy 1, 24, .inl (pFa P))), (g2, .inl (cy 1, 24, .inl (pCa P))), (g3, .inl (cy 1, 24, .inl (pDc P))), (g4, .inl (cy 1, 24, .inl (pRl P))), (g5, .inl (cy 1, 24, .inl (fun k => nI ((pLr P) k))))]) (List.append_nil _) ?_
              refine x_if_eq C (tgt := 72) dX9_of_65 (by decide) (q := 68) rfl (a := 1) rfl (fun h19 => (by omega : False).elim) (fun h19 => ?_)
              refine x_iconst C dX9_of_68 (q := 69) rfl (v := nI 1) (by decide) ?_
              refine x_goto C (tgt := 73) dX9_of_69 (by decide) ?_
              refine x_iret C hA hQ hr dX9_of_73 (Nat.le_of_ble_eq_true rfl) ?_
              refine ⟨?_, rfl⟩
              unfold ofA roA
              repeat (first | rw [if_pos (by omega)] | rw [if_neg (by omega)])
              try rw [h30]
            · skip
              obtain ⟨rfl, rfl, hc20⟩ := hp16
              refine x_ws (ws' := [(fi, .inr (8, [.ref tO, .ref gO, .ref nO, .ref tb, .ref tb', .ref trO, .ref gA, .ref tP, .int (nI kf)])), (tb, .inr (6, [.ref nz, .ref tl, .ref pg, .ref se, .ref pa, .ref bo, .ref li, .ref ba, .int (nI cols), .int (nI lc), .int (nI smp)])), (li, .inl (cy 4, 24, .inr (.inr (.inr (.inr lnf))))), (pg, .inr (4, [.ref g0, .ref g1, .ref g2, .ref g3, .ref g4, .ref g5, .int (nI (pMk P)), .int (nI (pRs P)), .int (ky)])), (g0, .inl (cy 1, 5, .inl (fun k => nI ((pSt P) k)))), (g1, .inl (cy 1, 24, .inl (pFa P))), (g2, .inl (cy 1, 24, .inl (pCa P))), (g3, .inl (cy 1, 24, .inl (pDc P))), (g4, .inl (cy 1, 24, .inl (pRl P))), (g5, .inl (cy 1, 24, .inl (fun k => nI ((pLr P) k))))]) (List.append_nil _) ?_
              refine x_if_eq C (tgt := 72) dX9_of_65 (by decide) (q := 68) rfl (a := 0) rfl (fun h21 => ?_) (fun h21 => (by omega : False).elim)
              refine x_iconst C dX9_of_72 (q := 73) rfl (v := nI 0) (by decide) ?_
              refine x_iret C hA hQ hr dX9_of_73 (Nat.le_of_ble_eq_true rfl) ?_
              refine ⟨?_, rfl⟩
              unfold ofA roA
              repeat (first | rw [if_pos (by omega)] | rw [if_neg (by omega)])
              try rw [h30]
          · refine x_tableIn C (tgt := 74) (2 : Int) ((rfl : (y : Int32).toInt = y.toInt).trans hs8e) dX9_of_20 (by decide) (by decide) rfl (by decide) ?_
            refine x_aload_n C dX9_of_74 (q := 75) rfl rfl 1 rfl ?_
            refine x_get C (ci := 8) (v := .ref tb) hw0 0 rfl rfl 3 (by decide) hw1 rfl dX9_of_75 (q := 78) rfl ?_
            refine x_get C (ci := 6) (v := .ref pg) hw6 1 rfl rfl 2 (by decide) hw7 rfl dX9_of_78 (q := 81) rfl ?_
            refine x_iload_n C dX9_of_81 (q := 82) rfl rfl 2 rfl ?_
            refine x_callV C (roW := [(pg, .inr (4, [.ref g0, .ref g1, .ref g2, .ref g3, .ref g4, .ref g5, .int (nI (pMk P)), .int (nI (pRs P)), .int (ky)])), (g0, .inl (cy 1, 5, .inl (fun k => nI ((pSt P) k)))), (g1, .inl (cy 1, 24, .inl (pFa P))), (g2, .inl (cy 1, 24, .inl (pCa P))), (g3, .inl (cy 1, 24, .inl (pDc P))), (g4, .inl (cy 1, 24, .inl (pRl P))), (g5, .inl (cy 1, 24, .inl (fun k => nI ((pLr P) k))))]) (roR := []) (c_X5_rowOf l D cy pg g0 g1 g2 g3 g4 g5 (pSt P) (pFa P) (pCa P) (pDc P) (pRl P) (pLr P) (pMk P) (pRs P) ky x (by first | assumption | omega | (simp only []; omega)) (by first | assumption | omega | (simp only []; omega))) (cwV 1 C.2.2.2.2.1 gX9_of_X5_rowOf rfl rfl rfl (by decide +kernel) (by rw [hR]; exact ⟨Nat.le_of_ble_eq_true rfl, Nat.le_of_ble_eq_true rfl⟩)) [] [3, 4, 5, 6, 7, 8, 9] rfl (by decide) rfl (by decide) xro_nil (List.mem_of_getElem? (i := 0) rfl) (ci := 4) rfl xT_bl (fun _ _ _ _ _ _ _ => trivial) rfl rfl dX9_of_82 rfl rfl (Nat.le_of_ble_eq_true rfl) (q := 85) rfl (k' := 0) rfl (n' := 0) rfl (by rw [hR]; exact ⟨Nat.le_of_ble_eq_true rfl, Nat.le_of_ble_eq_true rfl⟩) (fun v22 w22 hp22 => ?_)
            rcases hp22 with hp22 | hp22
            · skip
              obtain ⟨rfl, rfl, hc23, hc24⟩ := hp22
              refine x_ws (ws' := [(fi, .inr (8, [.ref tO, .ref gO, .ref nO, .ref tb, .ref tb', .ref trO, .ref gA, .ref tP, .int (nI kf)])), (tb, .inr (6, [.ref nz, .ref tl, .ref pg, .ref se, .ref pa, .ref bo, .ref li, .ref ba, .int (nI cols), .int (nI lc), .int (nI smp)])), (li, .inl (cy 4, 24, .inr (.inr (.inr (.inr lnf))))), (pg, .inr (4, [.ref g0, .ref g1, .ref g2, .ref g3, .ref g4, .ref g5, .int (nI (pMk P)), .int (nI (pRs P)), .int (ky)])), (g0, .inl (cy 1, 5, .inl (fun k => nI ((pSt P) k)))), (g1, .inl (cy 1, 24, .inl (pFa P))), (g2, .inl (cy 1, 24, .inl (pCa P))), (g3, .inl (cy 1, 24, .inl (pDc P))), (g4, .inl (cy 1, 24, .inl (pRl P))), (g5, .inl (cy 1, 24, .inl (fun k => nI ((pLr P) k))))]) (List.append_nil _) ?_
              refine x_iret C hA hQ hr dX9_of_85 (Nat.le_of_ble_eq_true rfl) ?_
              refine ⟨?_, rfl⟩
              unfold ofA roA
              repeat (first | rw [if_pos (by omega)] | rw [if_neg (by omega)])
              try rw [h30]
            · skip
              obtain ⟨rfl, rfl, hc25⟩ := hp22
              refine x_ws (ws' := [(fi, .inr (8, [.ref tO, .ref gO, .ref nO, .ref tb, .ref tb', .ref trO, .ref gA, .ref tP, .int (nI kf)])), (tb, .inr (6, [.ref nz, .ref tl, .ref pg, .ref se, .ref pa, .ref bo, .ref li, .ref ba, .int (nI cols), .int (nI lc), .int (nI smp)])), (li, .inl (cy 4, 24, .inr (.inr (.inr (.inr lnf))))), (pg, .inr (4, [.ref g0, .ref g1, .ref g2, .ref g3, .ref g4, .ref g5, .int (nI (pMk P)), .int (nI (pRs P)), .int (ky)])), (g0, .inl (cy 1, 5, .inl (fun k => nI ((pSt P) k)))), (g1, .inl (cy 1, 24, .inl (pFa P))), (g2, .inl (cy 1, 24, .inl (pCa P))), (g3, .inl (cy 1, 24, .inl (pDc P))), (g4, .inl (cy 1, 24, .inl (pRl P))), (g5, .inl (cy 1, 24, .inl (fun k => nI ((pLr P) k))))]) (List.append_nil _) ?_
              refine x_iret C hA hQ hr dX9_of_85 (Nat.le_of_ble_eq_true rfl) ?_
              refine ⟨?_, rfl⟩
              unfold ofA roA
              repeat (first | rw [if_pos (by omega)] | rw [if_neg (by omega)])
              try rw [h30]
    · first
      | (exfalso; omega)
      |
        refine x_iconst C dX9_of_17 (q := 18) rfl (v := (-1)) (by decide) ?_
        refine x_iret C hA hQ hr dX9_of_18 (Nat.le_of_ble_eq_true rfl) ?_
        refine ⟨?_, rfl⟩
        unfold ofA roA
        repeat (first | rw [if_pos (by omega)] | rw [if_neg (by omega)])
        try rw [h30]
  · skip
    obtain ⟨rfl, rfl, hc26⟩ := hp1
    refine x_ws (ws' := [(fi, .inr (8, [.ref tO, .ref gO, .ref nO, .ref tb, .ref tb', .ref trO, .ref gA, .ref tP, .int (nI kf)])), (tb, .inr (6, [.ref nz, .ref tl, .ref pg, .ref se, .ref pa, .ref bo, .ref li, .ref ba, .int (nI cols), .int (nI lc), .int (nI smp)])), (li, .inl (cy 4, 24, .inr (.inr (.inr (.inr lnf))))), (pg, .inr (4, [.ref g0, .ref g1, .ref g2, .ref g3, .ref g4, .ref g5, .int (nI (pMk P)), .int (nI (pRs P)), .int (ky)])), (g0, .inl (cy 1, 5, .inl (fun k => nI ((pSt P) k)))), (g1, .inl (cy 1, 24, .inl (pFa P))), (g2, .inl (cy 1, 24, .inl (pCa P))), (g3, .inl (cy 1, 24, .inl (pDc P))), (g4, .inl (cy 1, 24, .inl (pRl P))), (g5, .inl (cy 1, 24, .inl (fun k => nI ((pLr P) k))))]) (List.append_nil _) ?_
    refine x_astore_nN C (L' := [(3, .null), (0, .ref fi), (1, .int (x)), (2, .int (y))]) dX9_of_8 (q := 9) rfl rfl (by decide) rfl ?_
    refine x_aload_nN C dX9_of_9 (q := 10) rfl rfl 0 rfl ?_
    refine x_ifnullN C (tgt := 17) dX9_of_10 (by decide) ?_
    refine x_iconst C dX9_of_17 (q := 18) rfl (v := (-1)) (by decide) ?_
    refine x_iret C hA hQ hr dX9_of_18 (Nat.le_of_ble_eq_true rfl) ?_
    refine ⟨?_, rfl⟩
    unfold ofA roA
    repeat (first | rw [if_pos (by omega)] | rw [if_neg (by omega)])
    try rw [h30]

set_option maxHeartbeats 4000000 in
set_option maxRecDepth 100000 in
/-- votes -/
theorem c_X9_votes (l : Launch) (D : va_G) (cy : Nat → ClassId) (fi : Nat) (tO : Nat) (gO : Nat) (nO : Nat) (tb : Nat) (tb' : Nat) (trO : Nat) (gA : Nat) (tP : Nat) (kf : Nat) (nz : Nat) (tl : Nat) (pg : Nat) (se : Nat) (pa : Nat) (bo : Nat) (li : Nat) (ba : Nat) (cols : Nat) (lc : Nat) (smp : Nat) (nzf : Nat → Nat) (tlf : Nat → Nat) (lnf : Nat → Option Nat) (bal : Nat → Nat) (ld : LD) (pl : va_W) (x : Int32) (y : Int32) (hcols : cols ≤ 5) (hlc : lc ≤ 24) (hTL : TbL cy pl lc lnf ld) (hfm : ∀ k i, dFm ld k i ≤ 4) (hsmp : smp ≤ 24) : xMet l D cy xT yX9_votes wsX9_votes ({ frames := 6, cells := 0, slots := 0, locals := 600 } : Room) [.ref fi, .int (x), .int (y)] [(fi, .inr (8, [.ref tO, .ref gO, .ref nO, .ref tb, .ref tb', .ref trO, .ref gA, .ref tP, .int (nI kf)])), (tb, .inr (6, [.ref nz, .ref tl, .ref pg, .ref se, .ref pa, .ref bo, .ref li, .ref ba, .int (nI cols), .int (nI lc), .int (nI smp)])), (nz, .inl (cy 1, 5, .inl (fun k => nI (nzf k)))), (tl, .inl (cy 1, 5, .inl (fun k => nI (tlf k)))), (li, .inl (cy 4, 24, .inr (.inr (.inr (.inr lnf))))), (ba, .inl (cy 1, 5, .inl (fun k => nI (bal k))))] pl (fun (v9 : Option Value) (w9 : va_W) => (∃ b2 : Nat → Nat, v9 = some (.int (voA ld cols (min smp lc) x y)) ∧ w9 = [(fi, .inr (8, [.ref tO, .ref gO, .ref nO, .ref tb, .ref tb', .ref trO, .ref gA, .ref tP, .int (nI kf)])), (tb, .inr (6, [.ref nz, .ref tl, .ref pg, .ref se, .ref pa, .ref bo, .ref li, .ref ba, .int (nI cols), .int (nI lc), .int (nI smp)])), (nz, .inl (cy 1, 5, .inl (fun k => nI (nzf k)))), (tl, .inl (cy 1, 5, .inl (fun k => nI (tlf k)))), (li, .inl (cy 4, 24, .inr (.inr (.inr (.inr lnf))))), (ba, .inl (cy 1, 5, .inl (fun k => nI (b2 k))))])) := by
  refine xMet_of (cc := cX9_votes) (maxL := 3) (ret := (some .int)) (by decide) rfl (Nat.le_of_ble_eq_true rfl) (fun p e s m args below meth c A R Q hA hR hQ C hr hnm hro hX => ?_)
  have hw0 : ∀ w ∈ u_ws RX9 TX9 9, w ∈ wsX9_votes := by decide +kernel
  have hw1 : Cond.fieldLink RX9 33 (TX9 3).1 (TX9 3).2.1 (TX9 3).2.2.1 ∈ wsX9_votes := by decide +kernel
  have hw2 : ∀ w ∈ u_ws RX7 TX7 11, w ∈ wsX9_votes := by decide +kernel
  have hw3 : Cond.fieldLink RX9 98 (TX7 10).1 (TX7 10).2.1 (TX7 10).2.2.1 ∈ wsX9_votes := by decide +kernel
  refine x_L (L' := [(0, .ref fi), (1, .int (x)), (2, .int (y))]) [0, 1, 2] rfl ?_
  have hpool : ∀ q ∈ pl, xRo D A s q := hro
  refine x_aload_n C dX9_votes_0 (q := 1) rfl rfl 0 rfl ?_
  refine x_get C (ci := 8) (v := .ref tb) hw0 0 rfl rfl 3 (by decide) hw1 rfl dX9_votes_1 (q := 4) rfl ?_
  refine x_iload_n C dX9_votes_4 (q := 5) rfl rfl 1 rfl ?_
  refine x_callV C (roW := [(tb, .inr (6, [.ref nz, .ref tl, .ref pg, .ref se, .ref pa, .ref bo, .ref li, .ref ba, .int (nI cols), .int (nI lc), .int (nI smp)]))]) (roR := []) (c_X7_hasColumn l D cy tb nz tl pg se pa bo li ba cols lc smp x (by first | assumption | omega | (simp only []; omega)) (by first | assumption | omega | (simp only []; omega))) (cwV 1 C.2.2.2.2.1 gX9_votes_X7_hasColumn rfl rfl rfl (by decide +kernel) (by rw [hR]; exact ⟨Nat.le_of_ble_eq_true rfl, Nat.le_of_ble_eq_true rfl⟩)) [] [1] rfl (by decide) rfl (by decide) xro_nil (List.mem_of_getElem? (i := 0) rfl) (ci := 6) rfl xT_bl (fun _ _ _ _ _ _ _ => trivial) rfl rfl dX9_votes_5 rfl rfl (Nat.le_of_ble_eq_true rfl) (q := 8) rfl (k' := 0) rfl (n' := 0) rfl (by rw [hR]; exact ⟨Nat.le_of_ble_eq_true rfl, Nat.le_of_ble_eq_true rfl⟩) (fun v1 w1 hp1 => ?_)
  rcases hp1 with hp1 | hp1
  · skip
    obtain ⟨rfl, rfl, hc2, hc3⟩ := hp1
    refine x_ws (ws' := [(fi, .inr (8, [.ref tO, .ref gO, .ref nO, .ref tb, .ref tb', .ref trO, .ref gA, .ref tP, .int (nI kf)])), (tb, .inr (6, [.ref nz, .ref tl, .ref pg, .ref se, .ref pa, .ref bo, .ref li, .ref ba, .int (nI cols), .int (nI lc), .int (nI smp)])), (nz, .inl (cy 1, 5, .inl (fun k => nI (nzf k)))), (tl, .inl (cy 1, 5, .inl (fun k => nI (tlf k)))), (li, .inl (cy 4, 24, .inr (.inr (.inr (.inr lnf))))), (ba, .inl (cy 1, 5, .inl (fun k => nI (bal k))))]) (List.append_nil _) ?_
    refine x_if_eq C (tgt := 20) dX9_votes_8 (by decide) (q := 11) rfl (a := 1) rfl (fun h4 => (by omega : False).elim) (fun h4 => ?_)
    refine x_iload_n C dX9_votes_11 (q := 12) rfl rfl 2 rfl ?_
    refine x_if_lt C (tgt := 20) dX9_votes_12 (by decide) (q := 15) rfl (a := y.toInt) rfl (fun h5 => ?_) (fun h5 => ?_)
    · first
      | (exfalso; omega)
      |
        refine x_iconst C dX9_votes_20 (q := 21) rfl (v := (-1)) (by decide) ?_
        refine x_iret C hA hQ hr dX9_votes_21 (Nat.le_of_ble_eq_true rfl) ?_
        refine ⟨_, ?_, rfl⟩
        unfold voA
        repeat (first | rw [if_pos (by omega)] | rw [if_neg (by omega)])
    · first
      | (exfalso; omega)
      |
        refine x_iload_n C dX9_votes_15 (q := 16) rfl rfl 2 rfl ?_
        refine x_iconst C dX9_votes_16 (q := 17) rfl (v := nI 4) (by decide) ?_
        refine x_icmp_le C (tgt := 22) dX9_votes_17 (by decide) (q := 20) rfl (a := y.toInt) (b := 4) rfl rfl (fun h6 => ?_) (fun h6 => ?_)
        · first
          | (exfalso; omega)
          |
            refine x_aload_n C dX9_votes_22 (q := 23) rfl rfl 0 rfl ?_
            refine x_get C (ci := 8) (v := .ref tb) hw0 0 rfl rfl 3 (by decide) hw1 rfl dX9_votes_23 (q := 26) rfl ?_
            refine x_iload_n C dX9_votes_26 (q := 27) rfl rfl 1 rfl ?_
            refine x_iload_n C dX9_votes_27 (q := 28) rfl rfl 2 rfl ?_
            refine x_aload_n C dX9_votes_28 (q := 29) rfl rfl 0 rfl ?_
            refine x_get C (ci := 8) (v := .ref tb) hw0 0 rfl rfl 3 (by decide) hw1 rfl dX9_votes_29 (q := 32) rfl ?_
            refine x_get C (ci := 6) (v := .int (nI smp)) hw2 1 rfl rfl 10 (by decide) hw3 rfl dX9_votes_32 (q := 35) rfl ?_
            refine x_st (st' := [.int (nI smp), .int (y), .int (nI x.toInt.toNat), .ref tb]) (congrArg (fun z9 => ([.int (nI smp), .int (y), .int z9, .ref tb] : List Value)) (xi_nat (by omega))) ?_
            refine x_st (st' := [.int (nI smp), .int (nI y.toInt.toNat), .int (nI x.toInt.toNat), .ref tb]) (congrArg (fun z9 => ([.int (nI smp), .int z9, .int (nI x.toInt.toNat), .ref tb] : List Value)) (xi_nat (by omega))) ?_
            refine x_callV C (roW := []) (roR := pl) (c_X7_votesFor l D cy tb nz tl pg se pa bo li ba cols lc smp lnf bal ld pl x.toInt.toNat y.toInt.toNat smp (by first | assumption | omega | (simp only []; omega)) (by first | assumption | omega | (simp only []; omega)) (by assumption) (by assumption) (by first | assumption | omega | (simp only []; omega)) (by first | assumption | omega | (simp only []; omega)) (by first | assumption | omega | (simp only []; omega))) (cwV 3 C.2.2.2.2.1 gX9_votes_X7_votesFor rfl rfl rfl (by decide +kernel) (by rw [hR]; exact ⟨Nat.le_of_ble_eq_true rfl, Nat.le_of_ble_eq_true rfl⟩)) [1, 4, 5] [] rfl (by decide) rfl (by decide) hpool (List.mem_of_getElem? (i := 0) rfl) (ci := 6) rfl xT_bl (fun _ _ _ _ _ _ _ => trivial) rfl rfl dX9_votes_35 rfl rfl (Nat.le_of_ble_eq_true rfl) (q := 38) rfl (k' := 0) rfl (n' := 0) rfl (by rw [hR]; exact ⟨Nat.le_of_ble_eq_true rfl, Nat.le_of_ble_eq_true rfl⟩) (fun v7 w7 hp7 => ?_)
            obtain ⟨rfl, rfl⟩ := hp7
            refine x_ws (ws' := [(fi, .inr (8, [.ref tO, .ref gO, .ref nO, .ref tb, .ref tb', .ref trO, .ref gA, .ref tP, .int (nI kf)])), (tb, .inr (6, [.ref nz, .ref tl, .ref pg, .ref se, .ref pa, .ref bo, .ref li, .ref ba, .int (nI cols), .int (nI lc), .int (nI smp)])), (nz, .inl (cy 1, 5, .inl (fun k => nI (nzf k)))), (tl, .inl (cy 1, 5, .inl (fun k => nI (tlf k)))), (li, .inl (cy 4, 24, .inr (.inr (.inr (.inr lnf))))), (ba, .inl (cy 1, 5, .inl (fun k => nI ((vtF ld x.toInt.toNat (min smp lc)) k))))]) rfl ?_
            refine x_iret C hA hQ hr dX9_votes_38 (Nat.le_of_ble_eq_true rfl) ?_
            refine ⟨_, ?_, rfl⟩
            unfold voA
            repeat (first | rw [if_pos (by omega)] | rw [if_neg (by omega)])
        · first
          | (exfalso; omega)
          |
            refine x_iconst C dX9_votes_20 (q := 21) rfl (v := (-1)) (by decide) ?_
            refine x_iret C hA hQ hr dX9_votes_21 (Nat.le_of_ble_eq_true rfl) ?_
            refine ⟨_, ?_, rfl⟩
            unfold voA
            repeat (first | rw [if_pos (by omega)] | rw [if_neg (by omega)])
  · skip
    obtain ⟨rfl, rfl, hc8⟩ := hp1
    refine x_ws (ws' := [(fi, .inr (8, [.ref tO, .ref gO, .ref nO, .ref tb, .ref tb', .ref trO, .ref gA, .ref tP, .int (nI kf)])), (tb, .inr (6, [.ref nz, .ref tl, .ref pg, .ref se, .ref pa, .ref bo, .ref li, .ref ba, .int (nI cols), .int (nI lc), .int (nI smp)])), (nz, .inl (cy 1, 5, .inl (fun k => nI (nzf k)))), (tl, .inl (cy 1, 5, .inl (fun k => nI (tlf k)))), (li, .inl (cy 4, 24, .inr (.inr (.inr (.inr lnf))))), (ba, .inl (cy 1, 5, .inl (fun k => nI (bal k))))]) (List.append_nil _) ?_
    refine x_if_eq C (tgt := 20) dX9_votes_8 (by decide) (q := 11) rfl (a := 0) rfl (fun h9 => ?_) (fun h9 => (by omega : False).elim)
    refine x_iconst C dX9_votes_20 (q := 21) rfl (v := (-1)) (by decide) ?_
    refine x_iret C hA hQ hr dX9_votes_21 (Nat.le_of_ble_eq_true rfl) ?_
    refine ⟨_, ?_, rfl⟩
    unfold voA
    repeat (first | rw [if_pos (by omega)] | rw [if_neg (by omega)])

set_option maxHeartbeats 4000000 in
set_option maxRecDepth 100000 in
/-- run -/
theorem c_X9_run (l : Launch) (D : va_G) (cy : Nat → ClassId) (fi : Nat) (tO : Nat) (gO : Nat) (nO : Nat) (tb : Nat) (tb' : Nat) (trO : Nat) (gA : Nat) (tP : Nat) (kf : Nat) (nz : Nat) (tl : Nat) (pg : Nat) (se : Nat) (pa : Nat) (bo : Nat) (li : Nat) (ba : Nat) (cols : Nat) (lc : Nat) (smp : Nat) (nzf : Nat → Nat) (tlf : Nat → Nat) (lnf : Nat → Option Nat) (bal : Nat → Nat) (g0 : Nat) (g1 : Nat) (g2 : Nat) (g3 : Nat) (g4 : Nat) (g5 : Nat) (P : PS) (ky : Int32) (ld : LD) (pl : va_W) (x : Int32) (hcols : cols ≤ 5) (hlc : lc ≤ 24) (hTL : TbL cy pl lc lnf ld) (hfm : ∀ k i, dFm ld k i ≤ 4) (htl : ∀ k, tlf k ≤ 4) (hsmp : smp ≤ 24) (hP : InvP ld cols lc P) : xMet l D cy xT yX9_run wsX9_run ({ frames := 9, cells := 0, slots := 0, locals := 1100 } : Room) [.ref fi, .int (x)] [(fi, .inr (8, [.ref tO, .ref gO, .ref nO, .ref tb, .ref tb', .ref trO, .ref gA, .ref tP, .int (nI kf)])), (tb, .inr (6, [.ref nz, .ref tl, .ref pg, .ref se, .ref pa, .ref bo, .ref li, .ref ba, .int (nI cols), .int (nI lc), .int (nI smp)])), (nz, .inl (cy 1, 5, .inl (fun k => nI (nzf k)))), (tl, .inl (cy 1, 5, .inl (fun k => nI (tlf k)))), (li, .inl (cy 4, 24, .inr (.inr (.inr (.inr lnf))))), (ba, .inl (cy 1, 5, .inl (fun k => nI (bal k)))), (pg, .inr (4, [.ref g0, .ref g1, .ref g2, .ref g3, .ref g4, .ref g5, .int (nI (pMk P)), .int (nI (pRs P)), .int (ky)])), (g0, .inl (cy 1, 5, .inl (fun k => nI ((pSt P) k)))), (g1, .inl (cy 1, 24, .inl (pFa P))), (g2, .inl (cy 1, 24, .inl (pCa P))), (g3, .inl (cy 1, 24, .inl (pDc P))), (g4, .inl (cy 1, 24, .inl (pRl P))), (g5, .inl (cy 1, 24, .inl (fun k => nI ((pLr P) k))))] pl (fun (v9 : Option Value) (w9 : va_W) => (∃ b2 : Nat → Nat, v9 = some (.int (ruA lc P x)) ∧ w9 = [(fi, .inr (8, [.ref tO, .ref gO, .ref nO, .ref tb, .ref tb', .ref trO, .ref gA, .ref tP, .int (nI kf)])), (tb, .inr (6, [.ref nz, .ref tl, .ref pg, .ref se, .ref pa, .ref bo, .ref li, .ref ba, .int (nI cols), .int (nI lc), .int (nI smp)])), (nz, .inl (cy 1, 5, .inl (fun k => nI (nzf k)))), (tl, .inl (cy 1, 5, .inl (fun k => nI (tlf k)))), (li, .inl (cy 4, 24, .inr (.inr (.inr (.inr lnf))))), (ba, .inl (cy 1, 5, .inl (fun k => nI (b2 k)))), (pg, .inr (4, [.ref g0, .ref g1, .ref g2, .ref g3, .ref g4, .ref g5, .int (nI (pMk (ruN ld cols lc tlf (min smp lc) ky.toInt P x))), .int (nI (pRs (ruN ld cols lc tlf (min smp lc) ky.toInt P x))), .int (ky)])), (g0, .inl (cy 1, 5, .inl (fun k => nI ((pSt (ruN ld cols lc tlf (min smp lc) ky.toInt P x)) k)))), (g1, .inl (cy 1, 24, .inl (pFa (ruN ld cols lc tlf (min smp lc) ky.toInt P x)))), (g2, .inl (cy 1, 24, .inl (pCa (ruN ld cols lc tlf (min smp lc) ky.toInt P x)))), (g3, .inl (cy 1, 24, .inl (pDc (ruN ld cols lc tlf (min smp lc) ky.toInt P x)))), (g4, .inl (cy 1, 24, .inl (pRl (ruN ld cols lc tlf (min smp lc) ky.toInt P x)))), (g5, .inl (cy 1, 24, .inl (fun k => nI ((pLr (ruN ld cols lc tlf (min smp lc) ky.toInt P x)) k))))])) := by
  refine xMet_of (cc := cX9_run) (maxL := 2) (ret := (some .int)) (by decide) rfl (Nat.le_of_ble_eq_true rfl) (fun p e s m args below meth c A R Q hA hR hQ C hr hnm hro hX => ?_)
  have hw0 : ∀ w ∈ u_ws RX9 TX9 9, w ∈ wsX9_run := by decide +kernel
  have hw1 : Cond.fieldLink RX9 33 (TX9 3).1 (TX9 3).2.1 (TX9 3).2.2.1 ∈ wsX9_run := by decide +kernel
  have hw2 : ∀ w ∈ u_ws RX7 TX7 11, w ∈ wsX9_run := by decide +kernel
  have hw3 : Cond.fieldLink RX9 109 (TX7 2).1 (TX7 2).2.1 (TX7 2).2.2.1 ∈ wsX9_run := by decide +kernel
  refine x_L (L' := [(0, .ref fi), (1, .int (x))]) [0, 1] rfl ?_
  have hpool : ∀ q ∈ pl, xRo D A s q := hro
  refine x_iload_n C dX9_run_0 (q := 1) rfl rfl 1 rfl ?_
  refine x_if_lt C (tgt := 10) dX9_run_1 (by decide) (q := 4) rfl (a := x.toInt) rfl (fun h1 => ?_) (fun h1 => ?_)
  · first
    | (exfalso; omega)
    |
      refine x_bipush C dX9_run_10 (q := 12) rfl (v := (-2)) (by decide) ?_
      refine x_iret C hA hQ hr dX9_run_12 (Nat.le_of_ble_eq_true rfl) ?_
      unfold ruA ruN
      repeat (first | rw [if_pos (by omega)] | rw [if_neg (by omega)])
      exact ⟨_, rfl, rfl⟩
  · first
    | (exfalso; omega)
    |
      refine x_iload_n C dX9_run_4 (q := 5) rfl rfl 1 rfl ?_
      refine x_bipush C dX9_run_5 (q := 7) rfl (v := nI 24) (by decide) ?_
      refine x_icmp_le C (tgt := 13) dX9_run_7 (by decide) (q := 10) rfl (a := x.toInt) (b := 24) rfl rfl (fun h2 => ?_) (fun h2 => ?_)
      · first
        | (exfalso; omega)
        |
          refine x_aload_n C dX9_run_13 (q := 14) rfl rfl 0 rfl ?_
          refine x_get C (ci := 8) (v := .ref tb) hw0 0 rfl rfl 3 (by decide) hw1 rfl dX9_run_14 (q := 17) rfl ?_
          refine x_aload_n C dX9_run_17 (q := 18) rfl rfl 0 rfl ?_
          refine x_get C (ci := 8) (v := .ref tb) hw0 0 rfl rfl 3 (by decide) hw1 rfl dX9_run_18 (q := 21) rfl ?_
          refine x_get C (ci := 6) (v := .ref pg) hw2 1 rfl rfl 2 (by decide) hw3 rfl dX9_run_21 (q := 24) rfl ?_
          refine x_iload_n C dX9_run_24 (q := 25) rfl rfl 1 rfl ?_
          refine x_st (st' := [.int (nI x.toInt.toNat), .ref pg, .ref tb]) (congrArg (fun z9 => ([.int z9, .ref pg, .ref tb] : List Value)) (xi_nat (by omega))) ?_
          refine x_callV C (roW := []) (roR := pl) (c_X7_importLines l D cy tb nz tl pg se pa bo li ba cols lc smp tlf lnf bal pg g0 g1 g2 g3 g4 g5 P ky ld pl x.toInt.toNat (by first | assumption | omega | (simp only []; omega)) (by first | assumption | omega | (simp only []; omega)) (by assumption) (by assumption) (by assumption) (by first | assumption | omega | (simp only []; omega)) (by first | assumption | omega | (simp only []; omega)) (by assumption)) (cwV 2 C.2.2.2.2.1 gX9_run_X7_importLines rfl rfl rfl (by decide +kernel) (by rw [hR]; exact ⟨Nat.le_of_ble_eq_true rfl, Nat.le_of_ble_eq_true rfl⟩)) [1, 3, 4, 5, 6, 7, 8, 9, 10, 11, 12] [] rfl (by decide) rfl (by decide) hpool (List.mem_of_getElem? (i := 0) rfl) (ci := 6) rfl xT_bl (fun _ _ _ _ _ _ _ => trivial) rfl rfl dX9_run_25 rfl rfl (Nat.le_of_ble_eq_true rfl) (q := 28) rfl (k' := 0) rfl (n' := 0) rfl (by rw [hR]; exact ⟨Nat.le_of_ble_eq_true rfl, Nat.le_of_ble_eq_true rfl⟩) (fun v3 w3 hp3 => ?_)
          obtain ⟨b2_4, rfl, rfl⟩ := hp3
          refine x_ws (ws' := [(fi, .inr (8, [.ref tO, .ref gO, .ref nO, .ref tb, .ref tb', .ref trO, .ref gA, .ref tP, .int (nI kf)])), (tb, .inr (6, [.ref nz, .ref tl, .ref pg, .ref se, .ref pa, .ref bo, .ref li, .ref ba, .int (nI cols), .int (nI lc), .int (nI smp)])), (nz, .inl (cy 1, 5, .inl (fun k => nI (nzf k)))), (tl, .inl (cy 1, 5, .inl (fun k => nI (tlf k)))), (li, .inl (cy 4, 24, .inr (.inr (.inr (.inr lnf))))), (ba, .inl (cy 1, 5, .inl (fun k => nI (b2_4 k)))), (pg, .inr (4, [.ref g0, .ref g1, .ref g2, .ref g3, .ref g4, .ref g5, .int (nI (pMk (goS ld cols tlf (min smp lc) ky.toInt (min x.toInt.toNat (lc - pMk P)) P))), .int (nI (pRs (goS ld cols tlf (min smp lc) ky.toInt (min x.toInt.toNat (lc - pMk P)) P))), .int (ky)])), (g0, .inl (cy 1, 5, .inl (fun k => nI ((pSt (goS ld cols tlf (min smp lc) ky.toInt (min x.toInt.toNat (lc - pMk P)) P)) k)))), (g1, .inl (cy 1, 24, .inl (pFa (goS ld cols tlf (min smp lc) ky.toInt (min x.toInt.toNat (lc - pMk P)) P)))), (g2, .inl (cy 1, 24, .inl (pCa (goS ld cols tlf (min smp lc) ky.toInt (min x.toInt.toNat (lc - pMk P)) P)))), (g3, .inl (cy 1, 24, .inl (pDc (goS ld cols tlf (min smp lc) ky.toInt (min x.toInt.toNat (lc - pMk P)) P)))), (g4, .inl (cy 1, 24, .inl (pRl (goS ld cols tlf (min smp lc) ky.toInt (min x.toInt.toNat (lc - pMk P)) P)))), (g5, .inl (cy 1, 24, .inl (fun k => nI ((pLr (goS ld cols tlf (min smp lc) ky.toInt (min x.toInt.toNat (lc - pMk P)) P)) k))))]) (xput_eq [1, 3, 4, 5, 6, 7, 8, 9, 10, 11, 12] [0, 2] 13 rfl rfl (by decide) rfl rfl (by decide)) ?_
          refine x_iret C hA hQ hr dX9_run_28 (Nat.le_of_ble_eq_true rfl) ?_
          unfold ruA ruN
          repeat (first | rw [if_pos (by omega)] | rw [if_neg (by omega)])
          exact ⟨_, rfl, rfl⟩
      · first
        | (exfalso; omega)
        |
          refine x_bipush C dX9_run_10 (q := 12) rfl (v := (-2)) (by decide) ?_
          refine x_iret C hA hQ hr dX9_run_12 (Nat.le_of_ble_eq_true rfl) ?_
          unfold ruA ruN
          repeat (first | rw [if_pos (by omega)] | rw [if_neg (by omega)])
          exact ⟨_, rfl, rfl⟩

set_option maxHeartbeats 4000000 in
set_option maxRecDepth 100000 in
/-- reset -/
theorem c_X9_reset (l : Launch) (D : va_G) (cy : Nat → ClassId) (fi : Nat) (tO : Nat) (gO : Nat) (nO : Nat) (tb : Nat) (tb' : Nat) (trO : Nat) (gA : Nat) (tP : Nat) (kf : Nat) (nz : Nat) (tl : Nat) (pg : Nat) (se : Nat) (pa : Nat) (bo : Nat) (li : Nat) (ba : Nat) (cols : Nat) (lc : Nat) (smp : Nat) (g0 : Nat) (g1 : Nat) (g2 : Nat) (g3 : Nat) (g4 : Nat) (g5 : Nat) (P : PS) (ky : Int32) (hmk : pMk P ≤ 24) : xMet l D cy xT yX9_reset wsX9_reset ({ frames := 4, cells := 0, slots := 0, locals := 400 } : Room) [.ref fi] [(fi, .inr (8, [.ref tO, .ref gO, .ref nO, .ref tb, .ref tb', .ref trO, .ref gA, .ref tP, .int (nI kf)])), (tb, .inr (6, [.ref nz, .ref tl, .ref pg, .ref se, .ref pa, .ref bo, .ref li, .ref ba, .int (nI cols), .int (nI lc), .int (nI smp)])), (pg, .inr (4, [.ref g0, .ref g1, .ref g2, .ref g3, .ref g4, .ref g5, .int (nI (pMk P)), .int (nI (pRs P)), .int (ky)])), (g0, .inl (cy 1, 5, .inl (fun k => nI ((pSt P) k)))), (g1, .inl (cy 1, 24, .inl (pFa P))), (g2, .inl (cy 1, 24, .inl (pCa P))), (g3, .inl (cy 1, 24, .inl (pDc P))), (g4, .inl (cy 1, 24, .inl (pRl P))), (g5, .inl (cy 1, 24, .inl (fun k => nI ((pLr P) k))))] [] (fun (v9 : Option Value) (w9 : va_W) => (v9 = some (.int (nI (pMk P))) ∧ w9 = [(fi, .inr (8, [.ref tO, .ref gO, .ref nO, .ref tb, .ref tb', .ref trO, .ref gA, .ref tP, .int (nI kf)])), (tb, .inr (6, [.ref nz, .ref tl, .ref pg, .ref se, .ref pa, .ref bo, .ref li, .ref ba, .int (nI cols), .int (nI lc), .int (nI smp)])), (pg, .inr (4, [.ref g0, .ref g1, .ref g2, .ref g3, .ref g4, .ref g5, .int (nI (pMk (rs0 P))), .int (nI (pRs (rs0 P))), .int (ky)])), (g0, .inl (cy 1, 5, .inl (fun k => nI ((pSt (rs0 P)) k)))), (g1, .inl (cy 1, 24, .inl (pFa (rs0 P)))), (g2, .inl (cy 1, 24, .inl (pCa (rs0 P)))), (g3, .inl (cy 1, 24, .inl (pDc (rs0 P)))), (g4, .inl (cy 1, 24, .inl (pRl (rs0 P)))), (g5, .inl (cy 1, 24, .inl (fun k => nI ((pLr (rs0 P)) k))))])) := by
  refine xMet_of (cc := cX9_reset) (maxL := 2) (ret := (some .int)) (by decide) rfl (Nat.le_of_ble_eq_true rfl) (fun p e s m args below meth c A R Q hA hR hQ C hr hnm hro hX => ?_)
  have hw0 : ∀ w ∈ u_ws RX9 TX9 9, w ∈ wsX9_reset := by decide +kernel
  have hw1 : Cond.fieldLink RX9 33 (TX9 3).1 (TX9 3).2.1 (TX9 3).2.2.1 ∈ wsX9_reset := by decide +kernel
  have hw2 : ∀ w ∈ u_ws RX7 TX7 11, w ∈ wsX9_reset := by decide +kernel
  have hw3 : Cond.fieldLink RX9 109 (TX7 2).1 (TX7 2).2.1 (TX7 2).2.2.1 ∈ wsX9_reset := by decide +kernel
  have hw4 : ∀ w ∈ u_ws RX5 TX5 9, w ∈ wsX9_reset := by decide +kernel
  have hw5 : Cond.fieldLink RX9 112 (TX5 6).1 (TX5 6).2.1 (TX5 6).2.2.1 ∈ wsX9_reset := by decide +kernel
  refine x_L (L' := [(0, .ref fi)]) [0] rfl ?_
  refine x_aload_n C dX9_reset_0 (q := 1) rfl rfl 0 rfl ?_
  refine x_get C (ci := 8) (v := .ref tb) hw0 0 rfl rfl 3 (by decide) hw1 rfl dX9_reset_1 (q := 4) rfl ?_
  refine x_get C (ci := 6) (v := .ref pg) hw2 1 rfl rfl 2 (by decide) hw3 rfl dX9_reset_4 (q := 7) rfl ?_
  refine x_get C (ci := 4) (v := .int (nI (pMk P))) hw4 2 rfl rfl 6 (by decide) hw5 rfl dX9_reset_7 (q := 10) rfl ?_
  refine x_istore_n C (L' := [(1, .int (nI (pMk P))), (0, .ref fi)]) dX9_reset_10 (q := 11) rfl rfl (by decide) rfl ?_
  refine x_aload_n C dX9_reset_11 (q := 12) rfl rfl 1 rfl ?_
  refine x_get C (ci := 8) (v := .ref tb) hw0 0 rfl rfl 3 (by decide) hw1 rfl dX9_reset_12 (q := 15) rfl ?_
  refine x_get C (ci := 6) (v := .ref pg) hw2 1 rfl rfl 2 (by decide) hw3 rfl dX9_reset_15 (q := 18) rfl ?_
  refine x_callV C (roW := []) (roR := []) (c_X5_restart l D cy pg g0 g1 g2 g3 g4 g5 (pSt P) (pFa P) (pCa P) (pDc P) (pRl P) (pLr P) (pMk P) (pRs P) ky ) (cwV 0 C.2.2.2.2.1 gX9_reset_X5_restart rfl rfl rfl (by decide +kernel) (by rw [hR]; exact ⟨Nat.le_of_ble_eq_true rfl, Nat.le_of_ble_eq_true rfl⟩)) [2, 3, 4, 5, 6, 7, 8] [] rfl (by decide) rfl (by decide) xro_nil (List.mem_of_getElem? (i := 0) rfl) (ci := 4) rfl xT_bl (fun _ _ _ _ _ _ _ => trivial) rfl rfl dX9_reset_18 rfl rfl (Nat.le_of_ble_eq_true rfl) (q := 21) rfl (k' := 0) rfl (n' := 0) rfl (by rw [hR]; exact ⟨Nat.le_of_ble_eq_true rfl, Nat.le_of_ble_eq_true rfl⟩) (fun v1 w1 hp1 => ?_)
  obtain ⟨rfl, rfl⟩ := hp1
  refine x_ws (ws' := [(fi, .inr (8, [.ref tO, .ref gO, .ref nO, .ref tb, .ref tb', .ref trO, .ref gA, .ref tP, .int (nI kf)])), (tb, .inr (6, [.ref nz, .ref tl, .ref pg, .ref se, .ref pa, .ref bo, .ref li, .ref ba, .int (nI cols), .int (nI lc), .int (nI smp)])), (pg, .inr (4, [.ref g0, .ref g1, .ref g2, .ref g3, .ref g4, .ref g5, .int (nI 0), .int (nI 0), .int (ky)])), (g0, .inl (cy 1, 5, .inl (fun k => nI ((fun _ => 0) k)))), (g1, .inl (cy 1, 24, .inl (pFa P))), (g2, .inl (cy 1, 24, .inl (pCa P))), (g3, .inl (cy 1, 24, .inl (pDc P))), (g4, .inl (cy 1, 24, .inl (pRl P))), (g5, .inl (cy 1, 24, .inl (fun k => nI ((pLr P) k))))]) rfl ?_
  refine x_ws (ws' := [(fi, .inr (8, [.ref tO, .ref gO, .ref nO, .ref tb, .ref tb', .ref trO, .ref gA, .ref tP, .int (nI kf)])), (tb, .inr (6, [.ref nz, .ref tl, .ref pg, .ref se, .ref pa, .ref bo, .ref li, .ref ba, .int (nI cols), .int (nI lc), .int (nI smp)])), (pg, .inr (4, [.ref g0, .ref g1, .ref g2, .ref g3, .ref g4, .ref g5, .int (nI (pMk (rs0 P))), .int (nI (pRs (rs0 P))), .int (ky)])), (g0, .inl (cy 1, 5, .inl (fun k => nI ((pSt (rs0 P)) k)))), (g1, .inl (cy 1, 24, .inl (pFa (rs0 P)))), (g2, .inl (cy 1, 24, .inl (pCa (rs0 P)))), (g3, .inl (cy 1, 24, .inl (pDc (rs0 P)))), (g4, .inl (cy 1, 24, .inl (pRl (rs0 P)))), (g5, .inl (cy 1, 24, .inl (fun k => nI ((pLr (rs0 P)) k))))]) (rfl) ?_
  refine x_iload_n C dX9_reset_21 (q := 22) rfl rfl 0 rfl ?_
  refine x_iret C hA hQ hr dX9_reset_22 (Nat.le_of_ble_eq_true rfl) ?_
  first | exact ⟨rfl, rfl⟩ | exact ⟨_, rfl, rfl, by first | rfl | omega | assumption⟩ | (refine ⟨_, rfl, rfl, ?_⟩; (first | rfl | omega | (simp only []; omega)))

set_option maxHeartbeats 4000000 in
set_option maxRecDepth 100000 in
/-- fault -/
theorem c_X9_fault (l : Launch) (D : va_G) (cy : Nat → ClassId) (fi : Nat) (tO : Nat) (gO : Nat) (nO : Nat) (tb : Nat) (tb' : Nat) (trO : Nat) (gA : Nat) (tP : Nat) (kf : Nat) (nz : Nat) (tl : Nat) (pg : Nat) (se : Nat) (pa : Nat) (bo : Nat) (li : Nat) (ba : Nat) (cols : Nat) (lc : Nat) (smp : Nat) (lnf : Nat → Option Nat) (g0 : Nat) (g1 : Nat) (g2 : Nat) (g3 : Nat) (g4 : Nat) (g5 : Nat) (P : PS) (ky : Int32) (ld : LD) (pl : va_W) (x : Int32) (y : Int32) (hcols : cols ≤ 5) (hlc : lc ≤ 24) (hTL : TbL cy pl lc lnf ld) (hfm : ∀ k i, dFm ld k i ≤ 4) (hmk : pMk P ≤ 24) (hrs : pRs P ≤ 24) : xMet l D cy xT yX9_fault wsX9_fault ({ frames := 4, cells := 0, slots := 0, locals := 400 } : Room) [.ref fi, .int (x), .int (y)] [(fi, .inr (8, [.ref tO, .ref gO, .ref nO, .ref tb, .ref tb', .ref trO, .ref gA, .ref tP, .int (nI kf)])), (tb, .inr (6, [.ref nz, .ref tl, .ref pg, .ref se, .ref pa, .ref bo, .ref li, .ref ba, .int (nI cols), .int (nI lc), .int (nI smp)])), (li, .inl (cy 4, 24, .inr (.inr (.inr (.inr lnf))))), (pg, .inr (4, [.ref g0, .ref g1, .ref g2, .ref g3, .ref g4, .ref g5, .int (nI (pMk P)), .int (nI (pRs P)), .int (ky)])), (g0, .inl (cy 1, 5, .inl (fun k => nI ((pSt P) k)))), (g1, .inl (cy 1, 24, .inl (pFa P))), (g2, .inl (cy 1, 24, .inl (pCa P))), (g3, .inl (cy 1, 24, .inl (pDc P))), (g4, .inl (cy 1, 24, .inl (pRl P))), (g5, .inl (cy 1, 24, .inl (fun k => nI ((pLr P) k))))] pl (fun (v9 : Option Value) (w9 : va_W) => (v9 = some (.int (fauA lc P x y)) ∧ w9 = [(fi, .inr (8, [.ref tO, .ref gO, .ref nO, .ref tb, .ref tb', .ref trO, .ref gA, .ref tP, .int (nI kf)])), (tb, .inr (6, [.ref nz, .ref tl, .ref pg, .ref se, .ref pa, .ref bo, .ref li, .ref ba, .int (nI cols), .int (nI lc), .int (nI smp)])), (li, .inl (cy 4, 24, .inr (.inr (.inr (.inr lnf))))), (pg, .inr (4, [.ref g0, .ref g1, .ref g2, .ref g3, .ref g4, .ref g5, .int (nI (pMk P)), .int (nI (pRs P)), .int (ky)])), (g0, .inl (cy 1, 5, .inl (fun k => nI ((pSt P) k)))), (g1, .inl (cy 1, 24, .inl (pFa P))), (g2, .inl (cy 1, 24, .inl (pCa P))), (g3, .inl (cy 1, 24, .inl (pDc P))), (g4, .inl (cy 1, 24, .inl (pRl P))), (g5, .inl (cy 1, 24, .inl (fun k => nI ((pLr P) k))))])) := by
  refine xMet_of (cc := cX9_fault) (maxL := 3) (ret := (some .int)) (by decide) rfl (Nat.le_of_ble_eq_true rfl) (fun p e s m args below meth c A R Q hA hR hQ C hr hnm hro hX => ?_)
  have hw0 : ∀ w ∈ u_ws RX9 TX9 9, w ∈ wsX9_fault := by decide +kernel
  have hw1 : Cond.fieldLink RX9 33 (TX9 3).1 (TX9 3).2.1 (TX9 3).2.2.1 ∈ wsX9_fault := by decide +kernel
  have hw2 : ∀ w ∈ u_ws RX7 TX7 11, w ∈ wsX9_fault := by decide +kernel
  have hw3 : Cond.fieldLink RX9 109 (TX7 2).1 (TX7 2).2.1 (TX7 2).2.2.1 ∈ wsX9_fault := by decide +kernel
  refine x_L (L' := [(0, .ref fi), (1, .int (x)), (2, .int (y))]) [0, 1, 2] rfl ?_
  have hpool : ∀ q ∈ pl, xRo D A s q := hro
  refine x_aload_n C dX9_fault_0 (q := 1) rfl rfl 0 rfl ?_
  refine x_get C (ci := 8) (v := .ref tb) hw0 0 rfl rfl 3 (by decide) hw1 rfl dX9_fault_1 (q := 4) rfl ?_
  refine x_iload_n C dX9_fault_4 (q := 5) rfl rfl 1 rfl ?_
  refine x_callV C (roW := [(tb, .inr (6, [.ref nz, .ref tl, .ref pg, .ref se, .ref pa, .ref bo, .ref li, .ref ba, .int (nI cols), .int (nI lc), .int (nI smp)])), (li, .inl (cy 4, 24, .inr (.inr (.inr (.inr lnf)))))]) (roR := []) (c_X7_lineAt l D cy tb nz tl pg se pa bo li ba cols lc smp lnf x (by first | assumption | omega | (simp only []; omega)) (by first | assumption | omega | (simp only []; omega)) (by exact hTL.some)) (cwV 1 C.2.2.2.2.1 gX9_fault_X7_lineAt rfl rfl rfl (by decide +kernel) (by rw [hR]; exact ⟨Nat.le_of_ble_eq_true rfl, Nat.le_of_ble_eq_true rfl⟩)) [] [1, 2] rfl (by decide) rfl (by decide) xro_nil (List.mem_of_getElem? (i := 0) rfl) (ci := 6) rfl xT_bl (fun _ _ _ _ _ _ _ => trivial) rfl rfl dX9_fault_5 rfl rfl (Nat.le_of_ble_eq_true rfl) (q := 8) rfl (k' := 0) rfl (n' := 0) rfl (by rw [hR]; exact ⟨Nat.le_of_ble_eq_true rfl, Nat.le_of_ble_eq_true rfl⟩) (fun v1 w1 hp1 => ?_)
  rcases hp1 with hp1 | hp1
  · skip
    obtain ⟨a_2, rfl, rfl, hc3, hc4, hc5⟩ := hp1
    refine x_ws (ws' := [(fi, .inr (8, [.ref tO, .ref gO, .ref nO, .ref tb, .ref tb', .ref trO, .ref gA, .ref tP, .int (nI kf)])), (tb, .inr (6, [.ref nz, .ref tl, .ref pg, .ref se, .ref pa, .ref bo, .ref li, .ref ba, .int (nI cols), .int (nI lc), .int (nI smp)])), (li, .inl (cy 4, 24, .inr (.inr (.inr (.inr lnf))))), (pg, .inr (4, [.ref g0, .ref g1, .ref g2, .ref g3, .ref g4, .ref g5, .int (nI (pMk P)), .int (nI (pRs P)), .int (ky)])), (g0, .inl (cy 1, 5, .inl (fun k => nI ((pSt P) k)))), (g1, .inl (cy 1, 24, .inl (pFa P))), (g2, .inl (cy 1, 24, .inl (pCa P))), (g3, .inl (cy 1, 24, .inl (pDc P))), (g4, .inl (cy 1, 24, .inl (pRl P))), (g5, .inl (cy 1, 24, .inl (fun k => nI ((pLr P) k))))]) (List.append_nil _) ?_
    refine x_ifnull C dX9_fault_8 (q := 11) rfl ?_
    refine x_iload_n C dX9_fault_11 (q := 12) rfl rfl 2 rfl ?_
    refine x_if_ge C (tgt := 17) dX9_fault_12 (by decide) (q := 15) rfl (a := y.toInt) rfl (fun h6 => ?_) (fun h6 => ?_)
    · first
      | (exfalso; omega)
      |
        refine x_aload_n C dX9_fault_17 (q := 18) rfl rfl 0 rfl ?_
        refine x_get C (ci := 8) (v := .ref tb) hw0 0 rfl rfl 3 (by decide) hw1 rfl dX9_fault_18 (q := 21) rfl ?_
        refine x_get C (ci := 6) (v := .ref pg) hw2 1 rfl rfl 2 (by decide) hw3 rfl dX9_fault_21 (q := 24) rfl ?_
        refine x_iload_n C dX9_fault_24 (q := 25) rfl rfl 1 rfl ?_
        refine x_iload_n C dX9_fault_25 (q := 26) rfl rfl 2 rfl ?_
        refine x_callV C (roW := [(pg, .inr (4, [.ref g0, .ref g1, .ref g2, .ref g3, .ref g4, .ref g5, .int (nI (pMk P)), .int (nI (pRs P)), .int (ky)])), (g0, .inl (cy 1, 5, .inl (fun k => nI ((pSt P) k)))), (g1, .inl (cy 1, 24, .inl (pFa P))), (g2, .inl (cy 1, 24, .inl (pCa P))), (g3, .inl (cy 1, 24, .inl (pDc P))), (g4, .inl (cy 1, 24, .inl (pRl P))), (g5, .inl (cy 1, 24, .inl (fun k => nI ((pLr P) k))))]) (roR := []) (c_X5_faultPart l D cy pg g0 g1 g2 g3 g4 g5 (pSt P) (pFa P) (pCa P) (pDc P) (pRl P) (pLr P) (pMk P) (pRs P) ky x y (by first | assumption | omega | (simp only []; omega)) (by first | assumption | omega | (simp only []; omega))) (cwV 2 C.2.2.2.2.1 gX9_fault_X5_faultPart rfl rfl rfl (by decide +kernel) (by rw [hR]; exact ⟨Nat.le_of_ble_eq_true rfl, Nat.le_of_ble_eq_true rfl⟩)) [] [3, 4, 5, 6, 7, 8, 9] rfl (by decide) rfl (by decide) xro_nil (List.mem_of_getElem? (i := 0) rfl) (ci := 4) rfl xT_bl (fun _ _ _ _ _ _ _ => trivial) rfl rfl dX9_fault_26 rfl rfl (Nat.le_of_ble_eq_true rfl) (q := 29) rfl (k' := 0) rfl (n' := 0) rfl (by rw [hR]; exact ⟨Nat.le_of_ble_eq_true rfl, Nat.le_of_ble_eq_true rfl⟩) (fun v7 w7 hp7 => ?_)
        rcases hp7 with hp7 | hp7 | hp7 | hp7 | hp7
        · skip
          obtain ⟨rfl, rfl, hc8⟩ := hp7
          refine x_ws (ws' := [(fi, .inr (8, [.ref tO, .ref gO, .ref nO, .ref tb, .ref tb', .ref trO, .ref gA, .ref tP, .int (nI kf)])), (tb, .inr (6, [.ref nz, .ref tl, .ref pg, .ref se, .ref pa, .ref bo, .ref li, .ref ba, .int (nI cols), .int (nI lc), .int (nI smp)])), (li, .inl (cy 4, 24, .inr (.inr (.inr (.inr lnf))))), (pg, .inr (4, [.ref g0, .ref g1, .ref g2, .ref g3, .ref g4, .ref g5, .int (nI (pMk P)), .int (nI (pRs P)), .int (ky)])), (g0, .inl (cy 1, 5, .inl (fun k => nI ((pSt P) k)))), (g1, .inl (cy 1, 24, .inl (pFa P))), (g2, .inl (cy 1, 24, .inl (pCa P))), (g3, .inl (cy 1, 24, .inl (pDc P))), (g4, .inl (cy 1, 24, .inl (pRl P))), (g5, .inl (cy 1, 24, .inl (fun k => nI ((pLr P) k))))]) (List.append_nil _) ?_
          refine x_iret C hA hQ hr dX9_fault_29 (Nat.le_of_ble_eq_true rfl) ?_
          refine ⟨?_, rfl⟩
          unfold fauA fpA
          repeat (first | rw [if_pos (by omega)] | rw [if_neg (by omega)])
        · skip
          obtain ⟨rfl, rfl, hc9, hc10, hc11⟩ := hp7
          refine x_ws (ws' := [(fi, .inr (8, [.ref tO, .ref gO, .ref nO, .ref tb, .ref tb', .ref trO, .ref gA, .ref tP, .int (nI kf)])), (tb, .inr (6, [.ref nz, .ref tl, .ref pg, .ref se, .ref pa, .ref bo, .ref li, .ref ba, .int (nI cols), .int (nI lc), .int (nI smp)])), (li, .inl (cy 4, 24, .inr (.inr (.inr (.inr lnf))))), (pg, .inr (4, [.ref g0, .ref g1, .ref g2, .ref g3, .ref g4, .ref g5, .int (nI (pMk P)), .int (nI (pRs P)), .int (ky)])), (g0, .inl (cy 1, 5, .inl (fun k => nI ((pSt P) k)))), (g1, .inl (cy 1, 24, .inl (pFa P))), (g2, .inl (cy 1, 24, .inl (pCa P))), (g3, .inl (cy 1, 24, .inl (pDc P))), (g4, .inl (cy 1, 24, .inl (pRl P))), (g5, .inl (cy 1, 24, .inl (fun k => nI ((pLr P) k))))]) (List.append_nil _) ?_
          refine x_iret C hA hQ hr dX9_fault_29 (Nat.le_of_ble_eq_true rfl) ?_
          refine ⟨?_, rfl⟩
          unfold fauA fpA
          repeat (first | rw [if_pos (by omega)] | rw [if_neg (by omega)])
        · skip
          obtain ⟨rfl, rfl, hc12, hc13, hc14⟩ := hp7
          refine x_ws (ws' := [(fi, .inr (8, [.ref tO, .ref gO, .ref nO, .ref tb, .ref tb', .ref trO, .ref gA, .ref tP, .int (nI kf)])), (tb, .inr (6, [.ref nz, .ref tl, .ref pg, .ref se, .ref pa, .ref bo, .ref li, .ref ba, .int (nI cols), .int (nI lc), .int (nI smp)])), (li, .inl (cy 4, 24, .inr (.inr (.inr (.inr lnf))))), (pg, .inr (4, [.ref g0, .ref g1, .ref g2, .ref g3, .ref g4, .ref g5, .int (nI (pMk P)), .int (nI (pRs P)), .int (ky)])), (g0, .inl (cy 1, 5, .inl (fun k => nI ((pSt P) k)))), (g1, .inl (cy 1, 24, .inl (pFa P))), (g2, .inl (cy 1, 24, .inl (pCa P))), (g3, .inl (cy 1, 24, .inl (pDc P))), (g4, .inl (cy 1, 24, .inl (pRl P))), (g5, .inl (cy 1, 24, .inl (fun k => nI ((pLr P) k))))]) (List.append_nil _) ?_
          refine x_iret C hA hQ hr dX9_fault_29 (Nat.le_of_ble_eq_true rfl) ?_
          refine ⟨?_, rfl⟩
          unfold fauA fpA
          repeat (first | rw [if_pos (by omega)] | rw [if_neg (by omega)])
        · skip
          obtain ⟨rfl, rfl, hc15, hc16, hc17⟩ := hp7
          refine x_ws (ws' := [(fi, .inr (8, [.ref tO, .ref gO, .ref nO, .ref tb, .ref tb', .ref trO, .ref gA, .ref tP, .int (nI kf)])), (tb, .inr (6, [.ref nz, .ref tl, .ref pg, .ref se, .ref pa, .ref bo, .ref li, .ref ba, .int (nI cols), .int (nI lc), .int (nI smp)])), (li, .inl (cy 4, 24, .inr (.inr (.inr (.inr lnf))))), (pg, .inr (4, [.ref g0, .ref g1, .ref g2, .ref g3, .ref g4, .ref g5, .int (nI (pMk P)), .int (nI (pRs P)), .int (ky)])), (g0, .inl (cy 1, 5, .inl (fun k => nI ((pSt P) k)))), (g1, .inl (cy 1, 24, .inl (pFa P))), (g2, .inl (cy 1, 24, .inl (pCa P))), (g3, .inl (cy 1, 24, .inl (pDc P))), (g4, .inl (cy 1, 24, .inl (pRl P))), (g5, .inl (cy 1, 24, .inl (fun k => nI ((pLr P) k))))]) (List.append_nil _) ?_
          refine x_iret C hA hQ hr dX9_fault_29 (Nat.le_of_ble_eq_true rfl) ?_
          refine ⟨?_, rfl⟩
          unfold fauA fpA
          repeat (first | rw [if_pos (by omega)] | rw [if_neg (by omega)])
        · skip
          obtain ⟨rfl, rfl, hc18, hc19, hc20⟩ := hp7
          refine x_ws (ws' := [(fi, .inr (8, [.ref tO, .ref gO, .ref nO, .ref tb, .ref tb', .ref trO, .ref gA, .ref tP, .int (nI kf)])), (tb, .inr (6, [.ref nz, .ref tl, .ref pg, .ref se, .ref pa, .ref bo, .ref li, .ref ba, .int (nI cols), .int (nI lc), .int (nI smp)])), (li, .inl (cy 4, 24, .inr (.inr (.inr (.inr lnf))))), (pg, .inr (4, [.ref g0, .ref g1, .ref g2, .ref g3, .ref g4, .ref g5, .int (nI (pMk P)), .int (nI (pRs P)), .int (ky)])), (g0, .inl (cy 1, 5, .inl (fun k => nI ((pSt P) k)))), (g1, .inl (cy 1, 24, .inl (pFa P))), (g2, .inl (cy 1, 24, .inl (pCa P))), (g3, .inl (cy 1, 24, .inl (pDc P))), (g4, .inl (cy 1, 24, .inl (pRl P))), (g5, .inl (cy 1, 24, .inl (fun k => nI ((pLr P) k))))]) (List.append_nil _) ?_
          refine x_iret C hA hQ hr dX9_fault_29 (Nat.le_of_ble_eq_true rfl) ?_
          refine ⟨?_, rfl⟩
          unfold fauA fpA
          repeat (first | rw [if_pos (by omega)] | rw [if_neg (by omega)])
    · first
      | (exfalso; omega)
      |
        refine x_iconst C dX9_fault_15 (q := 16) rfl (v := (-1)) (by decide) ?_
        refine x_iret C hA hQ hr dX9_fault_16 (Nat.le_of_ble_eq_true rfl) ?_
        refine ⟨?_, rfl⟩
        unfold fauA fpA
        repeat (first | rw [if_pos (by omega)] | rw [if_neg (by omega)])
  · skip
    obtain ⟨rfl, rfl, hc21⟩ := hp1
    refine x_ws (ws' := [(fi, .inr (8, [.ref tO, .ref gO, .ref nO, .ref tb, .ref tb', .ref trO, .ref gA, .ref tP, .int (nI kf)])), (tb, .inr (6, [.ref nz, .ref tl, .ref pg, .ref se, .ref pa, .ref bo, .ref li, .ref ba, .int (nI cols), .int (nI lc), .int (nI smp)])), (li, .inl (cy 4, 24, .inr (.inr (.inr (.inr lnf))))), (pg, .inr (4, [.ref g0, .ref g1, .ref g2, .ref g3, .ref g4, .ref g5, .int (nI (pMk P)), .int (nI (pRs P)), .int (ky)])), (g0, .inl (cy 1, 5, .inl (fun k => nI ((pSt P) k)))), (g1, .inl (cy 1, 24, .inl (pFa P))), (g2, .inl (cy 1, 24, .inl (pCa P))), (g3, .inl (cy 1, 24, .inl (pDc P))), (g4, .inl (cy 1, 24, .inl (pRl P))), (g5, .inl (cy 1, 24, .inl (fun k => nI ((pLr P) k))))]) (List.append_nil _) ?_
    refine x_ifnullN C (tgt := 15) dX9_fault_8 (by decide) ?_
    refine x_iconst C dX9_fault_15 (q := 16) rfl (v := (-1)) (by decide) ?_
    refine x_iret C hA hQ hr dX9_fault_16 (Nat.le_of_ble_eq_true rfl) ?_
    refine ⟨?_, rfl⟩
    unfold fauA fpA
    repeat (first | rw [if_pos (by omega)] | rw [if_neg (by omega)])

set_option maxHeartbeats 4000000 in
set_option maxRecDepth 100000 in
/-- told -/
theorem c_X9_told (l : Launch) (D : va_G) (cy : Nat → ClassId) (fi : Nat) (tO : Nat) (gO : Nat) (nO : Nat) (tb : Nat) (tb' : Nat) (trO : Nat) (gA : Nat) (tP : Nat) (kf : Nat) (nz : Nat) (tl : Nat) (pg : Nat) (se : Nat) (pa : Nat) (bo : Nat) (li : Nat) (ba : Nat) (cols : Nat) (lc : Nat) (smp : Nat) (g0 : Nat) (g1 : Nat) (g2 : Nat) (g3 : Nat) (g4 : Nat) (g5 : Nat) (P : PS) (ky : Int32) (x : Int32) (hcols : cols ≤ 5) (hlc : lc ≤ 24) (hsmp : smp ≤ 24) (hmk : pMk P ≤ 24) (hrs : pRs P ≤ pMk P) : xMet l D cy xT yX9_told wsX9_told ({ frames := 3, cells := 0, slots := 0, locals := 300 } : Room) [.ref fi, .int (x)] [(fi, .inr (8, [.ref tO, .ref gO, .ref nO, .ref tb, .ref tb', .ref trO, .ref gA, .ref tP, .int (nI kf)])), (tb, .inr (6, [.ref nz, .ref tl, .ref pg, .ref se, .ref pa, .ref bo, .ref li, .ref ba, .int (nI cols), .int (nI lc), .int (nI smp)])), (pg, .inr (4, [.ref g0, .ref g1, .ref g2, .ref g3, .ref g4, .ref g5, .int (nI (pMk P)), .int (nI (pRs P)), .int (ky)])), (g0, .inl (cy 1, 5, .inl (fun k => nI ((pSt P) k)))), (g1, .inl (cy 1, 24, .inl (pFa P))), (g2, .inl (cy 1, 24, .inl (pCa P))), (g3, .inl (cy 1, 24, .inl (pDc P))), (g4, .inl (cy 1, 24, .inl (pRl P))), (g5, .inl (cy 1, 24, .inl (fun k => nI ((pLr P) k))))] [] (fun (v9 : Option Value) (w9 : va_W) => (v9 = some (.int (tolA cols smp ky P x)) ∧ w9 = [(fi, .inr (8, [.ref tO, .ref gO, .ref nO, .ref tb, .ref tb', .ref trO, .ref gA, .ref tP, .int (nI kf)])), (tb, .inr (6, [.ref nz, .ref tl, .ref pg, .ref se, .ref pa, .ref bo, .ref li, .ref ba, .int (nI cols), .int (nI lc), .int (nI smp)])), (pg, .inr (4, [.ref g0, .ref g1, .ref g2, .ref g3, .ref g4, .ref g5, .int (nI (pMk P)), .int (nI (pRs P)), .int (ky)])), (g0, .inl (cy 1, 5, .inl (fun k => nI ((pSt P) k)))), (g1, .inl (cy 1, 24, .inl (pFa P))), (g2, .inl (cy 1, 24, .inl (pCa P))), (g3, .inl (cy 1, 24, .inl (pDc P))), (g4, .inl (cy 1, 24, .inl (pRl P))), (g5, .inl (cy 1, 24, .inl (fun k => nI ((pLr P) k))))])) := by
  refine xMet_of (cc := cX9_told) (maxL := 3) (ret := (some .int)) (by decide) rfl (Nat.le_of_ble_eq_true rfl) (fun p e s m args below meth c A R Q hA hR hQ C hr hnm hro hX => ?_)
  have hw0 : ∀ w ∈ u_ws RX9 TX9 9, w ∈ wsX9_told := by decide +kernel
  have hw1 : Cond.fieldLink RX9 33 (TX9 3).1 (TX9 3).2.1 (TX9 3).2.2.1 ∈ wsX9_told := by decide +kernel
  have hw2 : ∀ w ∈ u_ws RX7 TX7 11, w ∈ wsX9_told := by decide +kernel
  have hw3 : Cond.fieldLink RX9 109 (TX7 2).1 (TX7 2).2.1 (TX7 2).2.2.1 ∈ wsX9_told := by decide +kernel
  have hw4 : ∀ w ∈ u_ws RX5 TX5 9, w ∈ wsX9_told := by decide +kernel
  have hw5 : Cond.fieldLink RX9 112 (TX5 6).1 (TX5 6).2.1 (TX5 6).2.2.1 ∈ wsX9_told := by decide +kernel
  have hw6 : Cond.fieldLink RX9 173 (TX5 7).1 (TX5 7).2.1 (TX5 7).2.2.1 ∈ wsX9_told := by decide +kernel
  have hw7 : Cond.fieldLink RX9 80 (TX7 8).1 (TX7 8).2.1 (TX7 8).2.2.1 ∈ wsX9_told := by decide +kernel
  have hw8 : Cond.fieldLink RX9 98 (TX7 10).1 (TX7 10).2.1 (TX7 10).2.2.1 ∈ wsX9_told := by decide +kernel
  refine x_L (L' := [(0, .ref fi), (1, .int (x))]) [0, 1] rfl ?_
  refine x_aload_n C dX9_told_0 (q := 1) rfl rfl 0 rfl ?_
  refine x_get C (ci := 8) (v := .ref tb) hw0 0 rfl rfl 3 (by decide) hw1 rfl dX9_told_1 (q := 4) rfl ?_
  refine x_get C (ci := 6) (v := .ref pg) hw2 1 rfl rfl 2 (by decide) hw3 rfl dX9_told_4 (q := 7) rfl ?_
  refine x_astore_n C (L' := [(2, .ref pg), (0, .ref fi), (1, .int (x))]) dX9_told_7 (q := 8) rfl rfl (by decide) rfl ?_
  refine x_iload_n C dX9_told_8 (q := 9) rfl rfl 2 rfl ?_
  by_cases hs1 : x.toInt < 0 ∨ 7 < x.toInt
  · refine x_tableOut C (tgt := 104) dX9_told_9 hs1 (by decide) ?_
    refine x_iconst C dX9_told_104 (q := 105) rfl (v := (-1)) (by decide) ?_
    refine x_iret C hA hQ hr dX9_told_105 (Nat.le_of_ble_eq_true rfl) ?_
    refine ⟨?_, rfl⟩
    unfold tolA
    repeat (first | rw [if_pos (by omega)] | rw [if_neg (by omega)])
  · have hs1' : x.toInt = 0 ∨ x.toInt = 1 ∨ x.toInt = 2 ∨ x.toInt = 3 ∨ x.toInt = 4 ∨ x.toInt = 5 ∨ x.toInt = 6 ∨ x.toInt = 7 := by omega
    rcases hs1' with hs1e | hs1e | hs1e | hs1e | hs1e | hs1e | hs1e | hs1e
    · refine x_tableIn C (tgt := 56) (0 : Int) ((rfl : (x : Int32).toInt = x.toInt).trans hs1e) dX9_told_9 (by decide) (by decide) rfl (by decide) ?_
      refine x_aload_n C dX9_told_56 (q := 57) rfl rfl 0 rfl ?_
      refine x_get C (ci := 4) (v := .int (nI (pMk P))) hw4 2 rfl rfl 6 (by decide) hw5 rfl dX9_told_57 (q := 60) rfl ?_
      refine x_iret C hA hQ hr dX9_told_60 (Nat.le_of_ble_eq_true rfl) ?_
      refine ⟨?_, rfl⟩
      unfold tolA
      repeat (first | rw [if_pos (by omega)] | rw [if_neg (by omega)])
    · refine x_tableIn C (tgt := 61) (1 : Int) ((rfl : (x : Int32).toInt = x.toInt).trans hs1e) dX9_told_9 (by decide) (by decide) rfl (by decide) ?_
      refine x_aload_n C dX9_told_61 (q := 62) rfl rfl 0 rfl ?_
      refine x_get C (ci := 4) (v := .int (nI (pRs P))) hw4 2 rfl rfl 7 (by decide) hw6 rfl dX9_told_62 (q := 65) rfl ?_
      refine x_iret C hA hQ hr dX9_told_65 (Nat.le_of_ble_eq_true rfl) ?_
      refine ⟨?_, rfl⟩
      unfold tolA
      repeat (first | rw [if_pos (by omega)] | rw [if_neg (by omega)])
    · refine x_tableIn C (tgt := 66) (2 : Int) ((rfl : (x : Int32).toInt = x.toInt).trans hs1e) dX9_told_9 (by decide) (by decide) rfl (by decide) ?_
      refine x_aload_n C dX9_told_66 (q := 67) rfl rfl 0 rfl ?_
      refine x_callV C (roW := [(pg, .inr (4, [.ref g0, .ref g1, .ref g2, .ref g3, .ref g4, .ref g5, .int (nI (pMk P)), .int (nI (pRs P)), .int (ky)])), (g0, .inl (cy 1, 5, .inl (fun k => nI ((pSt P) k)))), (g1, .inl (cy 1, 24, .inl (pFa P))), (g2, .inl (cy 1, 24, .inl (pCa P))), (g3, .inl (cy 1, 24, .inl (pDc P))), (g4, .inl (cy 1, 24, .inl (pRl P))), (g5, .inl (cy 1, 24, .inl (fun k => nI ((pLr P) k))))]) (roR := []) (c_X5_faultyLines l D cy pg g0 g1 g2 g3 g4 g5 (pSt P) (pFa P) (pCa P) (pDc P) (pRl P) (pLr P) (pMk P) (pRs P) ky (by first | assumption | omega | (simp only []; omega)) (by first | assumption | omega | (simp only []; omega)) (by first | assumption | omega | (simp only []; omega))) (cwV 0 C.2.2.2.2.1 gX9_told_X5_faultyLines rfl rfl rfl (by decide +kernel) (by rw [hR]; exact ⟨Nat.le_of_ble_eq_true rfl, Nat.le_of_ble_eq_true rfl⟩)) [] [2, 3, 4, 5, 6, 7, 8] rfl (by decide) rfl (by decide) xro_nil (List.mem_of_getElem? (i := 0) rfl) (ci := 4) rfl xT_bl (fun _ _ _ _ _ _ _ => trivial) rfl rfl dX9_told_67 rfl rfl (Nat.le_of_ble_eq_true rfl) (q := 70) rfl (k' := 0) rfl (n' := 0) rfl (by rw [hR]; exact ⟨Nat.le_of_ble_eq_true rfl, Nat.le_of_ble_eq_true rfl⟩) (fun v2 w2 hp2 => ?_)
      obtain ⟨rfl, rfl⟩ := hp2
      refine x_ws (ws' := [(fi, .inr (8, [.ref tO, .ref gO, .ref nO, .ref tb, .ref tb', .ref trO, .ref gA, .ref tP, .int (nI kf)])), (tb, .inr (6, [.ref nz, .ref tl, .ref pg, .ref se, .ref pa, .ref bo, .ref li, .ref ba, .int (nI cols), .int (nI lc), .int (nI smp)])), (pg, .inr (4, [.ref g0, .ref g1, .ref g2, .ref g3, .ref g4, .ref g5, .int (nI (pMk P)), .int (nI (pRs P)), .int (ky)])), (g0, .inl (cy 1, 5, .inl (fun k => nI ((pSt P) k)))), (g1, .inl (cy 1, 24, .inl (pFa P))), (g2, .inl (cy 1, 24, .inl (pCa P))), (g3, .inl (cy 1, 24, .inl (pDc P))), (g4, .inl (cy 1, 24, .inl (pRl P))), (g5, .inl (cy 1, 24, .inl (fun k => nI ((pLr P) k))))]) (List.append_nil _) ?_
      refine x_iret C hA hQ hr dX9_told_70 (Nat.le_of_ble_eq_true rfl) ?_
      refine ⟨?_, rfl⟩
      unfold tolA
      repeat (first | rw [if_pos (by omega)] | rw [if_neg (by omega)])
    · refine x_tableIn C (tgt := 71) (3 : Int) ((rfl : (x : Int32).toInt = x.toInt).trans hs1e) dX9_told_9 (by decide) (by decide) rfl (by decide) ?_
      refine x_aload_n C dX9_told_71 (q := 72) rfl rfl 1 rfl ?_
      refine x_get C (ci := 8) (v := .ref tb) hw0 0 rfl rfl 3 (by decide) hw1 rfl dX9_told_72 (q := 75) rfl ?_
      refine x_get C (ci := 6) (v := .int (nI cols)) hw2 1 rfl rfl 8 (by decide) hw7 rfl dX9_told_75 (q := 78) rfl ?_
      refine x_iret C hA hQ hr dX9_told_78 (Nat.le_of_ble_eq_true rfl) ?_
      refine ⟨?_, rfl⟩
      unfold tolA
      repeat (first | rw [if_pos (by omega)] | rw [if_neg (by omega)])
    · refine x_tableIn C (tgt := 79) (4 : Int) ((rfl : (x : Int32).toInt = x.toInt).trans hs1e) dX9_told_9 (by decide) (by decide) rfl (by decide) ?_
      refine x_aload_n C dX9_told_79 (q := 80) rfl rfl 1 rfl ?_
      refine x_callV C (roW := []) (roR := []) (c_X9_keyOrAbsent l D cy fi tO gO nO tb tb' trO gA tP kf nz tl pg se pa bo li ba cols lc smp g0 g1 g2 g3 g4 g5 (pMk P) (pRs P) ky ) (cwV 0 C.2.2.2.2.1 gX9_told_X9_keyOrAbsent rfl rfl rfl (by decide +kernel) (by rw [hR]; exact ⟨Nat.le_of_ble_eq_true rfl, Nat.le_of_ble_eq_true rfl⟩)) [0, 1, 2] [] rfl (by decide) rfl (by decide) xro_nil (List.mem_of_getElem? (i := 0) rfl) (ci := 8) rfl xT_bl (fun _ _ _ _ _ _ _ => trivial) rfl rfl dX9_told_80 rfl rfl (Nat.le_of_ble_eq_true rfl) (q := 83) rfl (k' := 0) rfl (n' := 0) rfl (by rw [hR]; exact ⟨Nat.le_of_ble_eq_true rfl, Nat.le_of_ble_eq_true rfl⟩) (fun v3 w3 hp3 => ?_)
      obtain ⟨rfl, rfl⟩ := hp3
      refine x_ws (ws' := [(fi, .inr (8, [.ref tO, .ref gO, .ref nO, .ref tb, .ref tb', .ref trO, .ref gA, .ref tP, .int (nI kf)])), (tb, .inr (6, [.ref nz, .ref tl, .ref pg, .ref se, .ref pa, .ref bo, .ref li, .ref ba, .int (nI cols), .int (nI lc), .int (nI smp)])), (pg, .inr (4, [.ref g0, .ref g1, .ref g2, .ref g3, .ref g4, .ref g5, .int (nI (pMk P)), .int (nI (pRs P)), .int (ky)])), (g0, .inl (cy 1, 5, .inl (fun k => nI ((pSt P) k)))), (g1, .inl (cy 1, 24, .inl (pFa P))), (g2, .inl (cy 1, 24, .inl (pCa P))), (g3, .inl (cy 1, 24, .inl (pDc P))), (g4, .inl (cy 1, 24, .inl (pRl P))), (g5, .inl (cy 1, 24, .inl (fun k => nI ((pLr P) k))))]) rfl ?_
      refine x_iret C hA hQ hr dX9_told_83 (Nat.le_of_ble_eq_true rfl) ?_
      refine ⟨?_, rfl⟩
      unfold tolA
      repeat (first | rw [if_pos (by omega)] | rw [if_neg (by omega)])
    · refine x_tableIn C (tgt := 84) (5 : Int) ((rfl : (x : Int32).toInt = x.toInt).trans hs1e) dX9_told_9 (by decide) (by decide) rfl (by decide) ?_
      refine x_aload_n C dX9_told_84 (q := 85) rfl rfl 1 rfl ?_
      refine x_get C (ci := 8) (v := .ref tb) hw0 0 rfl rfl 3 (by decide) hw1 rfl dX9_told_85 (q := 88) rfl ?_
      refine x_get C (ci := 6) (v := .int (nI smp)) hw2 1 rfl rfl 10 (by decide) hw8 rfl dX9_told_88 (q := 91) rfl ?_
      refine x_iret C hA hQ hr dX9_told_91 (Nat.le_of_ble_eq_true rfl) ?_
      refine ⟨?_, rfl⟩
      unfold tolA
      repeat (first | rw [if_pos (by omega)] | rw [if_neg (by omega)])
    · refine x_tableIn C (tgt := 92) (6 : Int) ((rfl : (x : Int32).toInt = x.toInt).trans hs1e) dX9_told_9 (by decide) (by decide) rfl (by decide) ?_
      refine x_aload_n C dX9_told_92 (q := 93) rfl rfl 0 rfl ?_
      refine x_iconst C dX9_told_93 (q := 94) rfl (v := nI 3) (by decide) ?_
      refine x_callV C (roW := [(pg, .inr (4, [.ref g0, .ref g1, .ref g2, .ref g3, .ref g4, .ref g5, .int (nI (pMk P)), .int (nI (pRs P)), .int (ky)])), (g0, .inl (cy 1, 5, .inl (fun k => nI ((pSt P) k)))), (g1, .inl (cy 1, 24, .inl (pFa P))), (g2, .inl (cy 1, 24, .inl (pCa P))), (g3, .inl (cy 1, 24, .inl (pDc P))), (g4, .inl (cy 1, 24, .inl (pRl P))), (g5, .inl (cy 1, 24, .inl (fun k => nI ((pLr P) k))))]) (roR := []) (c_X5_linesWith l D cy pg g0 g1 g2 g3 g4 g5 (pSt P) (pFa P) (pCa P) (pDc P) (pRl P) (pLr P) (pMk P) (pRs P) ky (nI 3) (by first | assumption | omega | (simp only []; omega)) (by first | assumption | omega | (simp only []; omega))) (cwV 1 C.2.2.2.2.1 gX9_told_X5_linesWith rfl rfl rfl (by decide +kernel) (by rw [hR]; exact ⟨Nat.le_of_ble_eq_true rfl, Nat.le_of_ble_eq_true rfl⟩)) [] [2, 3, 4, 5, 6, 7, 8] rfl (by decide) rfl (by decide) xro_nil (List.mem_of_getElem? (i := 0) rfl) (ci := 4) rfl xT_bl (fun _ _ _ _ _ _ _ => trivial) rfl rfl dX9_told_94 rfl rfl (Nat.le_of_ble_eq_true rfl) (q := 97) rfl (k' := 0) rfl (n' := 0) rfl (by rw [hR]; exact ⟨Nat.le_of_ble_eq_true rfl, Nat.le_of_ble_eq_true rfl⟩) (fun v4 w4 hp4 => ?_)
      obtain ⟨rfl, rfl⟩ := hp4
      refine x_ws (ws' := [(fi, .inr (8, [.ref tO, .ref gO, .ref nO, .ref tb, .ref tb', .ref trO, .ref gA, .ref tP, .int (nI kf)])), (tb, .inr (6, [.ref nz, .ref tl, .ref pg, .ref se, .ref pa, .ref bo, .ref li, .ref ba, .int (nI cols), .int (nI lc), .int (nI smp)])), (pg, .inr (4, [.ref g0, .ref g1, .ref g2, .ref g3, .ref g4, .ref g5, .int (nI (pMk P)), .int (nI (pRs P)), .int (ky)])), (g0, .inl (cy 1, 5, .inl (fun k => nI ((pSt P) k)))), (g1, .inl (cy 1, 24, .inl (pFa P))), (g2, .inl (cy 1, 24, .inl (pCa P))), (g3, .inl (cy 1, 24, .inl (pDc P))), (g4, .inl (cy 1, 24, .inl (pRl P))), (g5, .inl (cy 1, 24, .inl (fun k => nI ((pLr P) k))))]) (List.append_nil _) ?_
      refine x_iret C hA hQ hr dX9_told_97 (Nat.le_of_ble_eq_true rfl) ?_
      refine ⟨?_, rfl⟩
      unfold tolA
      repeat (first | rw [if_pos (by omega)] | rw [if_neg (by omega)])
    · refine x_tableIn C (tgt := 98) (7 : Int) ((rfl : (x : Int32).toInt = x.toInt).trans hs1e) dX9_told_9 (by decide) (by decide) rfl (by decide) ?_
      refine x_aload_n C dX9_told_98 (q := 99) rfl rfl 0 rfl ?_
      refine x_iconst C dX9_told_99 (q := 100) rfl (v := nI 5) (by decide) ?_
      refine x_callV C (roW := [(pg, .inr (4, [.ref g0, .ref g1, .ref g2, .ref g3, .ref g4, .ref g5, .int (nI (pMk P)), .int (nI (pRs P)), .int (ky)])), (g0, .inl (cy 1, 5, .inl (fun k => nI ((pSt P) k)))), (g1, .inl (cy 1, 24, .inl (pFa P))), (g2, .inl (cy 1, 24, .inl (pCa P))), (g3, .inl (cy 1, 24, .inl (pDc P))), (g4, .inl (cy 1, 24, .inl (pRl P))), (g5, .inl (cy 1, 24, .inl (fun k => nI ((pLr P) k))))]) (roR := []) (c_X5_linesWith l D cy pg g0 g1 g2 g3 g4 g5 (pSt P) (pFa P) (pCa P) (pDc P) (pRl P) (pLr P) (pMk P) (pRs P) ky (nI 5) (by first | assumption | omega | (simp only []; omega)) (by first | assumption | omega | (simp only []; omega))) (cwV 1 C.2.2.2.2.1 gX9_told_X5_linesWith rfl rfl rfl (by decide +kernel) (by rw [hR]; exact ⟨Nat.le_of_ble_eq_true rfl, Nat.le_of_ble_eq_true rfl⟩)) [] [2, 3, 4, 5, 6, 7, 8] rfl (by decide) rfl (by decide) xro_nil (List.mem_of_getElem? (i := 0) rfl) (ci := 4) rfl xT_bl (fun _ _ _ _ _ _ _ => trivial) rfl rfl dX9_told_100 rfl rfl (Nat.le_of_ble_eq_true rfl) (q := 103) rfl (k' := 0) rfl (n' := 0) rfl (by rw [hR]; exact ⟨Nat.le_of_ble_eq_true rfl, Nat.le_of_ble_eq_true rfl⟩) (fun v5 w5 hp5 => ?_)
      obtain ⟨rfl, rfl⟩ := hp5
      refine x_ws (ws' := [(fi, .inr (8, [.ref tO, .ref gO, .ref nO, .ref tb, .ref tb', .ref trO, .ref gA, .ref tP, .int (nI kf)])), (tb, .inr (6, [.ref nz, .ref tl, .ref pg, .ref se, .ref pa, .ref bo, .ref li, .ref ba, .int (nI cols), .int (nI lc), .int (nI smp)])), (pg, .inr (4, [.ref g0, .ref g1, .ref g2, .ref g3, .ref g4, .ref g5, .int (nI (pMk P)), .int (nI (pRs P)), .int (ky)])), (g0, .inl (cy 1, 5, .inl (fun k => nI ((pSt P) k)))), (g1, .inl (cy 1, 24, .inl (pFa P))), (g2, .inl (cy 1, 24, .inl (pCa P))), (g3, .inl (cy 1, 24, .inl (pDc P))), (g4, .inl (cy 1, 24, .inl (pRl P))), (g5, .inl (cy 1, 24, .inl (fun k => nI ((pLr P) k))))]) (List.append_nil _) ?_
      refine x_iret C hA hQ hr dX9_told_103 (Nat.le_of_ble_eq_true rfl) ?_
      refine ⟨?_, rfl⟩
      unfold tolA
      repeat (first | rw [if_pos (by omega)] | rw [if_neg (by omega)])
