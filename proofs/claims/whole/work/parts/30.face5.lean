
/-- the least SAMPLE whose GUESS is a TYPE, or 24 -/
def neeB (ld : LD) (c lc ty k : Nat) : Bool := decide (¬ gsS (vtF ld c (min (k + 1) lc)) = ty)
def neeS (ld : LD) (c lc ty : Nat) : Nat := runLen (neeB ld c lc ty) 24 24 0
def needA (ld : LD) (cols lc : Nat) (x y : Int32) : Int32 := if x.toInt < 0 ∨ cols ≤ x.toInt then -1 else if y.toInt < 1 ∨ 4 < y.toInt then -2 else if neeS ld x.toInt.toNat lc y.toInt.toNat = 24 then -5 else nI (neeS ld x.toInt.toNat lc y.toInt.toNat + 1)

set_option maxHeartbeats 4000000 in
set_option maxRecDepth 100000 in
/-- need -/
theorem c_X9_need (l : Launch) (D : va_G) (cy : Nat → ClassId) (fi : Nat) (tO : Nat) (gO : Nat) (nO : Nat) (tb : Nat) (tb' : Nat) (trO : Nat) (gA : Nat) (tP : Nat) (kf : Nat) (nz : Nat) (tl : Nat) (pg : Nat) (se : Nat) (pa : Nat) (bo : Nat) (li : Nat) (ba : Nat) (cols : Nat) (lc : Nat) (smp : Nat) (lnf : Nat → Option Nat) (bal : Nat → Nat) (ld : LD) (pl : va_W) (x : Int32) (y : Int32) (hcols : cols ≤ 5) (hlc : lc ≤ 24) (hTL : TbL cy pl lc lnf ld) (hfm : ∀ k i, dFm ld k i ≤ 4) (hsmp : smp ≤ 24) : xMet l D cy xT yX9_need wsX9_need ({ frames := 6, cells := 0, slots := 0, locals := 600 } : Room) [.ref fi, .int (x), .int (y)] [(fi, .inr (8, [.ref tO, .ref gO, .ref nO, .ref tb, .ref tb', .ref trO, .ref gA, .ref tP, .int (nI kf)])), (tb, .inr (6, [.ref nz, .ref tl, .ref pg, .ref se, .ref pa, .ref bo, .ref li, .ref ba, .int (nI cols), .int (nI lc), .int (nI smp)])), (li, .inl (cy 4, 24, .inr (.inr (.inr (.inr lnf))))), (ba, .inl (cy 1, 5, .inl (fun k => nI (bal k))))] pl (fun (v9 : Option Value) (w9 : va_W) => (∃ b2 : Nat → Nat, v9 = some (.int (needA ld cols lc x y)) ∧ w9 = [(fi, .inr (8, [.ref tO, .ref gO, .ref nO, .ref tb, .ref tb', .ref trO, .ref gA, .ref tP, .int (nI kf)])), (tb, .inr (6, [.ref nz, .ref tl, .ref pg, .ref se, .ref pa, .ref bo, .ref li, .ref ba, .int (nI cols), .int (nI lc), .int (nI smp)])), (li, .inl (cy 4, 24, .inr (.inr (.inr (.inr lnf))))), (ba, .inl (cy 1, 5, .inl (fun k => nI (b2 k))))])) := by
  refine xMet_of (cc := cX9_need) (maxL := 4) (ret := (some .int)) (by decide) rfl (Nat.le_of_ble_eq_true rfl) (fun p e s m args below meth c A R Q hA hR hQ C hr hnm hro hX => ?_)
  have hw0 : ∀ w ∈ u_ws RX9 TX9 9, w ∈ wsX9_need := by decide +kernel
  have hw1 : Cond.fieldLink RX9 33 (TX9 3).1 (TX9 3).2.1 (TX9 3).2.2.1 ∈ wsX9_need := by decide +kernel
  refine x_L (L' := [(0, .ref fi), (1, .int (x)), (2, .int (y))]) [0, 1, 2] rfl ?_
  have hpool : ∀ q ∈ pl, xRo D A s q := hro
  refine x_aload_n C dX9_need_0 (q := 1) rfl rfl 0 rfl ?_
  refine x_get C (ci := 8) (v := .ref tb) hw0 0 rfl rfl 3 (by decide) hw1 rfl dX9_need_1 (q := 4) rfl ?_
  refine x_iload_n C dX9_need_4 (q := 5) rfl rfl 1 rfl ?_
  refine x_callV C (roW := [(tb, .inr (6, [.ref nz, .ref tl, .ref pg, .ref se, .ref pa, .ref bo, .ref li, .ref ba, .int (nI cols), .int (nI lc), .int (nI smp)]))]) (roR := []) (c_X7_hasColumn l D cy tb nz tl pg se pa bo li ba cols lc smp x (by first | assumption | omega | (simp only []; omega)) (by first | assumption | omega | (simp only []; omega))) (cwV 1 C.2.2.2.2.1 gX9_need_X7_hasColumn rfl rfl rfl (by decide +kernel) (by rw [hR]; exact ⟨Nat.le_of_ble_eq_true rfl, Nat.le_of_ble_eq_true rfl⟩)) [] [1] rfl (by decide) rfl (by decide) xro_nil (List.mem_of_getElem? (i := 0) rfl) (ci := 6) rfl xT_bl (fun _ _ _ _ _ _ _ => trivial) rfl rfl dX9_need_5 rfl rfl (Nat.le_of_ble_eq_true rfl) (q := 8) rfl (k' := 0) rfl (n' := 0) rfl (by rw [hR]; exact ⟨Nat.le_of_ble_eq_true rfl, Nat.le_of_ble_eq_true rfl⟩) (fun v1 w1 hp1 => ?_)
  rcases hp1 with hp1 | hp1
  · skip
    obtain ⟨rfl, rfl, hc2, hc3⟩ := hp1
    refine x_ws (ws' := [(fi, .inr (8, [.ref tO, .ref gO, .ref nO, .ref tb, .ref tb', .ref trO, .ref gA, .ref tP, .int (nI kf)])), (tb, .inr (6, [.ref nz, .ref tl, .ref pg, .ref se, .ref pa, .ref bo, .ref li, .ref ba, .int (nI cols), .int (nI lc), .int (nI smp)])), (li, .inl (cy 4, 24, .inr (.inr (.inr (.inr lnf))))), (ba, .inl (cy 1, 5, .inl (fun k => nI (bal k))))]) (List.append_nil _) ?_
    refine x_if_ne C (tgt := 13) dX9_need_8 (by decide) (q := 11) rfl (a := 1) rfl (fun h4 => ?_) (fun h4 => (by omega : False).elim)
    refine x_iload_n C dX9_need_13 (q := 14) rfl rfl 2 rfl ?_
    refine x_iconst C dX9_need_14 (q := 15) rfl (v := nI 1) (by decide) ?_
    refine x_icmp_lt C (tgt := 23) dX9_need_15 (by decide) (q := 18) rfl (a := y.toInt) (b := 1) rfl rfl (fun h5 => ?_) (fun h5 => ?_)
    · first
      | (exfalso; omega)
      |
        refine x_bipush C dX9_need_23 (q := 25) rfl (v := (-2)) (by decide) ?_
        refine x_iret C hA hQ hr dX9_need_25 (Nat.le_of_ble_eq_true rfl) ?_
        refine ⟨_, ?_, rfl⟩
        unfold needA
        repeat (first | rw [if_pos (by omega)] | rw [if_neg (by omega)])
    · first
      | (exfalso; omega)
      |
        refine x_iload_n C dX9_need_18 (q := 19) rfl rfl 2 rfl ?_
        refine x_iconst C dX9_need_19 (q := 20) rfl (v := nI 4) (by decide) ?_
        refine x_icmp_le C (tgt := 26) dX9_need_20 (by decide) (q := 23) rfl (a := y.toInt) (b := 4) rfl rfl (fun h6 => ?_) (fun h6 => ?_)
        · first
          | (exfalso; omega)
          |
            refine x_iconst C dX9_need_26 (q := 27) rfl (v := nI 1) (by decide) ?_
            refine x_istore_n C (L' := [(3, .int (nI 1)), (0, .ref fi), (1, .int (x)), (2, .int (y))]) dX9_need_27 (q := 28) rfl rfl (by decide) rfl ?_
            have cut28 : ∀ (fuel : Nat) (i : Nat) (b9 : Nat → Nat), (1 ≤ i ∧ i ≤ 25) → (0 ≤ x.toInt ∧ x.toInt < cols ∧ 1 ≤ y.toInt ∧ y.toInt ≤ 4) → (neeS ld x.toInt.toNat lc y.toInt.toNat = (i - 1) + runLen (neeB ld x.toInt.toNat lc y.toInt.toNat) 24 (24 - (i - 1)) (i - 1)) → 25 - i < fuel → xG p l e R s m args below meth c Q D A 4 [(fi, .inr (8, [.ref tO, .ref gO, .ref nO, .ref tb, .ref tb', .ref trO, .ref gA, .ref tP, .int (nI kf)])), (tb, .inr (6, [.ref nz, .ref tl, .ref pg, .ref se, .ref pa, .ref bo, .ref li, .ref ba, .int (nI cols), .int (nI lc), .int (nI smp)])), (li, .inl (cy 4, 24, .inr (.inr (.inr (.inr lnf))))), (ba, .inl (cy 1, 5, .inl (fun k => nI (b9 k))))] 0 0 28 [(0, .ref fi), (1, .int (x)), (2, .int (y)), (3, .int (nI i))] [] := by
              intro fuel
              induction fuel with
              | zero =>
                intro i b9 hi hx9 he hmu
                exact absurd hmu (Nat.not_lt_zero _)
              | succ fuel ih =>
                intro i b9 hi hx9 he hmu
                have ih28 := ih
                clear ih
                refine x_iload_n C dX9_need_28 (q := 29) rfl rfl 3 rfl ?_
                refine x_bipush C dX9_need_29 (q := 31) rfl (v := nI 24) (by decide) ?_
                refine x_icmp_gt C (tgt := 55) dX9_need_31 (by decide) (q := 34) rfl (a := ((i : Nat) : Int)) (b := 24) (nI_toInt (by omega)) rfl (fun h7 => ?_) (fun h7 => ?_)
                · first
                  | (exfalso; omega)
                  |
                    refine x_bipush C dX9_need_55 (q := 57) rfl (v := (-5)) (by decide) ?_
                    refine x_iret C hA hQ hr dX9_need_57 (Nat.le_of_ble_eq_true rfl) ?_
                    have e9 : neeS ld x.toInt.toNat lc y.toInt.toNat = 24 := by rw [he, show i = 25 by omega]; rfl
                    refine ⟨_, ?_, rfl⟩
                    unfold needA
                    rw [if_neg (by omega), if_neg (by omega), if_pos (by omega)]
                · first
                  | (exfalso; omega)
                  |
                    refine x_aload_n C dX9_need_34 (q := 35) rfl rfl 0 rfl ?_
                    refine x_get C (ci := 8) (v := .ref tb) hw0 0 rfl rfl 3 (by decide) hw1 rfl dX9_need_35 (q := 38) rfl ?_
                    refine x_iload_n C dX9_need_38 (q := 39) rfl rfl 1 rfl ?_
                    refine x_iload_n C dX9_need_39 (q := 40) rfl rfl 3 rfl ?_
                    refine x_st (st' := [.int (nI i), .int (nI x.toInt.toNat), .ref tb]) (congrArg (fun z9 => ([.int (nI i), .int z9, .ref tb] : List Value)) (xi_nat (by omega))) ?_
                    refine x_callV C (roW := []) (roR := pl) (c_X7_guessBy l D cy tb nz tl pg se pa bo li ba cols lc smp lnf b9 ld pl x.toInt.toNat i (by first | assumption | omega | (simp only []; omega)) (by first | assumption | omega | (simp only []; omega)) (by assumption) (by assumption) (by first | assumption | omega | (simp only []; omega)) (by first | assumption | omega | (simp only []; omega))) (cwV 2 C.2.2.2.2.1 gX9_need_X7_guessBy rfl rfl rfl (by decide +kernel) (by rw [hR]; exact ⟨Nat.le_of_ble_eq_true rfl, Nat.le_of_ble_eq_true rfl⟩)) [1, 2, 3] [] rfl (by decide) rfl (by decide) hpool (List.mem_of_getElem? (i := 0) rfl) (ci := 6) rfl xT_bl (fun _ _ _ _ _ _ _ => trivial) rfl rfl dX9_need_40 rfl rfl (Nat.le_of_ble_eq_true rfl) (q := 43) rfl (k' := 0) rfl (n' := 0) rfl (by rw [hR]; exact ⟨Nat.le_of_ble_eq_true rfl, Nat.le_of_ble_eq_true rfl⟩) (fun v8 w8 hp8 => ?_)
                    obtain ⟨rfl, rfl⟩ := hp8
                    refine x_ws (ws' := [(fi, .inr (8, [.ref tO, .ref gO, .ref nO, .ref tb, .ref tb', .ref trO, .ref gA, .ref tP, .int (nI kf)])), (tb, .inr (6, [.ref nz, .ref tl, .ref pg, .ref se, .ref pa, .ref bo, .ref li, .ref ba, .int (nI cols), .int (nI lc), .int (nI smp)])), (li, .inl (cy 4, 24, .inr (.inr (.inr (.inr lnf))))), (ba, .inl (cy 1, 5, .inl (fun k => nI ((vtF ld x.toInt.toNat (min i lc)) k))))]) rfl ?_
                    have hgs := gsS_in (vtF ld x.toInt.toNat (min i lc))
                    refine x_iload_n C dX9_need_43 (q := 44) rfl rfl 2 rfl ?_
                    refine x_icmp_ne C (tgt := 49) dX9_need_44 (by decide) (q := 47) rfl (a := ((gsS (vtF ld x.toInt.toNat (min i lc)) : Nat) : Int)) (b := y.toInt) (nI_toInt (by omega)) rfl (fun h9 => ?_) (fun h9 => ?_)
                    · first
                      | (exfalso; omega)
                      |
                        refine x_iinc C (L' := [(3, .int (nI (i + 1))), (0, .ref fi), (1, .int (x)), (2, .int (y))]) dX9_need_49 (q := 52) rfl 3 rfl (v := nI (i + 1)) (nI_add i 1) (by decide) rfl ?_
                        refine x_goto C (tgt := 28) dX9_need_52 (by decide) ?_
                        refine x_L (L' := [(0, .ref fi), (1, .int (x)), (2, .int (y)), (3, .int (nI (i + 1)))]) [1, 2, 3, 0] rfl ?_
                        exact ih28 (i + 1) (vtF ld x.toInt.toNat (min i lc)) (by first | omega | assumption) (by first | omega | assumption) (by have h8 := runLen_step (P := neeB ld x.toInt.toNat lc y.toInt.toNat) (to := 24) (k := i - 1) (by omega) (decide_eq_true (by rw [show i - 1 + 1 = i by omega]; omega)); rw [show i + 1 - 1 = i - 1 + 1 by omega]; omega) (by omega)
                    · first
                      | (exfalso; omega)
                      |
                        refine x_iload_n C dX9_need_47 (q := 48) rfl rfl 3 rfl ?_
                        refine x_iret C hA hQ hr dX9_need_48 (Nat.le_of_ble_eq_true rfl) ?_
                        have e7 : runLen (neeB ld x.toInt.toNat lc y.toInt.toNat) 24 (24 - (i - 1)) (i - 1) = 0 := runLen_stop _ (fun z => (of_decide_eq_true (show decide (¬ gsS (vtF ld x.toInt.toNat (min (i - 1 + 1) lc)) = y.toInt.toNat) = true from z.2)) (by rw [show i - 1 + 1 = i by omega]; omega))
                        have e9 : neeS ld x.toInt.toNat lc y.toInt.toNat = i - 1 := by rw [he, e7]; rfl
                        refine ⟨_, ?_, rfl⟩
                        unfold needA
                        rw [if_neg (by omega), if_neg (by omega), if_neg (by omega), e9, show i - 1 + 1 = i by omega]
            refine x_L (L' := [(0, .ref fi), (1, .int (x)), (2, .int (y)), (3, .int (nI 1))]) [1, 2, 3, 0] rfl ?_
            exact cut28 (25 - 1 + 1) 1 bal (by first | omega | assumption) (by first | omega | assumption) (by rw [Nat.sub_self, Nat.zero_add]; rfl) (by omega)
        · first
          | (exfalso; omega)
          |
            refine x_bipush C dX9_need_23 (q := 25) rfl (v := (-2)) (by decide) ?_
            refine x_iret C hA hQ hr dX9_need_25 (Nat.le_of_ble_eq_true rfl) ?_
            refine ⟨_, ?_, rfl⟩
            unfold needA
            repeat (first | rw [if_pos (by omega)] | rw [if_neg (by omega)])
  · skip
    obtain ⟨rfl, rfl, hc10⟩ := hp1
    refine x_ws (ws' := [(fi, .inr (8, [.ref tO, .ref gO, .ref nO, .ref tb, .ref tb', .ref trO, .ref gA, .ref tP, .int (nI kf)])), (tb, .inr (6, [.ref nz, .ref tl, .ref pg, .ref se, .ref pa, .ref bo, .ref li, .ref ba, .int (nI cols), .int (nI lc), .int (nI smp)])), (li, .inl (cy 4, 24, .inr (.inr (.inr (.inr lnf))))), (ba, .inl (cy 1, 5, .inl (fun k => nI (bal k))))]) (List.append_nil _) ?_
    refine x_if_ne C (tgt := 13) dX9_need_8 (by decide) (q := 11) rfl (a := 0) rfl (fun h11 => (by omega : False).elim) (fun h11 => ?_)
    refine x_iconst C dX9_need_11 (q := 12) rfl (v := (-1)) (by decide) ?_
    refine x_iret C hA hQ hr dX9_need_12 (Nat.le_of_ble_eq_true rfl) ?_
    refine ⟨_, ?_, rfl⟩
    unfold needA
    repeat (first | rw [if_pos (by omega)] | rw [if_neg (by omega)])

set_option maxHeartbeats 4000000 in
set_option maxRecDepth 100000 in
/-- image -/
theorem c_X9_image (l : Launch) (D : va_G) (cy : Nat → ClassId) (fi : Nat) (tO : Nat) (gO : Nat) (nO : Nat) (trO : Nat) (gA : Nat) (tP : Nat) (kf : Nat) (tb : Nat) (nz : Nat) (tl : Nat) (pg : Nat) (se : Nat) (pa : Nat) (bo : Nat) (li : Nat) (ba : Nat) (g0 : Nat) (g1 : Nat) (g2 : Nat) (g3 : Nat) (g4 : Nat) (g5 : Nat) (s1 : Nat) (s2 : Nat) (p1 : Nat) (p2 : Nat) (b1 : Nat) (b2 : Nat) (tb' : Nat) (nz' : Nat) (tl' : Nat) (pg' : Nat) (se' : Nat) (pa' : Nat) (bo' : Nat) (li' : Nat) (ba' : Nat) (g0' : Nat) (g1' : Nat) (g2' : Nat) (g3' : Nat) (g4' : Nat) (g5' : Nat) (s1' : Nat) (s2' : Nat) (p1' : Nat) (p2' : Nat) (b1' : Nat) (b2' : Nat) (cols : Nat) (lc : Nat) (smp : Nat) (nse : Nat) (npa : Nat) (nbo : Nat) (nzf : Nat → Nat) (tlf : Nat → Nat) (lnf : Nat → Option Nat) (P : PS) (ky : Int32) (fs : Nat → Int32) (gs : Nat → Int32) (fp : Nat → Int32) (gp : Nat → Int32) (fb : Nat → Int32) (gb : Nat → Int32) (cols' : Nat) (lc' : Nat) (smp' : Nat) (nse' : Nat) (npa' : Nat) (nbo' : Nat) (nzf' : Nat → Nat) (tlf' : Nat → Nat) (lnf' : Nat → Option Nat) (P' : PS) (ky' : Int32) (fs' : Nat → Int32) (gs' : Nat → Int32) (fp' : Nat → Int32) (gp' : Nat → Int32) (fb' : Nat → Int32) (gb' : Nat → Int32) (pl : va_W) (hn1 : nse ≤ 6) (hn2 : npa ≤ 8) (hn3 : nbo ≤ 8) (hm1 : nse' ≤ 6) (hm2 : npa' ≤ 8) (hm3 : nbo' ≤ 8) (hso : ∀ k x, lnf k = some x → ∃ fa, (x, .inr (3, [.ref fa])) ∈ pl) (hlc : lc ≤ 24) : xMet l D cy xT yX9_image wsX9_image ({ frames := 6, cells := 0, slots := 0, locals := 700 } : Room) [.ref fi] [(fi, .inr (8, [.ref tO, .ref gO, .ref nO, .ref tb, .ref tb', .ref trO, .ref gA, .ref tP, .int (nI kf)])), (tb, .inr (6, [.ref nz, .ref tl, .ref pg, .ref se, .ref pa, .ref bo, .ref li, .ref ba, .int (nI cols), .int (nI lc), .int (nI smp)])), (nz, .inl (cy 1, 5, .inl (fun k => nI (nzf k)))), (tl, .inl (cy 1, 5, .inl (fun k => nI (tlf k)))), (li, .inl (cy 4, 24, .inr (.inr (.inr (.inr lnf))))), (pg, .inr (4, [.ref g0, .ref g1, .ref g2, .ref g3, .ref g4, .ref g5, .int (nI (pMk P)), .int (nI (pRs P)), .int (ky)])), (g0, .inl (cy 1, 5, .inl (fun k => nI ((pSt P) k)))), (g1, .inl (cy 1, 24, .inl (pFa P))), (g2, .inl (cy 1, 24, .inl (pCa P))), (g3, .inl (cy 1, 24, .inl (pDc P))), (g4, .inl (cy 1, 24, .inl (pRl P))), (g5, .inl (cy 1, 24, .inl (fun k => nI ((pLr P) k)))), (se, .inr (1, [.ref s1, .ref s2, .int (nI nse)])), (s1, .inl (cy 1, 6, .inl fs)), (s2, .inl (cy 1, 6, .inl gs)), (pa, .inr (1, [.ref p1, .ref p2, .int (nI npa)])), (p1, .inl (cy 1, 8, .inl fp)), (p2, .inl (cy 1, 8, .inl gp)), (bo, .inr (1, [.ref b1, .ref b2, .int (nI nbo)])), (b1, .inl (cy 1, 8, .inl fb)), (b2, .inl (cy 1, 8, .inl gb)), (tb', .inr (6, [.ref nz', .ref tl', .ref pg', .ref se', .ref pa', .ref bo', .ref li', .ref ba', .int (nI cols'), .int (nI lc'), .int (nI smp')])), (nz', .inl (cy 1, 5, .inl (fun k => nI (nzf' k)))), (tl', .inl (cy 1, 5, .inl (fun k => nI (tlf' k)))), (li', .inl (cy 4, 24, .inr (.inr (.inr (.inr lnf'))))), (pg', .inr (4, [.ref g0', .ref g1', .ref g2', .ref g3', .ref g4', .ref g5', .int (nI (pMk P')), .int (nI (pRs P')), .int (ky')])), (g0', .inl (cy 1, 5, .inl (fun k => nI ((pSt P') k)))), (g1', .inl (cy 1, 24, .inl (pFa P'))), (g2', .inl (cy 1, 24, .inl (pCa P'))), (g3', .inl (cy 1, 24, .inl (pDc P'))), (g4', .inl (cy 1, 24, .inl (pRl P'))), (g5', .inl (cy 1, 24, .inl (fun k => nI ((pLr P') k)))), (se', .inr (1, [.ref s1', .ref s2', .int (nI nse')])), (s1', .inl (cy 1, 6, .inl fs')), (s2', .inl (cy 1, 6, .inl gs')), (pa', .inr (1, [.ref p1', .ref p2', .int (nI npa')])), (p1', .inl (cy 1, 8, .inl fp')), (p2', .inl (cy 1, 8, .inl gp')), (bo', .inr (1, [.ref b1', .ref b2', .int (nI nbo')])), (b1', .inl (cy 1, 8, .inl fb')), (b2', .inl (cy 1, 8, .inl gb'))] pl (fun (v9 : Option Value) (w9 : va_W) => (∃ f1 : Nat → Int32, ∃ q1 : Nat → Int32, ∃ f2 : Nat → Int32, ∃ q2 : Nat → Int32, ∃ f3 : Nat → Int32, ∃ q3 : Nat → Int32, v9 = some (.int (nI lc)) ∧ w9 = [(fi, .inr (8, [.ref tO, .ref gO, .ref nO, .ref tb, .ref tb', .ref trO, .ref gA, .ref tP, .int (nI 1)])), (tb, .inr (6, [.ref nz, .ref tl, .ref pg, .ref se, .ref pa, .ref bo, .ref li, .ref ba, .int (nI cols), .int (nI lc), .int (nI smp)])), (nz, .inl (cy 1, 5, .inl (fun k => nI (nzf k)))), (tl, .inl (cy 1, 5, .inl (fun k => nI (tlf k)))), (li, .inl (cy 4, 24, .inr (.inr (.inr (.inr lnf))))), (pg, .inr (4, [.ref g0, .ref g1, .ref g2, .ref g3, .ref g4, .ref g5, .int (nI (pMk P)), .int (nI (pRs P)), .int (ky)])), (g0, .inl (cy 1, 5, .inl (fun k => nI ((pSt P) k)))), (g1, .inl (cy 1, 24, .inl (pFa P))), (g2, .inl (cy 1, 24, .inl (pCa P))), (g3, .inl (cy 1, 24, .inl (pDc P))), (g4, .inl (cy 1, 24, .inl (pRl P))), (g5, .inl (cy 1, 24, .inl (fun k => nI ((pLr P) k)))), (se, .inr (1, [.ref s1, .ref s2, .int (nI nse)])), (s1, .inl (cy 1, 6, .inl fs)), (s2, .inl (cy 1, 6, .inl gs)), (pa, .inr (1, [.ref p1, .ref p2, .int (nI npa)])), (p1, .inl (cy 1, 8, .inl fp)), (p2, .inl (cy 1, 8, .inl gp)), (bo, .inr (1, [.ref b1, .ref b2, .int (nI nbo)])), (b1, .inl (cy 1, 8, .inl fb)), (b2, .inl (cy 1, 8, .inl gb)), (tb', .inr (6, [.ref nz', .ref tl', .ref pg', .ref se', .ref pa', .ref bo', .ref li', .ref ba', .int (nI cols), .int (nI lc), .int (nI smp)])), (nz', .inl (cy 1, 5, .inl (fun k => nI (nzf k)))), (tl', .inl (cy 1, 5, .inl (fun k => nI (tlf k)))), (li', .inl (cy 4, 24, .inr (.inr (.inr (.inr lnf))))), (pg', .inr (4, [.ref g0', .ref g1', .ref g2', .ref g3', .ref g4', .ref g5', .int (nI (pMk P)), .int (nI (pRs P)), .int (ky)])), (g0', .inl (cy 1, 5, .inl (fun k => nI ((pSt P) k)))), (g1', .inl (cy 1, 24, .inl (pFa P))), (g2', .inl (cy 1, 24, .inl (pCa P))), (g3', .inl (cy 1, 24, .inl (pDc P))), (g4', .inl (cy 1, 24, .inl (pRl P))), (g5', .inl (cy 1, 24, .inl (fun k => nI ((pLr P) k)))), (se', .inr (1, [.ref s1', .ref s2', .int (nI nse)])), (s1', .inl (cy 1, 6, .inl f1)), (s2', .inl (cy 1, 6, .inl q1)), (pa', .inr (1, [.ref p1', .ref p2', .int (nI npa)])), (p1', .inl (cy 1, 8, .inl f2)), (p2', .inl (cy 1, 8, .inl q2)), (bo', .inr (1, [.ref b1', .ref b2', .int (nI nbo)])), (b1', .inl (cy 1, 8, .inl f3)), (b2', .inl (cy 1, 8, .inl q3))] ∧ (∀ j, j < nse → f1 j = fs j) ∧ (∀ j, j < nse → q1 j = gs j) ∧ (∀ j, j < npa → f2 j = fp j) ∧ (∀ j, j < npa → q2 j = gp j) ∧ (∀ j, j < nbo → f3 j = fb j) ∧ (∀ j, j < nbo → q3 j = gb j))) := by
  refine xMet_of (cc := cX9_image) (maxL := 1) (ret := (some .int)) (by decide) rfl (Nat.le_of_ble_eq_true rfl) (fun p e s m args below meth c A R Q hA hR hQ C hr hnm hro hX => ?_)
  have hw0 : ∀ w ∈ u_ws RX9 TX9 9, w ∈ wsX9_image := by decide +kernel
  have hw1 : Cond.fieldLink RX9 37 (TX9 4).1 (TX9 4).2.1 (TX9 4).2.2.1 ∈ wsX9_image := by decide +kernel
  have hw2 : Cond.fieldLink RX9 33 (TX9 3).1 (TX9 3).2.1 (TX9 3).2.2.1 ∈ wsX9_image := by decide +kernel
  have hw3 : Cond.fieldLink RX9 57 (TX9 8).1 (TX9 8).2.1 (TX9 8).2.2.1 ∈ wsX9_image := by decide +kernel
  have hw4 : ∀ w ∈ u_ws RX7 TX7 11, w ∈ wsX9_image := by decide +kernel
  have hw5 : Cond.fieldLink RX9 83 (TX7 9).1 (TX7 9).2.1 (TX7 9).2.2.1 ∈ wsX9_image := by decide +kernel
  refine x_L (L' := [(0, .ref fi)]) [0] rfl ?_
  have hpool : ∀ q ∈ pl, xRo D A s q := hro
  refine x_aload_n C dX9_image_0 (q := 1) rfl rfl 0 rfl ?_
  refine x_get C (ci := 8) (v := .ref tb') hw0 0 rfl rfl 4 (by decide) hw1 rfl dX9_image_1 (q := 4) rfl ?_
  refine x_aload_n C dX9_image_4 (q := 5) rfl rfl 0 rfl ?_
  refine x_get C (ci := 8) (v := .ref tb) hw0 0 rfl rfl 3 (by decide) hw2 rfl dX9_image_5 (q := 8) rfl ?_
  refine x_callV C (roW := []) (roR := pl) (c_X7_copyFrom l D cy tb' nz' tl' pg' se' pa' bo' li' ba' g0' g1' g2' g3' g4' g5' s1' s2' p1' p2' b1' b2' tb nz tl pg se pa bo li ba g0 g1 g2 g3 g4 g5 s1 s2 p1 p2 b1 b2 cols' lc' smp' nse' npa' nbo' nzf' tlf' lnf' P' ky' fs' gs' fp' gp' fb' gb' cols lc smp nse npa nbo nzf tlf lnf P ky fs gs fp gp fb gb pl (by first | assumption | omega | (simp only []; omega)) (by first | assumption | omega | (simp only []; omega)) (by first | assumption | omega | (simp only []; omega)) (by first | assumption | omega | (simp only []; omega)) (by first | assumption | omega | (simp only []; omega)) (by first | assumption | omega | (simp only []; omega)) (by assumption)) (cwV 1 C.2.2.2.2.1 gX9_image_X7_copyFrom rfl rfl rfl (by decide +kernel) (by rw [hR]; exact ⟨Nat.le_of_ble_eq_true rfl, Nat.le_of_ble_eq_true rfl⟩)) [21, 22, 23, 24, 25, 26, 27, 28, 29, 30, 31, 32, 33, 34, 35, 36, 37, 38, 39, 40, 1, 2, 3, 4, 5, 6, 7, 8, 9, 10, 11, 12, 13, 14, 15, 16, 17, 18, 19, 20] [] rfl (by decide) rfl (by decide) hpool (List.mem_of_getElem? (i := 0) rfl) (ci := 6) rfl xT_bl (fun _ _ _ _ _ _ _ => trivial) rfl rfl dX9_image_8 rfl rfl (Nat.le_of_ble_eq_true rfl) (q := 11) rfl (k' := 0) rfl (n' := 0) rfl (by rw [hR]; exact ⟨Nat.le_of_ble_eq_true rfl, Nat.le_of_ble_eq_true rfl⟩) (fun v1 w1 hp1 => ?_)
  obtain ⟨f1_2, q1_3, f2_4, q2_5, f3_6, q3_7, rfl, rfl, hc8, hc9, hc10, hc11, hc12, hc13⟩ := hp1
  refine x_ws (ws' := [(fi, .inr (8, [.ref tO, .ref gO, .ref nO, .ref tb, .ref tb', .ref trO, .ref gA, .ref tP, .int (nI kf)])), (tb, .inr (6, [.ref nz, .ref tl, .ref pg, .ref se, .ref pa, .ref bo, .ref li, .ref ba, .int (nI cols), .int (nI lc), .int (nI smp)])), (nz, .inl (cy 1, 5, .inl (fun k => nI (nzf k)))), (tl, .inl (cy 1, 5, .inl (fun k => nI (tlf k)))), (li, .inl (cy 4, 24, .inr (.inr (.inr (.inr lnf))))), (pg, .inr (4, [.ref g0, .ref g1, .ref g2, .ref g3, .ref g4, .ref g5, .int (nI (pMk P)), .int (nI (pRs P)), .int (ky)])), (g0, .inl (cy 1, 5, .inl (fun k => nI ((pSt P) k)))), (g1, .inl (cy 1, 24, .inl (pFa P))), (g2, .inl (cy 1, 24, .inl (pCa P))), (g3, .inl (cy 1, 24, .inl (pDc P))), (g4, .inl (cy 1, 24, .inl (pRl P))), (g5, .inl (cy 1, 24, .inl (fun k => nI ((pLr P) k)))), (se, .inr (1, [.ref s1, .ref s2, .int (nI nse)])), (s1, .inl (cy 1, 6, .inl fs)), (s2, .inl (cy 1, 6, .inl gs)), (pa, .inr (1, [.ref p1, .ref p2, .int (nI npa)])), (p1, .inl (cy 1, 8, .inl fp)), (p2, .inl (cy 1, 8, .inl gp)), (bo, .inr (1, [.ref b1, .ref b2, .int (nI nbo)])), (b1, .inl (cy 1, 8, .inl fb)), (b2, .inl (cy 1, 8, .inl gb)), (tb', .inr (6, [.ref nz', .ref tl', .ref pg', .ref se', .ref pa', .ref bo', .ref li', .ref ba', .int (nI cols), .int (nI lc), .int (nI smp)])), (nz', .inl (cy 1, 5, .inl (fun k => nI (nzf k)))), (tl', .inl (cy 1, 5, .inl (fun k => nI (tlf k)))), (li', .inl (cy 4, 24, .inr (.inr (.inr (.inr lnf))))), (pg', .inr (4, [.ref g0', .ref g1', .ref g2', .ref g3', .ref g4', .ref g5', .int (nI (pMk P)), .int (nI (pRs P)), .int (ky)])), (g0', .inl (cy 1, 5, .inl (fun k => nI ((pSt P) k)))), (g1', .inl (cy 1, 24, .inl (pFa P))), (g2', .inl (cy 1, 24, .inl (pCa P))), (g3', .inl (cy 1, 24, .inl (pDc P))), (g4', .inl (cy 1, 24, .inl (pRl P))), (g5', .inl (cy 1, 24, .inl (fun k => nI ((pLr P) k)))), (se', .inr (1, [.ref s1', .ref s2', .int (nI nse)])), (s1', .inl (cy 1, 6, .inl f1_2)), (s2', .inl (cy 1, 6, .inl q1_3)), (pa', .inr (1, [.ref p1', .ref p2', .int (nI npa)])), (p1', .inl (cy 1, 8, .inl f2_4)), (p2', .inl (cy 1, 8, .inl q2_5)), (bo', .inr (1, [.ref b1', .ref b2', .int (nI nbo)])), (b1', .inl (cy 1, 8, .inl f3_6)), (b2', .inl (cy 1, 8, .inl q3_7))]) (xput_eq2 [21, 22, 23, 24, 25, 26, 27, 28, 29, 30, 31, 32, 33, 34, 35, 36, 37, 38, 39, 40, 1, 2, 3, 4, 5, 6, 7, 8, 9, 10, 11, 12, 13, 14, 15, 16, 17, 18, 19, 20] [0] 41 [(fi, .inr (8, [.ref tO, .ref gO, .ref nO, .ref tb, .ref tb', .ref trO, .ref gA, .ref tP, .int (nI kf)]))] rfl rfl (by decide) rfl rfl rfl (by decide)) ?_
  refine x_aload_n C dX9_image_11 (q := 12) rfl rfl 0 rfl ?_
  refine x_iconst C dX9_image_12 (q := 13) rfl (v := nI 1) (by decide) ?_
  refine x_put C (ci := 8) (ty := .boolean) (ws' := [(fi, .inr (8, [.ref tO, .ref gO, .ref nO, .ref tb, .ref tb', .ref trO, .ref gA, .ref tP, .int (nI 1)])), (tb, .inr (6, [.ref nz, .ref tl, .ref pg, .ref se, .ref pa, .ref bo, .ref li, .ref ba, .int (nI cols), .int (nI lc), .int (nI smp)])), (nz, .inl (cy 1, 5, .inl (fun k => nI (nzf k)))), (tl, .inl (cy 1, 5, .inl (fun k => nI (tlf k)))), (li, .inl (cy 4, 24, .inr (.inr (.inr (.inr lnf))))), (pg, .inr (4, [.ref g0, .ref g1, .ref g2, .ref g3, .ref g4, .ref g5, .int (nI (pMk P)), .int (nI (pRs P)), .int (ky)])), (g0, .inl (cy 1, 5, .inl (fun k => nI ((pSt P) k)))), (g1, .inl (cy 1, 24, .inl (pFa P))), (g2, .inl (cy 1, 24, .inl (pCa P))), (g3, .inl (cy 1, 24, .inl (pDc P))), (g4, .inl (cy 1, 24, .inl (pRl P))), (g5, .inl (cy 1, 24, .inl (fun k => nI ((pLr P) k)))), (se, .inr (1, [.ref s1, .ref s2, .int (nI nse)])), (s1, .inl (cy 1, 6, .inl fs)), (s2, .inl (cy 1, 6, .inl gs)), (pa, .inr (1, [.ref p1, .ref p2, .int (nI npa)])), (p1, .inl (cy 1, 8, .inl fp)), (p2, .inl (cy 1, 8, .inl gp)), (bo, .inr (1, [.ref b1, .ref b2, .int (nI nbo)])), (b1, .inl (cy 1, 8, .inl fb)), (b2, .inl (cy 1, 8, .inl gb)), (tb', .inr (6, [.ref nz', .ref tl', .ref pg', .ref se', .ref pa', .ref bo', .ref li', .ref ba', .int (nI cols), .int (nI lc), .int (nI smp)])), (nz', .inl (cy 1, 5, .inl (fun k => nI (nzf k)))), (tl', .inl (cy 1, 5, .inl (fun k => nI (tlf k)))), (li', .inl (cy 4, 24, .inr (.inr (.inr (.inr lnf))))), (pg', .inr (4, [.ref g0', .ref g1', .ref g2', .ref g3', .ref g4', .ref g5', .int (nI (pMk P)), .int (nI (pRs P)), .int (ky)])), (g0', .inl (cy 1, 5, .inl (fun k => nI ((pSt P) k)))), (g1', .inl (cy 1, 24, .inl (pFa P))), (g2', .inl (cy 1, 24, .inl (pCa P))), (g3', .inl (cy 1, 24, .inl (pDc P))), (g4', .inl (cy 1, 24, .inl (pRl P))), (g5', .inl (cy 1, 24, .inl (fun k => nI ((pLr P) k)))), (se', .inr (1, [.ref s1', .ref s2', .int (nI nse)])), (s1', .inl (cy 1, 6, .inl f1_2)), (s2', .inl (cy 1, 6, .inl q1_3)), (pa', .inr (1, [.ref p1', .ref p2', .int (nI npa)])), (p1', .inl (cy 1, 8, .inl f2_4)), (p2', .inl (cy 1, 8, .inl q2_5)), (bo', .inr (1, [.ref b1', .ref b2', .int (nI nbo)])), (b1', .inl (cy 1, 8, .inl f3_6)), (b2', .inl (cy 1, 8, .inl q3_7))]) hw0 tyX9 tyX9_ok nmX9 0 rfl rfl 8 (by decide) hw3 rfl (by decide +kernel) rfl rfl (Nat.le_of_ble_eq_true rfl) rfl dX9_image_13 (q := 16) rfl ?_
  refine x_aload_n C dX9_image_16 (q := 17) rfl rfl 0 rfl ?_
  refine x_get C (ci := 8) (v := .ref tb) hw0 0 rfl rfl 3 (by decide) hw2 rfl dX9_image_17 (q := 20) rfl ?_
  refine x_get C (ci := 6) (v := .int (nI lc)) hw4 1 rfl rfl 9 (by decide) hw5 rfl dX9_image_20 (q := 23) rfl ?_
  refine x_iret C hA hQ hr dX9_image_23 (Nat.le_of_ble_eq_true rfl) ?_
  exact ⟨f1_2, q1_3, f2_4, q2_5, f3_6, q3_7, rfl, rfl, hc8, hc9, hc10, hc11, hc12, hc13⟩
