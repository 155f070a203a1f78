
/-- VALUES of ROWS of a column: how many of the first k rows have one; the row behind the last but j -/
def gaN (ld : LD) (lr : Nat → Nat) (c : Nat) : Nat → Nat
  | 0 => 0
  | k + 1 => if dFm ld (lr k) c = 0 then gaN ld lr c k else gaN ld lr c k + 1
def gaF (ld : LD) (lr : Nat → Nat) (ty c : Nat) (g : Nat → Int64) : Nat → (Nat → Int64)
  | 0 => g
  | k + 1 => if dFm ld (lr k) c = 0 then gaF ld lr ty c g k else va_up (gaF ld lr ty c g k) (gaN ld lr c k) (vlS ld ty (lr k) c)
theorem gaN_le (ld : LD) (lr : Nat → Nat) (c : Nat) : ∀ k, gaN ld lr c k ≤ k
  | 0 => Nat.le_refl 0
  | k + 1 => by
    have := gaN_le ld lr c k
    unfold gaN
    split <;> omega

set_option maxHeartbeats 4000000 in
set_option maxRecDepth 100000 in
/-- VALUES are gathered -/
theorem c_X9_gatherValues (l : Launch) (D : va_G) (cy : Nat → ClassId) (fi : Nat) (tO : Nat) (gO : Nat) (nO : Nat) (tb : Nat) (tb' : Nat) (trO : Nat) (gA : Nat) (tP : Nat) (kf : Nat) (nz : Nat) (tl : Nat) (pg : Nat) (se : Nat) (pa : Nat) (bo : Nat) (li : Nat) (ba : Nat) (cols : Nat) (lc : Nat) (smp : Nat) (nzf : Nat → Nat) (tlf : Nat → Nat) (lnf : Nat → Option Nat) (bal : Nat → Nat) (g0 : Nat) (g1 : Nat) (g2 : Nat) (g3 : Nat) (g4 : Nat) (g5 : Nat) (P : PS) (ky : Int32) (ld : LD) (pl : va_W) (ga : Nat → Int64) (y : Int32) (hcols : cols ≤ 5) (hlc : lc ≤ 24) (hTL : TbL cy pl lc lnf ld) (hfm : ∀ k i, dFm ld k i ≤ 4) (htl : ∀ k, tlf k ≤ 4) (hsmp : smp ≤ 24) (hst5 : ∀ k, pSt P k ≤ 4) (hP : InvP ld cols lc P) (hy0 : 0 ≤ y.toInt) (hy1 : y.toInt < cols) : xMet l D cy xT yX9_gatherValues wsX9_gatherValues ({ frames := 9, cells := 0, slots := 0, locals := 1000 } : Room) [.ref fi, .int (y)] [(fi, .inr (8, [.ref tO, .ref gO, .ref nO, .ref tb, .ref tb', .ref trO, .ref gA, .ref tP, .int (nI kf)])), (tb, .inr (6, [.ref nz, .ref tl, .ref pg, .ref se, .ref pa, .ref bo, .ref li, .ref ba, .int (nI cols), .int (nI lc), .int (nI smp)])), (nz, .inl (cy 1, 5, .inl (fun k => nI (nzf k)))), (tl, .inl (cy 1, 5, .inl (fun k => nI (tlf k)))), (li, .inl (cy 4, 24, .inr (.inr (.inr (.inr lnf))))), (ba, .inl (cy 1, 5, .inl (fun k => nI (bal k)))), (pg, .inr (4, [.ref g0, .ref g1, .ref g2, .ref g3, .ref g4, .ref g5, .int (nI (pMk P)), .int (nI (pRs P)), .int (ky)])), (g0, .inl (cy 1, 5, .inl (fun k => nI ((pSt P) k)))), (g1, .inl (cy 1, 24, .inl (pFa P))), (g2, .inl (cy 1, 24, .inl (pCa P))), (g3, .inl (cy 1, 24, .inl (pDc P))), (g4, .inl (cy 1, 24, .inl (pRl P))), (g5, .inl (cy 1, 24, .inl (fun k => nI ((pLr P) k)))), (gA, .inl (cy 2, 24, .inr (.inl ga)))] pl (fun (v9 : Option Value) (w9 : va_W) => (∃ bx : Nat → Nat, v9 = some (.int (nI (gaN ld (pLr P) y.toInt.toNat (pRs P)))) ∧ w9 = [(fi, .inr (8, [.ref tO, .ref gO, .ref nO, .ref tb, .ref tb', .ref trO, .ref gA, .ref tP, .int (nI kf)])), (tb, .inr (6, [.ref nz, .ref tl, .ref pg, .ref se, .ref pa, .ref bo, .ref li, .ref ba, .int (nI cols), .int (nI lc), .int (nI smp)])), (nz, .inl (cy 1, 5, .inl (fun k => nI (nzf k)))), (tl, .inl (cy 1, 5, .inl (fun k => nI (tlf k)))), (li, .inl (cy 4, 24, .inr (.inr (.inr (.inr lnf))))), (ba, .inl (cy 1, 5, .inl (fun k => nI (bx k)))), (pg, .inr (4, [.ref g0, .ref g1, .ref g2, .ref g3, .ref g4, .ref g5, .int (nI (pMk P)), .int (nI (pRs P)), .int (ky)])), (g0, .inl (cy 1, 5, .inl (fun k => nI ((pSt P) k)))), (g1, .inl (cy 1, 24, .inl (pFa P))), (g2, .inl (cy 1, 24, .inl (pCa P))), (g3, .inl (cy 1, 24, .inl (pDc P))), (g4, .inl (cy 1, 24, .inl (pRl P))), (g5, .inl (cy 1, 24, .inl (fun k => nI ((pLr P) k)))), (gA, .inl (cy 2, 24, .inr (.inl (gaF ld (pLr P) (tyS (pSt P) tlf ld y.toInt.toNat (min smp lc)) y.toInt.toNat ga (pRs P)))))])) := by
  refine xMet_of (cc := cX9_gatherValues) (maxL := 5) (ret := (some .int)) (by decide) rfl (Nat.le_of_ble_eq_true rfl) (fun p e s m args below meth c A R Q hA hR hQ C hr hnm hro hX => ?_)
  have hw0 : ∀ w ∈ u_ws RX9 TX9 9, w ∈ wsX9_gatherValues := by decide +kernel
  have hw1 : Cond.fieldLink RX9 33 (TX9 3).1 (TX9 3).2.1 (TX9 3).2.2.1 ∈ wsX9_gatherValues := by decide +kernel
  have hw2 : ∀ w ∈ u_ws RX7 TX7 11, w ∈ wsX9_gatherValues := by decide +kernel
  have hw3 : Cond.fieldLink RX9 109 (TX7 2).1 (TX7 2).2.1 (TX7 2).2.2.1 ∈ wsX9_gatherValues := by decide +kernel
  have hw4 : ∀ w ∈ u_ws RX5 TX5 9, w ∈ wsX9_gatherValues := by decide +kernel
  have hw5 : Cond.fieldLink RX9 173 (TX5 7).1 (TX5 7).2.1 (TX5 7).2.2.1 ∈ wsX9_gatherValues := by decide +kernel
  have hw6 : ∀ w ∈ u_ws RX1 TX1 4, w ∈ wsX9_gatherValues := by decide +kernel
  have hw7 : Cond.fieldLink RX9 154 (TX1 1).1 (TX1 1).2.1 (TX1 1).2.2.1 ∈ wsX9_gatherValues := by decide +kernel
  have hw8 : Cond.fieldLink RX9 47 (TX9 6).1 (TX9 6).2.1 (TX9 6).2.2.1 ∈ wsX9_gatherValues := by decide +kernel
  refine x_L (L' := [(0, .ref fi), (1, .int (y))]) [0, 1] rfl ?_
  have hpool : ∀ q ∈ pl, xRo D A s q := hro
  have hP1 := hP.1
  have hP2 := hP.2.1
  refine x_iconst C dX9_gatherValues_0 (q := 1) rfl (v := nI 0) (by decide) ?_
  refine x_istore_n C (L' := [(2, .int (nI 0)), (0, .ref fi), (1, .int (y))]) dX9_gatherValues_1 (q := 2) rfl rfl (by decide) rfl ?_
  refine x_iconst C dX9_gatherValues_2 (q := 3) rfl (v := nI 0) (by decide) ?_
  refine x_istore_n C (L' := [(3, .int (nI 0)), (2, .int (nI 0)), (0, .ref fi), (1, .int (y))]) dX9_gatherValues_3 (q := 4) rfl rfl (by decide) rfl ?_
  have cut4 : ∀ (fuel : Nat) (i : Nat) (b9 : Nat → Nat) (cn : Nat) (g9 : Nat → Int64), (i ≤ pRs P) → (cn = gaN ld (pLr P) y.toInt.toNat i) → (g9 = gaF ld (pLr P) (tyS (pSt P) tlf ld y.toInt.toNat (min smp lc)) y.toInt.toNat ga i) → pRs P - i < fuel → xG p l e R s m args below meth c Q D A 5 [(fi, .inr (8, [.ref tO, .ref gO, .ref nO, .ref tb, .ref tb', .ref trO, .ref gA, .ref tP, .int (nI kf)])), (tb, .inr (6, [.ref nz, .ref tl, .ref pg, .ref se, .ref pa, .ref bo, .ref li, .ref ba, .int (nI cols), .int (nI lc), .int (nI smp)])), (nz, .inl (cy 1, 5, .inl (fun k => nI (nzf k)))), (tl, .inl (cy 1, 5, .inl (fun k => nI (tlf k)))), (li, .inl (cy 4, 24, .inr (.inr (.inr (.inr lnf))))), (ba, .inl (cy 1, 5, .inl (fun k => nI (b9 k)))), (pg, .inr (4, [.ref g0, .ref g1, .ref g2, .ref g3, .ref g4, .ref g5, .int (nI (pMk P)), .int (nI (pRs P)), .int (ky)])), (g0, .inl (cy 1, 5, .inl (fun k => nI ((pSt P) k)))), (g1, .inl (cy 1, 24, .inl (pFa P))), (g2, .inl (cy 1, 24, .inl (pCa P))), (g3, .inl (cy 1, 24, .inl (pDc P))), (g4, .inl (cy 1, 24, .inl (pRl P))), (g5, .inl (cy 1, 24, .inl (fun k => nI ((pLr P) k)))), (gA, .inl (cy 2, 24, .inr (.inl g9)))] 0 0 4 [(0, .ref fi), (1, .int (y)), (2, .int (nI cn)), (3, .int (nI i))] [] := by
    intro fuel
    induction fuel with
    | zero =>
      intro i b9 cn g9 hi hcn hgf hmu
      exact absurd hmu (Nat.not_lt_zero _)
    | succ fuel ih =>
      intro i b9 cn g9 hi hcn hgf hmu
      have hg9 := gaN_le ld (pLr P) (y.toInt.toNat) i
      have ih4 := ih
      clear ih
      refine x_iload_n C dX9_gatherValues_4 (q := 5) rfl rfl 3 rfl ?_
      refine x_aload_n C dX9_gatherValues_5 (q := 6) rfl rfl 0 rfl ?_
      refine x_get C (ci := 8) (v := .ref tb) hw0 0 rfl rfl 3 (by decide) hw1 rfl dX9_gatherValues_6 (q := 9) rfl ?_
      refine x_get C (ci := 6) (v := .ref pg) hw2 1 rfl rfl 2 (by decide) hw3 rfl dX9_gatherValues_9 (q := 12) rfl ?_
      refine x_get C (ci := 4) (v := .int (nI (pRs P))) hw4 6 rfl rfl 7 (by decide) hw5 rfl dX9_gatherValues_12 (q := 15) rfl ?_
      refine x_icmp_ge C (tgt := 76) dX9_gatherValues_15 (by decide) (q := 18) rfl (a := ((i : Nat) : Int)) (b := ((pRs P : Nat) : Int)) (nI_toInt (by omega)) (nI_toInt (by omega)) (fun h1 => ?_) (fun h1 => ?_)
      · first
        | (exfalso; omega)
        |
          refine x_iload_n C dX9_gatherValues_76 (q := 77) rfl rfl 2 rfl ?_
          refine x_iret C hA hQ hr dX9_gatherValues_77 (Nat.le_of_ble_eq_true rfl) ?_
          have e9 : i = pRs P := by omega
          refine ⟨b9, ?_, ?_⟩
          · rw [hcn, e9]
          · rw [hgf, e9]
      · first
        | (exfalso; omega)
        |
          refine x_aload_n C dX9_gatherValues_18 (q := 19) rfl rfl 0 rfl ?_
          refine x_iload_n C dX9_gatherValues_19 (q := 20) rfl rfl 3 rfl ?_
          refine x_iload_n C dX9_gatherValues_20 (q := 21) rfl rfl 1 rfl ?_
          refine x_callV C (roW := []) (roR := pl) (c_X9_rowField l D cy fi tO gO nO tb tb' trO gA tP kf nz tl pg se pa bo li ba cols lc smp lnf g0 g1 g2 g3 g4 g5 P ky ld pl (nI i) y (by first | assumption | omega | (simp only []; omega)) (by first | assumption | omega | (simp only []; omega)) (by assumption) (by assumption) (by assumption)) (cwV 2 C.2.2.2.2.1 gX9_gatherValues_X9_rowField rfl rfl rfl (by decide +kernel) (by rw [hR]; exact ⟨Nat.le_of_ble_eq_true rfl, Nat.le_of_ble_eq_true rfl⟩)) [0, 1, 4, 6, 7, 8, 9, 10, 11, 12] [] rfl (by decide) rfl (by decide) hpool (List.mem_of_getElem? (i := 0) rfl) (ci := 8) rfl xT_bl (fun _ _ _ _ _ _ _ => trivial) rfl rfl dX9_gatherValues_21 rfl rfl (Nat.le_of_ble_eq_true rfl) (q := 24) rfl (k' := 0) rfl (n' := 0) rfl (by rw [hR]; exact ⟨Nat.le_of_ble_eq_true rfl, Nat.le_of_ble_eq_true rfl⟩) (fun v2 w2 hp2 => ?_)
          rcases hp2 with hp2 | hp2
          · skip
            obtain ⟨q_3, rfl, rfl, hc4, hc5, hc6, hc7, hc8⟩ := hp2
            refine x_ws (ws' := [(fi, .inr (8, [.ref tO, .ref gO, .ref nO, .ref tb, .ref tb', .ref trO, .ref gA, .ref tP, .int (nI kf)])), (tb, .inr (6, [.ref nz, .ref tl, .ref pg, .ref se, .ref pa, .ref bo, .ref li, .ref ba, .int (nI cols), .int (nI lc), .int (nI smp)])), (nz, .inl (cy 1, 5, .inl (fun k => nI (nzf k)))), (tl, .inl (cy 1, 5, .inl (fun k => nI (tlf k)))), (li, .inl (cy 4, 24, .inr (.inr (.inr (.inr lnf))))), (ba, .inl (cy 1, 5, .inl (fun k => nI (b9 k)))), (pg, .inr (4, [.ref g0, .ref g1, .ref g2, .ref g3, .ref g4, .ref g5, .int (nI (pMk P)), .int (nI (pRs P)), .int (ky)])), (g0, .inl (cy 1, 5, .inl (fun k => nI ((pSt P) k)))), (g1, .inl (cy 1, 24, .inl (pFa P))), (g2, .inl (cy 1, 24, .inl (pCa P))), (g3, .inl (cy 1, 24, .inl (pDc P))), (g4, .inl (cy 1, 24, .inl (pRl P))), (g5, .inl (cy 1, 24, .inl (fun k => nI ((pLr P) k)))), (gA, .inl (cy 2, 24, .inr (.inl g9)))]) (xput_eq2 [0, 1, 4, 6, 7, 8, 9, 10, 11, 12] [2, 3, 5, 13] 14 [(nz, .inl (cy 1, 5, .inl (fun k => nI (nzf k)))), (tl, .inl (cy 1, 5, .inl (fun k => nI (tlf k)))), (ba, .inl (cy 1, 5, .inl (fun k => nI (b9 k)))), (gA, .inl (cy 2, 24, .inr (.inl g9)))] rfl rfl (by decide) rfl rfl rfl (by decide)) ?_
            have zi : (nI i).toInt = (i : Int) := nI_toInt (by omega)
            rw [show (nI i).toInt.toNat = i by rw [nI_toInt (by omega)]; rfl] at hc8
            obtain ⟨sg9, kB9, kC9⟩ := hc8
            have hf99 := hfm (pLr P i) y.toInt.toNat
            refine x_astore C (L' := [(4, .ref q_3), (0, .ref fi), (1, .int (y)), (2, .int (nI cn)), (3, .int (nI i))]) dX9_gatherValues_24 (q := 26) rfl (by decide) rfl ?_
            refine x_aload C dX9_gatherValues_26 (q := 28) rfl 0 rfl ?_
            refine x_ifnull C dX9_gatherValues_28 (q := 31) rfl ?_
            refine x_aload C dX9_gatherValues_31 (q := 33) rfl 0 rfl ?_
            refine x_getR C (ci := 0) (v := .int (nI (dFm ld (pLr P i) y.toInt.toNat))) hw6 (hpool _ kB9) rfl 1 (by decide) hw7 rfl dX9_gatherValues_33 (q := 36) rfl ?_
            refine x_if_eq C (tgt := 70) dX9_gatherValues_36 (by decide) (q := 39) rfl (a := ((dFm ld (pLr P i) y.toInt.toNat : Nat) : Int)) (nI_toInt (by omega)) (fun h10 => ?_) (fun h10 => ?_)
            · first
              | (exfalso; omega)
              |
                refine x_iinc C (L' := [(3, .int (nI (i + 1))), (4, .ref q_3), (0, .ref fi), (1, .int (y)), (2, .int (nI cn))]) dX9_gatherValues_70 (q := 73) rfl 4 rfl (v := nI (i + 1)) (nI_add i 1) (by decide) rfl ?_
                refine x_goto C (tgt := 4) dX9_gatherValues_73 (by decide) ?_
                refine x_L (L' := [(0, .ref fi), (1, .int (y)), (2, .int (nI cn)), (3, .int (nI (i + 1)))]) [2, 3, 4, 0] rfl ?_
                exact ih4 (i + 1) b9 cn g9 (by first | omega | assumption) (by first | (unfold gaN; rw [if_pos (by omega)]; exact hcn) | (unfold gaN; rw [if_neg (by omega), hcn])) (by first | (unfold gaF; rw [if_pos (by omega)]; exact hgf) | (unfold gaF; rw [if_neg (by omega), hgf, hcn]; rfl)) (by omega)
            · first
              | (exfalso; omega)
              |
                refine x_iload_n C dX9_gatherValues_39 (q := 40) rfl rfl 3 rfl ?_
                refine x_aload_n C dX9_gatherValues_40 (q := 41) rfl rfl 1 rfl ?_
                refine x_get C (ci := 8) (v := .ref gA) hw0 0 rfl rfl 6 (by decide) hw8 rfl dX9_gatherValues_41 (q := 44) rfl ?_
                refine x_alen C 13 2 rfl rfl (v := nI 24) rfl dX9_gatherValues_44 (q := 45) rfl ?_
                refine x_icmp_ge C (tgt := 70) dX9_gatherValues_45 (by decide) (q := 48) rfl (a := ((cn : Nat) : Int)) (b := 24) (nI_toInt (by omega)) rfl (fun h11 => ?_) (fun h11 => ?_)
                · first
                  | (exfalso; omega)
                  |
                    refine x_iinc C (L' := [(3, .int (nI (i + 1))), (4, .ref q_3), (0, .ref fi), (1, .int (y)), (2, .int (nI cn))]) dX9_gatherValues_70 (q := 73) rfl 4 rfl (v := nI (i + 1)) (nI_add i 1) (by decide) rfl ?_
                    refine x_goto C (tgt := 4) dX9_gatherValues_73 (by decide) ?_
                    refine x_L (L' := [(0, .ref fi), (1, .int (y)), (2, .int (nI cn)), (3, .int (nI (i + 1)))]) [2, 3, 4, 0] rfl ?_
                    exact ih4 (i + 1) b9 cn g9 (by first | omega | assumption) (by first | (unfold gaN; rw [if_pos (by omega)]; exact hcn) | (unfold gaN; rw [if_neg (by omega), hcn])) (by first | (unfold gaF; rw [if_pos (by omega)]; exact hgf) | (unfold gaF; rw [if_neg (by omega), hgf, hcn]; rfl)) (by omega)
                · first
                  | (exfalso; omega)
                  |
                    refine x_aload_n C dX9_gatherValues_48 (q := 49) rfl rfl 1 rfl ?_
                    refine x_get C (ci := 8) (v := .ref gA) hw0 0 rfl rfl 6 (by decide) hw8 rfl dX9_gatherValues_49 (q := 52) rfl ?_
                    refine x_iload_n C dX9_gatherValues_52 (q := 53) rfl rfl 3 rfl ?_
                    refine x_aload C dX9_gatherValues_53 (q := 55) rfl 0 rfl ?_
                    refine x_aload_n C dX9_gatherValues_55 (q := 56) rfl rfl 1 rfl ?_
                    refine x_get C (ci := 8) (v := .ref tb) hw0 0 rfl rfl 3 (by decide) hw1 rfl dX9_gatherValues_56 (q := 59) rfl ?_
                    refine x_iload_n C dX9_gatherValues_59 (q := 60) rfl rfl 2 rfl ?_
                    refine x_st (st' := [.int (nI y.toInt.toNat), .ref tb, .ref q_3, .int (nI cn), .ref gA]) (congrArg (fun z9 => ([.int z9, .ref tb, .ref q_3, .int (nI cn), .ref gA] : List Value)) (xi_nat (by omega))) ?_
                    refine x_callV C (roW := []) (roR := pl) (c_X7_typeOf l D cy tb nz tl pg se pa bo li ba cols lc smp tlf lnf b9 g0 g1 g2 g3 g4 g5 (pMk P) (pRs P) ky (pSt P) ld pl y.toInt.toNat (by first | assumption | omega | (simp only []; omega)) (by first | assumption | omega | (simp only []; omega)) (by assumption) (by assumption) (by assumption) (by first | assumption | omega | (simp only []; omega)) (by first | assumption | omega | (simp only []; omega)) (by assumption)) (cwV 1 C.2.2.2.2.1 gX9_gatherValues_X7_typeOf rfl rfl rfl (by decide +kernel) (by rw [hR]; exact ⟨Nat.le_of_ble_eq_true rfl, Nat.le_of_ble_eq_true rfl⟩)) [1, 3, 4, 5, 6, 7] [] rfl (by decide) rfl (by decide) hpool (List.mem_of_getElem? (i := 0) rfl) (ci := 6) rfl xT_bl (fun _ _ _ _ _ _ _ => trivial) rfl rfl dX9_gatherValues_60 rfl rfl (Nat.le_of_ble_eq_true rfl) (q := 63) rfl (k' := 0) rfl (n' := 0) rfl (by rw [hR]; exact ⟨Nat.le_of_ble_eq_true rfl, Nat.le_of_ble_eq_true rfl⟩) (fun v12 w12 hp12 => ?_)
                    obtain ⟨b2_13, rfl, rfl⟩ := hp12
                    refine x_ws (ws' := [(fi, .inr (8, [.ref tO, .ref gO, .ref nO, .ref tb, .ref tb', .ref trO, .ref gA, .ref tP, .int (nI kf)])), (tb, .inr (6, [.ref nz, .ref tl, .ref pg, .ref se, .ref pa, .ref bo, .ref li, .ref ba, .int (nI cols), .int (nI lc), .int (nI smp)])), (nz, .inl (cy 1, 5, .inl (fun k => nI (nzf k)))), (tl, .inl (cy 1, 5, .inl (fun k => nI (tlf k)))), (li, .inl (cy 4, 24, .inr (.inr (.inr (.inr lnf))))), (ba, .inl (cy 1, 5, .inl (fun k => nI (b2_13 k)))), (pg, .inr (4, [.ref g0, .ref g1, .ref g2, .ref g3, .ref g4, .ref g5, .int (nI (pMk P)), .int (nI (pRs P)), .int (ky)])), (g0, .inl (cy 1, 5, .inl (fun k => nI ((pSt P) k)))), (g1, .inl (cy 1, 24, .inl (pFa P))), (g2, .inl (cy 1, 24, .inl (pCa P))), (g3, .inl (cy 1, 24, .inl (pDc P))), (g4, .inl (cy 1, 24, .inl (pRl P))), (g5, .inl (cy 1, 24, .inl (fun k => nI ((pLr P) k)))), (gA, .inl (cy 2, 24, .inr (.inl g9)))]) rfl ?_
                    have hty9 := tyS_le (ld := ld) (c := y.toInt.toNat) (z := min smp lc) hst5 htl
                    refine x_callV C (roW := []) (roR := [(q_3, .inr (0, [.ref sg9, .int (nI (dFm ld (pLr P i) y.toInt.toNat)), .long (dNm ld (pLr P i) y.toInt.toNat), .long (dWd ld (pLr P i) y.toInt.toNat)]))]) (c_X1_valueAs l D cy q_3 sg9 (dFm ld (pLr P i) y.toInt.toNat) (dNm ld (pLr P i) y.toInt.toNat) (dWd ld (pLr P i) y.toInt.toNat) (tyS (pSt P) tlf ld y.toInt.toNat (min smp lc)) (by first | assumption | omega | (simp only []; omega)) (by first | assumption | omega | (simp only []; omega))) (cwV 1 C.2.2.2.2.1 gX9_gatherValues_X1_valueAs rfl rfl rfl (by decide +kernel) (by rw [hR]; exact ⟨Nat.le_of_ble_eq_true rfl, Nat.le_of_ble_eq_true rfl⟩)) [] [] rfl (by decide) rfl (by decide) (xro_cons (hpool _ kB9) xro_nil) (List.mem_of_getElem? (i := 0) rfl) (ci := 0) rfl xT_bl (fun _ _ _ _ _ _ _ => trivial) rfl rfl dX9_gatherValues_63 rfl rfl (Nat.le_of_ble_eq_true rfl) (q := 66) rfl (k' := 0) rfl (n' := 0) rfl (by rw [hR]; exact ⟨Nat.le_of_ble_eq_true rfl, Nat.le_of_ble_eq_true rfl⟩) (fun v14 w14 hp14 => ?_)
                    obtain ⟨rfl, rfl⟩ := hp14
                    refine x_ws (ws' := [(fi, .inr (8, [.ref tO, .ref gO, .ref nO, .ref tb, .ref tb', .ref trO, .ref gA, .ref tP, .int (nI kf)])), (tb, .inr (6, [.ref nz, .ref tl, .ref pg, .ref se, .ref pa, .ref bo, .ref li, .ref ba, .int (nI cols), .int (nI lc), .int (nI smp)])), (nz, .inl (cy 1, 5, .inl (fun k => nI (nzf k)))), (tl, .inl (cy 1, 5, .inl (fun k => nI (tlf k)))), (li, .inl (cy 4, 24, .inr (.inr (.inr (.inr lnf))))), (ba, .inl (cy 1, 5, .inl (fun k => nI (b2_13 k)))), (pg, .inr (4, [.ref g0, .ref g1, .ref g2, .ref g3, .ref g4, .ref g5, .int (nI (pMk P)), .int (nI (pRs P)), .int (ky)])), (g0, .inl (cy 1, 5, .inl (fun k => nI ((pSt P) k)))), (g1, .inl (cy 1, 24, .inl (pFa P))), (g2, .inl (cy 1, 24, .inl (pCa P))), (g3, .inl (cy 1, 24, .inl (pDc P))), (g4, .inl (cy 1, 24, .inl (pRl P))), (g5, .inl (cy 1, 24, .inl (fun k => nI ((pLr P) k)))), (gA, .inl (cy 2, 24, .inr (.inl g9)))]) (List.append_nil _) ?_
                    refine x_last C (ws' := [(fi, .inr (8, [.ref tO, .ref gO, .ref nO, .ref tb, .ref tb', .ref trO, .ref gA, .ref tP, .int (nI kf)])), (tb, .inr (6, [.ref nz, .ref tl, .ref pg, .ref se, .ref pa, .ref bo, .ref li, .ref ba, .int (nI cols), .int (nI lc), .int (nI smp)])), (nz, .inl (cy 1, 5, .inl (fun k => nI (nzf k)))), (tl, .inl (cy 1, 5, .inl (fun k => nI (tlf k)))), (li, .inl (cy 4, 24, .inr (.inr (.inr (.inr lnf))))), (ba, .inl (cy 1, 5, .inl (fun k => nI (b2_13 k)))), (pg, .inr (4, [.ref g0, .ref g1, .ref g2, .ref g3, .ref g4, .ref g5, .int (nI (pMk P)), .int (nI (pRs P)), .int (ky)])), (g0, .inl (cy 1, 5, .inl (fun k => nI ((pSt P) k)))), (g1, .inl (cy 1, 24, .inl (pFa P))), (g2, .inl (cy 1, 24, .inl (pCa P))), (g3, .inl (cy 1, 24, .inl (pDc P))), (g4, .inl (cy 1, 24, .inl (pRl P))), (g5, .inl (cy 1, 24, .inl (fun k => nI ((pLr P) k)))), (gA, .inl (cy 2, 24, .inr (.inl (va_up g9 cn (valS (dFm ld (pLr P i) y.toInt.toNat) (dNm ld (pLr P i) y.toInt.toNat) (dWd ld (pLr P i) y.toInt.toNat) (tyS (pSt P) tlf ld y.toInt.toNat (min smp lc)))))))]) 13 rfl (j := cn) (nI_toInt (by omega)) (by omega) (rfl) rfl dX9_gatherValues_66 (q := 67) rfl ?_
                    refine x_iinc C (L' := [(2, .int (nI (cn + 1))), (4, .ref q_3), (0, .ref fi), (1, .int (y)), (3, .int (nI i))]) dX9_gatherValues_67 (q := 70) rfl 3 rfl (v := nI (cn + 1)) (nI_add cn 1) (by decide) rfl ?_
                    refine x_iinc C (L' := [(3, .int (nI (i + 1))), (2, .int (nI (cn + 1))), (4, .ref q_3), (0, .ref fi), (1, .int (y))]) dX9_gatherValues_70 (q := 73) rfl 4 rfl (v := nI (i + 1)) (nI_add i 1) (by decide) rfl ?_
                    refine x_goto C (tgt := 4) dX9_gatherValues_73 (by decide) ?_
                    refine x_L (L' := [(0, .ref fi), (1, .int (y)), (2, .int (nI (cn + 1))), (3, .int (nI (i + 1)))]) [3, 4, 1, 0] rfl ?_
                    exact ih4 (i + 1) b2_13 (cn + 1) (va_up g9 cn (valS (dFm ld (pLr P i) y.toInt.toNat) (dNm ld (pLr P i) y.toInt.toNat) (dWd ld (pLr P i) y.toInt.toNat) (tyS (pSt P) tlf ld y.toInt.toNat (min smp lc)))) (by first | omega | assumption) (by first | (unfold gaN; rw [if_pos (by omega)]; exact hcn) | (unfold gaN; rw [if_neg (by omega), hcn])) (by first | (unfold gaF; rw [if_pos (by omega)]; exact hgf) | (unfold gaF; rw [if_neg (by omega), hgf, hcn]; rfl)) (by omega)
          · skip
            obtain ⟨rfl, rfl, hc15⟩ := hp2
            refine x_ws (ws' := [(fi, .inr (8, [.ref tO, .ref gO, .ref nO, .ref tb, .ref tb', .ref trO, .ref gA, .ref tP, .int (nI kf)])), (tb, .inr (6, [.ref nz, .ref tl, .ref pg, .ref se, .ref pa, .ref bo, .ref li, .ref ba, .int (nI cols), .int (nI lc), .int (nI smp)])), (nz, .inl (cy 1, 5, .inl (fun k => nI (nzf k)))), (tl, .inl (cy 1, 5, .inl (fun k => nI (tlf k)))), (li, .inl (cy 4, 24, .inr (.inr (.inr (.inr lnf))))), (ba, .inl (cy 1, 5, .inl (fun k => nI (b9 k)))), (pg, .inr (4, [.ref g0, .ref g1, .ref g2, .ref g3, .ref g4, .ref g5, .int (nI (pMk P)), .int (nI (pRs P)), .int (ky)])), (g0, .inl (cy 1, 5, .inl (fun k => nI ((pSt P) k)))), (g1, .inl (cy 1, 24, .inl (pFa P))), (g2, .inl (cy 1, 24, .inl (pCa P))), (g3, .inl (cy 1, 24, .inl (pDc P))), (g4, .inl (cy 1, 24, .inl (pRl P))), (g5, .inl (cy 1, 24, .inl (fun k => nI ((pLr P) k)))), (gA, .inl (cy 2, 24, .inr (.inl g9)))]) (xput_eq2 [0, 1, 4, 6, 7, 8, 9, 10, 11, 12] [2, 3, 5, 13] 14 [(nz, .inl (cy 1, 5, .inl (fun k => nI (nzf k)))), (tl, .inl (cy 1, 5, .inl (fun k => nI (tlf k)))), (ba, .inl (cy 1, 5, .inl (fun k => nI (b9 k)))), (gA, .inl (cy 2, 24, .inr (.inl g9)))] rfl rfl (by decide) rfl rfl rfl (by decide)) ?_
            have zi : (nI i).toInt = (i : Int) := nI_toInt (by omega)
            exfalso; omega
  refine x_L (L' := [(0, .ref fi), (1, .int (y)), (2, .int (nI 0)), (3, .int (nI 0))]) [2, 3, 1, 0] rfl ?_
  exact cut4 (pRs P - 0 + 1) 0 bal 0 ga (by first | omega | assumption) (by rfl) (by rfl) (by omega)
