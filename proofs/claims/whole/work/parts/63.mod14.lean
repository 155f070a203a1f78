
/-- the bytes of the lines, and what they are -/
def MdB (ld : LD) (lc : Nat) (by9 lz : Nat → Nat) (lt : Nat → Nat → Nat) (ln : Nat → Nat) : Prop := ∀ k, k < lc → lz k = ln k ∧ ln k ≤ 60 ∧ (∀ j, j < ln k → by9 (60 * k + j) = lt k j) ∧ (∀ j, lt k j < 128) ∧ dNf ld k = nF (lt k) (ln k) ∧ ∀ i, i < dNf ld k → fLen (lt k) (ln k) i ≤ 12 ∧ dFm ld k i = FM (lt k) (ln k) i ∧ dNm ld k i = NM (lt k) (ln k) i ∧ dWd ld k i = WD (lt k) (ln k) i ∧ dBl ld k i = fLen (lt k) (ln k) i ∧ dBs ld k i = fBy (lt k) (ln k) i
theorem cntE_congr {f g : Nat → Int32} {x : Int32} : ∀ k, (∀ j, j < k → f j = g j) → cntE f x k = cntE g x k
  | 0, _ => rfl
  | k + 1, h => by
    unfold cntE
    rw [cntE_congr k (fun j hj => h j (by omega)), h k (by omega)]
theorem tyS_congr {st st' tl : Nat → Nat} {ld : LD} {c z : Nat} (h : st c = st' c) : tyS st tl ld c z = tyS st' tl ld c z := by
  unfold tyS
  rw [h]

set_option maxHeartbeats 4000000 in
set_option maxRecDepth 100000 in
/-- so many lines come -/
theorem c_X10_goesOn (l : Launch) (D : va_G) (cy : Nat → ClassId) (mo : Nat) (mr : Nat → Nat) (cols : Nat) (lc : Nat) (smp : Nat) (nse : Nat) (npa : Nat) (nbo : Nat) (tn : Nat) (ik : Nat) (ky : Int32) (j0 : Int32) (j1 : Int32) (j2 : Int32) (j3 : Int32) (j4 : Int32) (P : PS) (fn : Nat → Nat) (fo : Nat → Nat) (ex : Nat → Int64) (wo : Nat → Int64) (tl9 : Nat → Nat) (st9 : Nat → Nat) (lr9 : Nat → Nat) (rl9 : Nat → Int32) (fa9 : Nat → Int32) (ca9 : Nat → Int32) (dc9 : Nat → Int32) (ld : LD) (n9 : Nat) (hml : MdL ld lc fn fo ex wo) (hfo4 : ∀ q, fo q ≤ 4) (hfn : ∀ q, fn q ≤ 61) (hlc : lc ≤ 24) (hF : InvF ld cols lc P) (htl9 : ∀ k, tl9 k ≤ 4) (hst9 : ∀ k, st9 k ≤ 4) (hcols : cols ≤ 5) (hky : -1 ≤ ky.toInt ∧ ky.toInt < cols) (hsmp : smp ≤ 24) (hlr9 : ∀ k, lr9 k < 24) (hmp : MdP cols P st9 lr9 rl9 fa9 ca9 dc9) (hn9 : n9 < 1000) : xMet l D cy xT yX10_goesOn wsX10_goesOn ({ frames := 7, cells := 0, slots := 0, locals := 1200 } : Room) [.ref mo, .int (nI n9)] [(mo, .inr (9, [.int (nI cols), .int (nI lc), .int (nI smp), .int (ky), .ref (mr 0), .ref (mr 1), .ref (mr 2), .ref (mr 3), .ref (mr 4), .ref (mr 5), .ref (mr 6), .ref (mr 7), .ref (mr 8), .ref (mr 9), .int (nI (pMk P)), .int (nI (pRs P)), .ref (mr 10), .ref (mr 11), .ref (mr 12), .ref (mr 13), .ref (mr 14), .ref (mr 15), .ref (mr 16), .ref (mr 17), .ref (mr 18), .ref (mr 19), .ref (mr 20), .int (nI nse), .int (nI npa), .int (nI nbo), .ref (mr 21), .int (nI tn), .ref (mr 22), .int (nI ik), .int (j0), .int (j1), .ref (mr 23), .int (j2), .ref (mr 24), .ref (mr 25), .int (j3), .ref (mr 26), .int (j4), .ref (mr 27), .ref (mr 28), .ref (mr 29), .ref (mr 30)])), (mr 6, .inl (cy 1, 24, .inl (fun k => nI (fn k)))), (mr 7, .inl (cy 1, 120, .inl (fun k => nI (fo k)))), (mr 8, .inl (cy 2, 120, .inr (.inl ex))), (mr 9, .inl (cy 2, 120, .inr (.inl wo))), (mr 2, .inl (cy 1, 5, .inl (fun k => nI (tl9 k)))), (mr 3, .inl (cy 1, 5, .inl (fun k => nI (st9 k)))), (mr 10, .inl (cy 1, 24, .inl (fun k => nI (lr9 k)))), (mr 11, .inl (cy 1, 24, .inl rl9)), (mr 12, .inl (cy 1, 24, .inl fa9)), (mr 13, .inl (cy 1, 24, .inl ca9)), (mr 14, .inl (cy 1, 24, .inl dc9))] [] (fun (v9 : Option Value) (w9 : va_W) => (∃ st2 : Nat → Nat, ∃ lr2 : Nat → Nat, ∃ rl2 : Nat → Int32, ∃ fa2 : Nat → Int32, ∃ ca2 : Nat → Int32, ∃ dc2 : Nat → Int32, v9 = some (.int (nI (min n9 (lc - pMk P)))) ∧ w9 = [(mo, .inr (9, [.int (nI cols), .int (nI lc), .int (nI smp), .int (ky), .ref (mr 0), .ref (mr 1), .ref (mr 2), .ref (mr 3), .ref (mr 4), .ref (mr 5), .ref (mr 6), .ref (mr 7), .ref (mr 8), .ref (mr 9), .int (nI (pMk ((goS ld cols tl9 (min smp lc) ky.toInt (min n9 (lc - pMk P)) P)))), .int (nI (pRs ((goS ld cols tl9 (min smp lc) ky.toInt (min n9 (lc - pMk P)) P)))), .ref (mr 10), .ref (mr 11), .ref (mr 12), .ref (mr 13), .ref (mr 14), .ref (mr 15), .ref (mr 16), .ref (mr 17), .ref (mr 18), .ref (mr 19), .ref (mr 20), .int (nI nse), .int (nI npa), .int (nI nbo), .ref (mr 21), .int (nI tn), .ref (mr 22), .int (nI ik), .int (j0), .int (j1), .ref (mr 23), .int (j2), .ref (mr 24), .ref (mr 25), .int (j3), .ref (mr 26), .int (j4), .ref (mr 27), .ref (mr 28), .ref (mr 29), .ref (mr 30)])), (mr 6, .inl (cy 1, 24, .inl (fun k => nI (fn k)))), (mr 7, .inl (cy 1, 120, .inl (fun k => nI (fo k)))), (mr 8, .inl (cy 2, 120, .inr (.inl ex))), (mr 9, .inl (cy 2, 120, .inr (.inl wo))), (mr 2, .inl (cy 1, 5, .inl (fun k => nI (tl9 k)))), (mr 3, .inl (cy 1, 5, .inl (fun k => nI (st2 k)))), (mr 10, .inl (cy 1, 24, .inl (fun k => nI (lr2 k)))), (mr 11, .inl (cy 1, 24, .inl rl2)), (mr 12, .inl (cy 1, 24, .inl fa2)), (mr 13, .inl (cy 1, 24, .inl ca2)), (mr 14, .inl (cy 1, 24, .inl dc2))] ∧ MdP cols ((goS ld cols tl9 (min smp lc) ky.toInt (min n9 (lc - pMk P)) P)) st2 lr2 rl2 fa2 ca2 dc2 ∧ (∀ k, st2 k ≤ 4) ∧ (∀ k, lr2 k < 24))) := by
  refine xMet_of (cc := cX10_goesOn) (maxL := 3) (ret := (some .int)) (by decide) rfl (Nat.le_of_ble_eq_true rfl) (fun p e s m args below meth c A R Q hA hR hQ C hr hnm hro hX => ?_)
  have hw0 : ∀ w ∈ u_ws RX10 TX10 47, w ∈ wsX10_goesOn := by decide +kernel
  have hw1 : Cond.fieldLink RX10 142 (TX10 14).1 (TX10 14).2.1 (TX10 14).2.2.1 ∈ wsX10_goesOn := by decide +kernel
  have hw2 : Cond.fieldLink RX10 125 (TX10 1).1 (TX10 1).2.1 (TX10 1).2.2.1 ∈ wsX10_goesOn := by decide +kernel
  refine x_L (L' := [(0, .ref mo), (1, .int (nI n9))]) [0, 1] rfl ?_
  refine x_iconst C dX10_goesOn_0 (q := 1) rfl (v := nI 0) (by decide) ?_
  refine x_istore_n C (L' := [(2, .int (nI 0)), (0, .ref mo), (1, .int (nI n9))]) dX10_goesOn_1 (q := 2) rfl rfl (by decide) rfl ?_
  have cut2 : ∀ (fuel : Nat) (j : Nat) (Pq : PS) (sA : Nat → Nat) (lA : Nat → Nat) (rA : Nat → Int32) (fA : Nat → Int32) (cA : Nat → Int32) (dA : Nat → Int32), (j ≤ n9) → (Pq = (goS ld cols tl9 (min smp lc) ky.toInt j P)) → (InvF ld cols lc Pq) → (MdP cols Pq sA lA rA fA cA dA) → (pMk Pq = pMk P + j) → (∀ k, sA k ≤ 4) → (∀ k, lA k < 24) → n9 - j < fuel → xG p l e R s m args below meth c Q D A 3 [(mo, .inr (9, [.int (nI cols), .int (nI lc), .int (nI smp), .int (ky), .ref (mr 0), .ref (mr 1), .ref (mr 2), .ref (mr 3), .ref (mr 4), .ref (mr 5), .ref (mr 6), .ref (mr 7), .ref (mr 8), .ref (mr 9), .int (nI (pMk Pq)), .int (nI (pRs Pq)), .ref (mr 10), .ref (mr 11), .ref (mr 12), .ref (mr 13), .ref (mr 14), .ref (mr 15), .ref (mr 16), .ref (mr 17), .ref (mr 18), .ref (mr 19), .ref (mr 20), .int (nI nse), .int (nI npa), .int (nI nbo), .ref (mr 21), .int (nI tn), .ref (mr 22), .int (nI ik), .int (j0), .int (j1), .ref (mr 23), .int (j2), .ref (mr 24), .ref (mr 25), .int (j3), .ref (mr 26), .int (j4), .ref (mr 27), .ref (mr 28), .ref (mr 29), .ref (mr 30)])), (mr 6, .inl (cy 1, 24, .inl (fun k => nI (fn k)))), (mr 7, .inl (cy 1, 120, .inl (fun k => nI (fo k)))), (mr 8, .inl (cy 2, 120, .inr (.inl ex))), (mr 9, .inl (cy 2, 120, .inr (.inl wo))), (mr 2, .inl (cy 1, 5, .inl (fun k => nI (tl9 k)))), (mr 3, .inl (cy 1, 5, .inl (fun k => nI (sA k)))), (mr 10, .inl (cy 1, 24, .inl (fun k => nI (lA k)))), (mr 11, .inl (cy 1, 24, .inl rA)), (mr 12, .inl (cy 1, 24, .inl fA)), (mr 13, .inl (cy 1, 24, .inl cA)), (mr 14, .inl (cy 1, 24, .inl dA))] 0 0 2 [(0, .ref mo), (1, .int (nI n9)), (2, .int (nI j))] [] := by
    intro fuel
    induction fuel with
    | zero =>
      intro j Pq sA lA rA fA cA dA hj hPq hFq hmq hmkq hs4 hl4 hmu
      exact absurd hmu (Nat.not_lt_zero _)
    | succ fuel ih =>
      intro j Pq sA lA rA fA cA dA hj hPq hFq hmq hmkq hs4 hl4 hmu
      have hIq := hFq.1
      have hq1 := hIq.1
      have hq2 := hIq.2.1
      have ih2 := ih
      clear ih
      refine x_iload_n C dX10_goesOn_2 (q := 3) rfl rfl 2 rfl ?_
      refine x_iload_n C dX10_goesOn_3 (q := 4) rfl rfl 1 rfl ?_
      refine x_icmp_ge C (tgt := 28) dX10_goesOn_4 (by decide) (q := 7) rfl (a := ((j : Nat) : Int)) (b := ((n9 : Nat) : Int)) (nI_toInt (by omega)) (nI_toInt (by omega)) (fun h1 => ?_) (fun h1 => ?_)
      · first
        | (exfalso; omega)
        |
          refine x_iload_n C dX10_goesOn_28 (q := 29) rfl rfl 2 rfl ?_
          refine x_iret C hA hQ hr dX10_goesOn_29 (Nat.le_of_ble_eq_true rfl) ?_
          have hIP := hF.1.2.1
          have e9 : j = min n9 (lc - pMk P) := by omega
          rw [e9] at hPq
          subst hPq
          refine ⟨sA, lA, rA, fA, cA, dA, ?_, rfl, hmq, hs4, hl4⟩
          rw [e9]
      · first
        | (exfalso; omega)
        |
          refine x_aload_n C dX10_goesOn_7 (q := 8) rfl rfl 0 rfl ?_
          refine x_get C (ci := 9) (v := .int (nI (pMk Pq))) hw0 0 rfl rfl 14 (by decide) hw1 rfl dX10_goesOn_8 (q := 11) rfl ?_
          refine x_aload_n C dX10_goesOn_11 (q := 12) rfl rfl 0 rfl ?_
          refine x_get C (ci := 9) (v := .int (nI lc)) hw0 0 rfl rfl 1 (by decide) hw2 rfl dX10_goesOn_12 (q := 15) rfl ?_
          refine x_icmp_ge C (tgt := 28) dX10_goesOn_15 (by decide) (q := 18) rfl (a := ((pMk Pq : Nat) : Int)) (b := ((lc : Nat) : Int)) (nI_toInt (by omega)) (nI_toInt (by omega)) (fun h2 => ?_) (fun h2 => ?_)
          · first
            | (exfalso; omega)
            |
              refine x_iload_n C dX10_goesOn_28 (q := 29) rfl rfl 2 rfl ?_
              refine x_iret C hA hQ hr dX10_goesOn_29 (Nat.le_of_ble_eq_true rfl) ?_
              have hIP := hF.1.2.1
              have e9 : j = min n9 (lc - pMk P) := by omega
              rw [e9] at hPq
              subst hPq
              refine ⟨sA, lA, rA, fA, cA, dA, ?_, rfl, hmq, hs4, hl4⟩
              rw [e9]
          · first
            | (exfalso; omega)
            |
              refine x_aload_n C dX10_goesOn_18 (q := 19) rfl rfl 0 rfl ?_
              refine x_callV C (roW := []) (roR := []) (c_X10_comes l D cy mo mr cols lc smp nse npa nbo tn ik ky j0 j1 j2 j3 j4 Pq fn fo ex wo tl9 sA lA rA fA cA dA ld (by assumption) (by assumption) (by assumption) (by first | assumption | omega | (simp only []; omega)) (by assumption) (by assumption) (by assumption) (by first | assumption | omega | (simp only []; omega)) (by first | assumption | omega | (simp only []; omega)) (by first | assumption | omega | (simp only []; omega)) (by assumption) (by assumption) (by first | assumption | omega | (simp only []; omega))) (cwV 0 C.2.2.2.2.1 gX10_goesOn_X10_comes rfl rfl rfl (by decide +kernel) (by rw [hR]; exact ⟨Nat.le_of_ble_eq_true rfl, Nat.le_of_ble_eq_true rfl⟩)) [0, 1, 2, 3, 4, 5, 6, 7, 8, 9, 10, 11] [] rfl (by decide) rfl (by decide) xro_nil (List.mem_of_getElem? (i := 0) rfl) (ci := 9) rfl xT_bl (fun _ _ _ _ _ _ _ => trivial) rfl rfl dX10_goesOn_19 rfl rfl (Nat.le_of_ble_eq_true rfl) (q := 22) rfl (k' := 0) rfl (n' := 0) rfl (by rw [hR]; exact ⟨Nat.le_of_ble_eq_true rfl, Nat.le_of_ble_eq_true rfl⟩) (fun v3 w3 hp3 => ?_)
              obtain ⟨st2_4, lr2_5, rl2_6, fa2_7, ca2_8, dc2_9, rfl, rfl, hc10, hc11, hc12⟩ := hp3
              refine x_ws (ws' := [(mo, .inr (9, [.int (nI cols), .int (nI lc), .int (nI smp), .int (ky), .ref (mr 0), .ref (mr 1), .ref (mr 2), .ref (mr 3), .ref (mr 4), .ref (mr 5), .ref (mr 6), .ref (mr 7), .ref (mr 8), .ref (mr 9), .int (nI (pMk (cmS ld cols tl9 (min smp lc) ky.toInt Pq))), .int (nI (pRs (cmS ld cols tl9 (min smp lc) ky.toInt Pq))), .ref (mr 10), .ref (mr 11), .ref (mr 12), .ref (mr 13), .ref (mr 14), .ref (mr 15), .ref (mr 16), .ref (mr 17), .ref (mr 18), .ref (mr 19), .ref (mr 20), .int (nI nse), .int (nI npa), .int (nI nbo), .ref (mr 21), .int (nI tn), .ref (mr 22), .int (nI ik), .int (j0), .int (j1), .ref (mr 23), .int (j2), .ref (mr 24), .ref (mr 25), .int (j3), .ref (mr 26), .int (j4), .ref (mr 27), .ref (mr 28), .ref (mr 29), .ref (mr 30)])), (mr 6, .inl (cy 1, 24, .inl (fun k => nI (fn k)))), (mr 7, .inl (cy 1, 120, .inl (fun k => nI (fo k)))), (mr 8, .inl (cy 2, 120, .inr (.inl ex))), (mr 9, .inl (cy 2, 120, .inr (.inl wo))), (mr 2, .inl (cy 1, 5, .inl (fun k => nI (tl9 k)))), (mr 3, .inl (cy 1, 5, .inl (fun k => nI (st2_4 k)))), (mr 10, .inl (cy 1, 24, .inl (fun k => nI (lr2_5 k)))), (mr 11, .inl (cy 1, 24, .inl rl2_6)), (mr 12, .inl (cy 1, 24, .inl fa2_7)), (mr 13, .inl (cy 1, 24, .inl ca2_8)), (mr 14, .inl (cy 1, 24, .inl dc2_9))]) (xput_eq2 [0, 1, 2, 3, 4, 5, 6, 7, 8, 9, 10, 11] [] 12 [] rfl rfl (by decide) rfl rfl rfl (by decide)) ?_
              refine x_iinc C (L' := [(2, .int (nI (j + 1))), (0, .ref mo), (1, .int (nI n9))]) dX10_goesOn_22 (q := 25) rfl 2 rfl (v := nI (j + 1)) (nI_add j 1) (by decide) rfl ?_
              refine x_goto C (tgt := 2) dX10_goesOn_25 (by decide) ?_
              refine x_L (L' := [(0, .ref mo), (1, .int (nI n9)), (2, .int (nI (j + 1)))]) [1, 2, 0] rfl ?_
              exact ih2 (j + 1) (cmS ld cols tl9 (min smp lc) ky.toInt Pq) st2_4 lr2_5 rl2_6 fa2_7 ca2_8 dc2_9 (by first | omega | assumption) (by rw [hPq]; rfl) (by exact InvF_cm hFq htl9 (by omega) hlc) (by first | omega | assumption) (by show pMk (nxS ld cols ky.toInt (stS ld cols tl9 (min smp lc) Pq)) = _; rw [(InvP_nx (InvP_st hIq htl9).1 (by rw [(InvP_st hIq htl9).2]; omega)).2.1, (InvP_st hIq htl9).2]; omega) (by first | omega | assumption) (by first | omega | assumption) (by omega)
  refine x_L (L' := [(0, .ref mo), (1, .int (nI n9)), (2, .int (nI 0))]) [1, 2, 0] rfl ?_
  exact cut2 (n9 - 0 + 1) 0 P st9 lr9 rl9 fa9 ca9 dc9 (by first | omega | assumption) (by rfl) (by first | omega | assumption) (by first | omega | assumption) (by rfl) (by exact hst9) (by exact hlr9) (by omega)

set_option maxHeartbeats 4000000 in
set_option maxRecDepth 100000 in
/-- run -/
theorem c_X10_run (l : Launch) (D : va_G) (cy : Nat → ClassId) (mo : Nat) (mr : Nat → Nat) (cols : Nat) (lc : Nat) (smp : Nat) (nse : Nat) (npa : Nat) (nbo : Nat) (tn : Nat) (ik : Nat) (ky : Int32) (j0 : Int32) (j1 : Int32) (j2 : Int32) (j3 : Int32) (j4 : Int32) (P : PS) (fn : Nat → Nat) (fo : Nat → Nat) (ex : Nat → Int64) (wo : Nat → Int64) (tl9 : Nat → Nat) (st9 : Nat → Nat) (lr9 : Nat → Nat) (rl9 : Nat → Int32) (fa9 : Nat → Int32) (ca9 : Nat → Int32) (dc9 : Nat → Int32) (ld : LD) (x : Int32) (hml : MdL ld lc fn fo ex wo) (hfo4 : ∀ q, fo q ≤ 4) (hfn : ∀ q, fn q ≤ 61) (hlc : lc ≤ 24) (hF : InvF ld cols lc P) (htl9 : ∀ k, tl9 k ≤ 4) (hst9 : ∀ k, st9 k ≤ 4) (hcols : cols ≤ 5) (hky : -1 ≤ ky.toInt ∧ ky.toInt < cols) (hsmp : smp ≤ 24) (hlr9 : ∀ k, lr9 k < 24) (hmp : MdP cols P st9 lr9 rl9 fa9 ca9 dc9) : xMet l D cy xT yX10_run wsX10_run ({ frames := 8, cells := 0, slots := 0, locals := 1300 } : Room) [.ref mo, .int (x)] [(mo, .inr (9, [.int (nI cols), .int (nI lc), .int (nI smp), .int (ky), .ref (mr 0), .ref (mr 1), .ref (mr 2), .ref (mr 3), .ref (mr 4), .ref (mr 5), .ref (mr 6), .ref (mr 7), .ref (mr 8), .ref (mr 9), .int (nI (pMk P)), .int (nI (pRs P)), .ref (mr 10), .ref (mr 11), .ref (mr 12), .ref (mr 13), .ref (mr 14), .ref (mr 15), .ref (mr 16), .ref (mr 17), .ref (mr 18), .ref (mr 19), .ref (mr 20), .int (nI nse), .int (nI npa), .int (nI nbo), .ref (mr 21), .int (nI tn), .ref (mr 22), .int (nI ik), .int (j0), .int (j1), .ref (mr 23), .int (j2), .ref (mr 24), .ref (mr 25), .int (j3), .ref (mr 26), .int (j4), .ref (mr 27), .ref (mr 28), .ref (mr 29), .ref (mr 30)])), (mr 6, .inl (cy 1, 24, .inl (fun k => nI (fn k)))), (mr 7, .inl (cy 1, 120, .inl (fun k => nI (fo k)))), (mr 8, .inl (cy 2, 120, .inr (.inl ex))), (mr 9, .inl (cy 2, 120, .inr (.inl wo))), (mr 2, .inl (cy 1, 5, .inl (fun k => nI (tl9 k)))), (mr 3, .inl (cy 1, 5, .inl (fun k => nI (st9 k)))), (mr 10, .inl (cy 1, 24, .inl (fun k => nI (lr9 k)))), (mr 11, .inl (cy 1, 24, .inl rl9)), (mr 12, .inl (cy 1, 24, .inl fa9)), (mr 13, .inl (cy 1, 24, .inl ca9)), (mr 14, .inl (cy 1, 24, .inl dc9))] [] (fun (v9 : Option Value) (w9 : va_W) => (∃ st2 : Nat → Nat, ∃ lr2 : Nat → Nat, ∃ rl2 : Nat → Int32, ∃ fa2 : Nat → Int32, ∃ ca2 : Nat → Int32, ∃ dc2 : Nat → Int32, v9 = some (.int (ruA lc P x)) ∧ w9 = [(mo, .inr (9, [.int (nI cols), .int (nI lc), .int (nI smp), .int (ky), .ref (mr 0), .ref (mr 1), .ref (mr 2), .ref (mr 3), .ref (mr 4), .ref (mr 5), .ref (mr 6), .ref (mr 7), .ref (mr 8), .ref (mr 9), .int (nI (pMk ((ruN ld cols lc tl9 (min smp lc) ky.toInt P x)))), .int (nI (pRs ((ruN ld cols lc tl9 (min smp lc) ky.toInt P x)))), .ref (mr 10), .ref (mr 11), .ref (mr 12), .ref (mr 13), .ref (mr 14), .ref (mr 15), .ref (mr 16), .ref (mr 17), .ref (mr 18), .ref (mr 19), .ref (mr 20), .int (nI nse), .int (nI npa), .int (nI nbo), .ref (mr 21), .int (nI tn), .ref (mr 22), .int (nI ik), .int (j0), .int (j1), .ref (mr 23), .int (j2), .ref (mr 24), .ref (mr 25), .int (j3), .ref (mr 26), .int (j4), .ref (mr 27), .ref (mr 28), .ref (mr 29), .ref (mr 30)])), (mr 6, .inl (cy 1, 24, .inl (fun k => nI (fn k)))), (mr 7, .inl (cy 1, 120, .inl (fun k => nI (fo k)))), (mr 8, .inl (cy 2, 120, .inr (.inl ex))), (mr 9, .inl (cy 2, 120, .inr (.inl wo))), (mr 2, .inl (cy 1, 5, .inl (fun k => nI (tl9 k)))), (mr 3, .inl (cy 1, 5, .inl (fun k => nI (st2 k)))), (mr 10, .inl (cy 1, 24, .inl (fun k => nI (lr2 k)))), (mr 11, .inl (cy 1, 24, .inl rl2)), (mr 12, .inl (cy 1, 24, .inl fa2)), (mr 13, .inl (cy 1, 24, .inl ca2)), (mr 14, .inl (cy 1, 24, .inl dc2))] ∧ MdP cols ((ruN ld cols lc tl9 (min smp lc) ky.toInt P x)) st2 lr2 rl2 fa2 ca2 dc2 ∧ (∀ k, st2 k ≤ 4) ∧ (∀ k, lr2 k < 24))) := by
  refine xMet_of (cc := cX10_run) (maxL := 2) (ret := (some .int)) (by decide) rfl (Nat.le_of_ble_eq_true rfl) (fun p e s m args below meth c A R Q hA hR hQ C hr hnm hro hX => ?_)
  have hw0 : Jvm.Cond.constantLong RX10 277 (24) ∈ wsX10_run := by decide +kernel
  refine x_L (L' := [(0, .ref mo), (1, .int (x))]) [0, 1] rfl ?_
  have hIP := hF.1
  have hP2 := hIP.2.1
  refine x_iload_n C dX10_run_0 (q := 1) rfl rfl 1 rfl ?_
  refine x_i2l C dX10_run_1 (q := 2) rfl (v := x.toInt64) (rfl) ?_
  refine x_lconst C dX10_run_2 (q := 3) rfl (v := lN 0) rfl ?_
  refine x_ldc2 C (v := lN 24) hw0 dX10_run_3 (q := 6) rfl ?_
  refine x_callS C (roW := []) (roR := []) (c_X10_in l D cy x.toInt64 (lN 0) (lN 24) x.toInt 0 24 (xl_wide rfl) rfl rfl) (cwS 3 C.2.2.2.2.1 gX10_run_X10_in rfl rfl rfl (by decide +kernel) (by rw [hR]; exact ⟨Nat.le_of_ble_eq_true rfl, Nat.le_of_ble_eq_true rfl⟩)) [] [] rfl (by decide) rfl (by decide) xro_nil xT_bl (fun _ _ _ _ _ _ _ => trivial) rfl rfl dX10_run_6 rfl rfl (Nat.le_of_ble_eq_true rfl) (q := 9) rfl (k' := 0) rfl (n' := 0) rfl (by rw [hR]; exact ⟨Nat.le_of_ble_eq_true rfl, Nat.le_of_ble_eq_true rfl⟩) (fun v1 w1 hp1 => ?_)
  rcases hp1 with hp1 | hp1
  · skip
    obtain ⟨rfl, rfl, hc2, hc3⟩ := hp1
    refine x_ws (ws' := [(mo, .inr (9, [.int (nI cols), .int (nI lc), .int (nI smp), .int (ky), .ref (mr 0), .ref (mr 1), .ref (mr 2), .ref (mr 3), .ref (mr 4), .ref (mr 5), .ref (mr 6), .ref (mr 7), .ref (mr 8), .ref (mr 9), .int (nI (pMk P)), .int (nI (pRs P)), .ref (mr 10), .ref (mr 11), .ref (mr 12), .ref (mr 13), .ref (mr 14), .ref (mr 15), .ref (mr 16), .ref (mr 17), .ref (mr 18), .ref (mr 19), .ref (mr 20), .int (nI nse), .int (nI npa), .int (nI nbo), .ref (mr 21), .int (nI tn), .ref (mr 22), .int (nI ik), .int (j0), .int (j1), .ref (mr 23), .int (j2), .ref (mr 24), .ref (mr 25), .int (j3), .ref (mr 26), .int (j4), .ref (mr 27), .ref (mr 28), .ref (mr 29), .ref (mr 30)])), (mr 6, .inl (cy 1, 24, .inl (fun k => nI (fn k)))), (mr 7, .inl (cy 1, 120, .inl (fun k => nI (fo k)))), (mr 8, .inl (cy 2, 120, .inr (.inl ex))), (mr 9, .inl (cy 2, 120, .inr (.inl wo))), (mr 2, .inl (cy 1, 5, .inl (fun k => nI (tl9 k)))), (mr 3, .inl (cy 1, 5, .inl (fun k => nI (st9 k)))), (mr 10, .inl (cy 1, 24, .inl (fun k => nI (lr9 k)))), (mr 11, .inl (cy 1, 24, .inl rl9)), (mr 12, .inl (cy 1, 24, .inl fa9)), (mr 13, .inl (cy 1, 24, .inl ca9)), (mr 14, .inl (cy 1, 24, .inl dc9))]) (List.append_nil _) ?_
    refine x_if_eq C (tgt := 20) dX10_run_9 (by decide) (q := 12) rfl (a := 1) rfl (fun h4 => (by omega : False).elim) (fun h4 => ?_)
    refine x_aload_n C dX10_run_12 (q := 13) rfl rfl 0 rfl ?_
    refine x_iload_n C dX10_run_13 (q := 14) rfl rfl 1 rfl ?_
    refine x_st (st' := [.int (nI x.toInt.toNat), .ref mo]) (congrArg (fun z9 => ([.int z9, .ref mo] : List Value)) (xi_nat (by omega))) ?_
    refine x_callV C (roW := []) (roR := []) (c_X10_goesOn l D cy mo mr cols lc smp nse npa nbo tn ik ky j0 j1 j2 j3 j4 P fn fo ex wo tl9 st9 lr9 rl9 fa9 ca9 dc9 ld x.toInt.toNat (by assumption) (by assumption) (by assumption) (by first | assumption | omega | (simp only []; omega)) (by assumption) (by assumption) (by assumption) (by first | assumption | omega | (simp only []; omega)) (by first | assumption | omega | (simp only []; omega)) (by first | assumption | omega | (simp only []; omega)) (by assumption) (by assumption) (by first | assumption | omega | (simp only []; omega))) (cwV 1 C.2.2.2.2.1 gX10_run_X10_goesOn rfl rfl rfl (by decide +kernel) (by rw [hR]; exact ⟨Nat.le_of_ble_eq_true rfl, Nat.le_of_ble_eq_true rfl⟩)) [0, 1, 2, 3, 4, 5, 6, 7, 8, 9, 10, 11] [] rfl (by decide) rfl (by decide) xro_nil (List.mem_of_getElem? (i := 0) rfl) (ci := 9) rfl xT_bl (fun _ _ _ _ _ _ _ => trivial) rfl rfl dX10_run_14 rfl rfl (Nat.le_of_ble_eq_true rfl) (q := 17) rfl (k' := 0) rfl (n' := 0) rfl (by rw [hR]; exact ⟨Nat.le_of_ble_eq_true rfl, Nat.le_of_ble_eq_true rfl⟩) (fun v5 w5 hp5 => ?_)
    obtain ⟨st2_6, lr2_7, rl2_8, fa2_9, ca2_10, dc2_11, rfl, rfl, hc12, hc13, hc14⟩ := hp5
    refine x_ws (ws' := [(mo, .inr (9, [.int (nI cols), .int (nI lc), .int (nI smp), .int (ky), .ref (mr 0), .ref (mr 1), .ref (mr 2), .ref (mr 3), .ref (mr 4), .ref (mr 5), .ref (mr 6), .ref (mr 7), .ref (mr 8), .ref (mr 9), .int (nI (pMk ((goS ld cols tl9 (min smp lc) ky.toInt (min x.toInt.toNat (lc - pMk P)) P)))), .int (nI (pRs ((goS ld cols tl9 (min smp lc) ky.toInt (min x.toInt.toNat (lc - pMk P)) P)))), .ref (mr 10), .ref (mr 11), .ref (mr 12), .ref (mr 13), .ref (mr 14), .ref (mr 15), .ref (mr 16), .ref (mr 17), .ref (mr 18), .ref (mr 19), .ref (mr 20), .int (nI nse), .int (nI npa), .int (nI nbo), .ref (mr 21), .int (nI tn), .ref (mr 22), .int (nI ik), .int (j0), .int (j1), .ref (mr 23), .int (j2), .ref (mr 24), .ref (mr 25), .int (j3), .ref (mr 26), .int (j4), .ref (mr 27), .ref (mr 28), .ref (mr 29), .ref (mr 30)])), (mr 6, .inl (cy 1, 24, .inl (fun k => nI (fn k)))), (mr 7, .inl (cy 1, 120, .inl (fun k => nI (fo k)))), (mr 8, .inl (cy 2, 120, .inr (.inl ex))), (mr 9, .inl (cy 2, 120, .inr (.inl wo))), (mr 2, .inl (cy 1, 5, .inl (fun k => nI (tl9 k)))), (mr 3, .inl (cy 1, 5, .inl (fun k => nI (st2_6 k)))), (mr 10, .inl (cy 1, 24, .inl (fun k => nI (lr2_7 k)))), (mr 11, .inl (cy 1, 24, .inl rl2_8)), (mr 12, .inl (cy 1, 24, .inl fa2_9)), (mr 13, .inl (cy 1, 24, .inl ca2_10)), (mr 14, .inl (cy 1, 24, .inl dc2_11))]) (xput_eq2 [0, 1, 2, 3, 4, 5, 6, 7, 8, 9, 10, 11] [] 12 [] rfl rfl (by decide) rfl rfl rfl (by decide)) ?_
    refine x_goto C (tgt := 22) dX10_run_17 (by decide) ?_
    refine x_iret C hA hQ hr dX10_run_22 (Nat.le_of_ble_eq_true rfl) ?_
    have eN : (ruN ld cols lc tl9 (min smp lc) ky.toInt P x) = goS ld cols tl9 (min smp lc) ky.toInt (min x.toInt.toNat (lc - pMk P)) P := by
      unfold ruN
      rw [if_neg (by omega)]
    rw [eN]
    refine ⟨_, _, _, _, _, _, ?_, rfl, by assumption, by assumption, by assumption⟩
    unfold ruA
    rw [if_neg (by omega)]
  · skip
    obtain ⟨rfl, rfl, hc15⟩ := hp1
    refine x_ws (ws' := [(mo, .inr (9, [.int (nI cols), .int (nI lc), .int (nI smp), .int (ky), .ref (mr 0), .ref (mr 1), .ref (mr 2), .ref (mr 3), .ref (mr 4), .ref (mr 5), .ref (mr 6), .ref (mr 7), .ref (mr 8), .ref (mr 9), .int (nI (pMk P)), .int (nI (pRs P)), .ref (mr 10), .ref (mr 11), .ref (mr 12), .ref (mr 13), .ref (mr 14), .ref (mr 15), .ref (mr 16), .ref (mr 17), .ref (mr 18), .ref (mr 19), .ref (mr 20), .int (nI nse), .int (nI npa), .int (nI nbo), .ref (mr 21), .int (nI tn), .ref (mr 22), .int (nI ik), .int (j0), .int (j1), .ref (mr 23), .int (j2), .ref (mr 24), .ref (mr 25), .int (j3), .ref (mr 26), .int (j4), .ref (mr 27), .ref (mr 28), .ref (mr 29), .ref (mr 30)])), (mr 6, .inl (cy 1, 24, .inl (fun k => nI (fn k)))), (mr 7, .inl (cy 1, 120, .inl (fun k => nI (fo k)))), (mr 8, .inl (cy 2, 120, .inr (.inl ex))), (mr 9, .inl (cy 2, 120, .inr (.inl wo))), (mr 2, .inl (cy 1, 5, .inl (fun k => nI (tl9 k)))), (mr 3, .inl (cy 1, 5, .inl (fun k => nI (st9 k)))), (mr 10, .inl (cy 1, 24, .inl (fun k => nI (lr9 k)))), (mr 11, .inl (cy 1, 24, .inl rl9)), (mr 12, .inl (cy 1, 24, .inl fa9)), (mr 13, .inl (cy 1, 24, .inl ca9)), (mr 14, .inl (cy 1, 24, .inl dc9))]) (List.append_nil _) ?_
    refine x_if_eq C (tgt := 20) dX10_run_9 (by decide) (q := 12) rfl (a := 0) rfl (fun h16 => ?_) (fun h16 => (by omega : False).elim)
    refine x_bipush C dX10_run_20 (q := 22) rfl (v := (-2)) (by decide) ?_
    refine x_iret C hA hQ hr dX10_run_22 (Nat.le_of_ble_eq_true rfl) ?_
    have eN : (ruN ld cols lc tl9 (min smp lc) ky.toInt P x) = P := by
      unfold ruN
      rw [if_pos (by omega)]
    rw [eN]
    refine ⟨st9, lr9, rl9, fa9, ca9, dc9, ?_, rfl, hmp, hst9, hlr9⟩
    unfold ruA
    rw [if_pos (by omega)]

set_option maxHeartbeats 4000000 in
set_option maxRecDepth 100000 in
/-- reset -/
theorem c_X10_reset (l : Launch) (D : va_G) (cy : Nat → ClassId) (mo : Nat) (mr : Nat → Nat) (cols : Nat) (lc : Nat) (smp : Nat) (nse : Nat) (npa : Nat) (nbo : Nat) (tn : Nat) (ik : Nat) (ky : Int32) (j0 : Int32) (j1 : Int32) (j2 : Int32) (j3 : Int32) (j4 : Int32) (P : PS) (st9 : Nat → Nat) (lr9 : Nat → Nat) (rl9 : Nat → Int32) (fa9 : Nat → Int32) (ca9 : Nat → Int32) (dc9 : Nat → Int32) (hmk : pMk P ≤ 24) : xMet l D cy xT yX10_reset wsX10_reset ({ frames := 2, cells := 0, slots := 0, locals := 200 } : Room) [.ref mo] [(mo, .inr (9, [.int (nI cols), .int (nI lc), .int (nI smp), .int (ky), .ref (mr 0), .ref (mr 1), .ref (mr 2), .ref (mr 3), .ref (mr 4), .ref (mr 5), .ref (mr 6), .ref (mr 7), .ref (mr 8), .ref (mr 9), .int (nI (pMk P)), .int (nI (pRs P)), .ref (mr 10), .ref (mr 11), .ref (mr 12), .ref (mr 13), .ref (mr 14), .ref (mr 15), .ref (mr 16), .ref (mr 17), .ref (mr 18), .ref (mr 19), .ref (mr 20), .int (nI nse), .int (nI npa), .int (nI nbo), .ref (mr 21), .int (nI tn), .ref (mr 22), .int (nI ik), .int (j0), .int (j1), .ref (mr 23), .int (j2), .ref (mr 24), .ref (mr 25), .int (j3), .ref (mr 26), .int (j4), .ref (mr 27), .ref (mr 28), .ref (mr 29), .ref (mr 30)])), (mr 3, .inl (cy 1, 5, .inl (fun k => nI (st9 k)))), (mr 10, .inl (cy 1, 24, .inl (fun k => nI (lr9 k)))), (mr 11, .inl (cy 1, 24, .inl rl9)), (mr 12, .inl (cy 1, 24, .inl fa9)), (mr 13, .inl (cy 1, 24, .inl ca9)), (mr 14, .inl (cy 1, 24, .inl dc9))] [] (fun (v9 : Option Value) (w9 : va_W) => (v9 = some (.int (nI (pMk P))) ∧ w9 = [(mo, .inr (9, [.int (nI cols), .int (nI lc), .int (nI smp), .int (ky), .ref (mr 0), .ref (mr 1), .ref (mr 2), .ref (mr 3), .ref (mr 4), .ref (mr 5), .ref (mr 6), .ref (mr 7), .ref (mr 8), .ref (mr 9), .int (nI (pMk ((rs0 P)))), .int (nI (pRs ((rs0 P)))), .ref (mr 10), .ref (mr 11), .ref (mr 12), .ref (mr 13), .ref (mr 14), .ref (mr 15), .ref (mr 16), .ref (mr 17), .ref (mr 18), .ref (mr 19), .ref (mr 20), .int (nI nse), .int (nI npa), .int (nI nbo), .ref (mr 21), .int (nI tn), .ref (mr 22), .int (nI ik), .int (j0), .int (j1), .ref (mr 23), .int (j2), .ref (mr 24), .ref (mr 25), .int (j3), .ref (mr 26), .int (j4), .ref (mr 27), .ref (mr 28), .ref (mr 29), .ref (mr 30)])), (mr 3, .inl (cy 1, 5, .inl (fun k => nI ((fun _ => 0) k)))), (mr 10, .inl (cy 1, 24, .inl (fun k => nI (lr9 k)))), (mr 11, .inl (cy 1, 24, .inl (fun _ => (-5 : Int32)))), (mr 12, .inl (cy 1, 24, .inl (fun _ => (-5 : Int32)))), (mr 13, .inl (cy 1, 24, .inl (fun _ => (-5 : Int32)))), (mr 14, .inl (cy 1, 24, .inl (fun _ => (-5 : Int32))))])) := by
  refine xMet_of (cc := cX10_reset) (maxL := 2) (ret := (some .int)) (by decide) rfl (Nat.le_of_ble_eq_true rfl) (fun p e s m args below meth c A R Q hA hR hQ C hr hnm hro hX => ?_)
  have hw0 : ∀ w ∈ u_ws RX10 TX10 47, w ∈ wsX10_reset := by decide +kernel
  have hw1 : Cond.fieldLink RX10 142 (TX10 14).1 (TX10 14).2.1 (TX10 14).2.2.1 ∈ wsX10_reset := by decide +kernel
  refine x_L (L' := [(0, .ref mo)]) [0] rfl ?_
  refine x_aload_n C dX10_reset_0 (q := 1) rfl rfl 0 rfl ?_
  refine x_get C (ci := 9) (v := .int (nI (pMk P))) hw0 0 rfl rfl 14 (by decide) hw1 rfl dX10_reset_1 (q := 4) rfl ?_
  refine x_istore_n C (L' := [(1, .int (nI (pMk P))), (0, .ref mo)]) dX10_reset_4 (q := 5) rfl rfl (by decide) rfl ?_
  refine x_aload_n C dX10_reset_5 (q := 6) rfl rfl 1 rfl ?_
  refine x_callV C (roW := []) (roR := []) (c_X10_afresh l D cy mo mr cols lc smp (pMk P) (pRs P) nse npa nbo tn ik ky j0 j1 j2 j3 j4 rl9 fa9 ca9 dc9 st9 ) (cwV 0 C.2.2.2.2.1 gX10_reset_X10_afresh rfl rfl rfl (by decide +kernel) (by rw [hR]; exact ⟨Nat.le_of_ble_eq_true rfl, Nat.le_of_ble_eq_true rfl⟩)) [0, 3, 4, 5, 6, 1] [] rfl (by decide) rfl (by decide) xro_nil (List.mem_of_getElem? (i := 0) rfl) (ci := 9) rfl xT_bl (fun _ _ _ _ _ _ _ => trivial) rfl rfl dX10_reset_6 rfl rfl (Nat.le_of_ble_eq_true rfl) (q := 9) rfl (k' := 0) rfl (n' := 0) rfl (by rw [hR]; exact ⟨Nat.le_of_ble_eq_true rfl, Nat.le_of_ble_eq_true rfl⟩) (fun v1 w1 hp1 => ?_)
  obtain ⟨rfl, rfl⟩ := hp1
  refine x_ws (ws' := [(mo, .inr (9, [.int (nI cols), .int (nI lc), .int (nI smp), .int (ky), .ref (mr 0), .ref (mr 1), .ref (mr 2), .ref (mr 3), .ref (mr 4), .ref (mr 5), .ref (mr 6), .ref (mr 7), .ref (mr 8), .ref (mr 9), .int (nI 0), .int (nI 0), .ref (mr 10), .ref (mr 11), .ref (mr 12), .ref (mr 13), .ref (mr 14), .ref (mr 15), .ref (mr 16), .ref (mr 17), .ref (mr 18), .ref (mr 19), .ref (mr 20), .int (nI nse), .int (nI npa), .int (nI nbo), .ref (mr 21), .int (nI tn), .ref (mr 22), .int (nI ik), .int (j0), .int (j1), .ref (mr 23), .int (j2), .ref (mr 24), .ref (mr 25), .int (j3), .ref (mr 26), .int (j4), .ref (mr 27), .ref (mr 28), .ref (mr 29), .ref (mr 30)])), (mr 3, .inl (cy 1, 5, .inl (fun k => nI ((fun _ => 0) k)))), (mr 10, .inl (cy 1, 24, .inl (fun k => nI (lr9 k)))), (mr 11, .inl (cy 1, 24, .inl (fun _ => (-5 : Int32)))), (mr 12, .inl (cy 1, 24, .inl (fun _ => (-5 : Int32)))), (mr 13, .inl (cy 1, 24, .inl (fun _ => (-5 : Int32)))), (mr 14, .inl (cy 1, 24, .inl (fun _ => (-5 : Int32))))]) rfl ?_
  refine x_iload_n C dX10_reset_9 (q := 10) rfl rfl 0 rfl ?_
  refine x_iret C hA hQ hr dX10_reset_10 (Nat.le_of_ble_eq_true rfl) ?_
  first | exact ⟨rfl, rfl⟩ | exact ⟨_, rfl, rfl, by first | rfl | omega | assumption⟩ | (refine ⟨_, rfl, rfl, ?_⟩; (first | rfl | omega | (simp only []; omega)))

set_option maxHeartbeats 4000000 in
set_option maxRecDepth 100000 in
/-- faults -/
theorem c_X10_faults_0 (l : Launch) (D : va_G) (cy : Nat → ClassId) (mo : Nat) (mr : Nat → Nat) (cols : Nat) (lc : Nat) (smp : Nat) (nse : Nat) (npa : Nat) (nbo : Nat) (tn : Nat) (ik : Nat) (ky : Int32) (j0 : Int32) (j1 : Int32) (j2 : Int32) (j3 : Int32) (j4 : Int32) (P : PS) (st9 : Nat → Nat) (lr9 : Nat → Nat) (rl9 : Nat → Int32) (fa9 : Nat → Int32) (ca9 : Nat → Int32) (dc9 : Nat → Int32) (ld : LD) (hmp : MdP cols P st9 lr9 rl9 fa9 ca9 dc9) (hF : InvF ld cols lc P) (hlc : lc ≤ 24) : xMet l D cy xT yX10_faults wsX10_faults ({ frames := 1, cells := 0, slots := 0, locals := 0 } : Room) [.ref mo, .int (nI 0)] [(mo, .inr (9, [.int (nI cols), .int (nI lc), .int (nI smp), .int (ky), .ref (mr 0), .ref (mr 1), .ref (mr 2), .ref (mr 3), .ref (mr 4), .ref (mr 5), .ref (mr 6), .ref (mr 7), .ref (mr 8), .ref (mr 9), .int (nI (pMk P)), .int (nI (pRs P)), .ref (mr 10), .ref (mr 11), .ref (mr 12), .ref (mr 13), .ref (mr 14), .ref (mr 15), .ref (mr 16), .ref (mr 17), .ref (mr 18), .ref (mr 19), .ref (mr 20), .int (nI nse), .int (nI npa), .int (nI nbo), .ref (mr 21), .int (nI tn), .ref (mr 22), .int (nI ik), .int (j0), .int (j1), .ref (mr 23), .int (j2), .ref (mr 24), .ref (mr 25), .int (j3), .ref (mr 26), .int (j4), .ref (mr 27), .ref (mr 28), .ref (mr 29), .ref (mr 30)])), (mr 11, .inl (cy 1, 24, .inl rl9)), (mr 12, .inl (cy 1, 24, .inl fa9))] [] (fun (v9 : Option Value) (w9 : va_W) => (v9 = some (.int (nI (pMk P - pRs P))) ∧ w9 = [(mo, .inr (9, [.int (nI cols), .int (nI lc), .int (nI smp), .int (ky), .ref (mr 0), .ref (mr 1), .ref (mr 2), .ref (mr 3), .ref (mr 4), .ref (mr 5), .ref (mr 6), .ref (mr 7), .ref (mr 8), .ref (mr 9), .int (nI (pMk P)), .int (nI (pRs P)), .ref (mr 10), .ref (mr 11), .ref (mr 12), .ref (mr 13), .ref (mr 14), .ref (mr 15), .ref (mr 16), .ref (mr 17), .ref (mr 18), .ref (mr 19), .ref (mr 20), .int (nI nse), .int (nI npa), .int (nI nbo), .ref (mr 21), .int (nI tn), .ref (mr 22), .int (nI ik), .int (j0), .int (j1), .ref (mr 23), .int (j2), .ref (mr 24), .ref (mr 25), .int (j3), .ref (mr 26), .int (j4), .ref (mr 27), .ref (mr 28), .ref (mr 29), .ref (mr 30)])), (mr 11, .inl (cy 1, 24, .inl rl9)), (mr 12, .inl (cy 1, 24, .inl fa9))])) := by
  refine xMet_of (cc := cX10_faults) (maxL := 4) (ret := (some .int)) (by decide) rfl (Nat.le_of_ble_eq_true rfl) (fun p e s m args below meth c A R Q hA hR hQ C hr hnm hro hX => ?_)
  have hw0 : ∀ w ∈ u_ws RX10 TX10 47, w ∈ wsX10_faults := by decide +kernel
  have hw1 : Cond.fieldLink RX10 142 (TX10 14).1 (TX10 14).2.1 (TX10 14).2.2.1 ∈ wsX10_faults := by decide +kernel
  have hw2 : Cond.fieldLink RX10 53 (TX10 17).1 (TX10 17).2.1 (TX10 17).2.2.1 ∈ wsX10_faults := by decide +kernel
  refine x_L (L' := [(0, .ref mo), (1, .int (nI 0))]) [0, 1] rfl ?_
  have hIP := hF.1
  have hP1 := hIP.1
  have hP2 := hIP.2.1
  refine x_iconst C dX10_faults_0 (q := 1) rfl (v := nI 0) (by decide) ?_
  refine x_istore_n C (L' := [(2, .int (nI 0)), (0, .ref mo), (1, .int (nI 0))]) dX10_faults_1 (q := 2) rfl rfl (by decide) rfl ?_
  refine x_iconst C dX10_faults_2 (q := 3) rfl (v := nI 0) (by decide) ?_
  refine x_istore_n C (L' := [(3, .int (nI 0)), (2, .int (nI 0)), (0, .ref mo), (1, .int (nI 0))]) dX10_faults_3 (q := 4) rfl rfl (by decide) rfl ?_
  have cut4 : ∀ (fuel : Nat) (i : Nat) (cn : Nat), (i ≤ pMk P) → (cn = cnN rl9 i) → (cn ≤ i) → pMk P - i < fuel → xG p l e R s m args below meth c Q D A 4 [(mo, .inr (9, [.int (nI cols), .int (nI lc), .int (nI smp), .int (ky), .ref (mr 0), .ref (mr 1), .ref (mr 2), .ref (mr 3), .ref (mr 4), .ref (mr 5), .ref (mr 6), .ref (mr 7), .ref (mr 8), .ref (mr 9), .int (nI (pMk P)), .int (nI (pRs P)), .ref (mr 10), .ref (mr 11), .ref (mr 12), .ref (mr 13), .ref (mr 14), .ref (mr 15), .ref (mr 16), .ref (mr 17), .ref (mr 18), .ref (mr 19), .ref (mr 20), .int (nI nse), .int (nI npa), .int (nI nbo), .ref (mr 21), .int (nI tn), .ref (mr 22), .int (nI ik), .int (j0), .int (j1), .ref (mr 23), .int (j2), .ref (mr 24), .ref (mr 25), .int (j3), .ref (mr 26), .int (j4), .ref (mr 27), .ref (mr 28), .ref (mr 29), .ref (mr 30)])), (mr 11, .inl (cy 1, 24, .inl rl9)), (mr 12, .inl (cy 1, 24, .inl fa9))] 0 0 4 [(0, .ref mo), (1, .int (nI 0)), (2, .int (nI cn)), (3, .int (nI i))] [] := by
    intro fuel
    induction fuel with
    | zero =>
      intro i cn hi hcn hcl hmu
      exact absurd hmu (Nat.not_lt_zero _)
    | succ fuel ih =>
      intro i cn hi hcn hcl hmu
      have ih4 := ih
      clear ih
      refine x_iload_n C dX10_faults_4 (q := 5) rfl rfl 3 rfl ?_
      refine x_aload_n C dX10_faults_5 (q := 6) rfl rfl 0 rfl ?_
      refine x_get C (ci := 9) (v := .int (nI (pMk P))) hw0 0 rfl rfl 14 (by decide) hw1 rfl dX10_faults_6 (q := 9) rfl ?_
      refine x_icmp_ge C (tgt := 57) dX10_faults_9 (by decide) (q := 12) rfl (a := ((i : Nat) : Int)) (b := ((pMk P : Nat) : Int)) (nI_toInt (by omega)) (nI_toInt (by omega)) (fun h1 => ?_) (fun h1 => ?_)
      · first
        | (exfalso; omega)
        |
          refine x_iload_n C dX10_faults_57 (q := 58) rfl rfl 2 rfl ?_
          refine x_iret C hA hQ hr dX10_faults_58 (Nat.le_of_ble_eq_true rfl) ?_
          have e9 : i = pMk P := by omega
          have e8 := cnN_congr (f := rl9) (g := pRl P) (pMk P) (fun x hx => (hmp.1.2.2.1 x hx).1)
          have e7 := hF.2.2.2.2
          exact ⟨by rw [hcn, e9, e8]; congr 3; omega, rfl⟩
      · first
        | (exfalso; omega)
        |
          refine x_iload_n C dX10_faults_12 (q := 13) rfl rfl 2 rfl ?_
          refine x_iload_n C dX10_faults_13 (q := 14) rfl rfl 1 rfl ?_
          refine x_if_ne C (tgt := 34) dX10_faults_14 (by decide) (q := 17) rfl (a := 0) rfl (fun h2 => (by omega : False).elim) (fun h2 => ?_)
          refine x_aload_n C dX10_faults_17 (q := 18) rfl rfl 0 rfl ?_
          refine x_get C (ci := 9) (v := .ref (mr 11)) hw0 0 rfl rfl 17 (by decide) hw2 rfl dX10_faults_18 (q := 21) rfl ?_
          refine x_iload_n C dX10_faults_21 (q := 22) rfl rfl 3 rfl ?_
          refine x_iald C (j := i) (v := rl9 i) 1 rfl (nI_toInt (by omega)) (by omega) rfl dX10_faults_22 (q := 23) rfl ?_
          refine x_if_ge C (tgt := 30) dX10_faults_23 (by decide) (q := 26) rfl (a := (rl9 i).toInt) rfl (fun h3 => ?_) (fun h3 => ?_)
          · first
            | (exfalso; omega)
            |
              refine x_iconst C dX10_faults_30 (q := 31) rfl (v := nI 0) (by decide) ?_
              refine x_goto C (tgt := 49) dX10_faults_31 (by decide) ?_
              refine x_iadd C dX10_faults_49 (q := 50) rfl (z := nI (cn + 0)) (nI_add cn 0) ?_
              refine x_istore_n C (L' := [(2, .int (nI (cn + 0))), (0, .ref mo), (1, .int (nI 0)), (3, .int (nI i))]) dX10_faults_50 (q := 51) rfl rfl (by decide) rfl ?_
              refine x_iinc C (L' := [(3, .int (nI (i + 1))), (2, .int (nI (cn + 0))), (0, .ref mo), (1, .int (nI 0))]) dX10_faults_51 (q := 54) rfl 3 rfl (v := nI (i + 1)) (nI_add i 1) (by decide) rfl ?_
              refine x_goto C (tgt := 4) dX10_faults_54 (by decide) ?_
              refine x_L (L' := [(0, .ref mo), (1, .int (nI 0)), (2, .int (nI (cn + 0))), (3, .int (nI (i + 1)))]) [2, 3, 1, 0] rfl ?_
              exact ih4 (i + 1) (cn + 0) (by first | omega | assumption) (by first | (show _ = cnN rl9 i + (if (rl9 i).toInt < 0 then 1 else 0); rw [if_pos (by omega), hcn]) | (show _ = cnN rl9 i + (if (rl9 i).toInt < 0 then 1 else 0); rw [if_neg (by omega), hcn])) (by first | omega | assumption) (by omega)
          · first
            | (exfalso; omega)
            |
              refine x_iconst C dX10_faults_26 (q := 27) rfl (v := nI 1) (by decide) ?_
              refine x_goto C (tgt := 49) dX10_faults_27 (by decide) ?_
              refine x_iadd C dX10_faults_49 (q := 50) rfl (z := nI (cn + 1)) (nI_add cn 1) ?_
              refine x_istore_n C (L' := [(2, .int (nI (cn + 1))), (0, .ref mo), (1, .int (nI 0)), (3, .int (nI i))]) dX10_faults_50 (q := 51) rfl rfl (by decide) rfl ?_
              refine x_iinc C (L' := [(3, .int (nI (i + 1))), (2, .int (nI (cn + 1))), (0, .ref mo), (1, .int (nI 0))]) dX10_faults_51 (q := 54) rfl 3 rfl (v := nI (i + 1)) (nI_add i 1) (by decide) rfl ?_
              refine x_goto C (tgt := 4) dX10_faults_54 (by decide) ?_
              refine x_L (L' := [(0, .ref mo), (1, .int (nI 0)), (2, .int (nI (cn + 1))), (3, .int (nI (i + 1)))]) [2, 3, 1, 0] rfl ?_
              exact ih4 (i + 1) (cn + 1) (by first | omega | assumption) (by first | (show _ = cnN rl9 i + (if (rl9 i).toInt < 0 then 1 else 0); rw [if_pos (by omega), hcn]) | (show _ = cnN rl9 i + (if (rl9 i).toInt < 0 then 1 else 0); rw [if_neg (by omega), hcn])) (by first | omega | assumption) (by omega)
  refine x_L (L' := [(0, .ref mo), (1, .int (nI 0)), (2, .int (nI 0)), (3, .int (nI 0))]) [2, 3, 1, 0] rfl ?_
  exact cut4 (pMk P - 0 + 1) 0 0 (by first | omega | assumption) (by rfl) (by first | omega | assumption) (by omega)

set_option maxHeartbeats 4000000 in
set_option maxRecDepth 100000 in
/-- faults -/
theorem c_X10_faults_k (l : Launch) (D : va_G) (cy : Nat → ClassId) (mo : Nat) (mr : Nat → Nat) (cols : Nat) (lc : Nat) (smp : Nat) (nse : Nat) (npa : Nat) (nbo : Nat) (tn : Nat) (ik : Nat) (ky : Int32) (j0 : Int32) (j1 : Int32) (j2 : Int32) (j3 : Int32) (j4 : Int32) (P : PS) (st9 : Nat → Nat) (lr9 : Nat → Nat) (rl9 : Nat → Int32) (fa9 : Nat → Int32) (ca9 : Nat → Int32) (dc9 : Nat → Int32) (ld : LD) (wq : Nat) (hmp : MdP cols P st9 lr9 rl9 fa9 ca9 dc9) (hF : InvF ld cols lc P) (hlc : lc ≤ 24) (hw9 : 0 < wq ∧ wq < 1000) : xMet l D cy xT yX10_faults wsX10_faults ({ frames := 1, cells := 0, slots := 0, locals := 0 } : Room) [.ref mo, .int (nI wq)] [(mo, .inr (9, [.int (nI cols), .int (nI lc), .int (nI smp), .int (ky), .ref (mr 0), .ref (mr 1), .ref (mr 2), .ref (mr 3), .ref (mr 4), .ref (mr 5), .ref (mr 6), .ref (mr 7), .ref (mr 8), .ref (mr 9), .int (nI (pMk P)), .int (nI (pRs P)), .ref (mr 10), .ref (mr 11), .ref (mr 12), .ref (mr 13), .ref (mr 14), .ref (mr 15), .ref (mr 16), .ref (mr 17), .ref (mr 18), .ref (mr 19), .ref (mr 20), .int (nI nse), .int (nI npa), .int (nI nbo), .ref (mr 21), .int (nI tn), .ref (mr 22), .int (nI ik), .int (j0), .int (j1), .ref (mr 23), .int (j2), .ref (mr 24), .ref (mr 25), .int (j3), .ref (mr 26), .int (j4), .ref (mr 27), .ref (mr 28), .ref (mr 29), .ref (mr 30)])), (mr 11, .inl (cy 1, 24, .inl rl9)), (mr 12, .inl (cy 1, 24, .inl fa9))] [] (fun (v9 : Option Value) (w9 : va_W) => (v9 = some (.int (nI (cntE (pFa P) (nI wq) (pMk P)))) ∧ w9 = [(mo, .inr (9, [.int (nI cols), .int (nI lc), .int (nI smp), .int (ky), .ref (mr 0), .ref (mr 1), .ref (mr 2), .ref (mr 3), .ref (mr 4), .ref (mr 5), .ref (mr 6), .ref (mr 7), .ref (mr 8), .ref (mr 9), .int (nI (pMk P)), .int (nI (pRs P)), .ref (mr 10), .ref (mr 11), .ref (mr 12), .ref (mr 13), .ref (mr 14), .ref (mr 15), .ref (mr 16), .ref (mr 17), .ref (mr 18), .ref (mr 19), .ref (mr 20), .int (nI nse), .int (nI npa), .int (nI nbo), .ref (mr 21), .int (nI tn), .ref (mr 22), .int (nI ik), .int (j0), .int (j1), .ref (mr 23), .int (j2), .ref (mr 24), .ref (mr 25), .int (j3), .ref (mr 26), .int (j4), .ref (mr 27), .ref (mr 28), .ref (mr 29), .ref (mr 30)])), (mr 11, .inl (cy 1, 24, .inl rl9)), (mr 12, .inl (cy 1, 24, .inl fa9))])) := by
  refine xMet_of (cc := cX10_faults) (maxL := 4) (ret := (some .int)) (by decide) rfl (Nat.le_of_ble_eq_true rfl) (fun p e s m args below meth c A R Q hA hR hQ C hr hnm hro hX => ?_)
  have hw0 : ∀ w ∈ u_ws RX10 TX10 47, w ∈ wsX10_faults := by decide +kernel
  have hw1 : Cond.fieldLink RX10 142 (TX10 14).1 (TX10 14).2.1 (TX10 14).2.2.1 ∈ wsX10_faults := by decide +kernel
  have hw2 : Cond.fieldLink RX10 56 (TX10 18).1 (TX10 18).2.1 (TX10 18).2.2.1 ∈ wsX10_faults := by decide +kernel
  have hw3 : Cond.fieldLink RX10 53 (TX10 17).1 (TX10 17).2.1 (TX10 17).2.2.1 ∈ wsX10_faults := by decide +kernel
  refine x_L (L' := [(0, .ref mo), (1, .int (nI wq))]) [0, 1] rfl ?_
  have hIP := hF.1
  have hP1 := hIP.1
  have hP2 := hIP.2.1
  refine x_iconst C dX10_faults_0 (q := 1) rfl (v := nI 0) (by decide) ?_
  refine x_istore_n C (L' := [(2, .int (nI 0)), (0, .ref mo), (1, .int (nI wq))]) dX10_faults_1 (q := 2) rfl rfl (by decide) rfl ?_
  refine x_iconst C dX10_faults_2 (q := 3) rfl (v := nI 0) (by decide) ?_
  refine x_istore_n C (L' := [(3, .int (nI 0)), (2, .int (nI 0)), (0, .ref mo), (1, .int (nI wq))]) dX10_faults_3 (q := 4) rfl rfl (by decide) rfl ?_
  have cut4 : ∀ (fuel : Nat) (i : Nat) (cn : Nat), (i ≤ pMk P) → (cn = cntE fa9 (nI wq) i) → (cn ≤ i) → pMk P - i < fuel → xG p l e R s m args below meth c Q D A 4 [(mo, .inr (9, [.int (nI cols), .int (nI lc), .int (nI smp), .int (ky), .ref (mr 0), .ref (mr 1), .ref (mr 2), .ref (mr 3), .ref (mr 4), .ref (mr 5), .ref (mr 6), .ref (mr 7), .ref (mr 8), .ref (mr 9), .int (nI (pMk P)), .int (nI (pRs P)), .ref (mr 10), .ref (mr 11), .ref (mr 12), .ref (mr 13), .ref (mr 14), .ref (mr 15), .ref (mr 16), .ref (mr 17), .ref (mr 18), .ref (mr 19), .ref (mr 20), .int (nI nse), .int (nI npa), .int (nI nbo), .ref (mr 21), .int (nI tn), .ref (mr 22), .int (nI ik), .int (j0), .int (j1), .ref (mr 23), .int (j2), .ref (mr 24), .ref (mr 25), .int (j3), .ref (mr 26), .int (j4), .ref (mr 27), .ref (mr 28), .ref (mr 29), .ref (mr 30)])), (mr 11, .inl (cy 1, 24, .inl rl9)), (mr 12, .inl (cy 1, 24, .inl fa9))] 0 0 4 [(0, .ref mo), (1, .int (nI wq)), (2, .int (nI cn)), (3, .int (nI i))] [] := by
    intro fuel
    induction fuel with
    | zero =>
      intro i cn hi hcn hcl hmu
      exact absurd hmu (Nat.not_lt_zero _)
    | succ fuel ih =>
      intro i cn hi hcn hcl hmu
      have ih4 := ih
      clear ih
      refine x_iload_n C dX10_faults_4 (q := 5) rfl rfl 3 rfl ?_
      refine x_aload_n C dX10_faults_5 (q := 6) rfl rfl 0 rfl ?_
      refine x_get C (ci := 9) (v := .int (nI (pMk P))) hw0 0 rfl rfl 14 (by decide) hw1 rfl dX10_faults_6 (q := 9) rfl ?_
      refine x_icmp_ge C (tgt := 57) dX10_faults_9 (by decide) (q := 12) rfl (a := ((i : Nat) : Int)) (b := ((pMk P : Nat) : Int)) (nI_toInt (by omega)) (nI_toInt (by omega)) (fun h1 => ?_) (fun h1 => ?_)
      · first
        | (exfalso; omega)
        |
          refine x_iload_n C dX10_faults_57 (q := 58) rfl rfl 2 rfl ?_
          refine x_iret C hA hQ hr dX10_faults_58 (Nat.le_of_ble_eq_true rfl) ?_
          have e9 : i = pMk P := by omega
          exact ⟨by rw [hcn, e9, cntE_congr (f := fa9) (g := pFa P) (pMk P) (fun x hx => (hmp.1.2.2.1 x hx).2.1)], rfl⟩
      · first
        | (exfalso; omega)
        |
          refine x_iload_n C dX10_faults_12 (q := 13) rfl rfl 2 rfl ?_
          refine x_iload_n C dX10_faults_13 (q := 14) rfl rfl 1 rfl ?_
          refine x_if_ne C (tgt := 34) dX10_faults_14 (by decide) (q := 17) rfl (a := ((wq : Nat) : Int)) (nI_toInt (by omega)) (fun h2 => ?_) (fun h2 => ?_)
          · first
            | (exfalso; omega)
            |
              refine x_aload_n C dX10_faults_34 (q := 35) rfl rfl 0 rfl ?_
              refine x_get C (ci := 9) (v := .ref (mr 12)) hw0 0 rfl rfl 18 (by decide) hw2 rfl dX10_faults_35 (q := 38) rfl ?_
              refine x_iload_n C dX10_faults_38 (q := 39) rfl rfl 3 rfl ?_
              refine x_iald C (j := i) (v := fa9 i) 2 rfl (nI_toInt (by omega)) (by omega) rfl dX10_faults_39 (q := 40) rfl ?_
              refine x_iload_n C dX10_faults_40 (q := 41) rfl rfl 1 rfl ?_
              refine x_icmp_ne C (tgt := 48) dX10_faults_41 (by decide) (q := 44) rfl (a := (fa9 i).toInt) (b := ((wq : Nat) : Int)) rfl (nI_toInt (by omega)) (fun h3 => ?_) (fun h3 => ?_)
              · first
                | (exfalso; omega)
                |
                  refine x_iconst C dX10_faults_48 (q := 49) rfl (v := nI 0) (by decide) ?_
                  refine x_iadd C dX10_faults_49 (q := 50) rfl (z := nI (cn + 0)) (nI_add cn 0) ?_
                  refine x_istore_n C (L' := [(2, .int (nI (cn + 0))), (0, .ref mo), (1, .int (nI wq)), (3, .int (nI i))]) dX10_faults_50 (q := 51) rfl rfl (by decide) rfl ?_
                  refine x_iinc C (L' := [(3, .int (nI (i + 1))), (2, .int (nI (cn + 0))), (0, .ref mo), (1, .int (nI wq))]) dX10_faults_51 (q := 54) rfl 3 rfl (v := nI (i + 1)) (nI_add i 1) (by decide) rfl ?_
                  refine x_goto C (tgt := 4) dX10_faults_54 (by decide) ?_
                  refine x_L (L' := [(0, .ref mo), (1, .int (nI wq)), (2, .int (nI (cn + 0))), (3, .int (nI (i + 1)))]) [2, 3, 1, 0] rfl ?_
                  exact ih4 (i + 1) (cn + 0) (by first | omega | assumption) (by first | (show _ = cntE fa9 (nI wq) i + (if fa9 i = nI wq then 1 else 0); rw [if_pos (Int32.toInt_inj.mp (by rw [nI_toInt (by omega)]; omega)), hcn]) | (show _ = cntE fa9 (nI wq) i + (if fa9 i = nI wq then 1 else 0); rw [if_neg (fun z => by have z2 := congrArg Int32.toInt z; rw [nI_toInt (by omega)] at z2; omega), hcn])) (by first | omega | assumption) (by omega)
              · first
                | (exfalso; omega)
                |
                  refine x_iconst C dX10_faults_44 (q := 45) rfl (v := nI 1) (by decide) ?_
                  refine x_goto C (tgt := 49) dX10_faults_45 (by decide) ?_
                  refine x_iadd C dX10_faults_49 (q := 50) rfl (z := nI (cn + 1)) (nI_add cn 1) ?_
                  refine x_istore_n C (L' := [(2, .int (nI (cn + 1))), (0, .ref mo), (1, .int (nI wq)), (3, .int (nI i))]) dX10_faults_50 (q := 51) rfl rfl (by decide) rfl ?_
                  refine x_iinc C (L' := [(3, .int (nI (i + 1))), (2, .int (nI (cn + 1))), (0, .ref mo), (1, .int (nI wq))]) dX10_faults_51 (q := 54) rfl 3 rfl (v := nI (i + 1)) (nI_add i 1) (by decide) rfl ?_
                  refine x_goto C (tgt := 4) dX10_faults_54 (by decide) ?_
                  refine x_L (L' := [(0, .ref mo), (1, .int (nI wq)), (2, .int (nI (cn + 1))), (3, .int (nI (i + 1)))]) [2, 3, 1, 0] rfl ?_
                  exact ih4 (i + 1) (cn + 1) (by first | omega | assumption) (by first | (show _ = cntE fa9 (nI wq) i + (if fa9 i = nI wq then 1 else 0); rw [if_pos (Int32.toInt_inj.mp (by rw [nI_toInt (by omega)]; omega)), hcn]) | (show _ = cntE fa9 (nI wq) i + (if fa9 i = nI wq then 1 else 0); rw [if_neg (fun z => by have z2 := congrArg Int32.toInt z; rw [nI_toInt (by omega)] at z2; omega), hcn])) (by first | omega | assumption) (by omega)
          · first
            | (exfalso; omega)
            |
              refine x_aload_n C dX10_faults_17 (q := 18) rfl rfl 0 rfl ?_
              refine x_get C (ci := 9) (v := .ref (mr 11)) hw0 0 rfl rfl 17 (by decide) hw3 rfl dX10_faults_18 (q := 21) rfl ?_
              refine x_iload_n C dX10_faults_21 (q := 22) rfl rfl 3 rfl ?_
              refine x_iald C (j := i) (v := rl9 i) 1 rfl (nI_toInt (by omega)) (by omega) rfl dX10_faults_22 (q := 23) rfl ?_
              refine x_if_ge C (tgt := 30) dX10_faults_23 (by decide) (q := 26) rfl (a := (rl9 i).toInt) rfl (fun h4 => ?_) (fun h4 => ?_)
              · first
                | (exfalso; omega)
                |
                  refine x_iconst C dX10_faults_30 (q := 31) rfl (v := nI 0) (by decide) ?_
                  refine x_goto C (tgt := 49) dX10_faults_31 (by decide) ?_
                  refine x_iadd C dX10_faults_49 (q := 50) rfl (z := nI (cn + 0)) (nI_add cn 0) ?_
                  refine x_istore_n C (L' := [(2, .int (nI (cn + 0))), (0, .ref mo), (1, .int (nI wq)), (3, .int (nI i))]) dX10_faults_50 (q := 51) rfl rfl (by decide) rfl ?_
                  refine x_iinc C (L' := [(3, .int (nI (i + 1))), (2, .int (nI (cn + 0))), (0, .ref mo), (1, .int (nI wq))]) dX10_faults_51 (q := 54) rfl 3 rfl (v := nI (i + 1)) (nI_add i 1) (by decide) rfl ?_
                  refine x_goto C (tgt := 4) dX10_faults_54 (by decide) ?_
                  refine x_L (L' := [(0, .ref mo), (1, .int (nI wq)), (2, .int (nI (cn + 0))), (3, .int (nI (i + 1)))]) [2, 3, 1, 0] rfl ?_
                  exact ih4 (i + 1) (cn + 0) (by first | omega | assumption) (by first | (show _ = cntE fa9 (nI wq) i + (if fa9 i = nI wq then 1 else 0); rw [if_pos (Int32.toInt_inj.mp (by rw [nI_toInt (by omega)]; omega)), hcn]) | (show _ = cntE fa9 (nI wq) i + (if fa9 i = nI wq then 1 else 0); rw [if_neg (fun z => by have z2 := congrArg Int32.toInt z; rw [nI_toInt (by omega)] at z2; omega), hcn])) (by first | omega | assumption) (by omega)
              · first
                | (exfalso; omega)
                |
                  refine x_iconst C dX10_faults_26 (q := 27) rfl (v := nI 1) (by decide) ?_
                  refine x_goto C (tgt := 49) dX10_faults_27 (by decide) ?_
                  refine x_iadd C dX10_faults_49 (q := 50) rfl (z := nI (cn + 1)) (nI_add cn 1) ?_
                  refine x_istore_n C (L' := [(2, .int (nI (cn + 1))), (0, .ref mo), (1, .int (nI wq)), (3, .int (nI i))]) dX10_faults_50 (q := 51) rfl rfl (by decide) rfl ?_
                  refine x_iinc C (L' := [(3, .int (nI (i + 1))), (2, .int (nI (cn + 1))), (0, .ref mo), (1, .int (nI wq))]) dX10_faults_51 (q := 54) rfl 3 rfl (v := nI (i + 1)) (nI_add i 1) (by decide) rfl ?_
                  refine x_goto C (tgt := 4) dX10_faults_54 (by decide) ?_
                  refine x_L (L' := [(0, .ref mo), (1, .int (nI wq)), (2, .int (nI (cn + 1))), (3, .int (nI (i + 1)))]) [2, 3, 1, 0] rfl ?_
                  exact ih4 (i + 1) (cn + 1) (by first | omega | assumption) (by first | (show _ = cntE fa9 (nI wq) i + (if fa9 i = nI wq then 1 else 0); rw [if_pos (Int32.toInt_inj.mp (by rw [nI_toInt (by omega)]; omega)), hcn]) | (show _ = cntE fa9 (nI wq) i + (if fa9 i = nI wq then 1 else 0); rw [if_neg (fun z => by have z2 := congrArg Int32.toInt z; rw [nI_toInt (by omega)] at z2; omega), hcn])) (by first | omega | assumption) (by omega)
  refine x_L (L' := [(0, .ref mo), (1, .int (nI wq)), (2, .int (nI 0)), (3, .int (nI 0))]) [2, 3, 1, 0] rfl ?_
  exact cut4 (pMk P - 0 + 1) 0 0 (by first | omega | assumption) (by rfl) (by first | omega | assumption) (by omega)

set_option maxHeartbeats 4000000 in
set_option maxRecDepth 100000 in
/-- fault -/
theorem c_X10_fault (l : Launch) (D : va_G) (cy : Nat → ClassId) (mo : Nat) (mr : Nat → Nat) (cols : Nat) (lc : Nat) (smp : Nat) (nse : Nat) (npa : Nat) (nbo : Nat) (tn : Nat) (ik : Nat) (ky : Int32) (j0 : Int32) (j1 : Int32) (j2 : Int32) (j3 : Int32) (j4 : Int32) (P : PS) (st9 : Nat → Nat) (lr9 : Nat → Nat) (rl9 : Nat → Int32) (fa9 : Nat → Int32) (ca9 : Nat → Int32) (dc9 : Nat → Int32) (ld : LD) (x : Int32) (y : Int32) (hmp : MdP cols P st9 lr9 rl9 fa9 ca9 dc9) (hF : InvF ld cols lc P) (hlc : lc ≤ 24) : xMet l D cy xT yX10_fault wsX10_fault ({ frames := 3, cells := 0, slots := 0, locals := 300 } : Room) [.ref mo, .int (x), .int (y)] [(mo, .inr (9, [.int (nI cols), .int (nI lc), .int (nI smp), .int (ky), .ref (mr 0), .ref (mr 1), .ref (mr 2), .ref (mr 3), .ref (mr 4), .ref (mr 5), .ref (mr 6), .ref (mr 7), .ref (mr 8), .ref (mr 9), .int (nI (pMk P)), .int (nI (pRs P)), .ref (mr 10), .ref (mr 11), .ref (mr 12), .ref (mr 13), .ref (mr 14), .ref (mr 15), .ref (mr 16), .ref (mr 17), .ref (mr 18), .ref (mr 19), .ref (mr 20), .int (nI nse), .int (nI npa), .int (nI nbo), .ref (mr 21), .int (nI tn), .ref (mr 22), .int (nI ik), .int (j0), .int (j1), .ref (mr 23), .int (j2), .ref (mr 24), .ref (mr 25), .int (j3), .ref (mr 26), .int (j4), .ref (mr 27), .ref (mr 28), .ref (mr 29), .ref (mr 30)])), (mr 12, .inl (cy 1, 24, .inl fa9)), (mr 13, .inl (cy 1, 24, .inl ca9)), (mr 14, .inl (cy 1, 24, .inl dc9))] [] (fun (v9 : Option Value) (w9 : va_W) => (v9 = some (.int (fauA lc P x y)) ∧ w9 = [(mo, .inr (9, [.int (nI cols), .int (nI lc), .int (nI smp), .int (ky), .ref (mr 0), .ref (mr 1), .ref (mr 2), .ref (mr 3), .ref (mr 4), .ref (mr 5), .ref (mr 6), .ref (mr 7), .ref (mr 8), .ref (mr 9), .int (nI (pMk P)), .int (nI (pRs P)), .ref (mr 10), .ref (mr 11), .ref (mr 12), .ref (mr 13), .ref (mr 14), .ref (mr 15), .ref (mr 16), .ref (mr 17), .ref (mr 18), .ref (mr 19), .ref (mr 20), .int (nI nse), .int (nI npa), .int (nI nbo), .ref (mr 21), .int (nI tn), .ref (mr 22), .int (nI ik), .int (j0), .int (j1), .ref (mr 23), .int (j2), .ref (mr 24), .ref (mr 25), .int (j3), .ref (mr 26), .int (j4), .ref (mr 27), .ref (mr 28), .ref (mr 29), .ref (mr 30)])), (mr 12, .inl (cy 1, 24, .inl fa9)), (mr 13, .inl (cy 1, 24, .inl ca9)), (mr 14, .inl (cy 1, 24, .inl dc9))])) := by
  refine xMet_of (cc := cX10_fault) (maxL := 3) (ret := (some .int)) (by decide) rfl (Nat.le_of_ble_eq_true rfl) (fun p e s m args below meth c A R Q hA hR hQ C hr hnm hro hX => ?_)
  have hw0 : ∀ w ∈ u_ws RX10 TX10 47, w ∈ wsX10_fault := by decide +kernel
  have hw1 : Cond.fieldLink RX10 62 (TX10 20).1 (TX10 20).2.1 (TX10 20).2.2.1 ∈ wsX10_fault := by decide +kernel
  have hw2 : Cond.fieldLink RX10 59 (TX10 19).1 (TX10 19).2.1 (TX10 19).2.2.1 ∈ wsX10_fault := by decide +kernel
  have hw3 : Cond.fieldLink RX10 56 (TX10 18).1 (TX10 18).2.1 (TX10 18).2.2.1 ∈ wsX10_fault := by decide +kernel
  refine x_L (L' := [(0, .ref mo), (1, .int (x)), (2, .int (y))]) [0, 1, 2] rfl ?_
  have hP2 := hF.1.2.1
  refine x_aload_n C dX10_fault_0 (q := 1) rfl rfl 0 rfl ?_
  refine x_iload_n C dX10_fault_1 (q := 2) rfl rfl 1 rfl ?_
  refine x_callV C (roW := []) (roR := []) (c_X10_isLine l D cy mo mr cols lc smp (pMk P) (pRs P) nse npa nbo tn ik ky j0 j1 j2 j3 j4 x (by first | assumption | omega | (simp only []; omega))) (cwV 1 C.2.2.2.2.1 gX10_fault_X10_isLine rfl rfl rfl (by decide +kernel) (by rw [hR]; exact ⟨Nat.le_of_ble_eq_true rfl, Nat.le_of_ble_eq_true rfl⟩)) [0] [] rfl (by decide) rfl (by decide) xro_nil (List.mem_of_getElem? (i := 0) rfl) (ci := 9) rfl xT_bl (fun _ _ _ _ _ _ _ => trivial) rfl rfl dX10_fault_2 rfl rfl (Nat.le_of_ble_eq_true rfl) (q := 5) rfl (k' := 0) rfl (n' := 0) rfl (by rw [hR]; exact ⟨Nat.le_of_ble_eq_true rfl, Nat.le_of_ble_eq_true rfl⟩) (fun v1 w1 hp1 => ?_)
  rcases hp1 with hp1 | hp1
  · skip
    obtain ⟨rfl, rfl, hc2, hc3⟩ := hp1
    refine x_ws (ws' := [(mo, .inr (9, [.int (nI cols), .int (nI lc), .int (nI smp), .int (ky), .ref (mr 0), .ref (mr 1), .ref (mr 2), .ref (mr 3), .ref (mr 4), .ref (mr 5), .ref (mr 6), .ref (mr 7), .ref (mr 8), .ref (mr 9), .int (nI (pMk P)), .int (nI (pRs P)), .ref (mr 10), .ref (mr 11), .ref (mr 12), .ref (mr 13), .ref (mr 14), .ref (mr 15), .ref (mr 16), .ref (mr 17), .ref (mr 18), .ref (mr 19), .ref (mr 20), .int (nI nse), .int (nI npa), .int (nI nbo), .ref (mr 21), .int (nI tn), .ref (mr 22), .int (nI ik), .int (j0), .int (j1), .ref (mr 23), .int (j2), .ref (mr 24), .ref (mr 25), .int (j3), .ref (mr 26), .int (j4), .ref (mr 27), .ref (mr 28), .ref (mr 29), .ref (mr 30)])), (mr 12, .inl (cy 1, 24, .inl fa9)), (mr 13, .inl (cy 1, 24, .inl ca9)), (mr 14, .inl (cy 1, 24, .inl dc9))]) rfl ?_
    refine x_if_eq C (tgt := 12) dX10_fault_5 (by decide) (q := 8) rfl (a := 1) rfl (fun h4 => (by omega : False).elim) (fun h4 => ?_)
    refine x_iload_n C dX10_fault_8 (q := 9) rfl rfl 2 rfl ?_
    refine x_if_ge C (tgt := 14) dX10_fault_9 (by decide) (q := 12) rfl (a := y.toInt) rfl (fun h5 => ?_) (fun h5 => ?_)
    · first
      | (exfalso; omega)
      |
        refine x_iload_n C dX10_fault_14 (q := 15) rfl rfl 2 rfl ?_
        refine x_if_ne C (tgt := 27) dX10_fault_15 (by decide) (q := 18) rfl (a := y.toInt) rfl (fun h6 => ?_) (fun h6 => ?_)
        · first
          | (exfalso; omega)
          |
            refine x_iload_n C dX10_fault_27 (q := 28) rfl rfl 2 rfl ?_
            refine x_iconst C dX10_fault_28 (q := 29) rfl (v := nI 1) (by decide) ?_
            refine x_icmp_ne C (tgt := 41) dX10_fault_29 (by decide) (q := 32) rfl (a := y.toInt) (b := 1) rfl rfl (fun h7 => ?_) (fun h7 => ?_)
            · first
              | (exfalso; omega)
              |
                refine x_iload_n C dX10_fault_41 (q := 42) rfl rfl 2 rfl ?_
                refine x_iconst C dX10_fault_42 (q := 43) rfl (v := nI 2) (by decide) ?_
                refine x_icmp_ne C (tgt := 55) dX10_fault_43 (by decide) (q := 46) rfl (a := y.toInt) (b := 2) rfl rfl (fun h8 => ?_) (fun h8 => ?_)
                · first
                  | (exfalso; omega)
                  |
                    refine x_bipush C dX10_fault_55 (q := 57) rfl (v := (-5)) (by decide) ?_
                    refine x_iret C hA hQ hr dX10_fault_57 (Nat.le_of_ble_eq_true rfl) ?_
                    refine ⟨?_, rfl⟩
                    unfold fauA fpA
                    rw [if_neg (by omega)]
                    by_cases em : x.toInt < pMk P
                    · have e8 := hmp.1.2.2.1 x.toInt.toNat (by omega)
                      rw [if_neg (by omega)]
                      first | (rw [if_pos (by omega)]; exact congrArg (fun q => some (Value.int q)) e8.2.1) | (rw [if_neg (by omega), if_pos (by omega)]; exact congrArg (fun q => some (Value.int q)) e8.2.2.1) | (rw [if_neg (by omega), if_neg (by omega), if_pos (by omega)]; exact congrArg (fun q => some (Value.int q)) e8.2.2.2) | (rw [if_neg (by omega), if_neg (by omega), if_neg (by omega)])
                    · have e8 := hmp.1.2.2.2 x.toInt.toNat (by omega) (by omega)
                      first | (rw [if_pos (by omega)]; done) | (rw [if_pos (by omega)]; first | exact congrArg (fun q => some (Value.int q)) e8.2.1 | exact congrArg (fun q => some (Value.int q)) e8.2.2.1 | exact congrArg (fun q => some (Value.int q)) e8.2.2.2)
                · first
                  | (exfalso; omega)
                  |
                    refine x_aload_n C dX10_fault_46 (q := 47) rfl rfl 0 rfl ?_
                    refine x_get C (ci := 9) (v := .ref (mr 14)) hw0 0 rfl rfl 20 (by decide) hw1 rfl dX10_fault_47 (q := 50) rfl ?_
                    refine x_iload_n C dX10_fault_50 (q := 51) rfl rfl 1 rfl ?_
                    refine x_iald C (j := x.toInt.toNat) (v := dc9 x.toInt.toNat) 3 rfl (by have h9 := (rfl : (x : Int32).toInt = x.toInt); omega) (by omega) rfl dX10_fault_51 (q := 52) rfl ?_
                    refine x_goto C (tgt := 57) dX10_fault_52 (by decide) ?_
                    refine x_iret C hA hQ hr dX10_fault_57 (Nat.le_of_ble_eq_true rfl) ?_
                    refine ⟨?_, rfl⟩
                    unfold fauA fpA
                    rw [if_neg (by omega)]
                    by_cases em : x.toInt < pMk P
                    · have e8 := hmp.1.2.2.1 x.toInt.toNat (by omega)
                      rw [if_neg (by omega)]
                      first | (rw [if_pos (by omega)]; exact congrArg (fun q => some (Value.int q)) e8.2.1) | (rw [if_neg (by omega), if_pos (by omega)]; exact congrArg (fun q => some (Value.int q)) e8.2.2.1) | (rw [if_neg (by omega), if_neg (by omega), if_pos (by omega)]; exact congrArg (fun q => some (Value.int q)) e8.2.2.2) | (rw [if_neg (by omega), if_neg (by omega), if_neg (by omega)])
                    · have e8 := hmp.1.2.2.2 x.toInt.toNat (by omega) (by omega)
                      first | (rw [if_pos (by omega)]; done) | (rw [if_pos (by omega)]; first | exact congrArg (fun q => some (Value.int q)) e8.2.1 | exact congrArg (fun q => some (Value.int q)) e8.2.2.1 | exact congrArg (fun q => some (Value.int q)) e8.2.2.2)
            · first
              | (exfalso; omega)
              |
                refine x_aload_n C dX10_fault_32 (q := 33) rfl rfl 0 rfl ?_
                refine x_get C (ci := 9) (v := .ref (mr 13)) hw0 0 rfl rfl 19 (by decide) hw2 rfl dX10_fault_33 (q := 36) rfl ?_
                refine x_iload_n C dX10_fault_36 (q := 37) rfl rfl 1 rfl ?_
                refine x_iald C (j := x.toInt.toNat) (v := ca9 x.toInt.toNat) 2 rfl (by have h9 := (rfl : (x : Int32).toInt = x.toInt); omega) (by omega) rfl dX10_fault_37 (q := 38) rfl ?_
                refine x_goto C (tgt := 57) dX10_fault_38 (by decide) ?_
                refine x_iret C hA hQ hr dX10_fault_57 (Nat.le_of_ble_eq_true rfl) ?_
                refine ⟨?_, rfl⟩
                unfold fauA fpA
                rw [if_neg (by omega)]
                by_cases em : x.toInt < pMk P
                · have e8 := hmp.1.2.2.1 x.toInt.toNat (by omega)
                  rw [if_neg (by omega)]
                  first | (rw [if_pos (by omega)]; exact congrArg (fun q => some (Value.int q)) e8.2.1) | (rw [if_neg (by omega), if_pos (by omega)]; exact congrArg (fun q => some (Value.int q)) e8.2.2.1) | (rw [if_neg (by omega), if_neg (by omega), if_pos (by omega)]; exact congrArg (fun q => some (Value.int q)) e8.2.2.2) | (rw [if_neg (by omega), if_neg (by omega), if_neg (by omega)])
                · have e8 := hmp.1.2.2.2 x.toInt.toNat (by omega) (by omega)
                  first | (rw [if_pos (by omega)]; done) | (rw [if_pos (by omega)]; first | exact congrArg (fun q => some (Value.int q)) e8.2.1 | exact congrArg (fun q => some (Value.int q)) e8.2.2.1 | exact congrArg (fun q => some (Value.int q)) e8.2.2.2)
        · first
          | (exfalso; omega)
          |
            refine x_aload_n C dX10_fault_18 (q := 19) rfl rfl 0 rfl ?_
            refine x_get C (ci := 9) (v := .ref (mr 12)) hw0 0 rfl rfl 18 (by decide) hw3 rfl dX10_fault_19 (q := 22) rfl ?_
            refine x_iload_n C dX10_fault_22 (q := 23) rfl rfl 1 rfl ?_
            refine x_iald C (j := x.toInt.toNat) (v := fa9 x.toInt.toNat) 1 rfl (by have h9 := (rfl : (x : Int32).toInt = x.toInt); omega) (by omega) rfl dX10_fault_23 (q := 24) rfl ?_
            refine x_goto C (tgt := 57) dX10_fault_24 (by decide) ?_
            refine x_iret C hA hQ hr dX10_fault_57 (Nat.le_of_ble_eq_true rfl) ?_
            refine ⟨?_, rfl⟩
            unfold fauA fpA
            rw [if_neg (by omega)]
            by_cases em : x.toInt < pMk P
            · have e8 := hmp.1.2.2.1 x.toInt.toNat (by omega)
              rw [if_neg (by omega)]
              first | (rw [if_pos (by omega)]; exact congrArg (fun q => some (Value.int q)) e8.2.1) | (rw [if_neg (by omega), if_pos (by omega)]; exact congrArg (fun q => some (Value.int q)) e8.2.2.1) | (rw [if_neg (by omega), if_neg (by omega), if_pos (by omega)]; exact congrArg (fun q => some (Value.int q)) e8.2.2.2) | (rw [if_neg (by omega), if_neg (by omega), if_neg (by omega)])
            · have e8 := hmp.1.2.2.2 x.toInt.toNat (by omega) (by omega)
              first | (rw [if_pos (by omega)]; done) | (rw [if_pos (by omega)]; first | exact congrArg (fun q => some (Value.int q)) e8.2.1 | exact congrArg (fun q => some (Value.int q)) e8.2.2.1 | exact congrArg (fun q => some (Value.int q)) e8.2.2.2)
    · first
      | (exfalso; omega)
      |
        refine x_iconst C dX10_fault_12 (q := 13) rfl (v := (-1)) (by decide) ?_
        refine x_iret C hA hQ hr dX10_fault_13 (Nat.le_of_ble_eq_true rfl) ?_
        refine ⟨?_, rfl⟩
        unfold fauA
        rw [if_pos (by omega)]
  · skip
    obtain ⟨rfl, rfl, hc9⟩ := hp1
    refine x_ws (ws' := [(mo, .inr (9, [.int (nI cols), .int (nI lc), .int (nI smp), .int (ky), .ref (mr 0), .ref (mr 1), .ref (mr 2), .ref (mr 3), .ref (mr 4), .ref (mr 5), .ref (mr 6), .ref (mr 7), .ref (mr 8), .ref (mr 9), .int (nI (pMk P)), .int (nI (pRs P)), .ref (mr 10), .ref (mr 11), .ref (mr 12), .ref (mr 13), .ref (mr 14), .ref (mr 15), .ref (mr 16), .ref (mr 17), .ref (mr 18), .ref (mr 19), .ref (mr 20), .int (nI nse), .int (nI npa), .int (nI nbo), .ref (mr 21), .int (nI tn), .ref (mr 22), .int (nI ik), .int (j0), .int (j1), .ref (mr 23), .int (j2), .ref (mr 24), .ref (mr 25), .int (j3), .ref (mr 26), .int (j4), .ref (mr 27), .ref (mr 28), .ref (mr 29), .ref (mr 30)])), (mr 12, .inl (cy 1, 24, .inl fa9)), (mr 13, .inl (cy 1, 24, .inl ca9)), (mr 14, .inl (cy 1, 24, .inl dc9))]) rfl ?_
    refine x_if_eq C (tgt := 12) dX10_fault_5 (by decide) (q := 8) rfl (a := 0) rfl (fun h10 => ?_) (fun h10 => (by omega : False).elim)
    refine x_iconst C dX10_fault_12 (q := 13) rfl (v := (-1)) (by decide) ?_
    refine x_iret C hA hQ hr dX10_fault_13 (Nat.le_of_ble_eq_true rfl) ?_
    refine ⟨?_, rfl⟩
    unfold fauA
    rw [if_pos (by omega)]

set_option maxHeartbeats 4000000 in
set_option maxRecDepth 100000 in
/-- told -/
theorem c_X10_told (l : Launch) (D : va_G) (cy : Nat → ClassId) (mo : Nat) (mr : Nat → Nat) (cols : Nat) (lc : Nat) (smp : Nat) (nse : Nat) (npa : Nat) (nbo : Nat) (tn : Nat) (ik : Nat) (ky : Int32) (j0 : Int32) (j1 : Int32) (j2 : Int32) (j3 : Int32) (j4 : Int32) (P : PS) (st9 : Nat → Nat) (lr9 : Nat → Nat) (rl9 : Nat → Int32) (fa9 : Nat → Int32) (ca9 : Nat → Int32) (dc9 : Nat → Int32) (ld : LD) (x : Int32) (hmp : MdP cols P st9 lr9 rl9 fa9 ca9 dc9) (hF : InvF ld cols lc P) (hlc : lc ≤ 24) (hky : -1 ≤ ky.toInt ∧ ky.toInt < cols) (hcols : cols ≤ 5) (hsmp : smp ≤ 24) : xMet l D cy xT yX10_told wsX10_told ({ frames := 3, cells := 0, slots := 0, locals := 300 } : Room) [.ref mo, .int (x)] [(mo, .inr (9, [.int (nI cols), .int (nI lc), .int (nI smp), .int (ky), .ref (mr 0), .ref (mr 1), .ref (mr 2), .ref (mr 3), .ref (mr 4), .ref (mr 5), .ref (mr 6), .ref (mr 7), .ref (mr 8), .ref (mr 9), .int (nI (pMk P)), .int (nI (pRs P)), .ref (mr 10), .ref (mr 11), .ref (mr 12), .ref (mr 13), .ref (mr 14), .ref (mr 15), .ref (mr 16), .ref (mr 17), .ref (mr 18), .ref (mr 19), .ref (mr 20), .int (nI nse), .int (nI npa), .int (nI nbo), .ref (mr 21), .int (nI tn), .ref (mr 22), .int (nI ik), .int (j0), .int (j1), .ref (mr 23), .int (j2), .ref (mr 24), .ref (mr 25), .int (j3), .ref (mr 26), .int (j4), .ref (mr 27), .ref (mr 28), .ref (mr 29), .ref (mr 30)])), (mr 11, .inl (cy 1, 24, .inl rl9)), (mr 12, .inl (cy 1, 24, .inl fa9))] [] (fun (v9 : Option Value) (w9 : va_W) => (v9 = some (.int (tolA cols smp ky P x)) ∧ w9 = [(mo, .inr (9, [.int (nI cols), .int (nI lc), .int (nI smp), .int (ky), .ref (mr 0), .ref (mr 1), .ref (mr 2), .ref (mr 3), .ref (mr 4), .ref (mr 5), .ref (mr 6), .ref (mr 7), .ref (mr 8), .ref (mr 9), .int (nI (pMk P)), .int (nI (pRs P)), .ref (mr 10), .ref (mr 11), .ref (mr 12), .ref (mr 13), .ref (mr 14), .ref (mr 15), .ref (mr 16), .ref (mr 17), .ref (mr 18), .ref (mr 19), .ref (mr 20), .int (nI nse), .int (nI npa), .int (nI nbo), .ref (mr 21), .int (nI tn), .ref (mr 22), .int (nI ik), .int (j0), .int (j1), .ref (mr 23), .int (j2), .ref (mr 24), .ref (mr 25), .int (j3), .ref (mr 26), .int (j4), .ref (mr 27), .ref (mr 28), .ref (mr 29), .ref (mr 30)])), (mr 11, .inl (cy 1, 24, .inl rl9)), (mr 12, .inl (cy 1, 24, .inl fa9))])) := by
  refine xMet_of (cc := cX10_told) (maxL := 2) (ret := (some .int)) (by decide) rfl (Nat.le_of_ble_eq_true rfl) (fun p e s m args below meth c A R Q hA hR hQ C hr hnm hro hX => ?_)
  have hw0 : ∀ w ∈ u_ws RX10 TX10 47, w ∈ wsX10_told := by decide +kernel
  have hw1 : Cond.fieldLink RX10 142 (TX10 14).1 (TX10 14).2.1 (TX10 14).2.2.1 ∈ wsX10_told := by decide +kernel
  have hw2 : Cond.fieldLink RX10 128 (TX10 15).1 (TX10 15).2.1 (TX10 15).2.2.1 ∈ wsX10_told := by decide +kernel
  have hw3 : Cond.fieldLink RX10 118 (TX10 0).1 (TX10 0).2.1 (TX10 0).2.2.1 ∈ wsX10_told := by decide +kernel
  have hw4 : Cond.fieldLink RX10 15 (TX10 3).1 (TX10 3).2.1 (TX10 3).2.2.1 ∈ wsX10_told := by decide +kernel
  have hw5 : Cond.fieldLink RX10 9 (TX10 2).1 (TX10 2).2.1 (TX10 2).2.2.1 ∈ wsX10_told := by decide +kernel
  refine x_L (L' := [(0, .ref mo), (1, .int (x))]) [0, 1] rfl ?_
  have hP1 := hF.1.1
  have hP2 := hF.1.2.1
  refine x_iload_n C dX10_told_0 (q := 1) rfl rfl 1 rfl ?_
  by_cases hs1 : x.toInt < 0 ∨ 7 < x.toInt
  · refine x_tableOut C (tgt := 103) dX10_told_1 hs1 (by decide) ?_
    refine x_iconst C dX10_told_103 (q := 104) rfl (v := (-1)) (by decide) ?_
    refine x_iret C hA hQ hr dX10_told_104 (Nat.le_of_ble_eq_true rfl) ?_
    refine ⟨?_, rfl⟩
    unfold tolA kaA
    repeat (first | rw [if_pos (by omega)] | rw [if_neg (by omega)])
  · have hs1' : x.toInt = 0 ∨ x.toInt = 1 ∨ x.toInt = 2 ∨ x.toInt = 3 ∨ x.toInt = 4 ∨ x.toInt = 5 ∨ x.toInt = 6 ∨ x.toInt = 7 := by omega
    rcases hs1' with hs1e | hs1e | hs1e | hs1e | hs1e | hs1e | hs1e | hs1e
    · refine x_tableIn C (tgt := 48) (0 : Int) ((rfl : (x : Int32).toInt = x.toInt).trans hs1e) dX10_told_1 (by decide) (by decide) rfl (by decide) ?_
      refine x_aload_n C dX10_told_48 (q := 49) rfl rfl 0 rfl ?_
      refine x_get C (ci := 9) (v := .int (nI (pMk P))) hw0 0 rfl rfl 14 (by decide) hw1 rfl dX10_told_49 (q := 52) rfl ?_
      refine x_iret C hA hQ hr dX10_told_52 (Nat.le_of_ble_eq_true rfl) ?_
      refine ⟨?_, rfl⟩
      unfold tolA kaA
      repeat (first | rw [if_pos (by omega)] | rw [if_neg (by omega)])
    · refine x_tableIn C (tgt := 53) (1 : Int) ((rfl : (x : Int32).toInt = x.toInt).trans hs1e) dX10_told_1 (by decide) (by decide) rfl (by decide) ?_
      refine x_aload_n C dX10_told_53 (q := 54) rfl rfl 0 rfl ?_
      refine x_get C (ci := 9) (v := .int (nI (pRs P))) hw0 0 rfl rfl 15 (by decide) hw2 rfl dX10_told_54 (q := 57) rfl ?_
      refine x_iret C hA hQ hr dX10_told_57 (Nat.le_of_ble_eq_true rfl) ?_
      refine ⟨?_, rfl⟩
      unfold tolA kaA
      repeat (first | rw [if_pos (by omega)] | rw [if_neg (by omega)])
    · refine x_tableIn C (tgt := 58) (2 : Int) ((rfl : (x : Int32).toInt = x.toInt).trans hs1e) dX10_told_1 (by decide) (by decide) rfl (by decide) ?_
      refine x_aload_n C dX10_told_58 (q := 59) rfl rfl 0 rfl ?_
      refine x_iconst C dX10_told_59 (q := 60) rfl (v := nI 0) (by decide) ?_
      refine x_callV C (roW := []) (roR := []) (c_X10_faults_0 l D cy mo mr cols lc smp nse npa nbo tn ik ky j0 j1 j2 j3 j4 P st9 lr9 rl9 fa9 ca9 dc9 ld (by assumption) (by assumption) (by first | assumption | omega | (simp only []; omega))) (cwV 1 C.2.2.2.2.1 gX10_told_X10_faults rfl rfl rfl (by decide +kernel) (by rw [hR]; exact ⟨Nat.le_of_ble_eq_true rfl, Nat.le_of_ble_eq_true rfl⟩)) [0, 1, 2] [] rfl (by decide) rfl (by decide) xro_nil (List.mem_of_getElem? (i := 0) rfl) (ci := 9) rfl xT_bl (fun _ _ _ _ _ _ _ => trivial) rfl rfl dX10_told_60 rfl rfl (Nat.le_of_ble_eq_true rfl) (q := 63) rfl (k' := 0) rfl (n' := 0) rfl (by rw [hR]; exact ⟨Nat.le_of_ble_eq_true rfl, Nat.le_of_ble_eq_true rfl⟩) (fun v2 w2 hp2 => ?_)
      obtain ⟨rfl, rfl⟩ := hp2
      refine x_ws (ws' := [(mo, .inr (9, [.int (nI cols), .int (nI lc), .int (nI smp), .int (ky), .ref (mr 0), .ref (mr 1), .ref (mr 2), .ref (mr 3), .ref (mr 4), .ref (mr 5), .ref (mr 6), .ref (mr 7), .ref (mr 8), .ref (mr 9), .int (nI (pMk P)), .int (nI (pRs P)), .ref (mr 10), .ref (mr 11), .ref (mr 12), .ref (mr 13), .ref (mr 14), .ref (mr 15), .ref (mr 16), .ref (mr 17), .ref (mr 18), .ref (mr 19), .ref (mr 20), .int (nI nse), .int (nI npa), .int (nI nbo), .ref (mr 21), .int (nI tn), .ref (mr 22), .int (nI ik), .int (j0), .int (j1), .ref (mr 23), .int (j2), .ref (mr 24), .ref (mr 25), .int (j3), .ref (mr 26), .int (j4), .ref (mr 27), .ref (mr 28), .ref (mr 29), .ref (mr 30)])), (mr 11, .inl (cy 1, 24, .inl rl9)), (mr 12, .inl (cy 1, 24, .inl fa9))]) rfl ?_
      refine x_iret C hA hQ hr dX10_told_63 (Nat.le_of_ble_eq_true rfl) ?_
      refine ⟨?_, rfl⟩
      unfold tolA kaA
      repeat (first | rw [if_pos (by omega)] | rw [if_neg (by omega)])
    · refine x_tableIn C (tgt := 64) (3 : Int) ((rfl : (x : Int32).toInt = x.toInt).trans hs1e) dX10_told_1 (by decide) (by decide) rfl (by decide) ?_
      refine x_aload_n C dX10_told_64 (q := 65) rfl rfl 0 rfl ?_
      refine x_get C (ci := 9) (v := .int (nI cols)) hw0 0 rfl rfl 0 (by decide) hw3 rfl dX10_told_65 (q := 68) rfl ?_
      refine x_iret C hA hQ hr dX10_told_68 (Nat.le_of_ble_eq_true rfl) ?_
      refine ⟨?_, rfl⟩
      unfold tolA kaA
      repeat (first | rw [if_pos (by omega)] | rw [if_neg (by omega)])
    · refine x_tableIn C (tgt := 69) (4 : Int) ((rfl : (x : Int32).toInt = x.toInt).trans hs1e) dX10_told_1 (by decide) (by decide) rfl (by decide) ?_
      refine x_aload_n C dX10_told_69 (q := 70) rfl rfl 0 rfl ?_
      refine x_get C (ci := 9) (v := .int (ky)) hw0 0 rfl rfl 3 (by decide) hw4 rfl dX10_told_70 (q := 73) rfl ?_
      refine x_if_ge C (tgt := 81) dX10_told_73 (by decide) (q := 76) rfl (a := ky.toInt) rfl (fun h3 => ?_) (fun h3 => ?_)
      · first
        | (exfalso; omega)
        |
          refine x_aload_n C dX10_told_81 (q := 82) rfl rfl 0 rfl ?_
          refine x_get C (ci := 9) (v := .int (ky)) hw0 0 rfl rfl 3 (by decide) hw4 rfl dX10_told_82 (q := 85) rfl ?_
          refine x_iret C hA hQ hr dX10_told_85 (Nat.le_of_ble_eq_true rfl) ?_
          refine ⟨?_, rfl⟩
          unfold tolA kaA
          repeat (first | rw [if_pos (by omega)] | rw [if_neg (by omega)])
      · first
        | (exfalso; omega)
        |
          refine x_bipush C dX10_told_76 (q := 78) rfl (v := (-5)) (by decide) ?_
          refine x_goto C (tgt := 85) dX10_told_78 (by decide) ?_
          refine x_iret C hA hQ hr dX10_told_85 (Nat.le_of_ble_eq_true rfl) ?_
          refine ⟨?_, rfl⟩
          unfold tolA kaA
          repeat (first | rw [if_pos (by omega)] | rw [if_neg (by omega)])
    · refine x_tableIn C (tgt := 86) (5 : Int) ((rfl : (x : Int32).toInt = x.toInt).trans hs1e) dX10_told_1 (by decide) (by decide) rfl (by decide) ?_
      refine x_aload_n C dX10_told_86 (q := 87) rfl rfl 0 rfl ?_
      refine x_get C (ci := 9) (v := .int (nI smp)) hw0 0 rfl rfl 2 (by decide) hw5 rfl dX10_told_87 (q := 90) rfl ?_
      refine x_iret C hA hQ hr dX10_told_90 (Nat.le_of_ble_eq_true rfl) ?_
      refine ⟨?_, rfl⟩
      unfold tolA kaA
      repeat (first | rw [if_pos (by omega)] | rw [if_neg (by omega)])
    · refine x_tableIn C (tgt := 91) (6 : Int) ((rfl : (x : Int32).toInt = x.toInt).trans hs1e) dX10_told_1 (by decide) (by decide) rfl (by decide) ?_
      refine x_aload_n C dX10_told_91 (q := 92) rfl rfl 0 rfl ?_
      refine x_iconst C dX10_told_92 (q := 93) rfl (v := nI 3) (by decide) ?_
      refine x_callV C (roW := []) (roR := []) (c_X10_faults_k l D cy mo mr cols lc smp nse npa nbo tn ik ky j0 j1 j2 j3 j4 P st9 lr9 rl9 fa9 ca9 dc9 ld 3 (by assumption) (by assumption) (by first | assumption | omega | (simp only []; omega)) (by first | assumption | omega | (simp only []; omega))) (cwV 1 C.2.2.2.2.1 gX10_told_X10_faults rfl rfl rfl (by decide +kernel) (by rw [hR]; exact ⟨Nat.le_of_ble_eq_true rfl, Nat.le_of_ble_eq_true rfl⟩)) [0, 1, 2] [] rfl (by decide) rfl (by decide) xro_nil (List.mem_of_getElem? (i := 0) rfl) (ci := 9) rfl xT_bl (fun _ _ _ _ _ _ _ => trivial) rfl rfl dX10_told_93 rfl rfl (Nat.le_of_ble_eq_true rfl) (q := 96) rfl (k' := 0) rfl (n' := 0) rfl (by rw [hR]; exact ⟨Nat.le_of_ble_eq_true rfl, Nat.le_of_ble_eq_true rfl⟩) (fun v4 w4 hp4 => ?_)
      obtain ⟨rfl, rfl⟩ := hp4
      refine x_ws (ws' := [(mo, .inr (9, [.int (nI cols), .int (nI lc), .int (nI smp), .int (ky), .ref (mr 0), .ref (mr 1), .ref (mr 2), .ref (mr 3), .ref (mr 4), .ref (mr 5), .ref (mr 6), .ref (mr 7), .ref (mr 8), .ref (mr 9), .int (nI (pMk P)), .int (nI (pRs P)), .ref (mr 10), .ref (mr 11), .ref (mr 12), .ref (mr 13), .ref (mr 14), .ref (mr 15), .ref (mr 16), .ref (mr 17), .ref (mr 18), .ref (mr 19), .ref (mr 20), .int (nI nse), .int (nI npa), .int (nI nbo), .ref (mr 21), .int (nI tn), .ref (mr 22), .int (nI ik), .int (j0), .int (j1), .ref (mr 23), .int (j2), .ref (mr 24), .ref (mr 25), .int (j3), .ref (mr 26), .int (j4), .ref (mr 27), .ref (mr 28), .ref (mr 29), .ref (mr 30)])), (mr 11, .inl (cy 1, 24, .inl rl9)), (mr 12, .inl (cy 1, 24, .inl fa9))]) rfl ?_
      refine x_iret C hA hQ hr dX10_told_96 (Nat.le_of_ble_eq_true rfl) ?_
      refine ⟨?_, rfl⟩
      unfold tolA kaA
      repeat (first | rw [if_pos (by omega)] | rw [if_neg (by omega)])
    · refine x_tableIn C (tgt := 97) (7 : Int) ((rfl : (x : Int32).toInt = x.toInt).trans hs1e) dX10_told_1 (by decide) (by decide) rfl (by decide) ?_
      refine x_aload_n C dX10_told_97 (q := 98) rfl rfl 0 rfl ?_
      refine x_iconst C dX10_told_98 (q := 99) rfl (v := nI 5) (by decide) ?_
      refine x_callV C (roW := []) (roR := []) (c_X10_faults_k l D cy mo mr cols lc smp nse npa nbo tn ik ky j0 j1 j2 j3 j4 P st9 lr9 rl9 fa9 ca9 dc9 ld 5 (by assumption) (by assumption) (by first | assumption | omega | (simp only []; omega)) (by first | assumption | omega | (simp only []; omega))) (cwV 1 C.2.2.2.2.1 gX10_told_X10_faults rfl rfl rfl (by decide +kernel) (by rw [hR]; exact ⟨Nat.le_of_ble_eq_true rfl, Nat.le_of_ble_eq_true rfl⟩)) [0, 1, 2] [] rfl (by decide) rfl (by decide) xro_nil (List.mem_of_getElem? (i := 0) rfl) (ci := 9) rfl xT_bl (fun _ _ _ _ _ _ _ => trivial) rfl rfl dX10_told_99 rfl rfl (Nat.le_of_ble_eq_true rfl) (q := 102) rfl (k' := 0) rfl (n' := 0) rfl (by rw [hR]; exact ⟨Nat.le_of_ble_eq_true rfl, Nat.le_of_ble_eq_true rfl⟩) (fun v5 w5 hp5 => ?_)
      obtain ⟨rfl, rfl⟩ := hp5
      refine x_ws (ws' := [(mo, .inr (9, [.int (nI cols), .int (nI lc), .int (nI smp), .int (ky), .ref (mr 0), .ref (mr 1), .ref (mr 2), .ref (mr 3), .ref (mr 4), .ref (mr 5), .ref (mr 6), .ref (mr 7), .ref (mr 8), .ref (mr 9), .int (nI (pMk P)), .int (nI (pRs P)), .ref (mr 10), .ref (mr 11), .ref (mr 12), .ref (mr 13), .ref (mr 14), .ref (mr 15), .ref (mr 16), .ref (mr 17), .ref (mr 18), .ref (mr 19), .ref (mr 20), .int (nI nse), .int (nI npa), .int (nI nbo), .ref (mr 21), .int (nI tn), .ref (mr 22), .int (nI ik), .int (j0), .int (j1), .ref (mr 23), .int (j2), .ref (mr 24), .ref (mr 25), .int (j3), .ref (mr 26), .int (j4), .ref (mr 27), .ref (mr 28), .ref (mr 29), .ref (mr 30)])), (mr 11, .inl (cy 1, 24, .inl rl9)), (mr 12, .inl (cy 1, 24, .inl fa9))]) rfl ?_
      refine x_iret C hA hQ hr dX10_told_102 (Nat.le_of_ble_eq_true rfl) ?_
      refine ⟨?_, rfl⟩
      unfold tolA kaA
      repeat (first | rw [if_pos (by omega)] | rw [if_neg (by omega)])
