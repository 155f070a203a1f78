
def jdS (g f : Nat → Int64) (n : Nat) (i : Int) : Nat → Nat → Int32
  | 0, _ => -5
  | u + 1, k => if i < 0 ∨ (n : Int) - k ≤ i then nI (100 + k) else if (f (i.toNat + k)).toInt = (g k).toInt then jdS g f n i u (k + 1) else nI k
theorem jdS_out {g f : Nat → Int64} {n : Nat} {i : Int} {m k : Nat} (h : k < m) (h1 : i < 0 ∨ (n : Int) - k ≤ i) : jdS g f n i (m - k) k = nI (100 + k) := by
  rw [show m - k = (m - (k + 1)) + 1 by omega]
  exact if_pos h1
theorem jdS_dif {g f : Nat → Int64} {n : Nat} {i : Int} {m k : Nat} (h : k < m) (h1 : ¬ (i < 0 ∨ (n : Int) - k ≤ i)) {x : Int32} (hx : x.toInt.toNat = i.toNat + k) (h2 : ¬ (f x.toInt.toNat).toInt = (g k).toInt) : jdS g f n i (m - k) k = nI k := by
  rw [show m - k = (m - (k + 1)) + 1 by omega]
  rw [hx] at h2
  exact (if_neg h1).trans (if_neg h2)
theorem jdS_go {g f : Nat → Int64} {n : Nat} {i : Int} {m k : Nat} (h : k < m) (h1 : ¬ (i < 0 ∨ (n : Int) - k ≤ i)) {x : Int32} (hx : x.toInt.toNat = i.toNat + k) (h2 : (f x.toInt.toNat).toInt = (g k).toInt) : jdS g f n i (m - k) k = jdS g f n i (m - (k + 1)) (k + 1) := by
  rw [show m - k = (m - (k + 1)) + 1 by omega]
  rw [hx] at h2
  exact (if_neg h1).trans (if_pos h2)
theorem jdS_end {g f : Nat → Int64} {n : Nat} {i : Int} {m k : Nat} (h : k = m) : jdS g f n i (m - k) k = -5 := by
  rw [h, Nat.sub_self]
  rfl
def judA (ld : LD) (cols : Nat) (tl : Nat → Nat) (z : Nat) (P : PS) (ga : Nat → Int64) (t : Int32 × Nat × (Nat → Int64)) (x i : Int) : Int32 := if x < 0 ∨ cols ≤ x then -1 else if ¬ t.1.toInt = -1 ∧ ¬ t.1.toInt = 3 then -12 else jdS (gaF ld (pLr P) (tyS (pSt P) tl ld x.toNat z) x.toNat ga (pRs P)) t.2.2 t.2.1 i (gaN ld (pLr P) x.toNat (pRs P)) 0
def shiA (t t2 : Int32 × Nat × (Nat → Int64)) (i j c : Int32) : Int32 := if t.1.toInt = -1 ∨ t2.1.toInt = -1 then -11 else if ¬ t.1.toInt = t2.1.toInt then -12 else if c.toInt < 0 ∨ i.toInt < 0 ∨ t.2.1 < i.toInt + c.toInt ∨ j.toInt < 0 ∨ t2.2.1 < j.toInt + c.toInt then -13 else c
def shiN (t t2 : Int32 × Nat × (Nat → Int64)) (i j c : Int32) : Nat → Int64 := if t.1.toInt = -1 ∨ t2.1.toInt = -1 then t2.2.2 else if ¬ t.1.toInt = t2.1.toInt then t2.2.2 else if c.toInt < 0 ∨ i.toInt < 0 ∨ t.2.1 < i.toInt + c.toInt ∨ j.toInt < 0 ∨ t2.2.1 < j.toInt + c.toInt then t2.2.2 else va_cpy t.2.2 t2.2.2 i.toInt.toNat j.toInt.toNat c.toInt.toNat

set_option maxHeartbeats 4000000 in
set_option maxRecDepth 100000 in
/-- judge, by a TAPE that there is -/
theorem c_X9_judge (l : Launch) (D : va_G) (cy : Nat → ClassId) (fi : Nat) (tO : Nat) (gO : Nat) (nO : Nat) (tb : Nat) (tb' : Nat) (trO : Nat) (gA : Nat) (tP : Nat) (kf : Nat) (nz : Nat) (tl : Nat) (pg : Nat) (se : Nat) (pa : Nat) (bo : Nat) (li : Nat) (ba : Nat) (cols : Nat) (lc : Nat) (smp : Nat) (nzf : Nat → Nat) (tlf : Nat → Nat) (lnf : Nat → Option Nat) (bal : Nat → Nat) (g0 : Nat) (g1 : Nat) (g2 : Nat) (g3 : Nat) (g4 : Nat) (g5 : Nat) (P : PS) (ky : Int32) (ld : LD) (pl : va_W) (ga : Nat → Int64) (tpf : Nat → Option Nat) (ta : Nat) (tb9 : Nat) (so : Int32) (n : Nat) (f : Nat → Int64) (x : Int32) (y : Int32) (z : Int32) (hcols : cols ≤ 5) (hlc : lc ≤ 24) (hTL : TbL cy pl lc lnf ld) (hfm : ∀ k i, dFm ld k i ≤ 4) (htl : ∀ k, tlf k ≤ 4) (hsmp : smp ≤ 24) (hst5 : ∀ k, pSt P k ≤ 4) (hP : InvP ld cols lc P) (htp : ∀ k, k < 6 → ∃ a, tpf k = some a) (hx0 : 0 ≤ y.toInt) (hx6 : y.toInt < 6) (hta : tpf y.toInt.toNat = some ta) (hn : n ≤ 60) : xMet l D cy xT yX9_judge wsX9_judge ({ frames := 10, cells := 0, slots := 0, locals := 1300 } : Room) [.ref fi, .int (x), .int (y), .int (z)] [(fi, .inr (8, [.ref tO, .ref gO, .ref nO, .ref tb, .ref tb', .ref trO, .ref gA, .ref tP, .int (nI kf)])), (tb, .inr (6, [.ref nz, .ref tl, .ref pg, .ref se, .ref pa, .ref bo, .ref li, .ref ba, .int (nI cols), .int (nI lc), .int (nI smp)])), (nz, .inl (cy 1, 5, .inl (fun k => nI (nzf k)))), (tl, .inl (cy 1, 5, .inl (fun k => nI (tlf k)))), (li, .inl (cy 4, 24, .inr (.inr (.inr (.inr lnf))))), (ba, .inl (cy 1, 5, .inl (fun k => nI (bal k)))), (pg, .inr (4, [.ref g0, .ref g1, .ref g2, .ref g3, .ref g4, .ref g5, .int (nI (pMk P)), .int (nI (pRs P)), .int (ky)])), (g0, .inl (cy 1, 5, .inl (fun k => nI ((pSt P) k)))), (g1, .inl (cy 1, 24, .inl (pFa P))), (g2, .inl (cy 1, 24, .inl (pCa P))), (g3, .inl (cy 1, 24, .inl (pDc P))), (g4, .inl (cy 1, 24, .inl (pRl P))), (g5, .inl (cy 1, 24, .inl (fun k => nI ((pLr P) k)))), (gA, .inl (cy 2, 24, .inr (.inl ga))), (tP, .inl (cy 5, 6, .inr (.inr (.inr (.inr tpf))))), (ta, .inr (7, [.ref tb9, .int (so), .int (nI n)])), (tb9, .inl (cy 2, 60, .inr (.inl f)))] pl (fun (v9 : Option Value) (w9 : va_W) => (∃ bx : Nat → Nat, ∃ gx : Nat → Int64, v9 = some (.int (judA ld cols tlf (min smp lc) P ga (so, n, f) x.toInt z.toInt)) ∧ w9 = [(fi, .inr (8, [.ref tO, .ref gO, .ref nO, .ref tb, .ref tb', .ref trO, .ref gA, .ref tP, .int (nI kf)])), (tb, .inr (6, [.ref nz, .ref tl, .ref pg, .ref se, .ref pa, .ref bo, .ref li, .ref ba, .int (nI cols), .int (nI lc), .int (nI smp)])), (nz, .inl (cy 1, 5, .inl (fun k => nI (nzf k)))), (tl, .inl (cy 1, 5, .inl (fun k => nI (tlf k)))), (li, .inl (cy 4, 24, .inr (.inr (.inr (.inr lnf))))), (ba, .inl (cy 1, 5, .inl (fun k => nI (bx k)))), (pg, .inr (4, [.ref g0, .ref g1, .ref g2, .ref g3, .ref g4, .ref g5, .int (nI (pMk P)), .int (nI (pRs P)), .int (ky)])), (g0, .inl (cy 1, 5, .inl (fun k => nI ((pSt P) k)))), (g1, .inl (cy 1, 24, .inl (pFa P))), (g2, .inl (cy 1, 24, .inl (pCa P))), (g3, .inl (cy 1, 24, .inl (pDc P))), (g4, .inl (cy 1, 24, .inl (pRl P))), (g5, .inl (cy 1, 24, .inl (fun k => nI ((pLr P) k)))), (gA, .inl (cy 2, 24, .inr (.inl gx))), (tP, .inl (cy 5, 6, .inr (.inr (.inr (.inr tpf))))), (ta, .inr (7, [.ref tb9, .int (so), .int (nI n)])), (tb9, .inl (cy 2, 60, .inr (.inl f)))])) := by
  refine xMet_of (cc := cX9_judge) (maxL := 7) (ret := (some .int)) (by decide) rfl (Nat.le_of_ble_eq_true rfl) (fun p e s m args below meth c A R Q hA hR hQ C hr hnm hro hX => ?_)
  have hw0 : ∀ w ∈ u_ws RX9 TX9 9, w ∈ wsX9_judge := by decide +kernel
  have hw1 : Cond.fieldLink RX9 33 (TX9 3).1 (TX9 3).2.1 (TX9 3).2.2.1 ∈ wsX9_judge := by decide +kernel
  have hw2 : ∀ w ∈ u_ws RX8 TX8 3, w ∈ wsX9_judge := by decide +kernel
  have hw3 : Cond.fieldLink RX9 258 (TX8 1).1 (TX8 1).2.1 (TX8 1).2.2.1 ∈ wsX9_judge := by decide +kernel
  have hw4 : Cond.fieldLink RX9 47 (TX9 6).1 (TX9 6).2.1 (TX9 6).2.2.1 ∈ wsX9_judge := by decide +kernel
  have hw5 : Cond.fieldLink RX9 261 (TX8 2).1 (TX8 2).2.1 (TX8 2).2.2.1 ∈ wsX9_judge := by decide +kernel
  refine x_L (L' := [(0, .ref fi), (1, .int (x)), (2, .int (y)), (3, .int (z))]) [0, 1, 2, 3] rfl ?_
  have hpool : ∀ q ∈ pl, xRo D A s q := hro
  refine x_aload_n C dX9_judge_0 (q := 1) rfl rfl 0 rfl ?_
  refine x_iload_n C dX9_judge_1 (q := 2) rfl rfl 2 rfl ?_
  refine x_callV C (roW := []) (roR := []) (c_X9_tapeAt l D cy fi tO gO nO tb tb' trO gA tP kf tpf y (by assumption)) (cwV 1 C.2.2.2.2.1 gX9_judge_X9_tapeAt rfl rfl rfl (by decide +kernel) (by rw [hR]; exact ⟨Nat.le_of_ble_eq_true rfl, Nat.le_of_ble_eq_true rfl⟩)) [0, 14] [] rfl (by decide) rfl (by decide) xro_nil (List.mem_of_getElem? (i := 0) rfl) (ci := 8) rfl xT_bl (fun _ _ _ _ _ _ _ => trivial) rfl rfl dX9_judge_2 rfl rfl (Nat.le_of_ble_eq_true rfl) (q := 5) rfl (k' := 0) rfl (n' := 0) rfl (by rw [hR]; exact ⟨Nat.le_of_ble_eq_true rfl, Nat.le_of_ble_eq_true rfl⟩) (fun v1 w1 hp1 => ?_)
  rcases hp1 with hp1 | hp1
  · skip
    obtain ⟨a_2, rfl, rfl, hc3, hc4, hc5⟩ := hp1
    refine x_ws (ws' := [(fi, .inr (8, [.ref tO, .ref gO, .ref nO, .ref tb, .ref tb', .ref trO, .ref gA, .ref tP, .int (nI kf)])), (tb, .inr (6, [.ref nz, .ref tl, .ref pg, .ref se, .ref pa, .ref bo, .ref li, .ref ba, .int (nI cols), .int (nI lc), .int (nI smp)])), (nz, .inl (cy 1, 5, .inl (fun k => nI (nzf k)))), (tl, .inl (cy 1, 5, .inl (fun k => nI (tlf k)))), (li, .inl (cy 4, 24, .inr (.inr (.inr (.inr lnf))))), (ba, .inl (cy 1, 5, .inl (fun k => nI (bal k)))), (pg, .inr (4, [.ref g0, .ref g1, .ref g2, .ref g3, .ref g4, .ref g5, .int (nI (pMk P)), .int (nI (pRs P)), .int (ky)])), (g0, .inl (cy 1, 5, .inl (fun k => nI ((pSt P) k)))), (g1, .inl (cy 1, 24, .inl (pFa P))), (g2, .inl (cy 1, 24, .inl (pCa P))), (g3, .inl (cy 1, 24, .inl (pDc P))), (g4, .inl (cy 1, 24, .inl (pRl P))), (g5, .inl (cy 1, 24, .inl (fun k => nI ((pLr P) k)))), (gA, .inl (cy 2, 24, .inr (.inl ga))), (tP, .inl (cy 5, 6, .inr (.inr (.inr (.inr tpf))))), (ta, .inr (7, [.ref tb9, .int (so), .int (nI n)])), (tb9, .inl (cy 2, 60, .inr (.inl f)))]) rfl ?_
    obtain rfl : ta = a_2 := Option.some.inj (hta.symm.trans hc5)
    refine x_astore C (L' := [(4, .ref ta), (0, .ref fi), (1, .int (x)), (2, .int (y)), (3, .int (z))]) dX9_judge_5 (q := 7) rfl (by decide) rfl ?_
    refine x_aload_n C dX9_judge_7 (q := 8) rfl rfl 1 rfl ?_
    refine x_get C (ci := 8) (v := .ref tb) hw0 0 rfl rfl 3 (by decide) hw1 rfl dX9_judge_8 (q := 11) rfl ?_
    refine x_iload_n C dX9_judge_11 (q := 12) rfl rfl 2 rfl ?_
    refine x_callV C (roW := [(tb, .inr (6, [.ref nz, .ref tl, .ref pg, .ref se, .ref pa, .ref bo, .ref li, .ref ba, .int (nI cols), .int (nI lc), .int (nI smp)]))]) (roR := []) (c_X7_hasColumn l D cy tb nz tl pg se pa bo li ba cols lc smp x (by first | assumption | omega | (simp only []; omega)) (by first | assumption | omega | (simp only []; omega))) (cwV 1 C.2.2.2.2.1 gX9_judge_X7_hasColumn rfl rfl rfl (by decide +kernel) (by rw [hR]; exact ⟨Nat.le_of_ble_eq_true rfl, Nat.le_of_ble_eq_true rfl⟩)) [] [1] rfl (by decide) rfl (by decide) xro_nil (List.mem_of_getElem? (i := 0) rfl) (ci := 6) rfl xT_bl (fun _ _ _ _ _ _ _ => trivial) rfl rfl dX9_judge_12 rfl rfl (Nat.le_of_ble_eq_true rfl) (q := 15) rfl (k' := 0) rfl (n' := 0) rfl (by rw [hR]; exact ⟨Nat.le_of_ble_eq_true rfl, Nat.le_of_ble_eq_true rfl⟩) (fun v6 w6 hp6 => ?_)
    rcases hp6 with hp6 | hp6
    · skip
      obtain ⟨rfl, rfl, hc7, hc8⟩ := hp6
      refine x_ws (ws' := [(fi, .inr (8, [.ref tO, .ref gO, .ref nO, .ref tb, .ref tb', .ref trO, .ref gA, .ref tP, .int (nI kf)])), (tb, .inr (6, [.ref nz, .ref tl, .ref pg, .ref se, .ref pa, .ref bo, .ref li, .ref ba, .int (nI cols), .int (nI lc), .int (nI smp)])), (nz, .inl (cy 1, 5, .inl (fun k => nI (nzf k)))), (tl, .inl (cy 1, 5, .inl (fun k => nI (tlf k)))), (li, .inl (cy 4, 24, .inr (.inr (.inr (.inr lnf))))), (ba, .inl (cy 1, 5, .inl (fun k => nI (bal k)))), (pg, .inr (4, [.ref g0, .ref g1, .ref g2, .ref g3, .ref g4, .ref g5, .int (nI (pMk P)), .int (nI (pRs P)), .int (ky)])), (g0, .inl (cy 1, 5, .inl (fun k => nI ((pSt P) k)))), (g1, .inl (cy 1, 24, .inl (pFa P))), (g2, .inl (cy 1, 24, .inl (pCa P))), (g3, .inl (cy 1, 24, .inl (pDc P))), (g4, .inl (cy 1, 24, .inl (pRl P))), (g5, .inl (cy 1, 24, .inl (fun k => nI ((pLr P) k)))), (gA, .inl (cy 2, 24, .inr (.inl ga))), (tP, .inl (cy 5, 6, .inr (.inr (.inr (.inr tpf))))), (ta, .inr (7, [.ref tb9, .int (so), .int (nI n)])), (tb9, .inl (cy 2, 60, .inr (.inl f)))]) (List.append_nil _) ?_
      refine x_if_eq C (tgt := 23) dX9_judge_15 (by decide) (q := 18) rfl (a := 1) rfl (fun h9 => (by omega : False).elim) (fun h9 => ?_)
      refine x_aload C dX9_judge_18 (q := 20) rfl 0 rfl ?_
      refine x_ifnonnull C (tgt := 25) dX9_judge_20 (by decide) ?_
      refine x_aload C dX9_judge_25 (q := 27) rfl 0 rfl ?_
      refine x_get C (ci := 7) (v := .int (so)) hw2 15 rfl rfl 1 (by decide) hw3 rfl dX9_judge_27 (q := 30) rfl ?_
      refine x_iconst C dX9_judge_30 (q := 31) rfl (v := (-1)) (by decide) ?_
      refine x_icmp_eq C (tgt := 46) dX9_judge_31 (by decide) (q := 34) rfl (a := so.toInt) (b := (-1)) rfl rfl (fun h10 => ?_) (fun h10 => ?_)
      · first
        | (exfalso; omega)
        |
          refine x_aload_n C dX9_judge_46 (q := 47) rfl rfl 1 rfl ?_
          refine x_iload_n C dX9_judge_47 (q := 48) rfl rfl 2 rfl ?_
          refine x_callV C (roW := []) (roR := pl) (c_X9_gatherValues l D cy fi tO gO nO tb tb' trO gA tP kf nz tl pg se pa bo li ba cols lc smp nzf tlf lnf bal g0 g1 g2 g3 g4 g5 P ky ld pl ga x (by first | assumption | omega | (simp only []; omega)) (by first | assumption | omega | (simp only []; omega)) (by assumption) (by assumption) (by assumption) (by first | assumption | omega | (simp only []; omega)) (by assumption) (by assumption) (by first | assumption | omega | (simp only []; omega)) (by first | assumption | omega | (simp only []; omega))) (cwV 1 C.2.2.2.2.1 gX9_judge_X9_gatherValues rfl rfl rfl (by decide +kernel) (by rw [hR]; exact ⟨Nat.le_of_ble_eq_true rfl, Nat.le_of_ble_eq_true rfl⟩)) [0, 1, 2, 3, 4, 5, 6, 7, 8, 9, 10, 11, 12, 13] [] rfl (by decide) rfl (by decide) hpool (List.mem_of_getElem? (i := 0) rfl) (ci := 8) rfl xT_bl (fun _ _ _ _ _ _ _ => trivial) rfl rfl dX9_judge_48 rfl rfl (Nat.le_of_ble_eq_true rfl) (q := 51) rfl (k' := 0) rfl (n' := 0) rfl (by rw [hR]; exact ⟨Nat.le_of_ble_eq_true rfl, Nat.le_of_ble_eq_true rfl⟩) (fun v11 w11 hp11 => ?_)
          obtain ⟨bx_12, rfl, rfl⟩ := hp11
          refine x_ws (ws' := [(fi, .inr (8, [.ref tO, .ref gO, .ref nO, .ref tb, .ref tb', .ref trO, .ref gA, .ref tP, .int (nI kf)])), (tb, .inr (6, [.ref nz, .ref tl, .ref pg, .ref se, .ref pa, .ref bo, .ref li, .ref ba, .int (nI cols), .int (nI lc), .int (nI smp)])), (nz, .inl (cy 1, 5, .inl (fun k => nI (nzf k)))), (tl, .inl (cy 1, 5, .inl (fun k => nI (tlf k)))), (li, .inl (cy 4, 24, .inr (.inr (.inr (.inr lnf))))), (ba, .inl (cy 1, 5, .inl (fun k => nI (bx_12 k)))), (pg, .inr (4, [.ref g0, .ref g1, .ref g2, .ref g3, .ref g4, .ref g5, .int (nI (pMk P)), .int (nI (pRs P)), .int (ky)])), (g0, .inl (cy 1, 5, .inl (fun k => nI ((pSt P) k)))), (g1, .inl (cy 1, 24, .inl (pFa P))), (g2, .inl (cy 1, 24, .inl (pCa P))), (g3, .inl (cy 1, 24, .inl (pDc P))), (g4, .inl (cy 1, 24, .inl (pRl P))), (g5, .inl (cy 1, 24, .inl (fun k => nI ((pLr P) k)))), (gA, .inl (cy 2, 24, .inr (.inl (gaF ld (pLr P) (tyS (pSt P) tlf ld x.toInt.toNat (min smp lc)) x.toInt.toNat ga (pRs P))))), (tP, .inl (cy 5, 6, .inr (.inr (.inr (.inr tpf))))), (ta, .inr (7, [.ref tb9, .int (so), .int (nI n)])), (tb9, .inl (cy 2, 60, .inr (.inl f)))]) (xput_eq2 [0, 1, 2, 3, 4, 5, 6, 7, 8, 9, 10, 11, 12, 13] [14, 15, 16] 17 [(tP, .inl (cy 5, 6, .inr (.inr (.inr (.inr tpf))))), (ta, .inr (7, [.ref tb9, .int (so), .int (nI n)])), (tb9, .inl (cy 2, 60, .inr (.inl f)))] rfl rfl (by decide) rfl rfl rfl (by decide)) ?_
          have hga := gaN_le ld (pLr P) (x.toInt.toNat) (pRs P)
          have hP1 := hP.1
          have hP2 := hP.2.1
          refine x_istore C (L' := [(5, .int (nI (gaN ld (pLr P) x.toInt.toNat (pRs P)))), (4, .ref ta), (0, .ref fi), (1, .int (x)), (2, .int (y)), (3, .int (z))]) dX9_judge_51 (q := 53) rfl (by decide) rfl ?_
          refine x_iconst C dX9_judge_53 (q := 54) rfl (v := nI 0) (by decide) ?_
          refine x_istore C (L' := [(6, .int (nI 0)), (5, .int (nI (gaN ld (pLr P) x.toInt.toNat (pRs P)))), (4, .ref ta), (0, .ref fi), (1, .int (x)), (2, .int (y)), (3, .int (z))]) dX9_judge_54 (q := 56) rfl (by decide) rfl ?_
          have cut56 : ∀ (fuel : Nat) (k : Nat), (k ≤ gaN ld (pLr P) x.toInt.toNat (pRs P)) → (k ≤ n) → (jdS (gaF ld (pLr P) (tyS (pSt P) tlf ld x.toInt.toNat (min smp lc)) x.toInt.toNat ga (pRs P)) f n z.toInt (gaN ld (pLr P) x.toInt.toNat (pRs P) - k) k = jdS (gaF ld (pLr P) (tyS (pSt P) tlf ld x.toInt.toNat (min smp lc)) x.toInt.toNat ga (pRs P)) f n z.toInt (gaN ld (pLr P) x.toInt.toNat (pRs P)) 0) → gaN ld (pLr P) x.toInt.toNat (pRs P) - k < fuel → xG p l e R s m args below meth c Q D A 7 [(fi, .inr (8, [.ref tO, .ref gO, .ref nO, .ref tb, .ref tb', .ref trO, .ref gA, .ref tP, .int (nI kf)])), (tb, .inr (6, [.ref nz, .ref tl, .ref pg, .ref se, .ref pa, .ref bo, .ref li, .ref ba, .int (nI cols), .int (nI lc), .int (nI smp)])), (nz, .inl (cy 1, 5, .inl (fun k => nI (nzf k)))), (tl, .inl (cy 1, 5, .inl (fun k => nI (tlf k)))), (li, .inl (cy 4, 24, .inr (.inr (.inr (.inr lnf))))), (ba, .inl (cy 1, 5, .inl (fun k => nI (bx_12 k)))), (pg, .inr (4, [.ref g0, .ref g1, .ref g2, .ref g3, .ref g4, .ref g5, .int (nI (pMk P)), .int (nI (pRs P)), .int (ky)])), (g0, .inl (cy 1, 5, .inl (fun k => nI ((pSt P) k)))), (g1, .inl (cy 1, 24, .inl (pFa P))), (g2, .inl (cy 1, 24, .inl (pCa P))), (g3, .inl (cy 1, 24, .inl (pDc P))), (g4, .inl (cy 1, 24, .inl (pRl P))), (g5, .inl (cy 1, 24, .inl (fun k => nI ((pLr P) k)))), (gA, .inl (cy 2, 24, .inr (.inl (gaF ld (pLr P) (tyS (pSt P) tlf ld x.toInt.toNat (min smp lc)) x.toInt.toNat ga (pRs P))))), (tP, .inl (cy 5, 6, .inr (.inr (.inr (.inr tpf))))), (ta, .inr (7, [.ref tb9, .int (so), .int (nI n)])), (tb9, .inl (cy 2, 60, .inr (.inl f)))] 0 0 56 [(0, .ref fi), (1, .int (x)), (2, .int (y)), (3, .int (z)), (4, .ref ta), (5, .int (nI (gaN ld (pLr P) x.toInt.toNat (pRs P)))), (6, .int (nI k))] [] := by
            intro fuel
            induction fuel with
            | zero =>
              intro k hk hkn hj9 hmu
              exact absurd hmu (Nat.not_lt_zero _)
            | succ fuel ih =>
              intro k hk hkn hj9 hmu
              have ih56 := ih
              clear ih
              refine x_iload C dX9_judge_56 (q := 58) rfl 6 rfl ?_
              refine x_iload C dX9_judge_58 (q := 60) rfl 5 rfl ?_
              refine x_icmp_ge C (tgt := 124) dX9_judge_60 (by decide) (q := 63) rfl (a := ((k : Nat) : Int)) (b := ((gaN ld (pLr P) x.toInt.toNat (pRs P) : Nat) : Int)) (nI_toInt (by omega)) (nI_toInt (by omega)) (fun h13 => ?_) (fun h13 => ?_)
              · first
                | (exfalso; omega)
                |
                  refine x_bipush C dX9_judge_124 (q := 126) rfl (v := (-5)) (by decide) ?_
                  refine x_iret C hA hQ hr dX9_judge_126 (Nat.le_of_ble_eq_true rfl) ?_
                  refine ⟨_, _, ?_, rfl⟩
                  unfold judA
                  dsimp only
                  (repeat (first | rw [if_pos (by omega)] | rw [if_neg (by omega)]))
                  rw [← hj9, jdS_end (by omega)]
              · first
                | (exfalso; omega)
                |
                  refine x_iload C dX9_judge_63 (q := 65) rfl 6 rfl ?_
                  refine x_aload_n C dX9_judge_65 (q := 66) rfl rfl 0 rfl ?_
                  refine x_get C (ci := 8) (v := .ref gA) hw0 0 rfl rfl 6 (by decide) hw4 rfl dX9_judge_66 (q := 69) rfl ?_
                  refine x_alen C 13 2 rfl rfl (v := nI 24) rfl dX9_judge_69 (q := 70) rfl ?_
                  refine x_icmp_ge C (tgt := 124) dX9_judge_70 (by decide) (q := 73) rfl (a := ((k : Nat) : Int)) (b := 24) (nI_toInt (by omega)) rfl (fun h14 => ?_) (fun h14 => ?_)
                  · first
                    | (exfalso; omega)
                    |
                      refine x_bipush C dX9_judge_124 (q := 126) rfl (v := (-5)) (by decide) ?_
                      refine x_iret C hA hQ hr dX9_judge_126 (Nat.le_of_ble_eq_true rfl) ?_
                      refine ⟨_, _, ?_, rfl⟩
                      unfold judA
                      dsimp only
                      (repeat (first | rw [if_pos (by omega)] | rw [if_neg (by omega)]))
                      rw [← hj9, jdS_end (by omega)]
                  · first
                    | (exfalso; omega)
                    |
                      refine x_iload_n C dX9_judge_73 (q := 74) rfl rfl 3 rfl ?_
                      refine x_if_lt C (tgt := 89) dX9_judge_74 (by decide) (q := 77) rfl (a := z.toInt) rfl (fun h15 => ?_) (fun h15 => ?_)
                      · first
                        | (exfalso; omega)
                        |
                          refine x_bipush C dX9_judge_89 (q := 91) rfl (v := nI 100) (by decide) ?_
                          refine x_iload C dX9_judge_91 (q := 93) rfl 6 rfl ?_
                          refine x_iadd C dX9_judge_93 (q := 94) rfl (z := nI (100 + k)) (nI_add 100 k) ?_
                          refine x_iret C hA hQ hr dX9_judge_94 (Nat.le_of_ble_eq_true rfl) ?_
                          refine ⟨_, _, ?_, rfl⟩
                          unfold judA
                          dsimp only
                          (repeat (first | rw [if_pos (by omega)] | rw [if_neg (by omega)]))
                          rw [← hj9, jdS_out (by omega) (by omega)]
                      · first
                        | (exfalso; omega)
                        |
                          refine x_iload_n C dX9_judge_77 (q := 78) rfl rfl 3 rfl ?_
                          refine x_aload C dX9_judge_78 (q := 80) rfl 4 rfl ?_
                          refine x_get C (ci := 7) (v := .int (nI n)) hw2 15 rfl rfl 2 (by decide) hw5 rfl dX9_judge_80 (q := 83) rfl ?_
                          refine x_iload C dX9_judge_83 (q := 85) rfl 6 rfl ?_
                          refine x_isub C dX9_judge_85 (q := 86) rfl (z := nI (n - k)) (xi_subN (by omega) (by omega)) ?_
                          refine x_icmp_lt C (tgt := 95) dX9_judge_86 (by decide) (q := 89) rfl (a := z.toInt) (b := ((n - k : Nat) : Int)) rfl (nI_toInt (by omega)) (fun h16 => ?_) (fun h16 => ?_)
                          · first
                            | (exfalso; omega)
                            |
                              refine x_aload C dX9_judge_95 (q := 97) rfl 4 rfl ?_
                              refine x_iload_n C dX9_judge_97 (q := 98) rfl rfl 3 rfl ?_
                              refine x_iload C dX9_judge_98 (q := 100) rfl 6 rfl ?_
                              refine x_iadd C dX9_judge_100 (q := 101) rfl (z := z + (nI k)) (rfl) ?_
                              have e7 : (z + nI k).toInt = z.toInt + (k : Int) := xi_add rfl (nI_toInt (by omega)) (by omega) (by omega)
                              refine x_callV C (roW := [(ta, .inr (7, [.ref tb9, .int (so), .int (nI n)])), (tb9, .inl (cy 2, 60, .inr (.inl f)))]) (roR := []) (c_X8_itemAt l D cy ta tb9 so n f (z + (nI k)) (by first | assumption | omega | (simp only []; omega)) (by first | assumption | omega | (simp only []; omega)) (by first | assumption | omega | (simp only []; omega))) (cwV 1 C.2.2.2.2.1 gX9_judge_X8_itemAt rfl rfl rfl (by decide +kernel) (by rw [hR]; exact ⟨Nat.le_of_ble_eq_true rfl, Nat.le_of_ble_eq_true rfl⟩)) [] [15, 16] rfl (by decide) rfl (by decide) xro_nil (List.mem_of_getElem? (i := 0) rfl) (ci := 7) rfl xT_bl (fun _ _ _ _ _ _ _ => trivial) rfl rfl dX9_judge_101 rfl rfl (Nat.le_of_ble_eq_true rfl) (q := 104) rfl (k' := 0) rfl (n' := 0) rfl (by rw [hR]; exact ⟨Nat.le_of_ble_eq_true rfl, Nat.le_of_ble_eq_true rfl⟩) (fun v17 w17 hp17 => ?_)
                              obtain ⟨rfl, rfl⟩ := hp17
                              refine x_ws (ws' := [(fi, .inr (8, [.ref tO, .ref gO, .ref nO, .ref tb, .ref tb', .ref trO, .ref gA, .ref tP, .int (nI kf)])), (tb, .inr (6, [.ref nz, .ref tl, .ref pg, .ref se, .ref pa, .ref bo, .ref li, .ref ba, .int (nI cols), .int (nI lc), .int (nI smp)])), (nz, .inl (cy 1, 5, .inl (fun k => nI (nzf k)))), (tl, .inl (cy 1, 5, .inl (fun k => nI (tlf k)))), (li, .inl (cy 4, 24, .inr (.inr (.inr (.inr lnf))))), (ba, .inl (cy 1, 5, .inl (fun k => nI (bx_12 k)))), (pg, .inr (4, [.ref g0, .ref g1, .ref g2, .ref g3, .ref g4, .ref g5, .int (nI (pMk P)), .int (nI (pRs P)), .int (ky)])), (g0, .inl (cy 1, 5, .inl (fun k => nI ((pSt P) k)))), (g1, .inl (cy 1, 24, .inl (pFa P))), (g2, .inl (cy 1, 24, .inl (pCa P))), (g3, .inl (cy 1, 24, .inl (pDc P))), (g4, .inl (cy 1, 24, .inl (pRl P))), (g5, .inl (cy 1, 24, .inl (fun k => nI ((pLr P) k)))), (gA, .inl (cy 2, 24, .inr (.inl (gaF ld (pLr P) (tyS (pSt P) tlf ld x.toInt.toNat (min smp lc)) x.toInt.toNat ga (pRs P))))), (tP, .inl (cy 5, 6, .inr (.inr (.inr (.inr tpf))))), (ta, .inr (7, [.ref tb9, .int (so), .int (nI n)])), (tb9, .inl (cy 2, 60, .inr (.inl f)))]) (List.append_nil _) ?_
                              refine x_aload_n C dX9_judge_104 (q := 105) rfl rfl 0 rfl ?_
                              refine x_get C (ci := 8) (v := .ref gA) hw0 0 rfl rfl 6 (by decide) hw4 rfl dX9_judge_105 (q := 108) rfl ?_
                              refine x_iload C dX9_judge_108 (q := 110) rfl 6 rfl ?_
                              refine x_lald C (j := k) (v := (gaF ld (pLr P) (tyS (pSt P) tlf ld x.toInt.toNat (min smp lc)) x.toInt.toNat ga (pRs P)) k) 13 rfl (nI_toInt (by omega)) (by omega) rfl dX9_judge_110 (q := 111) rfl ?_
                              refine x_lcmp_eq C (tgt := 118) dX9_judge_111 dX9_judge_112 (by decide) (q := 115) rfl (a := (f (z + (nI k)).toInt.toNat).toInt) (b := ((gaF ld (pLr P) (tyS (pSt P) tlf ld x.toInt.toNat (min smp lc)) x.toInt.toNat ga (pRs P)) k).toInt) rfl rfl (fun h18 => ?_) (fun h18 => ?_)
                              · first
                                | (exfalso; omega)
                                |
                                  refine x_iinc C (L' := [(6, .int (nI (k + 1))), (0, .ref fi), (1, .int (x)), (2, .int (y)), (3, .int (z)), (4, .ref ta), (5, .int (nI (gaN ld (pLr P) x.toInt.toNat (pRs P))))]) dX9_judge_118 (q := 121) rfl 6 rfl (v := nI (k + 1)) (nI_add k 1) (by decide) rfl ?_
                                  refine x_goto C (tgt := 56) dX9_judge_121 (by decide) ?_
                                  refine x_L (L' := [(0, .ref fi), (1, .int (x)), (2, .int (y)), (3, .int (z)), (4, .ref ta), (5, .int (nI (gaN ld (pLr P) x.toInt.toNat (pRs P)))), (6, .int (nI (k + 1)))]) [1, 2, 3, 4, 5, 6, 0] rfl ?_
                                  exact ih56 (k + 1) (by first | omega | assumption) (by first | omega | assumption) (by rw [← hj9]; exact (jdS_go (by omega) (by omega) (show (z + nI k).toInt.toNat = z.toInt.toNat + k by omega) (by assumption)).symm) (by omega)
                              · first
                                | (exfalso; omega)
                                |
                                  refine x_iload C dX9_judge_115 (q := 117) rfl 6 rfl ?_
                                  refine x_iret C hA hQ hr dX9_judge_117 (Nat.le_of_ble_eq_true rfl) ?_
                                  refine ⟨_, _, ?_, rfl⟩
                                  unfold judA
                                  dsimp only
                                  (repeat (first | rw [if_pos (by omega)] | rw [if_neg (by omega)]))
                                  rw [← hj9, jdS_dif (by omega) (by omega) (show (z + nI k).toInt.toNat = z.toInt.toNat + k by omega) (by assumption)]
                          · first
                            | (exfalso; omega)
                            |
                              refine x_bipush C dX9_judge_89 (q := 91) rfl (v := nI 100) (by decide) ?_
                              refine x_iload C dX9_judge_91 (q := 93) rfl 6 rfl ?_
                              refine x_iadd C dX9_judge_93 (q := 94) rfl (z := nI (100 + k)) (nI_add 100 k) ?_
                              refine x_iret C hA hQ hr dX9_judge_94 (Nat.le_of_ble_eq_true rfl) ?_
                              refine ⟨_, _, ?_, rfl⟩
                              unfold judA
                              dsimp only
                              (repeat (first | rw [if_pos (by omega)] | rw [if_neg (by omega)]))
                              rw [← hj9, jdS_out (by omega) (by omega)]
          refine x_L (L' := [(0, .ref fi), (1, .int (x)), (2, .int (y)), (3, .int (z)), (4, .ref ta), (5, .int (nI (gaN ld (pLr P) x.toInt.toNat (pRs P)))), (6, .int (nI 0))]) [3, 4, 5, 6, 2, 1, 0] rfl ?_
          exact cut56 (gaN ld (pLr P) x.toInt.toNat (pRs P) - 0 + 1) 0 (by first | omega | assumption) (by first | omega | assumption) (by rfl) (by omega)
      · first
        | (exfalso; omega)
        |
          refine x_aload C dX9_judge_34 (q := 36) rfl 0 rfl ?_
          refine x_get C (ci := 7) (v := .int (so)) hw2 15 rfl rfl 1 (by decide) hw3 rfl dX9_judge_36 (q := 39) rfl ?_
          refine x_iconst C dX9_judge_39 (q := 40) rfl (v := nI 3) (by decide) ?_
          refine x_icmp_eq C (tgt := 46) dX9_judge_40 (by decide) (q := 43) rfl (a := so.toInt) (b := 3) rfl rfl (fun h19 => ?_) (fun h19 => ?_)
          · first
            | (exfalso; omega)
            |
              refine x_aload_n C dX9_judge_46 (q := 47) rfl rfl 1 rfl ?_
              refine x_iload_n C dX9_judge_47 (q := 48) rfl rfl 2 rfl ?_
              refine x_callV C (roW := []) (roR := pl) (c_X9_gatherValues l D cy fi tO gO nO tb tb' trO gA tP kf nz tl pg se pa bo li ba cols lc smp nzf tlf lnf bal g0 g1 g2 g3 g4 g5 P ky ld pl ga x (by first | assumption | omega | (simp only []; omega)) (by first | assumption | omega | (simp only []; omega)) (by assumption) (by assumption) (by assumption) (by first | assumption | omega | (simp only []; omega)) (by assumption) (by assumption) (by first | assumption | omega | (simp only []; omega)) (by first | assumption | omega | (simp only []; omega))) (cwV 1 C.2.2.2.2.1 gX9_judge_X9_gatherValues rfl rfl rfl (by decide +kernel) (by rw [hR]; exact ⟨Nat.le_of_ble_eq_true rfl, Nat.le_of_ble_eq_true rfl⟩)) [0, 1, 2, 3, 4, 5, 6, 7, 8, 9, 10, 11, 12, 13] [] rfl (by decide) rfl (by decide) hpool (List.mem_of_getElem? (i := 0) rfl) (ci := 8) rfl xT_bl (fun _ _ _ _ _ _ _ => trivial) rfl rfl dX9_judge_48 rfl rfl (Nat.le_of_ble_eq_true rfl) (q := 51) rfl (k' := 0) rfl (n' := 0) rfl (by rw [hR]; exact ⟨Nat.le_of_ble_eq_true rfl, Nat.le_of_ble_eq_true rfl⟩) (fun v20 w20 hp20 => ?_)
              obtain ⟨bx_21, rfl, rfl⟩ := hp20
              refine x_ws (ws' := [(fi, .inr (8, [.ref tO, .ref gO, .ref nO, .ref tb, .ref tb', .ref trO, .ref gA, .ref tP, .int (nI kf)])), (tb, .inr (6, [.ref nz, .ref tl, .ref pg, .ref se, .ref pa, .ref bo, .ref li, .ref ba, .int (nI cols), .int (nI lc), .int (nI smp)])), (nz, .inl (cy 1, 5, .inl (fun k => nI (nzf k)))), (tl, .inl (cy 1, 5, .inl (fun k => nI (tlf k)))), (li, .inl (cy 4, 24, .inr (.inr (.inr (.inr lnf))))), (ba, .inl (cy 1, 5, .inl (fun k => nI (bx_21 k)))), (pg, .inr (4, [.ref g0, .ref g1, .ref g2, .ref g3, .ref g4, .ref g5, .int (nI (pMk P)), .int (nI (pRs P)), .int (ky)])), (g0, .inl (cy 1, 5, .inl (fun k => nI ((pSt P) k)))), (g1, .inl (cy 1, 24, .inl (pFa P))), (g2, .inl (cy 1, 24, .inl (pCa P))), (g3, .inl (cy 1, 24, .inl (pDc P))), (g4, .inl (cy 1, 24, .inl (pRl P))), (g5, .inl (cy 1, 24, .inl (fun k => nI ((pLr P) k)))), (gA, .inl (cy 2, 24, .inr (.inl (gaF ld (pLr P) (tyS (pSt P) tlf ld x.toInt.toNat (min smp lc)) x.toInt.toNat ga (pRs P))))), (tP, .inl (cy 5, 6, .inr (.inr (.inr (.inr tpf))))), (ta, .inr (7, [.ref tb9, .int (so), .int (nI n)])), (tb9, .inl (cy 2, 60, .inr (.inl f)))]) (xput_eq2 [0, 1, 2, 3, 4, 5, 6, 7, 8, 9, 10, 11, 12, 13] [14, 15, 16] 17 [(tP, .inl (cy 5, 6, .inr (.inr (.inr (.inr tpf))))), (ta, .inr (7, [.ref tb9, .int (so), .int (nI n)])), (tb9, .inl (cy 2, 60, .inr (.inl f)))] rfl rfl (by decide) rfl rfl rfl (by decide)) ?_
              have hga := gaN_le ld (pLr P) (x.toInt.toNat) (pRs P)
              have hP1 := hP.1
              have hP2 := hP.2.1
              refine x_istore C (L' := [(5, .int (nI (gaN ld (pLr P) x.toInt.toNat (pRs P)))), (4, .ref ta), (0, .ref fi), (1, .int (x)), (2, .int (y)), (3, .int (z))]) dX9_judge_51 (q := 53) rfl (by decide) rfl ?_
              refine x_iconst C dX9_judge_53 (q := 54) rfl (v := nI 0) (by decide) ?_
              refine x_istore C (L' := [(6, .int (nI 0)), (5, .int (nI (gaN ld (pLr P) x.toInt.toNat (pRs P)))), (4, .ref ta), (0, .ref fi), (1, .int (x)), (2, .int (y)), (3, .int (z))]) dX9_judge_54 (q := 56) rfl (by decide) rfl ?_
              have cut56 : ∀ (fuel : Nat) (k : Nat), (k ≤ gaN ld (pLr P) x.toInt.toNat (pRs P)) → (k ≤ n) → (jdS (gaF ld (pLr P) (tyS (pSt P) tlf ld x.toInt.toNat (min smp lc)) x.toInt.toNat ga (pRs P)) f n z.toInt (gaN ld (pLr P) x.toInt.toNat (pRs P) - k) k = jdS (gaF ld (pLr P) (tyS (pSt P) tlf ld x.toInt.toNat (min smp lc)) x.toInt.toNat ga (pRs P)) f n z.toInt (gaN ld (pLr P) x.toInt.toNat (pRs P)) 0) → gaN ld (pLr P) x.toInt.toNat (pRs P) - k < fuel → xG p l e R s m args below meth c Q D A 7 [(fi, .inr (8, [.ref tO, .ref gO, .ref nO, .ref tb, .ref tb', .ref trO, .ref gA, .ref tP, .int (nI kf)])), (tb, .inr (6, [.ref nz, .ref tl, .ref pg, .ref se, .ref pa, .ref bo, .ref li, .ref ba, .int (nI cols), .int (nI lc), .int (nI smp)])), (nz, .inl (cy 1, 5, .inl (fun k => nI (nzf k)))), (tl, .inl (cy 1, 5, .inl (fun k => nI (tlf k)))), (li, .inl (cy 4, 24, .inr (.inr (.inr (.inr lnf))))), (ba, .inl (cy 1, 5, .inl (fun k => nI (bx_21 k)))), (pg, .inr (4, [.ref g0, .ref g1, .ref g2, .ref g3, .ref g4, .ref g5, .int (nI (pMk P)), .int (nI (pRs P)), .int (ky)])), (g0, .inl (cy 1, 5, .inl (fun k => nI ((pSt P) k)))), (g1, .inl (cy 1, 24, .inl (pFa P))), (g2, .inl (cy 1, 24, .inl (pCa P))), (g3, .inl (cy 1, 24, .inl (pDc P))), (g4, .inl (cy 1, 24, .inl (pRl P))), (g5, .inl (cy 1, 24, .inl (fun k => nI ((pLr P) k)))), (gA, .inl (cy 2, 24, .inr (.inl (gaF ld (pLr P) (tyS (pSt P) tlf ld x.toInt.toNat (min smp lc)) x.toInt.toNat ga (pRs P))))), (tP, .inl (cy 5, 6, .inr (.inr (.inr (.inr tpf))))), (ta, .inr (7, [.ref tb9, .int (so), .int (nI n)])), (tb9, .inl (cy 2, 60, .inr (.inl f)))] 0 0 56 [(0, .ref fi), (1, .int (x)), (2, .int (y)), (3, .int (z)), (4, .ref ta), (5, .int (nI (gaN ld (pLr P) x.toInt.toNat (pRs P)))), (6, .int (nI k))] [] := by
                intro fuel
                induction fuel with
                | zero =>
                  intro k hk hkn hj9 hmu
                  exact absurd hmu (Nat.not_lt_zero _)
                | succ fuel ih =>
                  intro k hk hkn hj9 hmu
                  have ih56 := ih
                  clear ih
                  refine x_iload C dX9_judge_56 (q := 58) rfl 6 rfl ?_
                  refine x_iload C dX9_judge_58 (q := 60) rfl 5 rfl ?_
                  refine x_icmp_ge C (tgt := 124) dX9_judge_60 (by decide) (q := 63) rfl (a := ((k : Nat) : Int)) (b := ((gaN ld (pLr P) x.toInt.toNat (pRs P) : Nat) : Int)) (nI_toInt (by omega)) (nI_toInt (by omega)) (fun h22 => ?_) (fun h22 => ?_)
                  · first
                    | (exfalso; omega)
                    |
                      refine x_bipush C dX9_judge_124 (q := 126) rfl (v := (-5)) (by decide) ?_
                      refine x_iret C hA hQ hr dX9_judge_126 (Nat.le_of_ble_eq_true rfl) ?_
                      refine ⟨_, _, ?_, rfl⟩
                      unfold judA
                      dsimp only
                      (repeat (first | rw [if_pos (by omega)] | rw [if_neg (by omega)]))
                      rw [← hj9, jdS_end (by omega)]
                  · first
                    | (exfalso; omega)
                    |
                      refine x_iload C dX9_judge_63 (q := 65) rfl 6 rfl ?_
                      refine x_aload_n C dX9_judge_65 (q := 66) rfl rfl 0 rfl ?_
                      refine x_get C (ci := 8) (v := .ref gA) hw0 0 rfl rfl 6 (by decide) hw4 rfl dX9_judge_66 (q := 69) rfl ?_
                      refine x_alen C 13 2 rfl rfl (v := nI 24) rfl dX9_judge_69 (q := 70) rfl ?_
                      refine x_icmp_ge C (tgt := 124) dX9_judge_70 (by decide) (q := 73) rfl (a := ((k : Nat) : Int)) (b := 24) (nI_toInt (by omega)) rfl (fun h23 => ?_) (fun h23 => ?_)
                      · first
                        | (exfalso; omega)
                        |
                          refine x_bipush C dX9_judge_124 (q := 126) rfl (v := (-5)) (by decide) ?_
                          refine x_iret C hA hQ hr dX9_judge_126 (Nat.le_of_ble_eq_true rfl) ?_
                          refine ⟨_, _, ?_, rfl⟩
                          unfold judA
                          dsimp only
                          (repeat (first | rw [if_pos (by omega)] | rw [if_neg (by omega)]))
                          rw [← hj9, jdS_end (by omega)]
                      · first
                        | (exfalso; omega)
                        |
                          refine x_iload_n C dX9_judge_73 (q := 74) rfl rfl 3 rfl ?_
                          refine x_if_lt C (tgt := 89) dX9_judge_74 (by decide) (q := 77) rfl (a := z.toInt) rfl (fun h24 => ?_) (fun h24 => ?_)
                          · first
                            | (exfalso; omega)
                            |
                              refine x_bipush C dX9_judge_89 (q := 91) rfl (v := nI 100) (by decide) ?_
                              refine x_iload C dX9_judge_91 (q := 93) rfl 6 rfl ?_
                              refine x_iadd C dX9_judge_93 (q := 94) rfl (z := nI (100 + k)) (nI_add 100 k) ?_
                              refine x_iret C hA hQ hr dX9_judge_94 (Nat.le_of_ble_eq_true rfl) ?_
                              refine ⟨_, _, ?_, rfl⟩
                              unfold judA
                              dsimp only
                              (repeat (first | rw [if_pos (by omega)] | rw [if_neg (by omega)]))
                              rw [← hj9, jdS_out (by omega) (by omega)]
                          · first
                            | (exfalso; omega)
                            |
                              refine x_iload_n C dX9_judge_77 (q := 78) rfl rfl 3 rfl ?_
                              refine x_aload C dX9_judge_78 (q := 80) rfl 4 rfl ?_
                              refine x_get C (ci := 7) (v := .int (nI n)) hw2 15 rfl rfl 2 (by decide) hw5 rfl dX9_judge_80 (q := 83) rfl ?_
                              refine x_iload C dX9_judge_83 (q := 85) rfl 6 rfl ?_
                              refine x_isub C dX9_judge_85 (q := 86) rfl (z := nI (n - k)) (xi_subN (by omega) (by omega)) ?_
                              refine x_icmp_lt C (tgt := 95) dX9_judge_86 (by decide) (q := 89) rfl (a := z.toInt) (b := ((n - k : Nat) : Int)) rfl (nI_toInt (by omega)) (fun h25 => ?_) (fun h25 => ?_)
                              · first
                                | (exfalso; omega)
                                |
                                  refine x_aload C dX9_judge_95 (q := 97) rfl 4 rfl ?_
                                  refine x_iload_n C dX9_judge_97 (q := 98) rfl rfl 3 rfl ?_
                                  refine x_iload C dX9_judge_98 (q := 100) rfl 6 rfl ?_
                                  refine x_iadd C dX9_judge_100 (q := 101) rfl (z := z + (nI k)) (rfl) ?_
                                  have e7 : (z + nI k).toInt = z.toInt + (k : Int) := xi_add rfl (nI_toInt (by omega)) (by omega) (by omega)
                                  refine x_callV C (roW := [(ta, .inr (7, [.ref tb9, .int (so), .int (nI n)])), (tb9, .inl (cy 2, 60, .inr (.inl f)))]) (roR := []) (c_X8_itemAt l D cy ta tb9 so n f (z + (nI k)) (by first | assumption | omega | (simp only []; omega)) (by first | assumption | omega | (simp only []; omega)) (by first | assumption | omega | (simp only []; omega))) (cwV 1 C.2.2.2.2.1 gX9_judge_X8_itemAt rfl rfl rfl (by decide +kernel) (by rw [hR]; exact ⟨Nat.le_of_ble_eq_true rfl, Nat.le_of_ble_eq_true rfl⟩)) [] [15, 16] rfl (by decide) rfl (by decide) xro_nil (List.mem_of_getElem? (i := 0) rfl) (ci := 7) rfl xT_bl (fun _ _ _ _ _ _ _ => trivial) rfl rfl dX9_judge_101 rfl rfl (Nat.le_of_ble_eq_true rfl) (q := 104) rfl (k' := 0) rfl (n' := 0) rfl (by rw [hR]; exact ⟨Nat.le_of_ble_eq_true rfl, Nat.le_of_ble_eq_true rfl⟩) (fun v26 w26 hp26 => ?_)
                                  obtain ⟨rfl, rfl⟩ := hp26
                                  refine x_ws (ws' := [(fi, .inr (8, [.ref tO, .ref gO, .ref nO, .ref tb, .ref tb', .ref trO, .ref gA, .ref tP, .int (nI kf)])), (tb, .inr (6, [.ref nz, .ref tl, .ref pg, .ref se, .ref pa, .ref bo, .ref li, .ref ba, .int (nI cols), .int (nI lc), .int (nI smp)])), (nz, .inl (cy 1, 5, .inl (fun k => nI (nzf k)))), (tl, .inl (cy 1, 5, .inl (fun k => nI (tlf k)))), (li, .inl (cy 4, 24, .inr (.inr (.inr (.inr lnf))))), (ba, .inl (cy 1, 5, .inl (fun k => nI (bx_21 k)))), (pg, .inr (4, [.ref g0, .ref g1, .ref g2, .ref g3, .ref g4, .ref g5, .int (nI (pMk P)), .int (nI (pRs P)), .int (ky)])), (g0, .inl (cy 1, 5, .inl (fun k => nI ((pSt P) k)))), (g1, .inl (cy 1, 24, .inl (pFa P))), (g2, .inl (cy 1, 24, .inl (pCa P))), (g3, .inl (cy 1, 24, .inl (pDc P))), (g4, .inl (cy 1, 24, .inl (pRl P))), (g5, .inl (cy 1, 24, .inl (fun k => nI ((pLr P) k)))), (gA, .inl (cy 2, 24, .inr (.inl (gaF ld (pLr P) (tyS (pSt P) tlf ld x.toInt.toNat (min smp lc)) x.toInt.toNat ga (pRs P))))), (tP, .inl (cy 5, 6, .inr (.inr (.inr (.inr tpf))))), (ta, .inr (7, [.ref tb9, .int (so), .int (nI n)])), (tb9, .inl (cy 2, 60, .inr (.inl f)))]) (List.append_nil _) ?_
                                  refine x_aload_n C dX9_judge_104 (q := 105) rfl rfl 0 rfl ?_
                                  refine x_get C (ci := 8) (v := .ref gA) hw0 0 rfl rfl 6 (by decide) hw4 rfl dX9_judge_105 (q := 108) rfl ?_
                                  refine x_iload C dX9_judge_108 (q := 110) rfl 6 rfl ?_
                                  refine x_lald C (j := k) (v := (gaF ld (pLr P) (tyS (pSt P) tlf ld x.toInt.toNat (min smp lc)) x.toInt.toNat ga (pRs P)) k) 13 rfl (nI_toInt (by omega)) (by omega) rfl dX9_judge_110 (q := 111) rfl ?_
                                  refine x_lcmp_eq C (tgt := 118) dX9_judge_111 dX9_judge_112 (by decide) (q := 115) rfl (a := (f (z + (nI k)).toInt.toNat).toInt) (b := ((gaF ld (pLr P) (tyS (pSt P) tlf ld x.toInt.toNat (min smp lc)) x.toInt.toNat ga (pRs P)) k).toInt) rfl rfl (fun h27 => ?_) (fun h27 => ?_)
                                  · first
                                    | (exfalso; omega)
                                    |
                                      refine x_iinc C (L' := [(6, .int (nI (k + 1))), (0, .ref fi), (1, .int (x)), (2, .int (y)), (3, .int (z)), (4, .ref ta), (5, .int (nI (gaN ld (pLr P) x.toInt.toNat (pRs P))))]) dX9_judge_118 (q := 121) rfl 6 rfl (v := nI (k + 1)) (nI_add k 1) (by decide) rfl ?_
                                      refine x_goto C (tgt := 56) dX9_judge_121 (by decide) ?_
                                      refine x_L (L' := [(0, .ref fi), (1, .int (x)), (2, .int (y)), (3, .int (z)), (4, .ref ta), (5, .int (nI (gaN ld (pLr P) x.toInt.toNat (pRs P)))), (6, .int (nI (k + 1)))]) [1, 2, 3, 4, 5, 6, 0] rfl ?_
                                      exact ih56 (k + 1) (by first | omega | assumption) (by first | omega | assumption) (by rw [← hj9]; exact (jdS_go (by omega) (by omega) (show (z + nI k).toInt.toNat = z.toInt.toNat + k by omega) (by assumption)).symm) (by omega)
                                  · first
                                    | (exfalso; omega)
                                    |
                                      refine x_iload C dX9_judge_115 (q := 117) rfl 6 rfl ?_
                                      refine x_iret C hA hQ hr dX9_judge_117 (Nat.le_of_ble_eq_true rfl) ?_
                                      refine ⟨_, _, ?_, rfl⟩
                                      unfold judA
                                      dsimp only
                                      (repeat (first | rw [if_pos (by omega)] | rw [if_neg (by omega)]))
                                      rw [← hj9, jdS_dif (by omega) (by omega) (show (z + nI k).toInt.toNat = z.toInt.toNat + k by omega) (by assumption)]
                              · first
                                | (exfalso; omega)
                                |
                                  refine x_bipush C dX9_judge_89 (q := 91) rfl (v := nI 100) (by decide) ?_
                                  refine x_iload C dX9_judge_91 (q := 93) rfl 6 rfl ?_
                                  refine x_iadd C dX9_judge_93 (q := 94) rfl (z := nI (100 + k)) (nI_add 100 k) ?_
                                  refine x_iret C hA hQ hr dX9_judge_94 (Nat.le_of_ble_eq_true rfl) ?_
                                  refine ⟨_, _, ?_, rfl⟩
                                  unfold judA
                                  dsimp only
                                  (repeat (first | rw [if_pos (by omega)] | rw [if_neg (by omega)]))
                                  rw [← hj9, jdS_out (by omega) (by omega)]
              refine x_L (L' := [(0, .ref fi), (1, .int (x)), (2, .int (y)), (3, .int (z)), (4, .ref ta), (5, .int (nI (gaN ld (pLr P) x.toInt.toNat (pRs P)))), (6, .int (nI 0))]) [3, 4, 5, 6, 2, 1, 0] rfl ?_
              exact cut56 (gaN ld (pLr P) x.toInt.toNat (pRs P) - 0 + 1) 0 (by first | omega | assumption) (by first | omega | assumption) (by rfl) (by omega)
          · first
            | (exfalso; omega)
            |
              refine x_bipush C dX9_judge_43 (q := 45) rfl (v := (-12)) (by decide) ?_
              refine x_iret C hA hQ hr dX9_judge_45 (Nat.le_of_ble_eq_true rfl) ?_
              refine ⟨_, _, ?_, rfl⟩
              unfold judA
              dsimp only
              (repeat (first | rw [if_pos (by omega)] | rw [if_neg (by omega)]))
    · skip
      obtain ⟨rfl, rfl, hc28⟩ := hp6
      refine x_ws (ws' := [(fi, .inr (8, [.ref tO, .ref gO, .ref nO, .ref tb, .ref tb', .ref trO, .ref gA, .ref tP, .int (nI kf)])), (tb, .inr (6, [.ref nz, .ref tl, .ref pg, .ref se, .ref pa, .ref bo, .ref li, .ref ba, .int (nI cols), .int (nI lc), .int (nI smp)])), (nz, .inl (cy 1, 5, .inl (fun k => nI (nzf k)))), (tl, .inl (cy 1, 5, .inl (fun k => nI (tlf k)))), (li, .inl (cy 4, 24, .inr (.inr (.inr (.inr lnf))))), (ba, .inl (cy 1, 5, .inl (fun k => nI (bal k)))), (pg, .inr (4, [.ref g0, .ref g1, .ref g2, .ref g3, .ref g4, .ref g5, .int (nI (pMk P)), .int (nI (pRs P)), .int (ky)])), (g0, .inl (cy 1, 5, .inl (fun k => nI ((pSt P) k)))), (g1, .inl (cy 1, 24, .inl (pFa P))), (g2, .inl (cy 1, 24, .inl (pCa P))), (g3, .inl (cy 1, 24, .inl (pDc P))), (g4, .inl (cy 1, 24, .inl (pRl P))), (g5, .inl (cy 1, 24, .inl (fun k => nI ((pLr P) k)))), (gA, .inl (cy 2, 24, .inr (.inl ga))), (tP, .inl (cy 5, 6, .inr (.inr (.inr (.inr tpf))))), (ta, .inr (7, [.ref tb9, .int (so), .int (nI n)])), (tb9, .inl (cy 2, 60, .inr (.inl f)))]) (List.append_nil _) ?_
      refine x_if_eq C (tgt := 23) dX9_judge_15 (by decide) (q := 18) rfl (a := 0) rfl (fun h29 => ?_) (fun h29 => (by omega : False).elim)
      refine x_iconst C dX9_judge_23 (q := 24) rfl (v := (-1)) (by decide) ?_
      refine x_iret C hA hQ hr dX9_judge_24 (Nat.le_of_ble_eq_true rfl) ?_
      refine ⟨_, _, ?_, rfl⟩
      unfold judA
      dsimp only
      (repeat (first | rw [if_pos (by omega)] | rw [if_neg (by omega)]))
  · skip
    obtain ⟨rfl, rfl, hc30⟩ := hp1
    refine x_ws (ws' := [(fi, .inr (8, [.ref tO, .ref gO, .ref nO, .ref tb, .ref tb', .ref trO, .ref gA, .ref tP, .int (nI kf)])), (tb, .inr (6, [.ref nz, .ref tl, .ref pg, .ref se, .ref pa, .ref bo, .ref li, .ref ba, .int (nI cols), .int (nI lc), .int (nI smp)])), (nz, .inl (cy 1, 5, .inl (fun k => nI (nzf k)))), (tl, .inl (cy 1, 5, .inl (fun k => nI (tlf k)))), (li, .inl (cy 4, 24, .inr (.inr (.inr (.inr lnf))))), (ba, .inl (cy 1, 5, .inl (fun k => nI (bal k)))), (pg, .inr (4, [.ref g0, .ref g1, .ref g2, .ref g3, .ref g4, .ref g5, .int (nI (pMk P)), .int (nI (pRs P)), .int (ky)])), (g0, .inl (cy 1, 5, .inl (fun k => nI ((pSt P) k)))), (g1, .inl (cy 1, 24, .inl (pFa P))), (g2, .inl (cy 1, 24, .inl (pCa P))), (g3, .inl (cy 1, 24, .inl (pDc P))), (g4, .inl (cy 1, 24, .inl (pRl P))), (g5, .inl (cy 1, 24, .inl (fun k => nI ((pLr P) k)))), (gA, .inl (cy 2, 24, .inr (.inl ga))), (tP, .inl (cy 5, 6, .inr (.inr (.inr (.inr tpf))))), (ta, .inr (7, [.ref tb9, .int (so), .int (nI n)])), (tb9, .inl (cy 2, 60, .inr (.inl f)))]) rfl ?_
    exfalso; omega

set_option maxHeartbeats 4000000 in
set_option maxRecDepth 100000 in
/-- judge, by none -/
theorem c_X9_judge_o (l : Launch) (D : va_G) (cy : Nat → ClassId) (fi : Nat) (tO : Nat) (gO : Nat) (nO : Nat) (tb : Nat) (tb' : Nat) (trO : Nat) (gA : Nat) (tP : Nat) (kf : Nat) (nz : Nat) (tl : Nat) (pg : Nat) (se : Nat) (pa : Nat) (bo : Nat) (li : Nat) (ba : Nat) (cols : Nat) (lc : Nat) (smp : Nat) (tpf : Nat → Option Nat) (x : Int32) (y : Int32) (z : Int32) (hcols : cols ≤ 5) (hlc : lc ≤ 24) (htp : ∀ k, k < 6 → ∃ a, tpf k = some a) (hx : y.toInt < 0 ∨ 6 ≤ y.toInt) : xMet l D cy xT yX9_judge wsX9_judge ({ frames := 10, cells := 0, slots := 0, locals := 1300 } : Room) [.ref fi, .int (x), .int (y), .int (z)] [(fi, .inr (8, [.ref tO, .ref gO, .ref nO, .ref tb, .ref tb', .ref trO, .ref gA, .ref tP, .int (nI kf)])), (tb, .inr (6, [.ref nz, .ref tl, .ref pg, .ref se, .ref pa, .ref bo, .ref li, .ref ba, .int (nI cols), .int (nI lc), .int (nI smp)])), (tP, .inl (cy 5, 6, .inr (.inr (.inr (.inr tpf)))))] [] (fun (v9 : Option Value) (w9 : va_W) => (v9 = some (.int ((-1))) ∧ w9 = [(fi, .inr (8, [.ref tO, .ref gO, .ref nO, .ref tb, .ref tb', .ref trO, .ref gA, .ref tP, .int (nI kf)])), (tb, .inr (6, [.ref nz, .ref tl, .ref pg, .ref se, .ref pa, .ref bo, .ref li, .ref ba, .int (nI cols), .int (nI lc), .int (nI smp)])), (tP, .inl (cy 5, 6, .inr (.inr (.inr (.inr tpf)))))])) := by
  refine xMet_of (cc := cX9_judge) (maxL := 7) (ret := (some .int)) (by decide) rfl (Nat.le_of_ble_eq_true rfl) (fun p e s m args below meth c A R Q hA hR hQ C hr hnm hro hX => ?_)
  have hw0 : ∀ w ∈ u_ws RX9 TX9 9, w ∈ wsX9_judge := by decide +kernel
  have hw1 : Cond.fieldLink RX9 33 (TX9 3).1 (TX9 3).2.1 (TX9 3).2.2.1 ∈ wsX9_judge := by decide +kernel
  refine x_L (L' := [(0, .ref fi), (1, .int (x)), (2, .int (y)), (3, .int (z))]) [0, 1, 2, 3] rfl ?_
  refine x_aload_n C dX9_judge_0 (q := 1) rfl rfl 0 rfl ?_
  refine x_iload_n C dX9_judge_1 (q := 2) rfl rfl 2 rfl ?_
  refine x_callV C (roW := []) (roR := []) (c_X9_tapeAt l D cy fi tO gO nO tb tb' trO gA tP kf tpf y (by assumption)) (cwV 1 C.2.2.2.2.1 gX9_judge_X9_tapeAt rfl rfl rfl (by decide +kernel) (by rw [hR]; exact ⟨Nat.le_of_ble_eq_true rfl, Nat.le_of_ble_eq_true rfl⟩)) [0, 2] [] rfl (by decide) rfl (by decide) xro_nil (List.mem_of_getElem? (i := 0) rfl) (ci := 8) rfl xT_bl (fun _ _ _ _ _ _ _ => trivial) rfl rfl dX9_judge_2 rfl rfl (Nat.le_of_ble_eq_true rfl) (q := 5) rfl (k' := 0) rfl (n' := 0) rfl (by rw [hR]; exact ⟨Nat.le_of_ble_eq_true rfl, Nat.le_of_ble_eq_true rfl⟩) (fun v1 w1 hp1 => ?_)
  rcases hp1 with hp1 | hp1
  · exfalso; obtain ⟨_, _, _, hc2, hc3, hc4⟩ := hp1; omega
  · skip
    obtain ⟨rfl, rfl, hc5⟩ := hp1
    refine x_ws (ws' := [(fi, .inr (8, [.ref tO, .ref gO, .ref nO, .ref tb, .ref tb', .ref trO, .ref gA, .ref tP, .int (nI kf)])), (tb, .inr (6, [.ref nz, .ref tl, .ref pg, .ref se, .ref pa, .ref bo, .ref li, .ref ba, .int (nI cols), .int (nI lc), .int (nI smp)])), (tP, .inl (cy 5, 6, .inr (.inr (.inr (.inr tpf)))))]) rfl ?_
    refine x_astoreN C (L' := [(4, .null), (0, .ref fi), (1, .int (x)), (2, .int (y)), (3, .int (z))]) dX9_judge_5 (q := 7) rfl (by decide) rfl ?_
    refine x_aload_n C dX9_judge_7 (q := 8) rfl rfl 1 rfl ?_
    refine x_get C (ci := 8) (v := .ref tb) hw0 0 rfl rfl 3 (by decide) hw1 rfl dX9_judge_8 (q := 11) rfl ?_
    refine x_iload_n C dX9_judge_11 (q := 12) rfl rfl 2 rfl ?_
    refine x_callV C (roW := [(tb, .inr (6, [.ref nz, .ref tl, .ref pg, .ref se, .ref pa, .ref bo, .ref li, .ref ba, .int (nI cols), .int (nI lc), .int (nI smp)]))]) (roR := []) (c_X7_hasColumn l D cy tb nz tl pg se pa bo li ba cols lc smp x (by first | assumption | omega | (simp only []; omega)) (by first | assumption | omega | (simp only []; omega))) (cwV 1 C.2.2.2.2.1 gX9_judge_X7_hasColumn rfl rfl rfl (by decide +kernel) (by rw [hR]; exact ⟨Nat.le_of_ble_eq_true rfl, Nat.le_of_ble_eq_true rfl⟩)) [] [1] rfl (by decide) rfl (by decide) xro_nil (List.mem_of_getElem? (i := 0) rfl) (ci := 6) rfl xT_bl (fun _ _ _ _ _ _ _ => trivial) rfl rfl dX9_judge_12 rfl rfl (Nat.le_of_ble_eq_true rfl) (q := 15) rfl (k' := 0) rfl (n' := 0) rfl (by rw [hR]; exact ⟨Nat.le_of_ble_eq_true rfl, Nat.le_of_ble_eq_true rfl⟩) (fun v6 w6 hp6 => ?_)
    rcases hp6 with hp6 | hp6
    · skip
      obtain ⟨rfl, rfl, hc7, hc8⟩ := hp6
      refine x_ws (ws' := [(fi, .inr (8, [.ref tO, .ref gO, .ref nO, .ref tb, .ref tb', .ref trO, .ref gA, .ref tP, .int (nI kf)])), (tb, .inr (6, [.ref nz, .ref tl, .ref pg, .ref se, .ref pa, .ref bo, .ref li, .ref ba, .int (nI cols), .int (nI lc), .int (nI smp)])), (tP, .inl (cy 5, 6, .inr (.inr (.inr (.inr tpf)))))]) (List.append_nil _) ?_
      refine x_if_eq C (tgt := 23) dX9_judge_15 (by decide) (q := 18) rfl (a := 1) rfl (fun h9 => (by omega : False).elim) (fun h9 => ?_)
      refine x_aloadN C dX9_judge_18 (q := 20) rfl 0 rfl ?_
      refine x_ifnonnullN C dX9_judge_20 (q := 23) rfl ?_
      refine x_iconst C dX9_judge_23 (q := 24) rfl (v := (-1)) (by decide) ?_
      refine x_iret C hA hQ hr dX9_judge_24 (Nat.le_of_ble_eq_true rfl) ?_
      first | exact ⟨rfl, rfl⟩ | exact ⟨_, rfl, rfl, by first | rfl | omega | assumption⟩ | (refine ⟨_, rfl, rfl, ?_⟩; (first | rfl | omega | (simp only []; omega)))
    · skip
      obtain ⟨rfl, rfl, hc10⟩ := hp6
      refine x_ws (ws' := [(fi, .inr (8, [.ref tO, .ref gO, .ref nO, .ref tb, .ref tb', .ref trO, .ref gA, .ref tP, .int (nI kf)])), (tb, .inr (6, [.ref nz, .ref tl, .ref pg, .ref se, .ref pa, .ref bo, .ref li, .ref ba, .int (nI cols), .int (nI lc), .int (nI smp)])), (tP, .inl (cy 5, 6, .inr (.inr (.inr (.inr tpf)))))]) (List.append_nil _) ?_
      refine x_if_eq C (tgt := 23) dX9_judge_15 (by decide) (q := 18) rfl (a := 0) rfl (fun h11 => ?_) (fun h11 => (by omega : False).elim)
      refine x_iconst C dX9_judge_23 (q := 24) rfl (v := (-1)) (by decide) ?_
      refine x_iret C hA hQ hr dX9_judge_24 (Nat.le_of_ble_eq_true rfl) ?_
      first | exact ⟨rfl, rfl⟩ | exact ⟨_, rfl, rfl, by first | rfl | omega | assumption⟩ | (refine ⟨_, rfl, rfl, ?_⟩; (first | rfl | omega | (simp only []; omega)))
