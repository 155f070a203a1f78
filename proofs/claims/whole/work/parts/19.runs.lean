
/-! WHAT IS IMPORTED, as one value: settled, faults, causes, theirs, rows of lines, lines of rows, MARK, ROWS -/
abbrev PS : Type := (Nat → Nat) × (Nat → Int32) × (Nat → Int32) × (Nat → Int32) × (Nat → Int32) × (Nat → Nat) × Nat × Nat
abbrev pSt (P : PS) : Nat → Nat := P.1
abbrev pFa (P : PS) : Nat → Int32 := P.2.1
abbrev pCa (P : PS) : Nat → Int32 := P.2.2.1
abbrev pDc (P : PS) : Nat → Int32 := P.2.2.2.1
abbrev pRl (P : PS) : Nat → Int32 := P.2.2.2.2.1
abbrev pLr (P : PS) : Nat → Nat := P.2.2.2.2.2.1
abbrev pMk (P : PS) : Nat := P.2.2.2.2.2.2.1
abbrev pRs (P : PS) : Nat := P.2.2.2.2.2.2.2
abbrev ftP (ld : LD) (cols : Nat) (ky : Int) (P : PS) : Int32 × Int32 × Int32 := ftS ld cols (pSt P) (pLr P) (pRs P) ky (pMk P)
/-- the next line comes -/
def nxS (ld : LD) (cols : Nat) (ky : Int) (P : PS) : PS :=
  if (ftP ld cols ky P).1 = -5 then (pSt P, va_up (pFa P) (pMk P) (-5), va_up (pCa P) (pMk P) (-5), va_up (pDc P) (pMk P) (-5), va_up (pRl P) (pMk P) (nI (pRs P)), va_up (pLr P) (pRs P) (pMk P), pMk P + 1, pRs P + 1)
  else (pSt P, va_up (pFa P) (pMk P) (ftP ld cols ky P).1, va_up (pCa P) (pMk P) (ftP ld cols ky P).2.1, va_up (pDc P) (pMk P) (ftP ld cols ky P).2.2, va_up (pRl P) (pMk P) (-5), pLr P, pMk P + 1, pRs P)
theorem nxS_f {ld : LD} {cols : Nat} {ky : Int} {P : PS} {x y z : Int32} (h : ftP ld cols ky P = (x, y, z)) (hx : ¬ x = -5) : nxS ld cols ky P = (pSt P, va_up (pFa P) (pMk P) x, va_up (pCa P) (pMk P) y, va_up (pDc P) (pMk P) z, va_up (pRl P) (pMk P) (-5), pLr P, pMk P + 1, pRs P) := by
  unfold nxS
  rw [h]
  exact if_neg hx
theorem nxS_r {ld : LD} {cols : Nat} {ky : Int} {P : PS} (h : ftP ld cols ky P = (-5, -5, -5)) : nxS ld cols ky P = (pSt P, va_up (pFa P) (pMk P) (-5), va_up (pCa P) (pMk P) (-5), va_up (pDc P) (pMk P) (-5), va_up (pRl P) (pMk P) (nI (pRs P)), va_up (pLr P) (pRs P) (pMk P), pMk P + 1, pRs P + 1) := by
  unfold nxS
  rw [h]
  exact if_pos rfl
theorem ftS_row {ld : LD} {cols : Nat} {st lr : Nat → Nat} {rs : Nat} {ky : Int} {k : Nat} (h : (ftS ld cols st lr rs ky k).1 = -5) : dNf ld k = cols ∧ ufS ld st cols k = cols := by
  have hu := ufS_le ld st cols k
  unfold ftS at h
  split at h
  · exact absurd h (by decide)
  · split at h
    · exact absurd h (by decide)
    · split at h
      · exact absurd (show nI 3 = -5 from h) (by decide)
      · omega
/-- what holds of it always -/
def InvP (ld : LD) (cols lc : Nat) (P : PS) : Prop := pRs P ≤ pMk P ∧ pMk P ≤ lc ∧ (∀ r, r < pRs P → pLr P r < lc ∧ dNf ld (pLr P r) = cols) ∧ ∀ k, pSt P k ≤ 4
theorem InvP_nx {ld : LD} {cols lc : Nat} {ky : Int} {P : PS} (h : InvP ld cols lc P) (hm : pMk P < lc) : InvP ld cols lc (nxS ld cols ky P) ∧ pMk (nxS ld cols ky P) = pMk P + 1 ∧ pSt (nxS ld cols ky P) = pSt P := by
  obtain ⟨h1, h2, h3, h4⟩ := h
  by_cases e : (ftP ld cols ky P).1 = -5
  · have e2 : nxS ld cols ky P = (pSt P, va_up (pFa P) (pMk P) (-5), va_up (pCa P) (pMk P) (-5), va_up (pDc P) (pMk P) (-5), va_up (pRl P) (pMk P) (nI (pRs P)), va_up (pLr P) (pRs P) (pMk P), pMk P + 1, pRs P + 1) := if_pos e
    rw [e2]
    refine ⟨⟨by show pRs P + 1 ≤ pMk P + 1; omega, by show pMk P + 1 ≤ lc; omega, fun r hr => ?_, h4⟩, rfl, rfl⟩
    have hr : r < pRs P + 1 := hr
    show va_up (pLr P) (pRs P) (pMk P) r < lc ∧ dNf ld (va_up (pLr P) (pRs P) (pMk P) r) = cols
    by_cases e3 : r = pRs P
    · rw [e3, va_up_eq]
      exact ⟨hm, (ftS_row e).1⟩
    · rw [va_up_ne' e3]
      exact h3 r (by omega)
  · have e2 : nxS ld cols ky P = (pSt P, va_up (pFa P) (pMk P) (ftP ld cols ky P).1, va_up (pCa P) (pMk P) (ftP ld cols ky P).2.1, va_up (pDc P) (pMk P) (ftP ld cols ky P).2.2, va_up (pRl P) (pMk P) (-5), pLr P, pMk P + 1, pRs P) := if_neg e
    rw [e2]
    exact ⟨⟨by show pRs P ≤ pMk P + 1; omega, by show pMk P + 1 ≤ lc; omega, h3, h4⟩, rfl, rfl⟩
/-- types settled, if nothing is imported yet -/
def stS (ld : LD) (cols : Nat) (tl : Nat → Nat) (z : Nat) (P : PS) : PS := if pMk P = 0 then (seS cols (-1) 0 tl ld z (pSt P), P.2) else P
theorem stS_0 {ld : LD} {cols : Nat} {tl : Nat → Nat} {z : Nat} {P : PS} (h : pMk P = 0) : stS ld cols tl z P = (seS cols (-1) 0 tl ld z (pSt P), P.2) := if_pos h
theorem stS_n {ld : LD} {cols : Nat} {tl : Nat → Nat} {z : Nat} {P : PS} (h : ¬ pMk P = 0) : stS ld cols tl z P = P := if_neg h
theorem InvP_st {ld : LD} {cols lc : Nat} {tl : Nat → Nat} {z : Nat} {P : PS} (h : InvP ld cols lc P) (ht : ∀ k, tl k ≤ 4) : InvP ld cols lc (stS ld cols tl z P) ∧ pMk (stS ld cols tl z P) = pMk P := by
  obtain ⟨h1, h2, h3, h4⟩ := h
  by_cases e : pMk P = 0
  · rw [stS_0 e]
    exact ⟨⟨h1, h2, h3, seS_le (by decide) ht h4⟩, rfl⟩
  · rw [stS_n e]
    exact ⟨⟨h1, h2, h3, h4⟩, rfl⟩
/-- so many lines are imported -/
def goS (ld : LD) (cols : Nat) (tl : Nat → Nat) (z : Nat) (ky : Int) : Nat → PS → PS
  | 0, P => P
  | j + 1, P => nxS ld cols ky (stS ld cols tl z (goS ld cols tl z ky j P))
def itS (ld : LD) (cols : Nat) (ky : Int) : Nat → PS → PS
  | 0, P => P
  | j + 1, P => nxS ld cols ky (itS ld cols ky j P)

set_option maxHeartbeats 4000000 in
set_option maxRecDepth 100000 in
/-- Table.importLines: LINES are IMPORTED -/
theorem c_X7_importLines (l : Launch) (D : va_G) (cy : Nat → ClassId) (tb : Nat) (nz : Nat) (tl : Nat) (pg : Nat) (se : Nat) (pa : Nat) (bo : Nat) (li : Nat) (ba : Nat) (cols : Nat) (lc : Nat) (smp : Nat) (tlf : Nat → Nat) (lnf : Nat → Option Nat) (bal : Nat → Nat) (io : Nat) (a0 : Nat) (a1 : Nat) (a2 : Nat) (a3 : Nat) (a4 : Nat) (a5 : Nat) (P : PS) (ky : Int32) (ld : LD) (pl : va_W) (nq : Nat) (hcols : cols ≤ 5) (hlc : lc ≤ 24) (hTL : TbL cy pl lc lnf ld) (hfm : ∀ k i, dFm ld k i ≤ 4) (htl : ∀ k, tlf k ≤ 4) (hsmp : smp ≤ 24) (hnq : nq ≤ 24) (hP : InvP ld cols lc P) : xMet l D cy xT yX7_importLines wsX7_importLines ({ frames := 7, cells := 0, slots := 0, locals := 900 } : Room) [.ref tb, .ref io, .int (nI nq)] [(tb, .inr (6, [.ref nz, .ref tl, .ref pg, .ref se, .ref pa, .ref bo, .ref li, .ref ba, .int (nI cols), .int (nI lc), .int (nI smp)])), (tl, .inl (cy 1, 5, .inl (fun k => nI (tlf k)))), (li, .inl (cy 4, 24, .inr (.inr (.inr (.inr lnf))))), (ba, .inl (cy 1, 5, .inl (fun k => nI (bal k)))), (io, .inr (4, [.ref a0, .ref a1, .ref a2, .ref a3, .ref a4, .ref a5, .int (nI (pMk P)), .int (nI (pRs P)), .int (ky)])), (a0, .inl (cy 1, 5, .inl (fun k => nI ((pSt P) k)))), (a1, .inl (cy 1, 24, .inl (pFa P))), (a2, .inl (cy 1, 24, .inl (pCa P))), (a3, .inl (cy 1, 24, .inl (pDc P))), (a4, .inl (cy 1, 24, .inl (pRl P))), (a5, .inl (cy 1, 24, .inl (fun k => nI ((pLr P) k))))] pl (fun (v9 : Option Value) (w9 : va_W) => (∃ b2 : Nat → Nat, v9 = some (.int (nI (min nq (lc - pMk P)))) ∧ w9 = [(tb, .inr (6, [.ref nz, .ref tl, .ref pg, .ref se, .ref pa, .ref bo, .ref li, .ref ba, .int (nI cols), .int (nI lc), .int (nI smp)])), (tl, .inl (cy 1, 5, .inl (fun k => nI (tlf k)))), (li, .inl (cy 4, 24, .inr (.inr (.inr (.inr lnf))))), (ba, .inl (cy 1, 5, .inl (fun k => nI (b2 k)))), (io, .inr (4, [.ref a0, .ref a1, .ref a2, .ref a3, .ref a4, .ref a5, .int (nI (pMk (goS ld cols tlf (min smp lc) ky.toInt (min nq (lc - pMk P)) P))), .int (nI (pRs (goS ld cols tlf (min smp lc) ky.toInt (min nq (lc - pMk P)) P))), .int (ky)])), (a0, .inl (cy 1, 5, .inl (fun k => nI ((pSt (goS ld cols tlf (min smp lc) ky.toInt (min nq (lc - pMk P)) P)) k)))), (a1, .inl (cy 1, 24, .inl (pFa (goS ld cols tlf (min smp lc) ky.toInt (min nq (lc - pMk P)) P)))), (a2, .inl (cy 1, 24, .inl (pCa (goS ld cols tlf (min smp lc) ky.toInt (min nq (lc - pMk P)) P)))), (a3, .inl (cy 1, 24, .inl (pDc (goS ld cols tlf (min smp lc) ky.toInt (min nq (lc - pMk P)) P)))), (a4, .inl (cy 1, 24, .inl (pRl (goS ld cols tlf (min smp lc) ky.toInt (min nq (lc - pMk P)) P)))), (a5, .inl (cy 1, 24, .inl (fun k => nI ((pLr (goS ld cols tlf (min smp lc) ky.toInt (min nq (lc - pMk P)) P)) k))))])) := by
  refine xMet_of (cc := cX7_importLines) (maxL := 4) (ret := (some .int)) (by decide) rfl (Nat.le_of_ble_eq_true rfl) (fun p e s m args below meth c A R Q hA hR hQ C hr hnm hro hX => ?_)
  have hw0 : ∀ w ∈ u_ws RX5 TX5 9, w ∈ wsX7_importLines := by decide +kernel
  have hw1 : Cond.fieldLink RX7 127 (TX5 6).1 (TX5 6).2.1 (TX5 6).2.2.1 ∈ wsX7_importLines := by decide +kernel
  have hw2 : ∀ w ∈ u_ws RX7 TX7 11, w ∈ wsX7_importLines := by decide +kernel
  have hw3 : Cond.fieldLink RX7 53 (TX7 9).1 (TX7 9).2.1 (TX7 9).2.2.1 ∈ wsX7_importLines := by decide +kernel
  have hw4 : Cond.fieldLink RX7 56 (TX7 10).1 (TX7 10).2.1 (TX7 10).2.2.1 ∈ wsX7_importLines := by decide +kernel
  refine x_L (L' := [(0, .ref tb), (1, .ref io), (2, .int (nI nq))]) [0, 1, 2] rfl ?_
  have hpool : ∀ q ∈ pl, xRo D A s q := hro
  have hP1 := hP.1
  have hP2 := hP.2.1
  refine x_iconst C dX7_importLines_0 (q := 1) rfl (v := nI 0) (by decide) ?_
  refine x_istore_n C (L' := [(3, .int (nI 0)), (0, .ref tb), (1, .ref io), (2, .int (nI nq))]) dX7_importLines_1 (q := 2) rfl rfl (by decide) rfl ?_
  have cut2 : ∀ (fuel : Nat) (i : Nat) (b9 : Nat → Nat) (Pq : PS), (i ≤ nq) → (Pq = goS ld cols tlf (min smp lc) ky.toInt i P) → (InvP ld cols lc Pq) → (pMk Pq = pMk P + i) → lc - pMk Pq < fuel → xG p l e R s m args below meth c Q D A 4 [(tb, .inr (6, [.ref nz, .ref tl, .ref pg, .ref se, .ref pa, .ref bo, .ref li, .ref ba, .int (nI cols), .int (nI lc), .int (nI smp)])), (tl, .inl (cy 1, 5, .inl (fun k => nI (tlf k)))), (li, .inl (cy 4, 24, .inr (.inr (.inr (.inr lnf))))), (ba, .inl (cy 1, 5, .inl (fun k => nI (b9 k)))), (io, .inr (4, [.ref a0, .ref a1, .ref a2, .ref a3, .ref a4, .ref a5, .int (nI (pMk Pq)), .int (nI (pRs Pq)), .int (ky)])), (a0, .inl (cy 1, 5, .inl (fun k => nI ((pSt Pq) k)))), (a1, .inl (cy 1, 24, .inl (pFa Pq))), (a2, .inl (cy 1, 24, .inl (pCa Pq))), (a3, .inl (cy 1, 24, .inl (pDc Pq))), (a4, .inl (cy 1, 24, .inl (pRl Pq))), (a5, .inl (cy 1, 24, .inl (fun k => nI ((pLr Pq) k))))] 0 0 2 [(0, .ref tb), (1, .ref io), (2, .int (nI nq)), (3, .int (nI i))] [] := by
    intro fuel
    induction fuel with
    | zero =>
      intro i b9 Pq hi hQe hQI hQm hmu
      exact absurd hmu (Nat.not_lt_zero _)
    | succ fuel ih =>
      intro i b9 Pq hi hQe hQI hQm hmu
      have hQ1 := hQI.1
      have hQ2 := hQI.2.1
      have hS9 := InvP_st (z := min smp lc) hQI htl
      have ih2 := ih
      clear ih
      refine x_iload_n C dX7_importLines_2 (q := 3) rfl rfl 3 rfl ?_
      refine x_iload_n C dX7_importLines_3 (q := 4) rfl rfl 2 rfl ?_
      refine x_icmp_ge C (tgt := 56) dX7_importLines_4 (by decide) (q := 7) rfl (a := ((i : Nat) : Int)) (b := ((nq : Nat) : Int)) (nI_toInt (by omega)) (nI_toInt (by omega)) (fun h1 => ?_) (fun h1 => ?_)
      · first
        | (exfalso; omega)
        |
          refine x_iload_n C dX7_importLines_56 (q := 57) rfl rfl 3 rfl ?_
          refine x_iret C hA hQ hr dX7_importLines_57 (Nat.le_of_ble_eq_true rfl) ?_
          have e9 : i = min nq (lc - pMk P) := by omega
          refine ⟨b9, ?_, ?_⟩
          · rw [e9]
          · rw [hQe, e9]
      · first
        | (exfalso; omega)
        |
          refine x_aload_n C dX7_importLines_7 (q := 8) rfl rfl 1 rfl ?_
          refine x_get C (ci := 4) (v := .int (nI (pMk Pq))) hw0 4 rfl rfl 6 (by decide) hw1 rfl dX7_importLines_8 (q := 11) rfl ?_
          refine x_aload_n C dX7_importLines_11 (q := 12) rfl rfl 0 rfl ?_
          refine x_get C (ci := 6) (v := .int (nI lc)) hw2 0 rfl rfl 9 (by decide) hw3 rfl dX7_importLines_12 (q := 15) rfl ?_
          refine x_icmp_ge C (tgt := 56) dX7_importLines_15 (by decide) (q := 18) rfl (a := ((pMk Pq : Nat) : Int)) (b := ((lc : Nat) : Int)) (nI_toInt (by omega)) (nI_toInt (by omega)) (fun h2 => ?_) (fun h2 => ?_)
          · first
            | (exfalso; omega)
            |
              refine x_iload_n C dX7_importLines_56 (q := 57) rfl rfl 3 rfl ?_
              refine x_iret C hA hQ hr dX7_importLines_57 (Nat.le_of_ble_eq_true rfl) ?_
              have e9 : i = min nq (lc - pMk P) := by omega
              refine ⟨b9, ?_, ?_⟩
              · rw [e9]
              · rw [hQe, e9]
          · first
            | (exfalso; omega)
            |
              refine x_aload_n C dX7_importLines_18 (q := 19) rfl rfl 1 rfl ?_
              refine x_get C (ci := 4) (v := .int (nI (pMk Pq))) hw0 4 rfl rfl 6 (by decide) hw1 rfl dX7_importLines_19 (q := 22) rfl ?_
              refine x_bipush C dX7_importLines_22 (q := 24) rfl (v := nI 24) (by decide) ?_
              refine x_icmp_ge C (tgt := 56) dX7_importLines_24 (by decide) (q := 27) rfl (a := ((pMk Pq : Nat) : Int)) (b := 24) (nI_toInt (by omega)) rfl (fun h3 => ?_) (fun h3 => ?_)
              · first
                | (exfalso; omega)
                |
                  refine x_iload_n C dX7_importLines_56 (q := 57) rfl rfl 3 rfl ?_
                  refine x_iret C hA hQ hr dX7_importLines_57 (Nat.le_of_ble_eq_true rfl) ?_
                  have e9 : i = min nq (lc - pMk P) := by omega
                  refine ⟨b9, ?_, ?_⟩
                  · rw [e9]
                  · rw [hQe, e9]
              · first
                | (exfalso; omega)
                |
                  have cut45 : ∀ (b8 : Nat → Nat), xG p l e R s m args below meth c Q D A 4 [(tb, .inr (6, [.ref nz, .ref tl, .ref pg, .ref se, .ref pa, .ref bo, .ref li, .ref ba, .int (nI cols), .int (nI lc), .int (nI smp)])), (tl, .inl (cy 1, 5, .inl (fun k => nI (tlf k)))), (li, .inl (cy 4, 24, .inr (.inr (.inr (.inr lnf))))), (ba, .inl (cy 1, 5, .inl (fun k => nI (b8 k)))), (io, .inr (4, [.ref a0, .ref a1, .ref a2, .ref a3, .ref a4, .ref a5, .int (nI (pMk (stS ld cols tlf (min smp lc) Pq))), .int (nI (pRs (stS ld cols tlf (min smp lc) Pq))), .int (ky)])), (a0, .inl (cy 1, 5, .inl (fun k => nI ((pSt (stS ld cols tlf (min smp lc) Pq)) k)))), (a1, .inl (cy 1, 24, .inl (pFa (stS ld cols tlf (min smp lc) Pq)))), (a2, .inl (cy 1, 24, .inl (pCa (stS ld cols tlf (min smp lc) Pq)))), (a3, .inl (cy 1, 24, .inl (pDc (stS ld cols tlf (min smp lc) Pq)))), (a4, .inl (cy 1, 24, .inl (pRl (stS ld cols tlf (min smp lc) Pq)))), (a5, .inl (cy 1, 24, .inl (fun k => nI ((pLr (stS ld cols tlf (min smp lc) Pq)) k))))] 0 0 45 [(0, .ref tb), (1, .ref io), (2, .int (nI nq)), (3, .int (nI i))] [] := by
                    intro b8 
                    refine x_aload_n C dX7_importLines_45 (q := 46) rfl rfl 0 rfl ?_
                    refine x_aload_n C dX7_importLines_46 (q := 47) rfl rfl 1 rfl ?_
                    have hS1 := hS9.1.1
                    have hS2 := hS9.1.2.1
                    have hS3 := hS9.1.2.2.1
                    have hS4 := hS9.1.2.2.2
                    have hS5 := hS9.2
                    refine x_callV C (roW := []) (roR := pl) (c_X7_importNext l D cy tb nz tl pg se pa bo li ba cols lc smp lnf io a0 a1 a2 a3 a4 a5 (pSt (stS ld cols tlf (min smp lc) Pq)) (pFa (stS ld cols tlf (min smp lc) Pq)) (pCa (stS ld cols tlf (min smp lc) Pq)) (pDc (stS ld cols tlf (min smp lc) Pq)) (pRl (stS ld cols tlf (min smp lc) Pq)) (pLr (stS ld cols tlf (min smp lc) Pq)) (pMk (stS ld cols tlf (min smp lc) Pq)) (pRs (stS ld cols tlf (min smp lc) Pq)) ky ld pl (by first | assumption | omega | (simp only []; omega)) (by first | assumption | omega | (simp only []; omega)) (by assumption) (by assumption) (by omega) (by omega) (by exact hS4) (by exact hS3) (by omega)) (cwV 1 C.2.2.2.2.1 gX7_importLines_X7_importNext rfl rfl rfl (by decide +kernel) (by rw [hR]; exact ⟨Nat.le_of_ble_eq_true rfl, Nat.le_of_ble_eq_true rfl⟩)) [0, 2, 4, 5, 6, 7, 8, 9, 10] [] rfl (by decide) rfl (by decide) hpool (List.mem_of_getElem? (i := 0) rfl) (ci := 6) rfl xT_bl (fun _ _ _ _ _ _ _ => trivial) rfl rfl dX7_importLines_47 rfl rfl (Nat.le_of_ble_eq_true rfl) (q := 50) rfl (k' := 0) rfl (n' := 0) rfl (by rw [hR]; exact ⟨Nat.le_of_ble_eq_true rfl, Nat.le_of_ble_eq_true rfl⟩) (fun v4 w4 hp4 => ?_)
                    rcases hp4 with hp4 | hp4
                    · skip
                      obtain ⟨x_5, y_6, z_7, rfl, rfl, hc8, hc9⟩ := hp4
                      refine x_ws (ws' := [(tb, .inr (6, [.ref nz, .ref tl, .ref pg, .ref se, .ref pa, .ref bo, .ref li, .ref ba, .int (nI cols), .int (nI lc), .int (nI smp)])), (tl, .inl (cy 1, 5, .inl (fun k => nI (tlf k)))), (li, .inl (cy 4, 24, .inr (.inr (.inr (.inr lnf))))), (ba, .inl (cy 1, 5, .inl (fun k => nI (b8 k)))), (io, .inr (4, [.ref a0, .ref a1, .ref a2, .ref a3, .ref a4, .ref a5, .int (nI ((pMk (stS ld cols tlf (min smp lc) Pq)) + 1)), .int (nI (pRs (stS ld cols tlf (min smp lc) Pq))), .int (ky)])), (a0, .inl (cy 1, 5, .inl (fun k => nI ((pSt (stS ld cols tlf (min smp lc) Pq)) k)))), (a1, .inl (cy 1, 24, .inl (va_up (pFa (stS ld cols tlf (min smp lc) Pq)) (pMk (stS ld cols tlf (min smp lc) Pq)) x_5))), (a2, .inl (cy 1, 24, .inl (va_up (pCa (stS ld cols tlf (min smp lc) Pq)) (pMk (stS ld cols tlf (min smp lc) Pq)) y_6))), (a3, .inl (cy 1, 24, .inl (va_up (pDc (stS ld cols tlf (min smp lc) Pq)) (pMk (stS ld cols tlf (min smp lc) Pq)) z_7))), (a4, .inl (cy 1, 24, .inl (va_up (pRl (stS ld cols tlf (min smp lc) Pq)) (pMk (stS ld cols tlf (min smp lc) Pq)) (-5)))), (a5, .inl (cy 1, 24, .inl (fun k => nI ((pLr (stS ld cols tlf (min smp lc) Pq)) k))))]) rfl ?_
                      have eN10 : nxS ld cols ky.toInt (stS ld cols tlf (min smp lc) Pq) = _ := nxS_f hc8 hc9
                      refine x_ws (ws' := [(tb, .inr (6, [.ref nz, .ref tl, .ref pg, .ref se, .ref pa, .ref bo, .ref li, .ref ba, .int (nI cols), .int (nI lc), .int (nI smp)])), (tl, .inl (cy 1, 5, .inl (fun k => nI (tlf k)))), (li, .inl (cy 4, 24, .inr (.inr (.inr (.inr lnf))))), (ba, .inl (cy 1, 5, .inl (fun k => nI (b8 k)))), (io, .inr (4, [.ref a0, .ref a1, .ref a2, .ref a3, .ref a4, .ref a5, .int (nI (pMk (nxS ld cols ky.toInt (stS ld cols tlf (min smp lc) Pq)))), .int (nI (pRs (nxS ld cols ky.toInt (stS ld cols tlf (min smp lc) Pq)))), .int (ky)])), (a0, .inl (cy 1, 5, .inl (fun k => nI ((pSt (nxS ld cols ky.toInt (stS ld cols tlf (min smp lc) Pq))) k)))), (a1, .inl (cy 1, 24, .inl (pFa (nxS ld cols ky.toInt (stS ld cols tlf (min smp lc) Pq))))), (a2, .inl (cy 1, 24, .inl (pCa (nxS ld cols ky.toInt (stS ld cols tlf (min smp lc) Pq))))), (a3, .inl (cy 1, 24, .inl (pDc (nxS ld cols ky.toInt (stS ld cols tlf (min smp lc) Pq))))), (a4, .inl (cy 1, 24, .inl (pRl (nxS ld cols ky.toInt (stS ld cols tlf (min smp lc) Pq))))), (a5, .inl (cy 1, 24, .inl (fun k => nI ((pLr (nxS ld cols ky.toInt (stS ld cols tlf (min smp lc) Pq))) k))))]) (by rw [eN10]) ?_
                      have hN9 := (InvP_nx (ky := ky.toInt) hS9.1 (by rw [hS9.2]; omega)).2.1
                      refine x_iinc C (L' := [(3, .int (nI (i + 1))), (0, .ref tb), (1, .ref io), (2, .int (nI nq))]) dX7_importLines_50 (q := 53) rfl 3 rfl (v := nI (i + 1)) (nI_add i 1) (by decide) rfl ?_
                      refine x_goto C (tgt := 2) dX7_importLines_53 (by decide) ?_
                      refine x_L (L' := [(0, .ref tb), (1, .ref io), (2, .int (nI nq)), (3, .int (nI (i + 1)))]) [1, 2, 3, 0] rfl ?_
                      exact ih2 (i + 1) b8 (nxS ld cols ky.toInt (stS ld cols tlf (min smp lc) Pq)) (by first | omega | assumption) (by rw [hQe]; rfl) (by exact (InvP_nx hS9.1 (by rw [hS9.2]; omega)).1) (by rw [(InvP_nx hS9.1 (by rw [hS9.2]; omega)).2.1, hS9.2]; omega) (by omega)
                    · skip
                      obtain ⟨rfl, rfl, hc11⟩ := hp4
                      refine x_ws (ws' := [(tb, .inr (6, [.ref nz, .ref tl, .ref pg, .ref se, .ref pa, .ref bo, .ref li, .ref ba, .int (nI cols), .int (nI lc), .int (nI smp)])), (tl, .inl (cy 1, 5, .inl (fun k => nI (tlf k)))), (li, .inl (cy 4, 24, .inr (.inr (.inr (.inr lnf))))), (ba, .inl (cy 1, 5, .inl (fun k => nI (b8 k)))), (io, .inr (4, [.ref a0, .ref a1, .ref a2, .ref a3, .ref a4, .ref a5, .int (nI ((pMk (stS ld cols tlf (min smp lc) Pq)) + 1)), .int (nI ((pRs (stS ld cols tlf (min smp lc) Pq)) + 1)), .int (ky)])), (a0, .inl (cy 1, 5, .inl (fun k => nI ((pSt (stS ld cols tlf (min smp lc) Pq)) k)))), (a1, .inl (cy 1, 24, .inl (va_up (pFa (stS ld cols tlf (min smp lc) Pq)) (pMk (stS ld cols tlf (min smp lc) Pq)) (-5)))), (a2, .inl (cy 1, 24, .inl (va_up (pCa (stS ld cols tlf (min smp lc) Pq)) (pMk (stS ld cols tlf (min smp lc) Pq)) (-5)))), (a3, .inl (cy 1, 24, .inl (va_up (pDc (stS ld cols tlf (min smp lc) Pq)) (pMk (stS ld cols tlf (min smp lc) Pq)) (-5)))), (a4, .inl (cy 1, 24, .inl (va_up (pRl (stS ld cols tlf (min smp lc) Pq)) (pMk (stS ld cols tlf (min smp lc) Pq)) (nI (pRs (stS ld cols tlf (min smp lc) Pq)))))), (a5, .inl (cy 1, 24, .inl (fun k => nI ((va_up (pLr (stS ld cols tlf (min smp lc) Pq)) (pRs (stS ld cols tlf (min smp lc) Pq)) (pMk (stS ld cols tlf (min smp lc) Pq))) k))))]) rfl ?_
                      have eN12 : nxS ld cols ky.toInt (stS ld cols tlf (min smp lc) Pq) = _ := nxS_r hc11
                      refine x_ws (ws' := [(tb, .inr (6, [.ref nz, .ref tl, .ref pg, .ref se, .ref pa, .ref bo, .ref li, .ref ba, .int (nI cols), .int (nI lc), .int (nI smp)])), (tl, .inl (cy 1, 5, .inl (fun k => nI (tlf k)))), (li, .inl (cy 4, 24, .inr (.inr (.inr (.inr lnf))))), (ba, .inl (cy 1, 5, .inl (fun k => nI (b8 k)))), (io, .inr (4, [.ref a0, .ref a1, .ref a2, .ref a3, .ref a4, .ref a5, .int (nI (pMk (nxS ld cols ky.toInt (stS ld cols tlf (min smp lc) Pq)))), .int (nI (pRs (nxS ld cols ky.toInt (stS ld cols tlf (min smp lc) Pq)))), .int (ky)])), (a0, .inl (cy 1, 5, .inl (fun k => nI ((pSt (nxS ld cols ky.toInt (stS ld cols tlf (min smp lc) Pq))) k)))), (a1, .inl (cy 1, 24, .inl (pFa (nxS ld cols ky.toInt (stS ld cols tlf (min smp lc) Pq))))), (a2, .inl (cy 1, 24, .inl (pCa (nxS ld cols ky.toInt (stS ld cols tlf (min smp lc) Pq))))), (a3, .inl (cy 1, 24, .inl (pDc (nxS ld cols ky.toInt (stS ld cols tlf (min smp lc) Pq))))), (a4, .inl (cy 1, 24, .inl (pRl (nxS ld cols ky.toInt (stS ld cols tlf (min smp lc) Pq))))), (a5, .inl (cy 1, 24, .inl (fun k => nI ((pLr (nxS ld cols ky.toInt (stS ld cols tlf (min smp lc) Pq))) k))))]) (by rw [eN12]) ?_
                      have hN9 := (InvP_nx (ky := ky.toInt) hS9.1 (by rw [hS9.2]; omega)).2.1
                      refine x_iinc C (L' := [(3, .int (nI (i + 1))), (0, .ref tb), (1, .ref io), (2, .int (nI nq))]) dX7_importLines_50 (q := 53) rfl 3 rfl (v := nI (i + 1)) (nI_add i 1) (by decide) rfl ?_
                      refine x_goto C (tgt := 2) dX7_importLines_53 (by decide) ?_
                      refine x_L (L' := [(0, .ref tb), (1, .ref io), (2, .int (nI nq)), (3, .int (nI (i + 1)))]) [1, 2, 3, 0] rfl ?_
                      exact ih2 (i + 1) b8 (nxS ld cols ky.toInt (stS ld cols tlf (min smp lc) Pq)) (by first | omega | assumption) (by rw [hQe]; rfl) (by exact (InvP_nx hS9.1 (by rw [hS9.2]; omega)).1) (by rw [(InvP_nx hS9.1 (by rw [hS9.2]; omega)).2.1, hS9.2]; omega) (by omega)
                  refine x_aload_n C dX7_importLines_27 (q := 28) rfl rfl 1 rfl ?_
                  refine x_get C (ci := 4) (v := .int (nI (pMk Pq))) hw0 4 rfl rfl 6 (by decide) hw1 rfl dX7_importLines_28 (q := 31) rfl ?_
                  refine x_if_ne C (tgt := 45) dX7_importLines_31 (by decide) (q := 34) rfl (a := ((pMk Pq : Nat) : Int)) (nI_toInt (by omega)) (fun h13 => ?_) (fun h13 => ?_)
                  · first
                    | (exfalso; omega)
                    |
                      refine x_ws (ws' := [(tb, .inr (6, [.ref nz, .ref tl, .ref pg, .ref se, .ref pa, .ref bo, .ref li, .ref ba, .int (nI cols), .int (nI lc), .int (nI smp)])), (tl, .inl (cy 1, 5, .inl (fun k => nI (tlf k)))), (li, .inl (cy 4, 24, .inr (.inr (.inr (.inr lnf))))), (ba, .inl (cy 1, 5, .inl (fun k => nI (b9 k)))), (io, .inr (4, [.ref a0, .ref a1, .ref a2, .ref a3, .ref a4, .ref a5, .int (nI (pMk (stS ld cols tlf (min smp lc) Pq))), .int (nI (pRs (stS ld cols tlf (min smp lc) Pq))), .int (ky)])), (a0, .inl (cy 1, 5, .inl (fun k => nI ((pSt (stS ld cols tlf (min smp lc) Pq)) k)))), (a1, .inl (cy 1, 24, .inl (pFa (stS ld cols tlf (min smp lc) Pq)))), (a2, .inl (cy 1, 24, .inl (pCa (stS ld cols tlf (min smp lc) Pq)))), (a3, .inl (cy 1, 24, .inl (pDc (stS ld cols tlf (min smp lc) Pq)))), (a4, .inl (cy 1, 24, .inl (pRl (stS ld cols tlf (min smp lc) Pq)))), (a5, .inl (cy 1, 24, .inl (fun k => nI ((pLr (stS ld cols tlf (min smp lc) Pq)) k))))]) (by rw [stS_n (by omega)]) ?_
                      exact cut45 b9 
                  · first
                    | (exfalso; omega)
                    |
                      refine x_aload_n C dX7_importLines_34 (q := 35) rfl rfl 0 rfl ?_
                      refine x_aload_n C dX7_importLines_35 (q := 36) rfl rfl 1 rfl ?_
                      refine x_aload_n C dX7_importLines_36 (q := 37) rfl rfl 0 rfl ?_
                      refine x_get C (ci := 6) (v := .int (nI smp)) hw2 0 rfl rfl 10 (by decide) hw4 rfl dX7_importLines_37 (q := 40) rfl ?_
                      refine x_iconst C dX7_importLines_40 (q := 41) rfl (v := (-1)) (by decide) ?_
                      refine x_iconst C dX7_importLines_41 (q := 42) rfl (v := nI 0) (by decide) ?_
                      refine x_callV C (roW := []) (roR := pl) (c_X7_settle l D cy tb nz tl pg se pa bo li ba cols lc smp tlf lnf b9 io a0 a1 a2 a3 a4 a5 (pMk Pq) (pRs Pq) ky (pSt Pq) ld pl smp (-1) (-1) 0 (by first | assumption | omega | (simp only []; omega)) (by first | assumption | omega | (simp only []; omega)) (by assumption) (by assumption) (by assumption) (by first | assumption | omega | (simp only []; omega)) (by first | assumption | omega | (simp only []; omega)) (by rfl)) (cwV 4 C.2.2.2.2.1 gX7_importLines_X7_settle rfl rfl rfl (by decide +kernel) (by rw [hR]; exact ⟨Nat.le_of_ble_eq_true rfl, Nat.le_of_ble_eq_true rfl⟩)) [0, 1, 2, 3, 4, 5] [] rfl (by decide) rfl (by decide) hpool (List.mem_of_getElem? (i := 0) rfl) (ci := 6) rfl xT_bl (fun _ _ _ _ _ _ _ => trivial) rfl rfl dX7_importLines_42 rfl rfl (Nat.le_of_ble_eq_true rfl) (q := 45) rfl (k' := 0) rfl (n' := 0) rfl (by rw [hR]; exact ⟨Nat.le_of_ble_eq_true rfl, Nat.le_of_ble_eq_true rfl⟩) (fun v14 w14 hp14 => ?_)
                      obtain ⟨b2_15, rfl, rfl⟩ := hp14
                      refine x_ws (ws' := [(tb, .inr (6, [.ref nz, .ref tl, .ref pg, .ref se, .ref pa, .ref bo, .ref li, .ref ba, .int (nI cols), .int (nI lc), .int (nI smp)])), (tl, .inl (cy 1, 5, .inl (fun k => nI (tlf k)))), (li, .inl (cy 4, 24, .inr (.inr (.inr (.inr lnf))))), (ba, .inl (cy 1, 5, .inl (fun k => nI (b2_15 k)))), (io, .inr (4, [.ref a0, .ref a1, .ref a2, .ref a3, .ref a4, .ref a5, .int (nI (pMk Pq)), .int (nI (pRs Pq)), .int (ky)])), (a0, .inl (cy 1, 5, .inl (fun k => nI ((seS cols (-1) 0 tlf ld (min smp lc) (pSt Pq)) k)))), (a1, .inl (cy 1, 24, .inl (pFa Pq))), (a2, .inl (cy 1, 24, .inl (pCa Pq))), (a3, .inl (cy 1, 24, .inl (pDc Pq))), (a4, .inl (cy 1, 24, .inl (pRl Pq))), (a5, .inl (cy 1, 24, .inl (fun k => nI ((pLr Pq) k))))]) rfl ?_
                      refine x_ws (ws' := [(tb, .inr (6, [.ref nz, .ref tl, .ref pg, .ref se, .ref pa, .ref bo, .ref li, .ref ba, .int (nI cols), .int (nI lc), .int (nI smp)])), (tl, .inl (cy 1, 5, .inl (fun k => nI (tlf k)))), (li, .inl (cy 4, 24, .inr (.inr (.inr (.inr lnf))))), (ba, .inl (cy 1, 5, .inl (fun k => nI (b2_15 k)))), (io, .inr (4, [.ref a0, .ref a1, .ref a2, .ref a3, .ref a4, .ref a5, .int (nI (pMk (stS ld cols tlf (min smp lc) Pq))), .int (nI (pRs (stS ld cols tlf (min smp lc) Pq))), .int (ky)])), (a0, .inl (cy 1, 5, .inl (fun k => nI ((pSt (stS ld cols tlf (min smp lc) Pq)) k)))), (a1, .inl (cy 1, 24, .inl (pFa (stS ld cols tlf (min smp lc) Pq)))), (a2, .inl (cy 1, 24, .inl (pCa (stS ld cols tlf (min smp lc) Pq)))), (a3, .inl (cy 1, 24, .inl (pDc (stS ld cols tlf (min smp lc) Pq)))), (a4, .inl (cy 1, 24, .inl (pRl (stS ld cols tlf (min smp lc) Pq)))), (a5, .inl (cy 1, 24, .inl (fun k => nI ((pLr (stS ld cols tlf (min smp lc) Pq)) k))))]) (by rw [stS_0 (by omega)]) ?_
                      exact cut45 b2_15 
  refine x_L (L' := [(0, .ref tb), (1, .ref io), (2, .int (nI nq)), (3, .int (nI 0))]) [1, 2, 3, 0] rfl ?_
  exact cut2 (lc - pMk P + 1) 0 bal P (by first | omega | assumption) (by rfl) (by exact hP) (by first | omega | assumption) (by omega)
