
/-- what the model holds of the lines -/
def exD (ld : LD) (k i : Nat) : Int64 := if dFm ld k i = 1 then dNm ld k i * lN 1000 else dNm ld k i
def MdL (ld : LD) (lc : Nat) (fn fo : Nat → Nat) (ex wo : Nat → Int64) : Prop := ∀ k, k < lc → fn k = dNf ld k ∧ dNf ld k ≤ 61 ∧ ∀ i, i < 5 → i < dNf ld k → fo (5 * k + i) = dFm ld k i ∧ ex (5 * k + i) = exD ld k i ∧ wo (5 * k + i) = dWd ld k i ∧ (dFm ld k i = 1 → (dNm ld k i).toInt.natAbs < 1000000)
theorem vts_y {ld : LD} {c f k : Nat} (h : c < dNf ld k ∧ dFm ld k c = f) : vts ld c f (k + 1) = vts ld c f k + 1 := by
  show vts ld c f k + (if c < dNf ld k ∧ dFm ld k c = f then 1 else 0) = _
  rw [if_pos h]
theorem vts_n {ld : LD} {c f k : Nat} (h : ¬ (c < dNf ld k ∧ dFm ld k c = f)) : vts ld c f (k + 1) = vts ld c f k := by
  show vts ld c f k + (if c < dNf ld k ∧ dFm ld k c = f then 1 else 0) = _
  rw [if_neg h]
  rfl
theorem k1000 {x : Int64} (h : x.toInt.natAbs < 1000000) : (x * lN 1000) / lN 1000 = x := by
  have h2 : (lN 1000).toInt = 1000 := rfl
  have h1 : (x * lN 1000).toInt = x.toInt * 1000 := by
    rw [Int64.toInt_mul, h2]
    exact Int.bmod_eq_of_le (by omega) (by omega)
  refine Int64.toInt_inj.mp ?_
  rw [Int64.toInt_div_of_ne_right _ _ (by decide), h1, h2]
  exact Int.mul_tdiv_cancel _ (by decide)
theorem val_eq {ld : LD} {k i ty : Nat} (h : canS (dFm ld k i) ty) (h0 : ¬ dFm ld k i = 0) (h1 : 1 ≤ ty) (hb : dFm ld k i = 1 → (dNm ld k i).toInt.natAbs < 1000000) : (if ty = 4 then dWd ld k i else if ty = 1 then exD ld k i / lN 1000 else exD ld k i) = valS (dFm ld k i) (dNm ld k i) (dWd ld k i) ty := by
  unfold valS exD
  by_cases h4 : ty = 4
  · rw [if_pos h4, if_pos h4]
  · rw [if_neg h4, if_neg h4]
    rcases h with h | h | h | ⟨h, h2⟩
    · exact absurd h h0
    · by_cases e1 : ty = 1
      · rw [if_pos e1, if_pos (by omega), if_neg (by omega)]
        exact k1000 (hb (by omega))
      · rw [if_neg e1, if_neg (by omega), if_neg (by omega)]
    · exact absurd h h4
    · rw [if_neg (by omega), if_pos h, if_pos ⟨h, h2⟩]

set_option maxHeartbeats 4000000 in
set_option maxRecDepth 100000 in
/-- has -/
theorem c_X10_has (l : Launch) (D : va_G) (cy : Nat → ClassId) (mo : Nat) (mr : Nat → Nat) (cols : Nat) (lc : Nat) (smp : Nat) (mk : Nat) (rs : Nat) (nse : Nat) (npa : Nat) (nbo : Nat) (tn : Nat) (ik : Nat) (ky : Int32) (j0 : Int32) (j1 : Int32) (j2 : Int32) (j3 : Int32) (j4 : Int32) (fn : Nat → Nat) (k9 : Nat) (c9 : Nat) (hfn : ∀ q, fn q ≤ 61) (hk9 : k9 < 24) (hc9 : c9 < 1000) : xMet l D cy xT yX10_has wsX10_has ({ frames := 1, cells := 0, slots := 0, locals := 0 } : Room) [.ref mo, .int (nI k9), .int (nI c9)] [(mo, .inr (9, [.int (nI cols), .int (nI lc), .int (nI smp), .int (ky), .ref (mr 0), .ref (mr 1), .ref (mr 2), .ref (mr 3), .ref (mr 4), .ref (mr 5), .ref (mr 6), .ref (mr 7), .ref (mr 8), .ref (mr 9), .int (nI mk), .int (nI rs), .ref (mr 10), .ref (mr 11), .ref (mr 12), .ref (mr 13), .ref (mr 14), .ref (mr 15), .ref (mr 16), .ref (mr 17), .ref (mr 18), .ref (mr 19), .ref (mr 20), .int (nI nse), .int (nI npa), .int (nI nbo), .ref (mr 21), .int (nI tn), .ref (mr 22), .int (nI ik), .int (j0), .int (j1), .ref (mr 23), .int (j2), .ref (mr 24), .ref (mr 25), .int (j3), .ref (mr 26), .int (j4), .ref (mr 27), .ref (mr 28), .ref (mr 29), .ref (mr 30)])), (mr 6, .inl (cy 1, 24, .inl (fun k => nI (fn k))))] [] (fun (v9 : Option Value) (w9 : va_W) => (v9 = some (.int (nI 1)) ∧ w9 = [(mo, .inr (9, [.int (nI cols), .int (nI lc), .int (nI smp), .int (ky), .ref (mr 0), .ref (mr 1), .ref (mr 2), .ref (mr 3), .ref (mr 4), .ref (mr 5), .ref (mr 6), .ref (mr 7), .ref (mr 8), .ref (mr 9), .int (nI mk), .int (nI rs), .ref (mr 10), .ref (mr 11), .ref (mr 12), .ref (mr 13), .ref (mr 14), .ref (mr 15), .ref (mr 16), .ref (mr 17), .ref (mr 18), .ref (mr 19), .ref (mr 20), .int (nI nse), .int (nI npa), .int (nI nbo), .ref (mr 21), .int (nI tn), .ref (mr 22), .int (nI ik), .int (j0), .int (j1), .ref (mr 23), .int (j2), .ref (mr 24), .ref (mr 25), .int (j3), .ref (mr 26), .int (j4), .ref (mr 27), .ref (mr 28), .ref (mr 29), .ref (mr 30)])), (mr 6, .inl (cy 1, 24, .inl (fun k => nI (fn k))))] ∧ c9 < fn k9) ∨ (v9 = some (.int (nI 0)) ∧ w9 = [(mo, .inr (9, [.int (nI cols), .int (nI lc), .int (nI smp), .int (ky), .ref (mr 0), .ref (mr 1), .ref (mr 2), .ref (mr 3), .ref (mr 4), .ref (mr 5), .ref (mr 6), .ref (mr 7), .ref (mr 8), .ref (mr 9), .int (nI mk), .int (nI rs), .ref (mr 10), .ref (mr 11), .ref (mr 12), .ref (mr 13), .ref (mr 14), .ref (mr 15), .ref (mr 16), .ref (mr 17), .ref (mr 18), .ref (mr 19), .ref (mr 20), .int (nI nse), .int (nI npa), .int (nI nbo), .ref (mr 21), .int (nI tn), .ref (mr 22), .int (nI ik), .int (j0), .int (j1), .ref (mr 23), .int (j2), .ref (mr 24), .ref (mr 25), .int (j3), .ref (mr 26), .int (j4), .ref (mr 27), .ref (mr 28), .ref (mr 29), .ref (mr 30)])), (mr 6, .inl (cy 1, 24, .inl (fun k => nI (fn k))))] ∧ fn k9 ≤ c9)) := by
  refine xMet_of (cc := cX10_has) (maxL := 3) (ret := (some .boolean)) (by decide) rfl (Nat.le_of_ble_eq_true rfl) (fun p e s m args below meth c A R Q hA hR hQ C hr hnm hro hX => ?_)
  have hw0 : ∀ w ∈ u_ws RX10 TX10 47, w ∈ wsX10_has := by decide +kernel
  have hw1 : Cond.fieldLink RX10 37 (TX10 10).1 (TX10 10).2.1 (TX10 10).2.2.1 ∈ wsX10_has := by decide +kernel
  refine x_L (L' := [(0, .ref mo), (1, .int (nI k9)), (2, .int (nI c9))]) [0, 1, 2] rfl ?_
  refine x_aload_n C dX10_has_0 (q := 1) rfl rfl 0 rfl ?_
  refine x_get C (ci := 9) (v := .ref (mr 6)) hw0 0 rfl rfl 10 (by decide) hw1 rfl dX10_has_1 (q := 4) rfl ?_
  refine x_iload_n C dX10_has_4 (q := 5) rfl rfl 1 rfl ?_
  have hb1 := hfn k9
  refine x_iald C (j := k9) (v := nI (fn k9)) 1 rfl (nI_toInt (by omega)) (by omega) rfl dX10_has_5 (q := 6) rfl ?_
  refine x_iload_n C dX10_has_6 (q := 7) rfl rfl 2 rfl ?_
  refine x_icmp_le C (tgt := 14) dX10_has_7 (by decide) (q := 10) rfl (a := ((fn k9 : Nat) : Int)) (b := ((c9 : Nat) : Int)) (nI_toInt (by omega)) (nI_toInt (by omega)) (fun h2 => ?_) (fun h2 => ?_)
  · first
    | (exfalso; omega)
    |
      refine x_iconst C dX10_has_14 (q := 15) rfl (v := nI 0) (by decide) ?_
      refine x_zret C hA hQ hr (ty := .boolean) (by first | rfl | assumption | exact xz_nar _) dX10_has_15 (Nat.le_of_ble_eq_true rfl) ?_
      first | exact Or.inl ⟨rfl, rfl, by omega⟩ | exact Or.inr ⟨rfl, rfl, by omega⟩
  · first
    | (exfalso; omega)
    |
      refine x_iconst C dX10_has_10 (q := 11) rfl (v := nI 1) (by decide) ?_
      refine x_goto C (tgt := 15) dX10_has_11 (by decide) ?_
      refine x_zret C hA hQ hr (ty := .boolean) (by first | rfl | assumption | exact xz_nar _) dX10_has_15 (Nat.le_of_ble_eq_true rfl) ?_
      first | exact Or.inl ⟨rfl, rfl, by omega⟩ | exact Or.inr ⟨rfl, rfl, by omega⟩

set_option maxHeartbeats 4000000 in
set_option maxRecDepth 100000 in
/-- formOf -/
theorem c_X10_formOf (l : Launch) (D : va_G) (cy : Nat → ClassId) (mo : Nat) (mr : Nat → Nat) (cols : Nat) (lc : Nat) (smp : Nat) (mk : Nat) (rs : Nat) (nse : Nat) (npa : Nat) (nbo : Nat) (tn : Nat) (ik : Nat) (ky : Int32) (j0 : Int32) (j1 : Int32) (j2 : Int32) (j3 : Int32) (j4 : Int32) (fo : Nat → Nat) (k9 : Nat) (c9 : Nat) (hk9 : k9 < 24) (hc9 : c9 < 5) : xMet l D cy xT yX10_formOf wsX10_formOf ({ frames := 1, cells := 0, slots := 0, locals := 0 } : Room) [.ref mo, .int (nI k9), .int (nI c9)] [(mo, .inr (9, [.int (nI cols), .int (nI lc), .int (nI smp), .int (ky), .ref (mr 0), .ref (mr 1), .ref (mr 2), .ref (mr 3), .ref (mr 4), .ref (mr 5), .ref (mr 6), .ref (mr 7), .ref (mr 8), .ref (mr 9), .int (nI mk), .int (nI rs), .ref (mr 10), .ref (mr 11), .ref (mr 12), .ref (mr 13), .ref (mr 14), .ref (mr 15), .ref (mr 16), .ref (mr 17), .ref (mr 18), .ref (mr 19), .ref (mr 20), .int (nI nse), .int (nI npa), .int (nI nbo), .ref (mr 21), .int (nI tn), .ref (mr 22), .int (nI ik), .int (j0), .int (j1), .ref (mr 23), .int (j2), .ref (mr 24), .ref (mr 25), .int (j3), .ref (mr 26), .int (j4), .ref (mr 27), .ref (mr 28), .ref (mr 29), .ref (mr 30)])), (mr 7, .inl (cy 1, 120, .inl (fun k => nI (fo k))))] [] (fun (v9 : Option Value) (w9 : va_W) => (v9 = some (.int (nI (fo (5 * k9 + c9)))) ∧ w9 = [(mo, .inr (9, [.int (nI cols), .int (nI lc), .int (nI smp), .int (ky), .ref (mr 0), .ref (mr 1), .ref (mr 2), .ref (mr 3), .ref (mr 4), .ref (mr 5), .ref (mr 6), .ref (mr 7), .ref (mr 8), .ref (mr 9), .int (nI mk), .int (nI rs), .ref (mr 10), .ref (mr 11), .ref (mr 12), .ref (mr 13), .ref (mr 14), .ref (mr 15), .ref (mr 16), .ref (mr 17), .ref (mr 18), .ref (mr 19), .ref (mr 20), .int (nI nse), .int (nI npa), .int (nI nbo), .ref (mr 21), .int (nI tn), .ref (mr 22), .int (nI ik), .int (j0), .int (j1), .ref (mr 23), .int (j2), .ref (mr 24), .ref (mr 25), .int (j3), .ref (mr 26), .int (j4), .ref (mr 27), .ref (mr 28), .ref (mr 29), .ref (mr 30)])), (mr 7, .inl (cy 1, 120, .inl (fun k => nI (fo k))))])) := by
  refine xMet_of (cc := cX10_formOf) (maxL := 3) (ret := (some .int)) (by decide) rfl (Nat.le_of_ble_eq_true rfl) (fun p e s m args below meth c A R Q hA hR hQ C hr hnm hro hX => ?_)
  have hw0 : ∀ w ∈ u_ws RX10 TX10 47, w ∈ wsX10_formOf := by decide +kernel
  have hw1 : Cond.fieldLink RX10 40 (TX10 11).1 (TX10 11).2.1 (TX10 11).2.2.1 ∈ wsX10_formOf := by decide +kernel
  refine x_L (L' := [(0, .ref mo), (1, .int (nI k9)), (2, .int (nI c9))]) [0, 1, 2] rfl ?_
  refine x_aload_n C dX10_formOf_0 (q := 1) rfl rfl 0 rfl ?_
  refine x_get C (ci := 9) (v := .ref (mr 7)) hw0 0 rfl rfl 11 (by decide) hw1 rfl dX10_formOf_1 (q := 4) rfl ?_
  refine x_iconst C dX10_formOf_4 (q := 5) rfl (v := nI 5) (by decide) ?_
  refine x_iload_n C dX10_formOf_5 (q := 6) rfl rfl 1 rfl ?_
  refine x_imul C dX10_formOf_6 (q := 7) rfl (z := nI (5 * k9)) (pk_mul 5 k9) ?_
  refine x_iload_n C dX10_formOf_7 (q := 8) rfl rfl 2 rfl ?_
  refine x_iadd C dX10_formOf_8 (q := 9) rfl (z := nI (5 * k9 + c9)) (nI_add (5 * k9) c9) ?_
  refine x_iald C (j := 5 * k9 + c9) (v := nI (fo (5 * k9 + c9))) 1 rfl (nI_toInt (by omega)) (by omega) rfl dX10_formOf_9 (q := 10) rfl ?_
  refine x_iret C hA hQ hr dX10_formOf_10 (Nat.le_of_ble_eq_true rfl) ?_
  first | exact ⟨rfl, rfl⟩ | exact ⟨_, rfl, rfl, by first | rfl | omega | assumption⟩ | (refine ⟨_, rfl, rfl, ?_⟩; (first | rfl | omega | (simp only []; omega)))

set_option maxHeartbeats 4000000 in
set_option maxRecDepth 100000 in
/-- voters -/
theorem c_X10_voters (l : Launch) (D : va_G) (cy : Nat → ClassId) (mo : Nat) (mr : Nat → Nat) (cols : Nat) (lc : Nat) (smp : Nat) (mk : Nat) (rs : Nat) (nse : Nat) (npa : Nat) (nbo : Nat) (tn : Nat) (ik : Nat) (ky : Int32) (j0 : Int32) (j1 : Int32) (j2 : Int32) (j3 : Int32) (j4 : Int32) (fn : Nat → Nat) (fo : Nat → Nat) (ex : Nat → Int64) (wo : Nat → Int64) (ld : LD) (cq : Nat) (fq : Nat) (mo9 : Nat) (hml : MdL ld lc fn fo ex wo) (hfo4 : ∀ q, fo q ≤ 4) (hfn : ∀ q, fn q ≤ 61) (hlc : lc ≤ 24) (hcq : cq < 5) (hfq : fq < 1000) (hm9 : mo9 < 1000) : xMet l D cy xT yX10_voters wsX10_voters ({ frames := 2, cells := 0, slots := 0, locals := 300 } : Room) [.ref mo, .int (nI cq), .int (nI fq), .int (nI mo9)] [(mo, .inr (9, [.int (nI cols), .int (nI lc), .int (nI smp), .int (ky), .ref (mr 0), .ref (mr 1), .ref (mr 2), .ref (mr 3), .ref (mr 4), .ref (mr 5), .ref (mr 6), .ref (mr 7), .ref (mr 8), .ref (mr 9), .int (nI mk), .int (nI rs), .ref (mr 10), .ref (mr 11), .ref (mr 12), .ref (mr 13), .ref (mr 14), .ref (mr 15), .ref (mr 16), .ref (mr 17), .ref (mr 18), .ref (mr 19), .ref (mr 20), .int (nI nse), .int (nI npa), .int (nI nbo), .ref (mr 21), .int (nI tn), .ref (mr 22), .int (nI ik), .int (j0), .int (j1), .ref (mr 23), .int (j2), .ref (mr 24), .ref (mr 25), .int (j3), .ref (mr 26), .int (j4), .ref (mr 27), .ref (mr 28), .ref (mr 29), .ref (mr 30)])), (mr 6, .inl (cy 1, 24, .inl (fun k => nI (fn k)))), (mr 7, .inl (cy 1, 120, .inl (fun k => nI (fo k)))), (mr 8, .inl (cy 2, 120, .inr (.inl ex))), (mr 9, .inl (cy 2, 120, .inr (.inl wo)))] [] (fun (v9 : Option Value) (w9 : va_W) => (v9 = some (.int (nI (vts ld cq fq (min mo9 lc)))) ∧ w9 = [(mo, .inr (9, [.int (nI cols), .int (nI lc), .int (nI smp), .int (ky), .ref (mr 0), .ref (mr 1), .ref (mr 2), .ref (mr 3), .ref (mr 4), .ref (mr 5), .ref (mr 6), .ref (mr 7), .ref (mr 8), .ref (mr 9), .int (nI mk), .int (nI rs), .ref (mr 10), .ref (mr 11), .ref (mr 12), .ref (mr 13), .ref (mr 14), .ref (mr 15), .ref (mr 16), .ref (mr 17), .ref (mr 18), .ref (mr 19), .ref (mr 20), .int (nI nse), .int (nI npa), .int (nI nbo), .ref (mr 21), .int (nI tn), .ref (mr 22), .int (nI ik), .int (j0), .int (j1), .ref (mr 23), .int (j2), .ref (mr 24), .ref (mr 25), .int (j3), .ref (mr 26), .int (j4), .ref (mr 27), .ref (mr 28), .ref (mr 29), .ref (mr 30)])), (mr 6, .inl (cy 1, 24, .inl (fun k => nI (fn k)))), (mr 7, .inl (cy 1, 120, .inl (fun k => nI (fo k)))), (mr 8, .inl (cy 2, 120, .inr (.inl ex))), (mr 9, .inl (cy 2, 120, .inr (.inl wo)))])) := by
  refine xMet_of (cc := cX10_voters) (maxL := 6) (ret := (some .int)) (by decide) rfl (Nat.le_of_ble_eq_true rfl) (fun p e s m args below meth c A R Q hA hR hQ C hr hnm hro hX => ?_)
  have hw0 : ∀ w ∈ u_ws RX10 TX10 47, w ∈ wsX10_voters := by decide +kernel
  have hw1 : Cond.fieldLink RX10 125 (TX10 1).1 (TX10 1).2.1 (TX10 1).2.2.1 ∈ wsX10_voters := by decide +kernel
  refine x_L (L' := [(0, .ref mo), (1, .int (nI cq)), (2, .int (nI fq)), (3, .int (nI mo9))]) [0, 1, 2, 3] rfl ?_
  refine x_iconst C dX10_voters_0 (q := 1) rfl (v := nI 0) (by decide) ?_
  refine x_istore C (L' := [(4, .int (nI 0)), (0, .ref mo), (1, .int (nI cq)), (2, .int (nI fq)), (3, .int (nI mo9))]) dX10_voters_1 (q := 3) rfl (by decide) rfl ?_
  refine x_iconst C dX10_voters_3 (q := 4) rfl (v := nI 0) (by decide) ?_
  refine x_istore C (L' := [(5, .int (nI 0)), (4, .int (nI 0)), (0, .ref mo), (1, .int (nI cq)), (2, .int (nI fq)), (3, .int (nI mo9))]) dX10_voters_4 (q := 6) rfl (by decide) rfl ?_
  have cut6 : ∀ (fuel : Nat) (k : Nat) (cn : Nat), (k ≤ min mo9 lc) → (cn = vts ld cq fq k) → lc - k < fuel → xG p l e R s m args below meth c Q D A 6 [(mo, .inr (9, [.int (nI cols), .int (nI lc), .int (nI smp), .int (ky), .ref (mr 0), .ref (mr 1), .ref (mr 2), .ref (mr 3), .ref (mr 4), .ref (mr 5), .ref (mr 6), .ref (mr 7), .ref (mr 8), .ref (mr 9), .int (nI mk), .int (nI rs), .ref (mr 10), .ref (mr 11), .ref (mr 12), .ref (mr 13), .ref (mr 14), .ref (mr 15), .ref (mr 16), .ref (mr 17), .ref (mr 18), .ref (mr 19), .ref (mr 20), .int (nI nse), .int (nI npa), .int (nI nbo), .ref (mr 21), .int (nI tn), .ref (mr 22), .int (nI ik), .int (j0), .int (j1), .ref (mr 23), .int (j2), .ref (mr 24), .ref (mr 25), .int (j3), .ref (mr 26), .int (j4), .ref (mr 27), .ref (mr 28), .ref (mr 29), .ref (mr 30)])), (mr 6, .inl (cy 1, 24, .inl (fun k => nI (fn k)))), (mr 7, .inl (cy 1, 120, .inl (fun k => nI (fo k)))), (mr 8, .inl (cy 2, 120, .inr (.inl ex))), (mr 9, .inl (cy 2, 120, .inr (.inl wo)))] 0 0 6 [(0, .ref mo), (1, .int (nI cq)), (2, .int (nI fq)), (3, .int (nI mo9)), (4, .int (nI cn)), (5, .int (nI k))] [] := by
    intro fuel
    induction fuel with
    | zero =>
      intro k cn hk hcn hmu
      exact absurd hmu (Nat.not_lt_zero _)
    | succ fuel ih =>
      intro k cn hk hcn hmu
      have hv9 := vts_le ld cq fq k
      have ih6 := ih
      clear ih
      refine x_iload C dX10_voters_6 (q := 8) rfl 5 rfl ?_
      refine x_aload_n C dX10_voters_8 (q := 9) rfl rfl 0 rfl ?_
      refine x_get C (ci := 9) (v := .int (nI lc)) hw0 0 rfl rfl 1 (by decide) hw1 rfl dX10_voters_9 (q := 12) rfl ?_
      refine x_icmp_ge C (tgt := 58) dX10_voters_12 (by decide) (q := 15) rfl (a := ((k : Nat) : Int)) (b := ((lc : Nat) : Int)) (nI_toInt (by omega)) (nI_toInt (by omega)) (fun h1 => ?_) (fun h1 => ?_)
      · first
        | (exfalso; omega)
        |
          refine x_iload C dX10_voters_58 (q := 60) rfl 4 rfl ?_
          refine x_iret C hA hQ hr dX10_voters_60 (Nat.le_of_ble_eq_true rfl) ?_
          have e9 : k = min mo9 lc := by omega
          exact ⟨by rw [hcn, e9], rfl⟩
      · first
        | (exfalso; omega)
        |
          refine x_iload C dX10_voters_15 (q := 17) rfl 5 rfl ?_
          refine x_iload_n C dX10_voters_17 (q := 18) rfl rfl 3 rfl ?_
          refine x_icmp_ge C (tgt := 58) dX10_voters_18 (by decide) (q := 21) rfl (a := ((k : Nat) : Int)) (b := ((mo9 : Nat) : Int)) (nI_toInt (by omega)) (nI_toInt (by omega)) (fun h2 => ?_) (fun h2 => ?_)
          · first
            | (exfalso; omega)
            |
              refine x_iload C dX10_voters_58 (q := 60) rfl 4 rfl ?_
              refine x_iret C hA hQ hr dX10_voters_60 (Nat.le_of_ble_eq_true rfl) ?_
              have e9 : k = min mo9 lc := by omega
              exact ⟨by rw [hcn, e9], rfl⟩
          · first
            | (exfalso; omega)
            |
              have hmk := hml k (by omega)
              have hmf : cq < dNf ld k → fo (5 * k + cq) = dFm ld k cq := fun h => (hmk.2.2 cq hcq h).1
              have hm1 := hmk.1
              have hf49 := hfo4 (5 * k + cq)
              refine x_iload C dX10_voters_21 (q := 23) rfl 4 rfl ?_
              refine x_aload_n C dX10_voters_23 (q := 24) rfl rfl 0 rfl ?_
              refine x_iload C dX10_voters_24 (q := 26) rfl 5 rfl ?_
              refine x_iload_n C dX10_voters_26 (q := 27) rfl rfl 1 rfl ?_
              refine x_callV C (roW := []) (roR := []) (c_X10_has l D cy mo mr cols lc smp mk rs nse npa nbo tn ik ky j0 j1 j2 j3 j4 fn k cq (by assumption) (by first | assumption | omega | (simp only []; omega)) (by first | assumption | omega | (simp only []; omega))) (cwV 2 C.2.2.2.2.1 gX10_voters_X10_has rfl rfl rfl (by decide +kernel) (by rw [hR]; exact ⟨Nat.le_of_ble_eq_true rfl, Nat.le_of_ble_eq_true rfl⟩)) [0, 1] [] rfl (by decide) rfl (by decide) xro_nil (List.mem_of_getElem? (i := 0) rfl) (ci := 9) rfl xT_bl (fun _ _ _ _ _ _ _ => trivial) rfl rfl dX10_voters_27 rfl rfl (Nat.le_of_ble_eq_true rfl) (q := 30) rfl (k' := 0) rfl (n' := 0) rfl (by rw [hR]; exact ⟨Nat.le_of_ble_eq_true rfl, Nat.le_of_ble_eq_true rfl⟩) (fun v3 w3 hp3 => ?_)
              rcases hp3 with hp3 | hp3
              · skip
                obtain ⟨rfl, rfl, hc4⟩ := hp3
                refine x_ws (ws' := [(mo, .inr (9, [.int (nI cols), .int (nI lc), .int (nI smp), .int (ky), .ref (mr 0), .ref (mr 1), .ref (mr 2), .ref (mr 3), .ref (mr 4), .ref (mr 5), .ref (mr 6), .ref (mr 7), .ref (mr 8), .ref (mr 9), .int (nI mk), .int (nI rs), .ref (mr 10), .ref (mr 11), .ref (mr 12), .ref (mr 13), .ref (mr 14), .ref (mr 15), .ref (mr 16), .ref (mr 17), .ref (mr 18), .ref (mr 19), .ref (mr 20), .int (nI nse), .int (nI npa), .int (nI nbo), .ref (mr 21), .int (nI tn), .ref (mr 22), .int (nI ik), .int (j0), .int (j1), .ref (mr 23), .int (j2), .ref (mr 24), .ref (mr 25), .int (j3), .ref (mr 26), .int (j4), .ref (mr 27), .ref (mr 28), .ref (mr 29), .ref (mr 30)])), (mr 6, .inl (cy 1, 24, .inl (fun k => nI (fn k)))), (mr 7, .inl (cy 1, 120, .inl (fun k => nI (fo k)))), (mr 8, .inl (cy 2, 120, .inr (.inl ex))), (mr 9, .inl (cy 2, 120, .inr (.inl wo)))]) rfl ?_
                refine x_if_eq C (tgt := 48) dX10_voters_30 (by decide) (q := 33) rfl (a := 1) rfl (fun h5 => (by omega : False).elim) (fun h5 => ?_)
                refine x_aload_n C dX10_voters_33 (q := 34) rfl rfl 0 rfl ?_
                refine x_iload C dX10_voters_34 (q := 36) rfl 5 rfl ?_
                refine x_iload_n C dX10_voters_36 (q := 37) rfl rfl 1 rfl ?_
                refine x_callV C (roW := []) (roR := []) (c_X10_formOf l D cy mo mr cols lc smp mk rs nse npa nbo tn ik ky j0 j1 j2 j3 j4 fo k cq (by first | assumption | omega | (simp only []; omega)) (by first | assumption | omega | (simp only []; omega))) (cwV 2 C.2.2.2.2.1 gX10_voters_X10_formOf rfl rfl rfl (by decide +kernel) (by rw [hR]; exact ⟨Nat.le_of_ble_eq_true rfl, Nat.le_of_ble_eq_true rfl⟩)) [0, 2] [] rfl (by decide) rfl (by decide) xro_nil (List.mem_of_getElem? (i := 0) rfl) (ci := 9) rfl xT_bl (fun _ _ _ _ _ _ _ => trivial) rfl rfl dX10_voters_37 rfl rfl (Nat.le_of_ble_eq_true rfl) (q := 40) rfl (k' := 0) rfl (n' := 0) rfl (by rw [hR]; exact ⟨Nat.le_of_ble_eq_true rfl, Nat.le_of_ble_eq_true rfl⟩) (fun v6 w6 hp6 => ?_)
                obtain ⟨rfl, rfl⟩ := hp6
                refine x_ws (ws' := [(mo, .inr (9, [.int (nI cols), .int (nI lc), .int (nI smp), .int (ky), .ref (mr 0), .ref (mr 1), .ref (mr 2), .ref (mr 3), .ref (mr 4), .ref (mr 5), .ref (mr 6), .ref (mr 7), .ref (mr 8), .ref (mr 9), .int (nI mk), .int (nI rs), .ref (mr 10), .ref (mr 11), .ref (mr 12), .ref (mr 13), .ref (mr 14), .ref (mr 15), .ref (mr 16), .ref (mr 17), .ref (mr 18), .ref (mr 19), .ref (mr 20), .int (nI nse), .int (nI npa), .int (nI nbo), .ref (mr 21), .int (nI tn), .ref (mr 22), .int (nI ik), .int (j0), .int (j1), .ref (mr 23), .int (j2), .ref (mr 24), .ref (mr 25), .int (j3), .ref (mr 26), .int (j4), .ref (mr 27), .ref (mr 28), .ref (mr 29), .ref (mr 30)])), (mr 6, .inl (cy 1, 24, .inl (fun k => nI (fn k)))), (mr 7, .inl (cy 1, 120, .inl (fun k => nI (fo k)))), (mr 8, .inl (cy 2, 120, .inr (.inl ex))), (mr 9, .inl (cy 2, 120, .inr (.inl wo)))]) rfl ?_
                refine x_iload_n C dX10_voters_40 (q := 41) rfl rfl 2 rfl ?_
                refine x_icmp_ne C (tgt := 48) dX10_voters_41 (by decide) (q := 44) rfl (a := ((fo (5 * k + cq) : Nat) : Int)) (b := ((fq : Nat) : Int)) (nI_toInt (by omega)) (nI_toInt (by omega)) (fun h7 => ?_) (fun h7 => ?_)
                · first
                  | (exfalso; omega)
                  |
                    refine x_iconst C dX10_voters_48 (q := 49) rfl (v := nI 0) (by decide) ?_
                    refine x_iadd C dX10_voters_49 (q := 50) rfl (z := nI (cn + 0)) (nI_add cn 0) ?_
                    refine x_istore C (L' := [(4, .int (nI (cn + 0))), (0, .ref mo), (1, .int (nI cq)), (2, .int (nI fq)), (3, .int (nI mo9)), (5, .int (nI k))]) dX10_voters_50 (q := 52) rfl (by decide) rfl ?_
                    refine x_iinc C (L' := [(5, .int (nI (k + 1))), (4, .int (nI (cn + 0))), (0, .ref mo), (1, .int (nI cq)), (2, .int (nI fq)), (3, .int (nI mo9))]) dX10_voters_52 (q := 55) rfl 5 rfl (v := nI (k + 1)) (nI_add k 1) (by decide) rfl ?_
                    refine x_goto C (tgt := 6) dX10_voters_55 (by decide) ?_
                    refine x_L (L' := [(0, .ref mo), (1, .int (nI cq)), (2, .int (nI fq)), (3, .int (nI mo9)), (4, .int (nI (cn + 0))), (5, .int (nI (k + 1)))]) [2, 3, 4, 5, 1, 0] rfl ?_
                    exact ih6 (k + 1) (cn + 0) (by first | omega | assumption) (by first | (rw [vts_y ⟨by omega, by omega⟩]; omega) | (rw [vts_n (fun z => by have z1 := z.1; have z2 := z.2; omega)]; omega)) (by omega)
                · first
                  | (exfalso; omega)
                  |
                    refine x_iconst C dX10_voters_44 (q := 45) rfl (v := nI 1) (by decide) ?_
                    refine x_goto C (tgt := 49) dX10_voters_45 (by decide) ?_
                    refine x_iadd C dX10_voters_49 (q := 50) rfl (z := nI (cn + 1)) (nI_add cn 1) ?_
                    refine x_istore C (L' := [(4, .int (nI (cn + 1))), (0, .ref mo), (1, .int (nI cq)), (2, .int (nI fq)), (3, .int (nI mo9)), (5, .int (nI k))]) dX10_voters_50 (q := 52) rfl (by decide) rfl ?_
                    refine x_iinc C (L' := [(5, .int (nI (k + 1))), (4, .int (nI (cn + 1))), (0, .ref mo), (1, .int (nI cq)), (2, .int (nI fq)), (3, .int (nI mo9))]) dX10_voters_52 (q := 55) rfl 5 rfl (v := nI (k + 1)) (nI_add k 1) (by decide) rfl ?_
                    refine x_goto C (tgt := 6) dX10_voters_55 (by decide) ?_
                    refine x_L (L' := [(0, .ref mo), (1, .int (nI cq)), (2, .int (nI fq)), (3, .int (nI mo9)), (4, .int (nI (cn + 1))), (5, .int (nI (k + 1)))]) [2, 3, 4, 5, 1, 0] rfl ?_
                    exact ih6 (k + 1) (cn + 1) (by first | omega | assumption) (by first | (rw [vts_y ⟨by omega, by omega⟩]; omega) | (rw [vts_n (fun z => by have z1 := z.1; have z2 := z.2; omega)]; omega)) (by omega)
              · skip
                obtain ⟨rfl, rfl, hc8⟩ := hp3
                refine x_ws (ws' := [(mo, .inr (9, [.int (nI cols), .int (nI lc), .int (nI smp), .int (ky), .ref (mr 0), .ref (mr 1), .ref (mr 2), .ref (mr 3), .ref (mr 4), .ref (mr 5), .ref (mr 6), .ref (mr 7), .ref (mr 8), .ref (mr 9), .int (nI mk), .int (nI rs), .ref (mr 10), .ref (mr 11), .ref (mr 12), .ref (mr 13), .ref (mr 14), .ref (mr 15), .ref (mr 16), .ref (mr 17), .ref (mr 18), .ref (mr 19), .ref (mr 20), .int (nI nse), .int (nI npa), .int (nI nbo), .ref (mr 21), .int (nI tn), .ref (mr 22), .int (nI ik), .int (j0), .int (j1), .ref (mr 23), .int (j2), .ref (mr 24), .ref (mr 25), .int (j3), .ref (mr 26), .int (j4), .ref (mr 27), .ref (mr 28), .ref (mr 29), .ref (mr 30)])), (mr 6, .inl (cy 1, 24, .inl (fun k => nI (fn k)))), (mr 7, .inl (cy 1, 120, .inl (fun k => nI (fo k)))), (mr 8, .inl (cy 2, 120, .inr (.inl ex))), (mr 9, .inl (cy 2, 120, .inr (.inl wo)))]) rfl ?_
                refine x_if_eq C (tgt := 48) dX10_voters_30 (by decide) (q := 33) rfl (a := 0) rfl (fun h9 => ?_) (fun h9 => (by omega : False).elim)
                refine x_iconst C dX10_voters_48 (q := 49) rfl (v := nI 0) (by decide) ?_
                refine x_iadd C dX10_voters_49 (q := 50) rfl (z := nI (cn + 0)) (nI_add cn 0) ?_
                refine x_istore C (L' := [(4, .int (nI (cn + 0))), (0, .ref mo), (1, .int (nI cq)), (2, .int (nI fq)), (3, .int (nI mo9)), (5, .int (nI k))]) dX10_voters_50 (q := 52) rfl (by decide) rfl ?_
                refine x_iinc C (L' := [(5, .int (nI (k + 1))), (4, .int (nI (cn + 0))), (0, .ref mo), (1, .int (nI cq)), (2, .int (nI fq)), (3, .int (nI mo9))]) dX10_voters_52 (q := 55) rfl 5 rfl (v := nI (k + 1)) (nI_add k 1) (by decide) rfl ?_
                refine x_goto C (tgt := 6) dX10_voters_55 (by decide) ?_
                refine x_L (L' := [(0, .ref mo), (1, .int (nI cq)), (2, .int (nI fq)), (3, .int (nI mo9)), (4, .int (nI (cn + 0))), (5, .int (nI (k + 1)))]) [2, 3, 4, 5, 1, 0] rfl ?_
                exact ih6 (k + 1) (cn + 0) (by first | omega | assumption) (by first | (rw [vts_y ⟨by omega, by omega⟩]; omega) | (rw [vts_n (fun z => by have z1 := z.1; have z2 := z.2; omega)]; omega)) (by omega)
  refine x_L (L' := [(0, .ref mo), (1, .int (nI cq)), (2, .int (nI fq)), (3, .int (nI mo9)), (4, .int (nI 0)), (5, .int (nI 0))]) [2, 3, 4, 5, 1, 0] rfl ?_
  exact cut6 (lc - 0 + 1) 0 0 (by first | omega | assumption) (by rfl) (by omega)

set_option maxHeartbeats 4000000 in
set_option maxRecDepth 100000 in
/-- guess -/
theorem c_X10_guess (l : Launch) (D : va_G) (cy : Nat → ClassId) (mo : Nat) (mr : Nat → Nat) (cols : Nat) (lc : Nat) (smp : Nat) (mk : Nat) (rs : Nat) (nse : Nat) (npa : Nat) (nbo : Nat) (tn : Nat) (ik : Nat) (ky : Int32) (j0 : Int32) (j1 : Int32) (j2 : Int32) (j3 : Int32) (j4 : Int32) (fn : Nat → Nat) (fo : Nat → Nat) (ex : Nat → Int64) (wo : Nat → Int64) (ld : LD) (cq : Nat) (mo9 : Nat) (hml : MdL ld lc fn fo ex wo) (hfo4 : ∀ q, fo q ≤ 4) (hfn : ∀ q, fn q ≤ 61) (hlc : lc ≤ 24) (hcq : cq < 5) (hm9 : mo9 < 1000) : xMet l D cy xT yX10_guess wsX10_guess ({ frames := 3, cells := 0, slots := 0, locals := 500 } : Room) [.ref mo, .int (nI cq), .int (nI mo9)] [(mo, .inr (9, [.int (nI cols), .int (nI lc), .int (nI smp), .int (ky), .ref (mr 0), .ref (mr 1), .ref (mr 2), .ref (mr 3), .ref (mr 4), .ref (mr 5), .ref (mr 6), .ref (mr 7), .ref (mr 8), .ref (mr 9), .int (nI mk), .int (nI rs), .ref (mr 10), .ref (mr 11), .ref (mr 12), .ref (mr 13), .ref (mr 14), .ref (mr 15), .ref (mr 16), .ref (mr 17), .ref (mr 18), .ref (mr 19), .ref (mr 20), .int (nI nse), .int (nI npa), .int (nI nbo), .ref (mr 21), .int (nI tn), .ref (mr 22), .int (nI ik), .int (j0), .int (j1), .ref (mr 23), .int (j2), .ref (mr 24), .ref (mr 25), .int (j3), .ref (mr 26), .int (j4), .ref (mr 27), .ref (mr 28), .ref (mr 29), .ref (mr 30)])), (mr 6, .inl (cy 1, 24, .inl (fun k => nI (fn k)))), (mr 7, .inl (cy 1, 120, .inl (fun k => nI (fo k)))), (mr 8, .inl (cy 2, 120, .inr (.inl ex))), (mr 9, .inl (cy 2, 120, .inr (.inl wo)))] [] (fun (v9 : Option Value) (w9 : va_W) => (v9 = some (.int (nI (gsS (vtF ld cq (min mo9 lc))))) ∧ w9 = [(mo, .inr (9, [.int (nI cols), .int (nI lc), .int (nI smp), .int (ky), .ref (mr 0), .ref (mr 1), .ref (mr 2), .ref (mr 3), .ref (mr 4), .ref (mr 5), .ref (mr 6), .ref (mr 7), .ref (mr 8), .ref (mr 9), .int (nI mk), .int (nI rs), .ref (mr 10), .ref (mr 11), .ref (mr 12), .ref (mr 13), .ref (mr 14), .ref (mr 15), .ref (mr 16), .ref (mr 17), .ref (mr 18), .ref (mr 19), .ref (mr 20), .int (nI nse), .int (nI npa), .int (nI nbo), .ref (mr 21), .int (nI tn), .ref (mr 22), .int (nI ik), .int (j0), .int (j1), .ref (mr 23), .int (j2), .ref (mr 24), .ref (mr 25), .int (j3), .ref (mr 26), .int (j4), .ref (mr 27), .ref (mr 28), .ref (mr 29), .ref (mr 30)])), (mr 6, .inl (cy 1, 24, .inl (fun k => nI (fn k)))), (mr 7, .inl (cy 1, 120, .inl (fun k => nI (fo k)))), (mr 8, .inl (cy 2, 120, .inr (.inl ex))), (mr 9, .inl (cy 2, 120, .inr (.inl wo)))])) := by
  refine xMet_of (cc := cX10_guess) (maxL := 5) (ret := (some .int)) (by decide) rfl (Nat.le_of_ble_eq_true rfl) (fun p e s m args below meth c A R Q hA hR hQ C hr hnm hro hX => ?_)
  refine x_L (L' := [(0, .ref mo), (1, .int (nI cq)), (2, .int (nI mo9))]) [0, 1, 2] rfl ?_
  have hv1 := vts_le ld cq 1 (min mo9 lc)
  have hv2 := vts_le ld cq 2 (min mo9 lc)
  have hv3 := vts_le ld cq 3 (min mo9 lc)
  have hv4 := vts_le ld cq 4 (min mo9 lc)
  have hw1 : vtF ld cq (min mo9 lc) 1 = vts ld cq 1 (min mo9 lc) := rfl
  have hw2 : vtF ld cq (min mo9 lc) 2 = vts ld cq 2 (min mo9 lc) := rfl
  have hw3 : vtF ld cq (min mo9 lc) 3 = vts ld cq 3 (min mo9 lc) := rfl
  have hw4 : vtF ld cq (min mo9 lc) 4 = vts ld cq 4 (min mo9 lc) := rfl
  refine x_iconst C dX10_guess_0 (q := 1) rfl (v := nI 4) (by decide) ?_
  refine x_istore_n C (L' := [(3, .int (nI 4)), (0, .ref mo), (1, .int (nI cq)), (2, .int (nI mo9))]) dX10_guess_1 (q := 2) rfl rfl (by decide) rfl ?_
  refine x_iconst C dX10_guess_2 (q := 3) rfl (v := nI 3) (by decide) ?_
  refine x_istore C (L' := [(4, .int (nI 3)), (3, .int (nI 4)), (0, .ref mo), (1, .int (nI cq)), (2, .int (nI mo9))]) dX10_guess_3 (q := 5) rfl (by decide) rfl ?_
  refine x_iload C dX10_guess_5 (q := 7) rfl 0 rfl ?_
  refine x_if_le C (tgt := 41) dX10_guess_7 (by decide) (q := 10) rfl (a := 3) rfl (fun h1 => (by omega : False).elim) (fun h1 => ?_)
  refine x_aload_n C dX10_guess_10 (q := 11) rfl rfl 2 rfl ?_
  refine x_iload_n C dX10_guess_11 (q := 12) rfl rfl 3 rfl ?_
  refine x_iload C dX10_guess_12 (q := 14) rfl 0 rfl ?_
  refine x_iload_n C dX10_guess_14 (q := 15) rfl rfl 4 rfl ?_
  refine x_callV C (roW := []) (roR := []) (c_X10_voters l D cy mo mr cols lc smp mk rs nse npa nbo tn ik ky j0 j1 j2 j3 j4 fn fo ex wo ld cq 3 mo9 (by assumption) (by assumption) (by assumption) (by first | assumption | omega | (simp only []; omega)) (by first | assumption | omega | (simp only []; omega)) (by first | assumption | omega | (simp only []; omega)) (by first | assumption | omega | (simp only []; omega))) (cwV 3 C.2.2.2.2.1 gX10_guess_X10_voters rfl rfl rfl (by decide +kernel) (by rw [hR]; exact ⟨Nat.le_of_ble_eq_true rfl, Nat.le_of_ble_eq_true rfl⟩)) [0, 1, 2, 3, 4] [] rfl (by decide) rfl (by decide) xro_nil (List.mem_of_getElem? (i := 0) rfl) (ci := 9) rfl xT_bl (fun _ _ _ _ _ _ _ => trivial) rfl rfl dX10_guess_15 rfl rfl (Nat.le_of_ble_eq_true rfl) (q := 18) rfl (k' := 0) rfl (n' := 0) rfl (by rw [hR]; exact ⟨Nat.le_of_ble_eq_true rfl, Nat.le_of_ble_eq_true rfl⟩) (fun v2 w2 hp2 => ?_)
  obtain ⟨rfl, rfl⟩ := hp2
  refine x_ws (ws' := [(mo, .inr (9, [.int (nI cols), .int (nI lc), .int (nI smp), .int (ky), .ref (mr 0), .ref (mr 1), .ref (mr 2), .ref (mr 3), .ref (mr 4), .ref (mr 5), .ref (mr 6), .ref (mr 7), .ref (mr 8), .ref (mr 9), .int (nI mk), .int (nI rs), .ref (mr 10), .ref (mr 11), .ref (mr 12), .ref (mr 13), .ref (mr 14), .ref (mr 15), .ref (mr 16), .ref (mr 17), .ref (mr 18), .ref (mr 19), .ref (mr 20), .int (nI nse), .int (nI npa), .int (nI nbo), .ref (mr 21), .int (nI tn), .ref (mr 22), .int (nI ik), .int (j0), .int (j1), .ref (mr 23), .int (j2), .ref (mr 24), .ref (mr 25), .int (j3), .ref (mr 26), .int (j4), .ref (mr 27), .ref (mr 28), .ref (mr 29), .ref (mr 30)])), (mr 6, .inl (cy 1, 24, .inl (fun k => nI (fn k)))), (mr 7, .inl (cy 1, 120, .inl (fun k => nI (fo k)))), (mr 8, .inl (cy 2, 120, .inr (.inl ex))), (mr 9, .inl (cy 2, 120, .inr (.inl wo)))]) rfl ?_
  refine x_aload_n C dX10_guess_18 (q := 19) rfl rfl 2 rfl ?_
  refine x_iload_n C dX10_guess_19 (q := 20) rfl rfl 3 rfl ?_
  refine x_iload_n C dX10_guess_20 (q := 21) rfl rfl 1 rfl ?_
  refine x_iload_n C dX10_guess_21 (q := 22) rfl rfl 4 rfl ?_
  refine x_callV C (roW := []) (roR := []) (c_X10_voters l D cy mo mr cols lc smp mk rs nse npa nbo tn ik ky j0 j1 j2 j3 j4 fn fo ex wo ld cq 4 mo9 (by assumption) (by assumption) (by assumption) (by first | assumption | omega | (simp only []; omega)) (by first | assumption | omega | (simp only []; omega)) (by first | assumption | omega | (simp only []; omega)) (by first | assumption | omega | (simp only []; omega))) (cwV 3 C.2.2.2.2.1 gX10_guess_X10_voters rfl rfl rfl (by decide +kernel) (by rw [hR]; exact ⟨Nat.le_of_ble_eq_true rfl, Nat.le_of_ble_eq_true rfl⟩)) [0, 1, 2, 3, 4] [] rfl (by decide) rfl (by decide) xro_nil (List.mem_of_getElem? (i := 0) rfl) (ci := 9) rfl xT_bl (fun _ _ _ _ _ _ _ => trivial) rfl rfl dX10_guess_22 rfl rfl (Nat.le_of_ble_eq_true rfl) (q := 25) rfl (k' := 0) rfl (n' := 0) rfl (by rw [hR]; exact ⟨Nat.le_of_ble_eq_true rfl, Nat.le_of_ble_eq_true rfl⟩) (fun v3 w3 hp3 => ?_)
  obtain ⟨rfl, rfl⟩ := hp3
  refine x_ws (ws' := [(mo, .inr (9, [.int (nI cols), .int (nI lc), .int (nI smp), .int (ky), .ref (mr 0), .ref (mr 1), .ref (mr 2), .ref (mr 3), .ref (mr 4), .ref (mr 5), .ref (mr 6), .ref (mr 7), .ref (mr 8), .ref (mr 9), .int (nI mk), .int (nI rs), .ref (mr 10), .ref (mr 11), .ref (mr 12), .ref (mr 13), .ref (mr 14), .ref (mr 15), .ref (mr 16), .ref (mr 17), .ref (mr 18), .ref (mr 19), .ref (mr 20), .int (nI nse), .int (nI npa), .int (nI nbo), .ref (mr 21), .int (nI tn), .ref (mr 22), .int (nI ik), .int (j0), .int (j1), .ref (mr 23), .int (j2), .ref (mr 24), .ref (mr 25), .int (j3), .ref (mr 26), .int (j4), .ref (mr 27), .ref (mr 28), .ref (mr 29), .ref (mr 30)])), (mr 6, .inl (cy 1, 24, .inl (fun k => nI (fn k)))), (mr 7, .inl (cy 1, 120, .inl (fun k => nI (fo k)))), (mr 8, .inl (cy 2, 120, .inr (.inl ex))), (mr 9, .inl (cy 2, 120, .inr (.inl wo)))]) rfl ?_
  refine x_icmp_le C (tgt := 33) dX10_guess_25 (by decide) (q := 28) rfl (a := ((vts ld cq 3 (min mo9 lc) : Nat) : Int)) (b := ((vts ld cq 4 (min mo9 lc) : Nat) : Int)) (nI_toInt (by omega)) (nI_toInt (by omega)) (fun h4 => ?_) (fun h4 => ?_)
  · first
    | (exfalso; omega)
    |
      refine x_iload_n C dX10_guess_33 (q := 34) rfl rfl 1 rfl ?_
      refine x_istore_n C (L' := [(3, .int (nI 4)), (4, .int (nI 3)), (0, .ref mo), (1, .int (nI cq)), (2, .int (nI mo9))]) dX10_guess_34 (q := 35) rfl rfl (by decide) rfl ?_
      refine x_iinc C (L' := [(4, .int (nI 2)), (3, .int (nI 4)), (0, .ref mo), (1, .int (nI cq)), (2, .int (nI mo9))]) dX10_guess_35 (q := 38) rfl 1 rfl (v := nI 2) (by decide) (by decide) rfl ?_
      refine x_goto C (tgt := 5) dX10_guess_38 (by decide) ?_
      refine x_iload C dX10_guess_5 (q := 7) rfl 0 rfl ?_
      refine x_if_le C (tgt := 41) dX10_guess_7 (by decide) (q := 10) rfl (a := 2) rfl (fun h5 => (by omega : False).elim) (fun h5 => ?_)
      refine x_aload_n C dX10_guess_10 (q := 11) rfl rfl 2 rfl ?_
      refine x_iload_n C dX10_guess_11 (q := 12) rfl rfl 3 rfl ?_
      refine x_iload C dX10_guess_12 (q := 14) rfl 0 rfl ?_
      refine x_iload_n C dX10_guess_14 (q := 15) rfl rfl 4 rfl ?_
      refine x_callV C (roW := []) (roR := []) (c_X10_voters l D cy mo mr cols lc smp mk rs nse npa nbo tn ik ky j0 j1 j2 j3 j4 fn fo ex wo ld cq 2 mo9 (by assumption) (by assumption) (by assumption) (by first | assumption | omega | (simp only []; omega)) (by first | assumption | omega | (simp only []; omega)) (by first | assumption | omega | (simp only []; omega)) (by first | assumption | omega | (simp only []; omega))) (cwV 3 C.2.2.2.2.1 gX10_guess_X10_voters rfl rfl rfl (by decide +kernel) (by rw [hR]; exact ⟨Nat.le_of_ble_eq_true rfl, Nat.le_of_ble_eq_true rfl⟩)) [0, 1, 2, 3, 4] [] rfl (by decide) rfl (by decide) xro_nil (List.mem_of_getElem? (i := 0) rfl) (ci := 9) rfl xT_bl (fun _ _ _ _ _ _ _ => trivial) rfl rfl dX10_guess_15 rfl rfl (Nat.le_of_ble_eq_true rfl) (q := 18) rfl (k' := 0) rfl (n' := 0) rfl (by rw [hR]; exact ⟨Nat.le_of_ble_eq_true rfl, Nat.le_of_ble_eq_true rfl⟩) (fun v6 w6 hp6 => ?_)
      obtain ⟨rfl, rfl⟩ := hp6
      refine x_ws (ws' := [(mo, .inr (9, [.int (nI cols), .int (nI lc), .int (nI smp), .int (ky), .ref (mr 0), .ref (mr 1), .ref (mr 2), .ref (mr 3), .ref (mr 4), .ref (mr 5), .ref (mr 6), .ref (mr 7), .ref (mr 8), .ref (mr 9), .int (nI mk), .int (nI rs), .ref (mr 10), .ref (mr 11), .ref (mr 12), .ref (mr 13), .ref (mr 14), .ref (mr 15), .ref (mr 16), .ref (mr 17), .ref (mr 18), .ref (mr 19), .ref (mr 20), .int (nI nse), .int (nI npa), .int (nI nbo), .ref (mr 21), .int (nI tn), .ref (mr 22), .int (nI ik), .int (j0), .int (j1), .ref (mr 23), .int (j2), .ref (mr 24), .ref (mr 25), .int (j3), .ref (mr 26), .int (j4), .ref (mr 27), .ref (mr 28), .ref (mr 29), .ref (mr 30)])), (mr 6, .inl (cy 1, 24, .inl (fun k => nI (fn k)))), (mr 7, .inl (cy 1, 120, .inl (fun k => nI (fo k)))), (mr 8, .inl (cy 2, 120, .inr (.inl ex))), (mr 9, .inl (cy 2, 120, .inr (.inl wo)))]) rfl ?_
      refine x_aload_n C dX10_guess_18 (q := 19) rfl rfl 2 rfl ?_
      refine x_iload_n C dX10_guess_19 (q := 20) rfl rfl 3 rfl ?_
      refine x_iload_n C dX10_guess_20 (q := 21) rfl rfl 1 rfl ?_
      refine x_iload_n C dX10_guess_21 (q := 22) rfl rfl 4 rfl ?_
      refine x_callV C (roW := []) (roR := []) (c_X10_voters l D cy mo mr cols lc smp mk rs nse npa nbo tn ik ky j0 j1 j2 j3 j4 fn fo ex wo ld cq 4 mo9 (by assumption) (by assumption) (by assumption) (by first | assumption | omega | (simp only []; omega)) (by first | assumption | omega | (simp only []; omega)) (by first | assumption | omega | (simp only []; omega)) (by first | assumption | omega | (simp only []; omega))) (cwV 3 C.2.2.2.2.1 gX10_guess_X10_voters rfl rfl rfl (by decide +kernel) (by rw [hR]; exact ⟨Nat.le_of_ble_eq_true rfl, Nat.le_of_ble_eq_true rfl⟩)) [0, 1, 2, 3, 4] [] rfl (by decide) rfl (by decide) xro_nil (List.mem_of_getElem? (i := 0) rfl) (ci := 9) rfl xT_bl (fun _ _ _ _ _ _ _ => trivial) rfl rfl dX10_guess_22 rfl rfl (Nat.le_of_ble_eq_true rfl) (q := 25) rfl (k' := 0) rfl (n' := 0) rfl (by rw [hR]; exact ⟨Nat.le_of_ble_eq_true rfl, Nat.le_of_ble_eq_true rfl⟩) (fun v7 w7 hp7 => ?_)
      obtain ⟨rfl, rfl⟩ := hp7
      refine x_ws (ws' := [(mo, .inr (9, [.int (nI cols), .int (nI lc), .int (nI smp), .int (ky), .ref (mr 0), .ref (mr 1), .ref (mr 2), .ref (mr 3), .ref (mr 4), .ref (mr 5), .ref (mr 6), .ref (mr 7), .ref (mr 8), .ref (mr 9), .int (nI mk), .int (nI rs), .ref (mr 10), .ref (mr 11), .ref (mr 12), .ref (mr 13), .ref (mr 14), .ref (mr 15), .ref (mr 16), .ref (mr 17), .ref (mr 18), .ref (mr 19), .ref (mr 20), .int (nI nse), .int (nI npa), .int (nI nbo), .ref (mr 21), .int (nI tn), .ref (mr 22), .int (nI ik), .int (j0), .int (j1), .ref (mr 23), .int (j2), .ref (mr 24), .ref (mr 25), .int (j3), .ref (mr 26), .int (j4), .ref (mr 27), .ref (mr 28), .ref (mr 29), .ref (mr 30)])), (mr 6, .inl (cy 1, 24, .inl (fun k => nI (fn k)))), (mr 7, .inl (cy 1, 120, .inl (fun k => nI (fo k)))), (mr 8, .inl (cy 2, 120, .inr (.inl ex))), (mr 9, .inl (cy 2, 120, .inr (.inl wo)))]) rfl ?_
      refine x_icmp_le C (tgt := 33) dX10_guess_25 (by decide) (q := 28) rfl (a := ((vts ld cq 2 (min mo9 lc) : Nat) : Int)) (b := ((vts ld cq 4 (min mo9 lc) : Nat) : Int)) (nI_toInt (by omega)) (nI_toInt (by omega)) (fun h8 => ?_) (fun h8 => ?_)
      · first
        | (exfalso; omega)
        |
          refine x_iload_n C dX10_guess_33 (q := 34) rfl rfl 1 rfl ?_
          refine x_istore_n C (L' := [(3, .int (nI 4)), (4, .int (nI 2)), (0, .ref mo), (1, .int (nI cq)), (2, .int (nI mo9))]) dX10_guess_34 (q := 35) rfl rfl (by decide) rfl ?_
          refine x_iinc C (L' := [(4, .int (nI 1)), (3, .int (nI 4)), (0, .ref mo), (1, .int (nI cq)), (2, .int (nI mo9))]) dX10_guess_35 (q := 38) rfl 1 rfl (v := nI 1) (by decide) (by decide) rfl ?_
          refine x_goto C (tgt := 5) dX10_guess_38 (by decide) ?_
          refine x_iload C dX10_guess_5 (q := 7) rfl 0 rfl ?_
          refine x_if_le C (tgt := 41) dX10_guess_7 (by decide) (q := 10) rfl (a := 1) rfl (fun h9 => (by omega : False).elim) (fun h9 => ?_)
          refine x_aload_n C dX10_guess_10 (q := 11) rfl rfl 2 rfl ?_
          refine x_iload_n C dX10_guess_11 (q := 12) rfl rfl 3 rfl ?_
          refine x_iload C dX10_guess_12 (q := 14) rfl 0 rfl ?_
          refine x_iload_n C dX10_guess_14 (q := 15) rfl rfl 4 rfl ?_
          refine x_callV C (roW := []) (roR := []) (c_X10_voters l D cy mo mr cols lc smp mk rs nse npa nbo tn ik ky j0 j1 j2 j3 j4 fn fo ex wo ld cq 1 mo9 (by assumption) (by assumption) (by assumption) (by first | assumption | omega | (simp only []; omega)) (by first | assumption | omega | (simp only []; omega)) (by first | assumption | omega | (simp only []; omega)) (by first | assumption | omega | (simp only []; omega))) (cwV 3 C.2.2.2.2.1 gX10_guess_X10_voters rfl rfl rfl (by decide +kernel) (by rw [hR]; exact ⟨Nat.le_of_ble_eq_true rfl, Nat.le_of_ble_eq_true rfl⟩)) [0, 1, 2, 3, 4] [] rfl (by decide) rfl (by decide) xro_nil (List.mem_of_getElem? (i := 0) rfl) (ci := 9) rfl xT_bl (fun _ _ _ _ _ _ _ => trivial) rfl rfl dX10_guess_15 rfl rfl (Nat.le_of_ble_eq_true rfl) (q := 18) rfl (k' := 0) rfl (n' := 0) rfl (by rw [hR]; exact ⟨Nat.le_of_ble_eq_true rfl, Nat.le_of_ble_eq_true rfl⟩) (fun v10 w10 hp10 => ?_)
          obtain ⟨rfl, rfl⟩ := hp10
          refine x_ws (ws' := [(mo, .inr (9, [.int (nI cols), .int (nI lc), .int (nI smp), .int (ky), .ref (mr 0), .ref (mr 1), .ref (mr 2), .ref (mr 3), .ref (mr 4), .ref (mr 5), .ref (mr 6), .ref (mr 7), .ref (mr 8), .ref (mr 9), .int (nI mk), .int (nI rs), .ref (mr 10), .ref (mr 11), .ref (mr 12), .ref (mr 13), .ref (mr 14), .ref (mr 15), .ref (mr 16), .ref (mr 17), .ref (mr 18), .ref (mr 19), .ref (mr 20), .int (nI nse), .int (nI npa), .int (nI nbo), .ref (mr 21), .int (nI tn), .ref (mr 22), .int (nI ik), .int (j0), .int (j1), .ref (mr 23), .int (j2), .ref (mr 24), .ref (mr 25), .int (j3), .ref (mr 26), .int (j4), .ref (mr 27), .ref (mr 28), .ref (mr 29), .ref (mr 30)])), (mr 6, .inl (cy 1, 24, .inl (fun k => nI (fn k)))), (mr 7, .inl (cy 1, 120, .inl (fun k => nI (fo k)))), (mr 8, .inl (cy 2, 120, .inr (.inl ex))), (mr 9, .inl (cy 2, 120, .inr (.inl wo)))]) rfl ?_
          refine x_aload_n C dX10_guess_18 (q := 19) rfl rfl 2 rfl ?_
          refine x_iload_n C dX10_guess_19 (q := 20) rfl rfl 3 rfl ?_
          refine x_iload_n C dX10_guess_20 (q := 21) rfl rfl 1 rfl ?_
          refine x_iload_n C dX10_guess_21 (q := 22) rfl rfl 4 rfl ?_
          refine x_callV C (roW := []) (roR := []) (c_X10_voters l D cy mo mr cols lc smp mk rs nse npa nbo tn ik ky j0 j1 j2 j3 j4 fn fo ex wo ld cq 4 mo9 (by assumption) (by assumption) (by assumption) (by first | assumption | omega | (simp only []; omega)) (by first | assumption | omega | (simp only []; omega)) (by first | assumption | omega | (simp only []; omega)) (by first | assumption | omega | (simp only []; omega))) (cwV 3 C.2.2.2.2.1 gX10_guess_X10_voters rfl rfl rfl (by decide +kernel) (by rw [hR]; exact ⟨Nat.le_of_ble_eq_true rfl, Nat.le_of_ble_eq_true rfl⟩)) [0, 1, 2, 3, 4] [] rfl (by decide) rfl (by decide) xro_nil (List.mem_of_getElem? (i := 0) rfl) (ci := 9) rfl xT_bl (fun _ _ _ _ _ _ _ => trivial) rfl rfl dX10_guess_22 rfl rfl (Nat.le_of_ble_eq_true rfl) (q := 25) rfl (k' := 0) rfl (n' := 0) rfl (by rw [hR]; exact ⟨Nat.le_of_ble_eq_true rfl, Nat.le_of_ble_eq_true rfl⟩) (fun v11 w11 hp11 => ?_)
          obtain ⟨rfl, rfl⟩ := hp11
          refine x_ws (ws' := [(mo, .inr (9, [.int (nI cols), .int (nI lc), .int (nI smp), .int (ky), .ref (mr 0), .ref (mr 1), .ref (mr 2), .ref (mr 3), .ref (mr 4), .ref (mr 5), .ref (mr 6), .ref (mr 7), .ref (mr 8), .ref (mr 9), .int (nI mk), .int (nI rs), .ref (mr 10), .ref (mr 11), .ref (mr 12), .ref (mr 13), .ref (mr 14), .ref (mr 15), .ref (mr 16), .ref (mr 17), .ref (mr 18), .ref (mr 19), .ref (mr 20), .int (nI nse), .int (nI npa), .int (nI nbo), .ref (mr 21), .int (nI tn), .ref (mr 22), .int (nI ik), .int (j0), .int (j1), .ref (mr 23), .int (j2), .ref (mr 24), .ref (mr 25), .int (j3), .ref (mr 26), .int (j4), .ref (mr 27), .ref (mr 28), .ref (mr 29), .ref (mr 30)])), (mr 6, .inl (cy 1, 24, .inl (fun k => nI (fn k)))), (mr 7, .inl (cy 1, 120, .inl (fun k => nI (fo k)))), (mr 8, .inl (cy 2, 120, .inr (.inl ex))), (mr 9, .inl (cy 2, 120, .inr (.inl wo)))]) rfl ?_
          refine x_icmp_le C (tgt := 33) dX10_guess_25 (by decide) (q := 28) rfl (a := ((vts ld cq 1 (min mo9 lc) : Nat) : Int)) (b := ((vts ld cq 4 (min mo9 lc) : Nat) : Int)) (nI_toInt (by omega)) (nI_toInt (by omega)) (fun h12 => ?_) (fun h12 => ?_)
          · first
            | (exfalso; omega)
            |
              refine x_iload_n C dX10_guess_33 (q := 34) rfl rfl 1 rfl ?_
              refine x_istore_n C (L' := [(3, .int (nI 4)), (4, .int (nI 1)), (0, .ref mo), (1, .int (nI cq)), (2, .int (nI mo9))]) dX10_guess_34 (q := 35) rfl rfl (by decide) rfl ?_
              refine x_iinc C (L' := [(4, .int (nI 0)), (3, .int (nI 4)), (0, .ref mo), (1, .int (nI cq)), (2, .int (nI mo9))]) dX10_guess_35 (q := 38) rfl 1 rfl (v := nI 0) (by decide) (by decide) rfl ?_
              refine x_goto C (tgt := 5) dX10_guess_38 (by decide) ?_
              refine x_iload C dX10_guess_5 (q := 7) rfl 0 rfl ?_
              refine x_if_le C (tgt := 41) dX10_guess_7 (by decide) (q := 10) rfl (a := 0) rfl (fun h13 => ?_) (fun h13 => (by omega : False).elim)
              refine x_iload_n C dX10_guess_41 (q := 42) rfl rfl 1 rfl ?_
              refine x_iret C hA hQ hr dX10_guess_42 (Nat.le_of_ble_eq_true rfl) ?_
              refine ⟨?_, rfl⟩
              unfold gsS
              repeat (first | rw [if_pos (by omega)] | rw [if_neg (by omega)])
          · first
            | (exfalso; omega)
            |
              refine x_iload C dX10_guess_28 (q := 30) rfl 0 rfl ?_
              refine x_goto C (tgt := 34) dX10_guess_30 (by decide) ?_
              refine x_istore_n C (L' := [(3, .int (nI 1)), (4, .int (nI 1)), (0, .ref mo), (1, .int (nI cq)), (2, .int (nI mo9))]) dX10_guess_34 (q := 35) rfl rfl (by decide) rfl ?_
              refine x_iinc C (L' := [(4, .int (nI 0)), (3, .int (nI 1)), (0, .ref mo), (1, .int (nI cq)), (2, .int (nI mo9))]) dX10_guess_35 (q := 38) rfl 1 rfl (v := nI 0) (by decide) (by decide) rfl ?_
              refine x_goto C (tgt := 5) dX10_guess_38 (by decide) ?_
              refine x_iload C dX10_guess_5 (q := 7) rfl 0 rfl ?_
              refine x_if_le C (tgt := 41) dX10_guess_7 (by decide) (q := 10) rfl (a := 0) rfl (fun h14 => ?_) (fun h14 => (by omega : False).elim)
              refine x_iload_n C dX10_guess_41 (q := 42) rfl rfl 1 rfl ?_
              refine x_iret C hA hQ hr dX10_guess_42 (Nat.le_of_ble_eq_true rfl) ?_
              refine ⟨?_, rfl⟩
              unfold gsS
              repeat (first | rw [if_pos (by omega)] | rw [if_neg (by omega)])
      · first
        | (exfalso; omega)
        |
          refine x_iload C dX10_guess_28 (q := 30) rfl 0 rfl ?_
          refine x_goto C (tgt := 34) dX10_guess_30 (by decide) ?_
          refine x_istore_n C (L' := [(3, .int (nI 2)), (4, .int (nI 2)), (0, .ref mo), (1, .int (nI cq)), (2, .int (nI mo9))]) dX10_guess_34 (q := 35) rfl rfl (by decide) rfl ?_
          refine x_iinc C (L' := [(4, .int (nI 1)), (3, .int (nI 2)), (0, .ref mo), (1, .int (nI cq)), (2, .int (nI mo9))]) dX10_guess_35 (q := 38) rfl 1 rfl (v := nI 1) (by decide) (by decide) rfl ?_
          refine x_goto C (tgt := 5) dX10_guess_38 (by decide) ?_
          refine x_iload C dX10_guess_5 (q := 7) rfl 0 rfl ?_
          refine x_if_le C (tgt := 41) dX10_guess_7 (by decide) (q := 10) rfl (a := 1) rfl (fun h15 => (by omega : False).elim) (fun h15 => ?_)
          refine x_aload_n C dX10_guess_10 (q := 11) rfl rfl 2 rfl ?_
          refine x_iload_n C dX10_guess_11 (q := 12) rfl rfl 3 rfl ?_
          refine x_iload C dX10_guess_12 (q := 14) rfl 0 rfl ?_
          refine x_iload_n C dX10_guess_14 (q := 15) rfl rfl 4 rfl ?_
          refine x_callV C (roW := []) (roR := []) (c_X10_voters l D cy mo mr cols lc smp mk rs nse npa nbo tn ik ky j0 j1 j2 j3 j4 fn fo ex wo ld cq 1 mo9 (by assumption) (by assumption) (by assumption) (by first | assumption | omega | (simp only []; omega)) (by first | assumption | omega | (simp only []; omega)) (by first | assumption | omega | (simp only []; omega)) (by first | assumption | omega | (simp only []; omega))) (cwV 3 C.2.2.2.2.1 gX10_guess_X10_voters rfl rfl rfl (by decide +kernel) (by rw [hR]; exact ⟨Nat.le_of_ble_eq_true rfl, Nat.le_of_ble_eq_true rfl⟩)) [0, 1, 2, 3, 4] [] rfl (by decide) rfl (by decide) xro_nil (List.mem_of_getElem? (i := 0) rfl) (ci := 9) rfl xT_bl (fun _ _ _ _ _ _ _ => trivial) rfl rfl dX10_guess_15 rfl rfl (Nat.le_of_ble_eq_true rfl) (q := 18) rfl (k' := 0) rfl (n' := 0) rfl (by rw [hR]; exact ⟨Nat.le_of_ble_eq_true rfl, Nat.le_of_ble_eq_true rfl⟩) (fun v16 w16 hp16 => ?_)
          obtain ⟨rfl, rfl⟩ := hp16
          refine x_ws (ws' := [(mo, .inr (9, [.int (nI cols), .int (nI lc), .int (nI smp), .int (ky), .ref (mr 0), .ref (mr 1), .ref (mr 2), .ref (mr 3), .ref (mr 4), .ref (mr 5), .ref (mr 6), .ref (mr 7), .ref (mr 8), .ref (mr 9), .int (nI mk), .int (nI rs), .ref (mr 10), .ref (mr 11), .ref (mr 12), .ref (mr 13), .ref (mr 14), .ref (mr 15), .ref (mr 16), .ref (mr 17), .ref (mr 18), .ref (mr 19), .ref (mr 20), .int (nI nse), .int (nI npa), .int (nI nbo), .ref (mr 21), .int (nI tn), .ref (mr 22), .int (nI ik), .int (j0), .int (j1), .ref (mr 23), .int (j2), .ref (mr 24), .ref (mr 25), .int (j3), .ref (mr 26), .int (j4), .ref (mr 27), .ref (mr 28), .ref (mr 29), .ref (mr 30)])), (mr 6, .inl (cy 1, 24, .inl (fun k => nI (fn k)))), (mr 7, .inl (cy 1, 120, .inl (fun k => nI (fo k)))), (mr 8, .inl (cy 2, 120, .inr (.inl ex))), (mr 9, .inl (cy 2, 120, .inr (.inl wo)))]) rfl ?_
          refine x_aload_n C dX10_guess_18 (q := 19) rfl rfl 2 rfl ?_
          refine x_iload_n C dX10_guess_19 (q := 20) rfl rfl 3 rfl ?_
          refine x_iload_n C dX10_guess_20 (q := 21) rfl rfl 1 rfl ?_
          refine x_iload_n C dX10_guess_21 (q := 22) rfl rfl 4 rfl ?_
          refine x_callV C (roW := []) (roR := []) (c_X10_voters l D cy mo mr cols lc smp mk rs nse npa nbo tn ik ky j0 j1 j2 j3 j4 fn fo ex wo ld cq 2 mo9 (by assumption) (by assumption) (by assumption) (by first | assumption | omega | (simp only []; omega)) (by first | assumption | omega | (simp only []; omega)) (by first | assumption | omega | (simp only []; omega)) (by first | assumption | omega | (simp only []; omega))) (cwV 3 C.2.2.2.2.1 gX10_guess_X10_voters rfl rfl rfl (by decide +kernel) (by rw [hR]; exact ⟨Nat.le_of_ble_eq_true rfl, Nat.le_of_ble_eq_true rfl⟩)) [0, 1, 2, 3, 4] [] rfl (by decide) rfl (by decide) xro_nil (List.mem_of_getElem? (i := 0) rfl) (ci := 9) rfl xT_bl (fun _ _ _ _ _ _ _ => trivial) rfl rfl dX10_guess_22 rfl rfl (Nat.le_of_ble_eq_true rfl) (q := 25) rfl (k' := 0) rfl (n' := 0) rfl (by rw [hR]; exact ⟨Nat.le_of_ble_eq_true rfl, Nat.le_of_ble_eq_true rfl⟩) (fun v17 w17 hp17 => ?_)
          obtain ⟨rfl, rfl⟩ := hp17
          refine x_ws (ws' := [(mo, .inr (9, [.int (nI cols), .int (nI lc), .int (nI smp), .int (ky), .ref (mr 0), .ref (mr 1), .ref (mr 2), .ref (mr 3), .ref (mr 4), .ref (mr 5), .ref (mr 6), .ref (mr 7), .ref (mr 8), .ref (mr 9), .int (nI mk), .int (nI rs), .ref (mr 10), .ref (mr 11), .ref (mr 12), .ref (mr 13), .ref (mr 14), .ref (mr 15), .ref (mr 16), .ref (mr 17), .ref (mr 18), .ref (mr 19), .ref (mr 20), .int (nI nse), .int (nI npa), .int (nI nbo), .ref (mr 21), .int (nI tn), .ref (mr 22), .int (nI ik), .int (j0), .int (j1), .ref (mr 23), .int (j2), .ref (mr 24), .ref (mr 25), .int (j3), .ref (mr 26), .int (j4), .ref (mr 27), .ref (mr 28), .ref (mr 29), .ref (mr 30)])), (mr 6, .inl (cy 1, 24, .inl (fun k => nI (fn k)))), (mr 7, .inl (cy 1, 120, .inl (fun k => nI (fo k)))), (mr 8, .inl (cy 2, 120, .inr (.inl ex))), (mr 9, .inl (cy 2, 120, .inr (.inl wo)))]) rfl ?_
          refine x_icmp_le C (tgt := 33) dX10_guess_25 (by decide) (q := 28) rfl (a := ((vts ld cq 1 (min mo9 lc) : Nat) : Int)) (b := ((vts ld cq 2 (min mo9 lc) : Nat) : Int)) (nI_toInt (by omega)) (nI_toInt (by omega)) (fun h18 => ?_) (fun h18 => ?_)
          · first
            | (exfalso; omega)
            |
              refine x_iload_n C dX10_guess_33 (q := 34) rfl rfl 1 rfl ?_
              refine x_istore_n C (L' := [(3, .int (nI 2)), (4, .int (nI 1)), (0, .ref mo), (1, .int (nI cq)), (2, .int (nI mo9))]) dX10_guess_34 (q := 35) rfl rfl (by decide) rfl ?_
              refine x_iinc C (L' := [(4, .int (nI 0)), (3, .int (nI 2)), (0, .ref mo), (1, .int (nI cq)), (2, .int (nI mo9))]) dX10_guess_35 (q := 38) rfl 1 rfl (v := nI 0) (by decide) (by decide) rfl ?_
              refine x_goto C (tgt := 5) dX10_guess_38 (by decide) ?_
              refine x_iload C dX10_guess_5 (q := 7) rfl 0 rfl ?_
              refine x_if_le C (tgt := 41) dX10_guess_7 (by decide) (q := 10) rfl (a := 0) rfl (fun h19 => ?_) (fun h19 => (by omega : False).elim)
              refine x_iload_n C dX10_guess_41 (q := 42) rfl rfl 1 rfl ?_
              refine x_iret C hA hQ hr dX10_guess_42 (Nat.le_of_ble_eq_true rfl) ?_
              refine ⟨?_, rfl⟩
              unfold gsS
              repeat (first | rw [if_pos (by omega)] | rw [if_neg (by omega)])
          · first
            | (exfalso; omega)
            |
              refine x_iload C dX10_guess_28 (q := 30) rfl 0 rfl ?_
              refine x_goto C (tgt := 34) dX10_guess_30 (by decide) ?_
              refine x_istore_n C (L' := [(3, .int (nI 1)), (4, .int (nI 1)), (0, .ref mo), (1, .int (nI cq)), (2, .int (nI mo9))]) dX10_guess_34 (q := 35) rfl rfl (by decide) rfl ?_
              refine x_iinc C (L' := [(4, .int (nI 0)), (3, .int (nI 1)), (0, .ref mo), (1, .int (nI cq)), (2, .int (nI mo9))]) dX10_guess_35 (q := 38) rfl 1 rfl (v := nI 0) (by decide) (by decide) rfl ?_
              refine x_goto C (tgt := 5) dX10_guess_38 (by decide) ?_
              refine x_iload C dX10_guess_5 (q := 7) rfl 0 rfl ?_
              refine x_if_le C (tgt := 41) dX10_guess_7 (by decide) (q := 10) rfl (a := 0) rfl (fun h20 => ?_) (fun h20 => (by omega : False).elim)
              refine x_iload_n C dX10_guess_41 (q := 42) rfl rfl 1 rfl ?_
              refine x_iret C hA hQ hr dX10_guess_42 (Nat.le_of_ble_eq_true rfl) ?_
              refine ⟨?_, rfl⟩
              unfold gsS
              repeat (first | rw [if_pos (by omega)] | rw [if_neg (by omega)])
  · first
    | (exfalso; omega)
    |
      refine x_iload C dX10_guess_28 (q := 30) rfl 0 rfl ?_
      refine x_goto C (tgt := 34) dX10_guess_30 (by decide) ?_
      refine x_istore_n C (L' := [(3, .int (nI 3)), (4, .int (nI 3)), (0, .ref mo), (1, .int (nI cq)), (2, .int (nI mo9))]) dX10_guess_34 (q := 35) rfl rfl (by decide) rfl ?_
      refine x_iinc C (L' := [(4, .int (nI 2)), (3, .int (nI 3)), (0, .ref mo), (1, .int (nI cq)), (2, .int (nI mo9))]) dX10_guess_35 (q := 38) rfl 1 rfl (v := nI 2) (by decide) (by decide) rfl ?_
      refine x_goto C (tgt := 5) dX10_guess_38 (by decide) ?_
      refine x_iload C dX10_guess_5 (q := 7) rfl 0 rfl ?_
      refine x_if_le C (tgt := 41) dX10_guess_7 (by decide) (q := 10) rfl (a := 2) rfl (fun h21 => (by omega : False).elim) (fun h21 => ?_)
      refine x_aload_n C dX10_guess_10 (q := 11) rfl rfl 2 rfl ?_
      refine x_iload_n C dX10_guess_11 (q := 12) rfl rfl 3 rfl ?_
      refine x_iload C dX10_guess_12 (q := 14) rfl 0 rfl ?_
      refine x_iload_n C dX10_guess_14 (q := 15) rfl rfl 4 rfl ?_
      refine x_callV C (roW := []) (roR := []) (c_X10_voters l D cy mo mr cols lc smp mk rs nse npa nbo tn ik ky j0 j1 j2 j3 j4 fn fo ex wo ld cq 2 mo9 (by assumption) (by assumption) (by assumption) (by first | assumption | omega | (simp only []; omega)) (by first | assumption | omega | (simp only []; omega)) (by first | assumption | omega | (simp only []; omega)) (by first | assumption | omega | (simp only []; omega))) (cwV 3 C.2.2.2.2.1 gX10_guess_X10_voters rfl rfl rfl (by decide +kernel) (by rw [hR]; exact ⟨Nat.le_of_ble_eq_true rfl, Nat.le_of_ble_eq_true rfl⟩)) [0, 1, 2, 3, 4] [] rfl (by decide) rfl (by decide) xro_nil (List.mem_of_getElem? (i := 0) rfl) (ci := 9) rfl xT_bl (fun _ _ _ _ _ _ _ => trivial) rfl rfl dX10_guess_15 rfl rfl (Nat.le_of_ble_eq_true rfl) (q := 18) rfl (k' := 0) rfl (n' := 0) rfl (by rw [hR]; exact ⟨Nat.le_of_ble_eq_true rfl, Nat.le_of_ble_eq_true rfl⟩) (fun v22 w22 hp22 => ?_)
      obtain ⟨rfl, rfl⟩ := hp22
      refine x_ws (ws' := [(mo, .inr (9, [.int (nI cols), .int (nI lc), .int (nI smp), .int (ky), .ref (mr 0), .ref (mr 1), .ref (mr 2), .ref (mr 3), .ref (mr 4), .ref (mr 5), .ref (mr 6), .ref (mr 7), .ref (mr 8), .ref (mr 9), .int (nI mk), .int (nI rs), .ref (mr 10), .ref (mr 11), .ref (mr 12), .ref (mr 13), .ref (mr 14), .ref (mr 15), .ref (mr 16), .ref (mr 17), .ref (mr 18), .ref (mr 19), .ref (mr 20), .int (nI nse), .int (nI npa), .int (nI nbo), .ref (mr 21), .int (nI tn), .ref (mr 22), .int (nI ik), .int (j0), .int (j1), .ref (mr 23), .int (j2), .ref (mr 24), .ref (mr 25), .int (j3), .ref (mr 26), .int (j4), .ref (mr 27), .ref (mr 28), .ref (mr 29), .ref (mr 30)])), (mr 6, .inl (cy 1, 24, .inl (fun k => nI (fn k)))), (mr 7, .inl (cy 1, 120, .inl (fun k => nI (fo k)))), (mr 8, .inl (cy 2, 120, .inr (.inl ex))), (mr 9, .inl (cy 2, 120, .inr (.inl wo)))]) rfl ?_
      refine x_aload_n C dX10_guess_18 (q := 19) rfl rfl 2 rfl ?_
      refine x_iload_n C dX10_guess_19 (q := 20) rfl rfl 3 rfl ?_
      refine x_iload_n C dX10_guess_20 (q := 21) rfl rfl 1 rfl ?_
      refine x_iload_n C dX10_guess_21 (q := 22) rfl rfl 4 rfl ?_
      refine x_callV C (roW := []) (roR := []) (c_X10_voters l D cy mo mr cols lc smp mk rs nse npa nbo tn ik ky j0 j1 j2 j3 j4 fn fo ex wo ld cq 3 mo9 (by assumption) (by assumption) (by assumption) (by first | assumption | omega | (simp only []; omega)) (by first | assumption | omega | (simp only []; omega)) (by first | assumption | omega | (simp only []; omega)) (by first | assumption | omega | (simp only []; omega))) (cwV 3 C.2.2.2.2.1 gX10_guess_X10_voters rfl rfl rfl (by decide +kernel) (by rw [hR]; exact ⟨Nat.le_of_ble_eq_true rfl, Nat.le_of_ble_eq_true rfl⟩)) [0, 1, 2, 3, 4] [] rfl (by decide) rfl (by decide) xro_nil (List.mem_of_getElem? (i := 0) rfl) (ci := 9) rfl xT_bl (fun _ _ _ _ _ _ _ => trivial) rfl rfl dX10_guess_22 rfl rfl (Nat.le_of_ble_eq_true rfl) (q := 25) rfl (k' := 0) rfl (n' := 0) rfl (by rw [hR]; exact ⟨Nat.le_of_ble_eq_true rfl, Nat.le_of_ble_eq_true rfl⟩) (fun v23 w23 hp23 => ?_)
      obtain ⟨rfl, rfl⟩ := hp23
      refine x_ws (ws' := [(mo, .inr (9, [.int (nI cols), .int (nI lc), .int (nI smp), .int (ky), .ref (mr 0), .ref (mr 1), .ref (mr 2), .ref (mr 3), .ref (mr 4), .ref (mr 5), .ref (mr 6), .ref (mr 7), .ref (mr 8), .ref (mr 9), .int (nI mk), .int (nI rs), .ref (mr 10), .ref (mr 11), .ref (mr 12), .ref (mr 13), .ref (mr 14), .ref (mr 15), .ref (mr 16), .ref (mr 17), .ref (mr 18), .ref (mr 19), .ref (mr 20), .int (nI nse), .int (nI npa), .int (nI nbo), .ref (mr 21), .int (nI tn), .ref (mr 22), .int (nI ik), .int (j0), .int (j1), .ref (mr 23), .int (j2), .ref (mr 24), .ref (mr 25), .int (j3), .ref (mr 26), .int (j4), .ref (mr 27), .ref (mr 28), .ref (mr 29), .ref (mr 30)])), (mr 6, .inl (cy 1, 24, .inl (fun k => nI (fn k)))), (mr 7, .inl (cy 1, 120, .inl (fun k => nI (fo k)))), (mr 8, .inl (cy 2, 120, .inr (.inl ex))), (mr 9, .inl (cy 2, 120, .inr (.inl wo)))]) rfl ?_
      refine x_icmp_le C (tgt := 33) dX10_guess_25 (by decide) (q := 28) rfl (a := ((vts ld cq 2 (min mo9 lc) : Nat) : Int)) (b := ((vts ld cq 3 (min mo9 lc) : Nat) : Int)) (nI_toInt (by omega)) (nI_toInt (by omega)) (fun h24 => ?_) (fun h24 => ?_)
      · first
        | (exfalso; omega)
        |
          refine x_iload_n C dX10_guess_33 (q := 34) rfl rfl 1 rfl ?_
          refine x_istore_n C (L' := [(3, .int (nI 3)), (4, .int (nI 2)), (0, .ref mo), (1, .int (nI cq)), (2, .int (nI mo9))]) dX10_guess_34 (q := 35) rfl rfl (by decide) rfl ?_
          refine x_iinc C (L' := [(4, .int (nI 1)), (3, .int (nI 3)), (0, .ref mo), (1, .int (nI cq)), (2, .int (nI mo9))]) dX10_guess_35 (q := 38) rfl 1 rfl (v := nI 1) (by decide) (by decide) rfl ?_
          refine x_goto C (tgt := 5) dX10_guess_38 (by decide) ?_
          refine x_iload C dX10_guess_5 (q := 7) rfl 0 rfl ?_
          refine x_if_le C (tgt := 41) dX10_guess_7 (by decide) (q := 10) rfl (a := 1) rfl (fun h25 => (by omega : False).elim) (fun h25 => ?_)
          refine x_aload_n C dX10_guess_10 (q := 11) rfl rfl 2 rfl ?_
          refine x_iload_n C dX10_guess_11 (q := 12) rfl rfl 3 rfl ?_
          refine x_iload C dX10_guess_12 (q := 14) rfl 0 rfl ?_
          refine x_iload_n C dX10_guess_14 (q := 15) rfl rfl 4 rfl ?_
          refine x_callV C (roW := []) (roR := []) (c_X10_voters l D cy mo mr cols lc smp mk rs nse npa nbo tn ik ky j0 j1 j2 j3 j4 fn fo ex wo ld cq 1 mo9 (by assumption) (by assumption) (by assumption) (by first | assumption | omega | (simp only []; omega)) (by first | assumption | omega | (simp only []; omega)) (by first | assumption | omega | (simp only []; omega)) (by first | assumption | omega | (simp only []; omega))) (cwV 3 C.2.2.2.2.1 gX10_guess_X10_voters rfl rfl rfl (by decide +kernel) (by rw [hR]; exact ⟨Nat.le_of_ble_eq_true rfl, Nat.le_of_ble_eq_true rfl⟩)) [0, 1, 2, 3, 4] [] rfl (by decide) rfl (by decide) xro_nil (List.mem_of_getElem? (i := 0) rfl) (ci := 9) rfl xT_bl (fun _ _ _ _ _ _ _ => trivial) rfl rfl dX10_guess_15 rfl rfl (Nat.le_of_ble_eq_true rfl) (q := 18) rfl (k' := 0) rfl (n' := 0) rfl (by rw [hR]; exact ⟨Nat.le_of_ble_eq_true rfl, Nat.le_of_ble_eq_true rfl⟩) (fun v26 w26 hp26 => ?_)
          obtain ⟨rfl, rfl⟩ := hp26
          refine x_ws (ws' := [(mo, .inr (9, [.int (nI cols), .int (nI lc), .int (nI smp), .int (ky), .ref (mr 0), .ref (mr 1), .ref (mr 2), .ref (mr 3), .ref (mr 4), .ref (mr 5), .ref (mr 6), .ref (mr 7), .ref (mr 8), .ref (mr 9), .int (nI mk), .int (nI rs), .ref (mr 10), .ref (mr 11), .ref (mr 12), .ref (mr 13), .ref (mr 14), .ref (mr 15), .ref (mr 16), .ref (mr 17), .ref (mr 18), .ref (mr 19), .ref (mr 20), .int (nI nse), .int (nI npa), .int (nI nbo), .ref (mr 21), .int (nI tn), .ref (mr 22), .int (nI ik), .int (j0), .int (j1), .ref (mr 23), .int (j2), .ref (mr 24), .ref (mr 25), .int (j3), .ref (mr 26), .int (j4), .ref (mr 27), .ref (mr 28), .ref (mr 29), .ref (mr 30)])), (mr 6, .inl (cy 1, 24, .inl (fun k => nI (fn k)))), (mr 7, .inl (cy 1, 120, .inl (fun k => nI (fo k)))), (mr 8, .inl (cy 2, 120, .inr (.inl ex))), (mr 9, .inl (cy 2, 120, .inr (.inl wo)))]) rfl ?_
          refine x_aload_n C dX10_guess_18 (q := 19) rfl rfl 2 rfl ?_
          refine x_iload_n C dX10_guess_19 (q := 20) rfl rfl 3 rfl ?_
          refine x_iload_n C dX10_guess_20 (q := 21) rfl rfl 1 rfl ?_
          refine x_iload_n C dX10_guess_21 (q := 22) rfl rfl 4 rfl ?_
          refine x_callV C (roW := []) (roR := []) (c_X10_voters l D cy mo mr cols lc smp mk rs nse npa nbo tn ik ky j0 j1 j2 j3 j4 fn fo ex wo ld cq 3 mo9 (by assumption) (by assumption) (by assumption) (by first | assumption | omega | (simp only []; omega)) (by first | assumption | omega | (simp only []; omega)) (by first | assumption | omega | (simp only []; omega)) (by first | assumption | omega | (simp only []; omega))) (cwV 3 C.2.2.2.2.1 gX10_guess_X10_voters rfl rfl rfl (by decide +kernel) (by rw [hR]; exact ⟨Nat.le_of_ble_eq_true rfl, Nat.le_of_ble_eq_true rfl⟩)) [0, 1, 2, 3, 4] [] rfl (by decide) rfl (by decide) xro_nil (List.mem_of_getElem? (i := 0) rfl) (ci := 9) rfl xT_bl (fun _ _ _ _ _ _ _ => trivial) rfl rfl dX10_guess_22 rfl rfl (Nat.le_of_ble_eq_true rfl) (q := 25) rfl (k' := 0) rfl (n' := 0) rfl (by rw [hR]; exact ⟨Nat.le_of_ble_eq_true rfl, Nat.le_of_ble_eq_true rfl⟩) (fun v27 w27 hp27 => ?_)
          obtain ⟨rfl, rfl⟩ := hp27
          refine x_ws (ws' := [(mo, .inr (9, [.int (nI cols), .int (nI lc), .int (nI smp), .int (ky), .ref (mr 0), .ref (mr 1), .ref (mr 2), .ref (mr 3), .ref (mr 4), .ref (mr 5), .ref (mr 6), .ref (mr 7), .ref (mr 8), .ref (mr 9), .int (nI mk), .int (nI rs), .ref (mr 10), .ref (mr 11), .ref (mr 12), .ref (mr 13), .ref (mr 14), .ref (mr 15), .ref (mr 16), .ref (mr 17), .ref (mr 18), .ref (mr 19), .ref (mr 20), .int (nI nse), .int (nI npa), .int (nI nbo), .ref (mr 21), .int (nI tn), .ref (mr 22), .int (nI ik), .int (j0), .int (j1), .ref (mr 23), .int (j2), .ref (mr 24), .ref (mr 25), .int (j3), .ref (mr 26), .int (j4), .ref (mr 27), .ref (mr 28), .ref (mr 29), .ref (mr 30)])), (mr 6, .inl (cy 1, 24, .inl (fun k => nI (fn k)))), (mr 7, .inl (cy 1, 120, .inl (fun k => nI (fo k)))), (mr 8, .inl (cy 2, 120, .inr (.inl ex))), (mr 9, .inl (cy 2, 120, .inr (.inl wo)))]) rfl ?_
          refine x_icmp_le C (tgt := 33) dX10_guess_25 (by decide) (q := 28) rfl (a := ((vts ld cq 1 (min mo9 lc) : Nat) : Int)) (b := ((vts ld cq 3 (min mo9 lc) : Nat) : Int)) (nI_toInt (by omega)) (nI_toInt (by omega)) (fun h28 => ?_) (fun h28 => ?_)
          · first
            | (exfalso; omega)
            |
              refine x_iload_n C dX10_guess_33 (q := 34) rfl rfl 1 rfl ?_
              refine x_istore_n C (L' := [(3, .int (nI 3)), (4, .int (nI 1)), (0, .ref mo), (1, .int (nI cq)), (2, .int (nI mo9))]) dX10_guess_34 (q := 35) rfl rfl (by decide) rfl ?_
              refine x_iinc C (L' := [(4, .int (nI 0)), (3, .int (nI 3)), (0, .ref mo), (1, .int (nI cq)), (2, .int (nI mo9))]) dX10_guess_35 (q := 38) rfl 1 rfl (v := nI 0) (by decide) (by decide) rfl ?_
              refine x_goto C (tgt := 5) dX10_guess_38 (by decide) ?_
              refine x_iload C dX10_guess_5 (q := 7) rfl 0 rfl ?_
              refine x_if_le C (tgt := 41) dX10_guess_7 (by decide) (q := 10) rfl (a := 0) rfl (fun h29 => ?_) (fun h29 => (by omega : False).elim)
              refine x_iload_n C dX10_guess_41 (q := 42) rfl rfl 1 rfl ?_
              refine x_iret C hA hQ hr dX10_guess_42 (Nat.le_of_ble_eq_true rfl) ?_
              refine ⟨?_, rfl⟩
              unfold gsS
              repeat (first | rw [if_pos (by omega)] | rw [if_neg (by omega)])
          · first
            | (exfalso; omega)
            |
              refine x_iload C dX10_guess_28 (q := 30) rfl 0 rfl ?_
              refine x_goto C (tgt := 34) dX10_guess_30 (by decide) ?_
              refine x_istore_n C (L' := [(3, .int (nI 1)), (4, .int (nI 1)), (0, .ref mo), (1, .int (nI cq)), (2, .int (nI mo9))]) dX10_guess_34 (q := 35) rfl rfl (by decide) rfl ?_
              refine x_iinc C (L' := [(4, .int (nI 0)), (3, .int (nI 1)), (0, .ref mo), (1, .int (nI cq)), (2, .int (nI mo9))]) dX10_guess_35 (q := 38) rfl 1 rfl (v := nI 0) (by decide) (by decide) rfl ?_
              refine x_goto C (tgt := 5) dX10_guess_38 (by decide) ?_
              refine x_iload C dX10_guess_5 (q := 7) rfl 0 rfl ?_
              refine x_if_le C (tgt := 41) dX10_guess_7 (by decide) (q := 10) rfl (a := 0) rfl (fun h30 => ?_) (fun h30 => (by omega : False).elim)
              refine x_iload_n C dX10_guess_41 (q := 42) rfl rfl 1 rfl ?_
              refine x_iret C hA hQ hr dX10_guess_42 (Nat.le_of_ble_eq_true rfl) ?_
              refine ⟨?_, rfl⟩
              unfold gsS
              repeat (first | rw [if_pos (by omega)] | rw [if_neg (by omega)])
      · first
        | (exfalso; omega)
        |
          refine x_iload C dX10_guess_28 (q := 30) rfl 0 rfl ?_
          refine x_goto C (tgt := 34) dX10_guess_30 (by decide) ?_
          refine x_istore_n C (L' := [(3, .int (nI 2)), (4, .int (nI 2)), (0, .ref mo), (1, .int (nI cq)), (2, .int (nI mo9))]) dX10_guess_34 (q := 35) rfl rfl (by decide) rfl ?_
          refine x_iinc C (L' := [(4, .int (nI 1)), (3, .int (nI 2)), (0, .ref mo), (1, .int (nI cq)), (2, .int (nI mo9))]) dX10_guess_35 (q := 38) rfl 1 rfl (v := nI 1) (by decide) (by decide) rfl ?_
          refine x_goto C (tgt := 5) dX10_guess_38 (by decide) ?_
          refine x_iload C dX10_guess_5 (q := 7) rfl 0 rfl ?_
          refine x_if_le C (tgt := 41) dX10_guess_7 (by decide) (q := 10) rfl (a := 1) rfl (fun h31 => (by omega : False).elim) (fun h31 => ?_)
          refine x_aload_n C dX10_guess_10 (q := 11) rfl rfl 2 rfl ?_
          refine x_iload_n C dX10_guess_11 (q := 12) rfl rfl 3 rfl ?_
          refine x_iload C dX10_guess_12 (q := 14) rfl 0 rfl ?_
          refine x_iload_n C dX10_guess_14 (q := 15) rfl rfl 4 rfl ?_
          refine x_callV C (roW := []) (roR := []) (c_X10_voters l D cy mo mr cols lc smp mk rs nse npa nbo tn ik ky j0 j1 j2 j3 j4 fn fo ex wo ld cq 1 mo9 (by assumption) (by assumption) (by assumption) (by first | assumption | omega | (simp only []; omega)) (by first | assumption | omega | (simp only []; omega)) (by first | assumption | omega | (simp only []; omega)) (by first | assumption | omega | (simp only []; omega))) (cwV 3 C.2.2.2.2.1 gX10_guess_X10_voters rfl rfl rfl (by decide +kernel) (by rw [hR]; exact ⟨Nat.le_of_ble_eq_true rfl, Nat.le_of_ble_eq_true rfl⟩)) [0, 1, 2, 3, 4] [] rfl (by decide) rfl (by decide) xro_nil (List.mem_of_getElem? (i := 0) rfl) (ci := 9) rfl xT_bl (fun _ _ _ _ _ _ _ => trivial) rfl rfl dX10_guess_15 rfl rfl (Nat.le_of_ble_eq_true rfl) (q := 18) rfl (k' := 0) rfl (n' := 0) rfl (by rw [hR]; exact ⟨Nat.le_of_ble_eq_true rfl, Nat.le_of_ble_eq_true rfl⟩) (fun v32 w32 hp32 => ?_)
          obtain ⟨rfl, rfl⟩ := hp32
          refine x_ws (ws' := [(mo, .inr (9, [.int (nI cols), .int (nI lc), .int (nI smp), .int (ky), .ref (mr 0), .ref (mr 1), .ref (mr 2), .ref (mr 3), .ref (mr 4), .ref (mr 5), .ref (mr 6), .ref (mr 7), .ref (mr 8), .ref (mr 9), .int (nI mk), .int (nI rs), .ref (mr 10), .ref (mr 11), .ref (mr 12), .ref (mr 13), .ref (mr 14), .ref (mr 15), .ref (mr 16), .ref (mr 17), .ref (mr 18), .ref (mr 19), .ref (mr 20), .int (nI nse), .int (nI npa), .int (nI nbo), .ref (mr 21), .int (nI tn), .ref (mr 22), .int (nI ik), .int (j0), .int (j1), .ref (mr 23), .int (j2), .ref (mr 24), .ref (mr 25), .int (j3), .ref (mr 26), .int (j4), .ref (mr 27), .ref (mr 28), .ref (mr 29), .ref (mr 30)])), (mr 6, .inl (cy 1, 24, .inl (fun k => nI (fn k)))), (mr 7, .inl (cy 1, 120, .inl (fun k => nI (fo k)))), (mr 8, .inl (cy 2, 120, .inr (.inl ex))), (mr 9, .inl (cy 2, 120, .inr (.inl wo)))]) rfl ?_
          refine x_aload_n C dX10_guess_18 (q := 19) rfl rfl 2 rfl ?_
          refine x_iload_n C dX10_guess_19 (q := 20) rfl rfl 3 rfl ?_
          refine x_iload_n C dX10_guess_20 (q := 21) rfl rfl 1 rfl ?_
          refine x_iload_n C dX10_guess_21 (q := 22) rfl rfl 4 rfl ?_
          refine x_callV C (roW := []) (roR := []) (c_X10_voters l D cy mo mr cols lc smp mk rs nse npa nbo tn ik ky j0 j1 j2 j3 j4 fn fo ex wo ld cq 2 mo9 (by assumption) (by assumption) (by assumption) (by first | assumption | omega | (simp only []; omega)) (by first | assumption | omega | (simp only []; omega)) (by first | assumption | omega | (simp only []; omega)) (by first | assumption | omega | (simp only []; omega))) (cwV 3 C.2.2.2.2.1 gX10_guess_X10_voters rfl rfl rfl (by decide +kernel) (by rw [hR]; exact ⟨Nat.le_of_ble_eq_true rfl, Nat.le_of_ble_eq_true rfl⟩)) [0, 1, 2, 3, 4] [] rfl (by decide) rfl (by decide) xro_nil (List.mem_of_getElem? (i := 0) rfl) (ci := 9) rfl xT_bl (fun _ _ _ _ _ _ _ => trivial) rfl rfl dX10_guess_22 rfl rfl (Nat.le_of_ble_eq_true rfl) (q := 25) rfl (k' := 0) rfl (n' := 0) rfl (by rw [hR]; exact ⟨Nat.le_of_ble_eq_true rfl, Nat.le_of_ble_eq_true rfl⟩) (fun v33 w33 hp33 => ?_)
          obtain ⟨rfl, rfl⟩ := hp33
          refine x_ws (ws' := [(mo, .inr (9, [.int (nI cols), .int (nI lc), .int (nI smp), .int (ky), .ref (mr 0), .ref (mr 1), .ref (mr 2), .ref (mr 3), .ref (mr 4), .ref (mr 5), .ref (mr 6), .ref (mr 7), .ref (mr 8), .ref (mr 9), .int (nI mk), .int (nI rs), .ref (mr 10), .ref (mr 11), .ref (mr 12), .ref (mr 13), .ref (mr 14), .ref (mr 15), .ref (mr 16), .ref (mr 17), .ref (mr 18), .ref (mr 19), .ref (mr 20), .int (nI nse), .int (nI npa), .int (nI nbo), .ref (mr 21), .int (nI tn), .ref (mr 22), .int (nI ik), .int (j0), .int (j1), .ref (mr 23), .int (j2), .ref (mr 24), .ref (mr 25), .int (j3), .ref (mr 26), .int (j4), .ref (mr 27), .ref (mr 28), .ref (mr 29), .ref (mr 30)])), (mr 6, .inl (cy 1, 24, .inl (fun k => nI (fn k)))), (mr 7, .inl (cy 1, 120, .inl (fun k => nI (fo k)))), (mr 8, .inl (cy 2, 120, .inr (.inl ex))), (mr 9, .inl (cy 2, 120, .inr (.inl wo)))]) rfl ?_
          refine x_icmp_le C (tgt := 33) dX10_guess_25 (by decide) (q := 28) rfl (a := ((vts ld cq 1 (min mo9 lc) : Nat) : Int)) (b := ((vts ld cq 2 (min mo9 lc) : Nat) : Int)) (nI_toInt (by omega)) (nI_toInt (by omega)) (fun h34 => ?_) (fun h34 => ?_)
          · first
            | (exfalso; omega)
            |
              refine x_iload_n C dX10_guess_33 (q := 34) rfl rfl 1 rfl ?_
              refine x_istore_n C (L' := [(3, .int (nI 2)), (4, .int (nI 1)), (0, .ref mo), (1, .int (nI cq)), (2, .int (nI mo9))]) dX10_guess_34 (q := 35) rfl rfl (by decide) rfl ?_
              refine x_iinc C (L' := [(4, .int (nI 0)), (3, .int (nI 2)), (0, .ref mo), (1, .int (nI cq)), (2, .int (nI mo9))]) dX10_guess_35 (q := 38) rfl 1 rfl (v := nI 0) (by decide) (by decide) rfl ?_
              refine x_goto C (tgt := 5) dX10_guess_38 (by decide) ?_
              refine x_iload C dX10_guess_5 (q := 7) rfl 0 rfl ?_
              refine x_if_le C (tgt := 41) dX10_guess_7 (by decide) (q := 10) rfl (a := 0) rfl (fun h35 => ?_) (fun h35 => (by omega : False).elim)
              refine x_iload_n C dX10_guess_41 (q := 42) rfl rfl 1 rfl ?_
              refine x_iret C hA hQ hr dX10_guess_42 (Nat.le_of_ble_eq_true rfl) ?_
              refine ⟨?_, rfl⟩
              unfold gsS
              repeat (first | rw [if_pos (by omega)] | rw [if_neg (by omega)])
          · first
            | (exfalso; omega)
            |
              refine x_iload C dX10_guess_28 (q := 30) rfl 0 rfl ?_
              refine x_goto C (tgt := 34) dX10_guess_30 (by decide) ?_
              refine x_istore_n C (L' := [(3, .int (nI 1)), (4, .int (nI 1)), (0, .ref mo), (1, .int (nI cq)), (2, .int (nI mo9))]) dX10_guess_34 (q := 35) rfl rfl (by decide) rfl ?_
              refine x_iinc C (L' := [(4, .int (nI 0)), (3, .int (nI 1)), (0, .ref mo), (1, .int (nI cq)), (2, .int (nI mo9))]) dX10_guess_35 (q := 38) rfl 1 rfl (v := nI 0) (by decide) (by decide) rfl ?_
              refine x_goto C (tgt := 5) dX10_guess_38 (by decide) ?_
              refine x_iload C dX10_guess_5 (q := 7) rfl 0 rfl ?_
              refine x_if_le C (tgt := 41) dX10_guess_7 (by decide) (q := 10) rfl (a := 0) rfl (fun h36 => ?_) (fun h36 => (by omega : False).elim)
              refine x_iload_n C dX10_guess_41 (q := 42) rfl rfl 1 rfl ?_
              refine x_iret C hA hQ hr dX10_guess_42 (Nat.le_of_ble_eq_true rfl) ?_
              refine ⟨?_, rfl⟩
              unfold gsS
              repeat (first | rw [if_pos (by omega)] | rw [if_neg (by omega)])

set_option maxHeartbeats 4000000 in
set_option maxRecDepth 100000 in
/-- type -/
theorem c_X10_type (l : Launch) (D : va_G) (cy : Nat → ClassId) (mo : Nat) (mr : Nat → Nat) (cols : Nat) (lc : Nat) (smp : Nat) (mk : Nat) (rs : Nat) (nse : Nat) (npa : Nat) (nbo : Nat) (tn : Nat) (ik : Nat) (ky : Int32) (j0 : Int32) (j1 : Int32) (j2 : Int32) (j3 : Int32) (j4 : Int32) (fn : Nat → Nat) (fo : Nat → Nat) (ex : Nat → Int64) (wo : Nat → Int64) (tl9 : Nat → Nat) (st9 : Nat → Nat) (ld : LD) (cq : Nat) (hml : MdL ld lc fn fo ex wo) (hfo4 : ∀ q, fo q ≤ 4) (hfn : ∀ q, fn q ≤ 61) (hlc : lc ≤ 24) (hcq : cq < 5) (hsmp : smp ≤ 24) (htl9 : ∀ k, tl9 k ≤ 4) (hst9 : ∀ k, st9 k ≤ 4) : xMet l D cy xT yX10_type wsX10_type ({ frames := 4, cells := 0, slots := 0, locals := 600 } : Room) [.ref mo, .int (nI cq)] [(mo, .inr (9, [.int (nI cols), .int (nI lc), .int (nI smp), .int (ky), .ref (mr 0), .ref (mr 1), .ref (mr 2), .ref (mr 3), .ref (mr 4), .ref (mr 5), .ref (mr 6), .ref (mr 7), .ref (mr 8), .ref (mr 9), .int (nI mk), .int (nI rs), .ref (mr 10), .ref (mr 11), .ref (mr 12), .ref (mr 13), .ref (mr 14), .ref (mr 15), .ref (mr 16), .ref (mr 17), .ref (mr 18), .ref (mr 19), .ref (mr 20), .int (nI nse), .int (nI npa), .int (nI nbo), .ref (mr 21), .int (nI tn), .ref (mr 22), .int (nI ik), .int (j0), .int (j1), .ref (mr 23), .int (j2), .ref (mr 24), .ref (mr 25), .int (j3), .ref (mr 26), .int (j4), .ref (mr 27), .ref (mr 28), .ref (mr 29), .ref (mr 30)])), (mr 6, .inl (cy 1, 24, .inl (fun k => nI (fn k)))), (mr 7, .inl (cy 1, 120, .inl (fun k => nI (fo k)))), (mr 8, .inl (cy 2, 120, .inr (.inl ex))), (mr 9, .inl (cy 2, 120, .inr (.inl wo))), (mr 2, .inl (cy 1, 5, .inl (fun k => nI (tl9 k)))), (mr 3, .inl (cy 1, 5, .inl (fun k => nI (st9 k))))] [] (fun (v9 : Option Value) (w9 : va_W) => (v9 = some (.int (nI (tyS st9 tl9 ld cq (min smp lc)))) ∧ w9 = [(mo, .inr (9, [.int (nI cols), .int (nI lc), .int (nI smp), .int (ky), .ref (mr 0), .ref (mr 1), .ref (mr 2), .ref (mr 3), .ref (mr 4), .ref (mr 5), .ref (mr 6), .ref (mr 7), .ref (mr 8), .ref (mr 9), .int (nI mk), .int (nI rs), .ref (mr 10), .ref (mr 11), .ref (mr 12), .ref (mr 13), .ref (mr 14), .ref (mr 15), .ref (mr 16), .ref (mr 17), .ref (mr 18), .ref (mr 19), .ref (mr 20), .int (nI nse), .int (nI npa), .int (nI nbo), .ref (mr 21), .int (nI tn), .ref (mr 22), .int (nI ik), .int (j0), .int (j1), .ref (mr 23), .int (j2), .ref (mr 24), .ref (mr 25), .int (j3), .ref (mr 26), .int (j4), .ref (mr 27), .ref (mr 28), .ref (mr 29), .ref (mr 30)])), (mr 6, .inl (cy 1, 24, .inl (fun k => nI (fn k)))), (mr 7, .inl (cy 1, 120, .inl (fun k => nI (fo k)))), (mr 8, .inl (cy 2, 120, .inr (.inl ex))), (mr 9, .inl (cy 2, 120, .inr (.inl wo))), (mr 2, .inl (cy 1, 5, .inl (fun k => nI (tl9 k)))), (mr 3, .inl (cy 1, 5, .inl (fun k => nI (st9 k))))])) := by
  refine xMet_of (cc := cX10_type) (maxL := 2) (ret := (some .int)) (by decide) rfl (Nat.le_of_ble_eq_true rfl) (fun p e s m args below meth c A R Q hA hR hQ C hr hnm hro hX => ?_)
  have hw0 : ∀ w ∈ u_ws RX10 TX10 47, w ∈ wsX10_type := by decide +kernel
  have hw1 : Cond.fieldLink RX10 28 (TX10 7).1 (TX10 7).2.1 (TX10 7).2.2.1 ∈ wsX10_type := by decide +kernel
  have hw2 : Cond.fieldLink RX10 25 (TX10 6).1 (TX10 6).2.1 (TX10 6).2.2.1 ∈ wsX10_type := by decide +kernel
  have hw3 : Cond.fieldLink RX10 9 (TX10 2).1 (TX10 2).2.1 (TX10 2).2.2.1 ∈ wsX10_type := by decide +kernel
  refine x_L (L' := [(0, .ref mo), (1, .int (nI cq))]) [0, 1] rfl ?_
  refine x_aload_n C dX10_type_0 (q := 1) rfl rfl 0 rfl ?_
  refine x_get C (ci := 9) (v := .ref (mr 3)) hw0 0 rfl rfl 7 (by decide) hw1 rfl dX10_type_1 (q := 4) rfl ?_
  refine x_iload_n C dX10_type_4 (q := 5) rfl rfl 1 rfl ?_
  have hb1 := hst9 cq
  refine x_iald C (j := cq) (v := nI (st9 cq)) 6 rfl (nI_toInt (by omega)) (by omega) rfl dX10_type_5 (q := 6) rfl ?_
  refine x_if_eq C (tgt := 18) dX10_type_6 (by decide) (q := 9) rfl (a := ((st9 cq : Nat) : Int)) (nI_toInt (by omega)) (fun h2 => ?_) (fun h2 => ?_)
  · first
    | (exfalso; omega)
    |
      refine x_aload_n C dX10_type_18 (q := 19) rfl rfl 0 rfl ?_
      refine x_get C (ci := 9) (v := .ref (mr 2)) hw0 0 rfl rfl 6 (by decide) hw2 rfl dX10_type_19 (q := 22) rfl ?_
      refine x_iload_n C dX10_type_22 (q := 23) rfl rfl 1 rfl ?_
      have hb3 := htl9 cq
      refine x_iald C (j := cq) (v := nI (tl9 cq)) 5 rfl (nI_toInt (by omega)) (by omega) rfl dX10_type_23 (q := 24) rfl ?_
      refine x_if_eq C (tgt := 36) dX10_type_24 (by decide) (q := 27) rfl (a := ((tl9 cq : Nat) : Int)) (nI_toInt (by omega)) (fun h4 => ?_) (fun h4 => ?_)
      · first
        | (exfalso; omega)
        |
          refine x_aload_n C dX10_type_36 (q := 37) rfl rfl 0 rfl ?_
          refine x_iload_n C dX10_type_37 (q := 38) rfl rfl 1 rfl ?_
          refine x_aload_n C dX10_type_38 (q := 39) rfl rfl 0 rfl ?_
          refine x_get C (ci := 9) (v := .int (nI smp)) hw0 0 rfl rfl 2 (by decide) hw3 rfl dX10_type_39 (q := 42) rfl ?_
          refine x_callV C (roW := []) (roR := []) (c_X10_guess l D cy mo mr cols lc smp mk rs nse npa nbo tn ik ky j0 j1 j2 j3 j4 fn fo ex wo ld cq smp (by assumption) (by assumption) (by assumption) (by first | assumption | omega | (simp only []; omega)) (by first | assumption | omega | (simp only []; omega)) (by first | assumption | omega | (simp only []; omega))) (cwV 2 C.2.2.2.2.1 gX10_type_X10_guess rfl rfl rfl (by decide +kernel) (by rw [hR]; exact ⟨Nat.le_of_ble_eq_true rfl, Nat.le_of_ble_eq_true rfl⟩)) [0, 1, 2, 3, 4] [] rfl (by decide) rfl (by decide) xro_nil (List.mem_of_getElem? (i := 0) rfl) (ci := 9) rfl xT_bl (fun _ _ _ _ _ _ _ => trivial) rfl rfl dX10_type_42 rfl rfl (Nat.le_of_ble_eq_true rfl) (q := 45) rfl (k' := 0) rfl (n' := 0) rfl (by rw [hR]; exact ⟨Nat.le_of_ble_eq_true rfl, Nat.le_of_ble_eq_true rfl⟩) (fun v5 w5 hp5 => ?_)
          obtain ⟨rfl, rfl⟩ := hp5
          refine x_ws (ws' := [(mo, .inr (9, [.int (nI cols), .int (nI lc), .int (nI smp), .int (ky), .ref (mr 0), .ref (mr 1), .ref (mr 2), .ref (mr 3), .ref (mr 4), .ref (mr 5), .ref (mr 6), .ref (mr 7), .ref (mr 8), .ref (mr 9), .int (nI mk), .int (nI rs), .ref (mr 10), .ref (mr 11), .ref (mr 12), .ref (mr 13), .ref (mr 14), .ref (mr 15), .ref (mr 16), .ref (mr 17), .ref (mr 18), .ref (mr 19), .ref (mr 20), .int (nI nse), .int (nI npa), .int (nI nbo), .ref (mr 21), .int (nI tn), .ref (mr 22), .int (nI ik), .int (j0), .int (j1), .ref (mr 23), .int (j2), .ref (mr 24), .ref (mr 25), .int (j3), .ref (mr 26), .int (j4), .ref (mr 27), .ref (mr 28), .ref (mr 29), .ref (mr 30)])), (mr 6, .inl (cy 1, 24, .inl (fun k => nI (fn k)))), (mr 7, .inl (cy 1, 120, .inl (fun k => nI (fo k)))), (mr 8, .inl (cy 2, 120, .inr (.inl ex))), (mr 9, .inl (cy 2, 120, .inr (.inl wo))), (mr 2, .inl (cy 1, 5, .inl (fun k => nI (tl9 k)))), (mr 3, .inl (cy 1, 5, .inl (fun k => nI (st9 k))))]) rfl ?_
          refine x_iret C hA hQ hr dX10_type_45 (Nat.le_of_ble_eq_true rfl) ?_
          refine ⟨?_, rfl⟩
          unfold tyS tgS
          repeat (first | rw [if_pos (by omega)] | rw [if_neg (by omega)])
      · first
        | (exfalso; omega)
        |
          refine x_aload_n C dX10_type_27 (q := 28) rfl rfl 0 rfl ?_
          refine x_get C (ci := 9) (v := .ref (mr 2)) hw0 0 rfl rfl 6 (by decide) hw2 rfl dX10_type_28 (q := 31) rfl ?_
          refine x_iload_n C dX10_type_31 (q := 32) rfl rfl 1 rfl ?_
          have hb6 := htl9 cq
          refine x_iald C (j := cq) (v := nI (tl9 cq)) 5 rfl (nI_toInt (by omega)) (by omega) rfl dX10_type_32 (q := 33) rfl ?_
          refine x_goto C (tgt := 45) dX10_type_33 (by decide) ?_
          refine x_iret C hA hQ hr dX10_type_45 (Nat.le_of_ble_eq_true rfl) ?_
          refine ⟨?_, rfl⟩
          unfold tyS tgS
          repeat (first | rw [if_pos (by omega)] | rw [if_neg (by omega)])
  · first
    | (exfalso; omega)
    |
      refine x_aload_n C dX10_type_9 (q := 10) rfl rfl 0 rfl ?_
      refine x_get C (ci := 9) (v := .ref (mr 3)) hw0 0 rfl rfl 7 (by decide) hw1 rfl dX10_type_10 (q := 13) rfl ?_
      refine x_iload_n C dX10_type_13 (q := 14) rfl rfl 1 rfl ?_
      have hb7 := hst9 cq
      refine x_iald C (j := cq) (v := nI (st9 cq)) 6 rfl (nI_toInt (by omega)) (by omega) rfl dX10_type_14 (q := 15) rfl ?_
      refine x_goto C (tgt := 45) dX10_type_15 (by decide) ?_
      refine x_iret C hA hQ hr dX10_type_45 (Nat.le_of_ble_eq_true rfl) ?_
      refine ⟨?_, rfl⟩
      unfold tyS tgS
      repeat (first | rw [if_pos (by omega)] | rw [if_neg (by omega)])

set_option maxHeartbeats 4000000 in
set_option maxRecDepth 100000 in
/-- fitsType -/
theorem c_X10_fitsType (l : Launch) (D : va_G) (cy : Nat → ClassId) (fq : Nat) (ty : Nat) (hfq : fq ≤ 4) (hty : ty ≤ 4) : xMet l D cy xT yX10_fitsType wsX10_fitsType ({ frames := 1, cells := 0, slots := 0, locals := 0 } : Room) [.int (nI fq), .int (nI ty)] [] [] (fun (v9 : Option Value) (w9 : va_W) => (v9 = some (.int (nI 1)) ∧ w9 = [] ∧ canS fq ty) ∨ (v9 = some (.int (nI 0)) ∧ w9 = [] ∧ ¬ canS fq ty)) := by
  refine xMet_of (cc := cX10_fitsType) (maxL := 2) (ret := (some .boolean)) (by decide) rfl (Nat.le_of_ble_eq_true rfl) (fun p e s m args below meth c A R Q hA hR hQ C hr hnm hro hX => ?_)
  refine x_L (L' := [(0, .int (nI fq)), (1, .int (nI ty))]) [0, 1] rfl ?_
  refine x_iload_n C dX10_fitsType_0 (q := 1) rfl rfl 0 rfl ?_
  refine x_if_eq C (tgt := 24) dX10_fitsType_1 (by decide) (q := 4) rfl (a := ((fq : Nat) : Int)) (nI_toInt (by omega)) (fun h1 => ?_) (fun h1 => ?_)
  · first
    | (exfalso; omega)
    |
      refine x_iconst C dX10_fitsType_24 (q := 25) rfl (v := nI 1) (by decide) ?_
      refine x_goto C (tgt := 29) dX10_fitsType_25 (by decide) ?_
      refine x_zret C hA hQ hr (ty := .boolean) (by first | rfl | assumption | exact xz_nar _) dX10_fitsType_29 (Nat.le_of_ble_eq_true rfl) ?_
      first | exact Or.inl ⟨rfl, rfl, by unfold canS; omega⟩ | exact Or.inr ⟨rfl, rfl, by unfold canS; omega⟩
  · first
    | (exfalso; omega)
    |
      refine x_iload_n C dX10_fitsType_4 (q := 5) rfl rfl 0 rfl ?_
      refine x_iload_n C dX10_fitsType_5 (q := 6) rfl rfl 1 rfl ?_
      refine x_icmp_eq C (tgt := 24) dX10_fitsType_6 (by decide) (q := 9) rfl (a := ((fq : Nat) : Int)) (b := ((ty : Nat) : Int)) (nI_toInt (by omega)) (nI_toInt (by omega)) (fun h2 => ?_) (fun h2 => ?_)
      · first
        | (exfalso; omega)
        |
          refine x_iconst C dX10_fitsType_24 (q := 25) rfl (v := nI 1) (by decide) ?_
          refine x_goto C (tgt := 29) dX10_fitsType_25 (by decide) ?_
          refine x_zret C hA hQ hr (ty := .boolean) (by first | rfl | assumption | exact xz_nar _) dX10_fitsType_29 (Nat.le_of_ble_eq_true rfl) ?_
          first | exact Or.inl ⟨rfl, rfl, by unfold canS; omega⟩ | exact Or.inr ⟨rfl, rfl, by unfold canS; omega⟩
      · first
        | (exfalso; omega)
        |
          refine x_iload_n C dX10_fitsType_9 (q := 10) rfl rfl 1 rfl ?_
          refine x_iconst C dX10_fitsType_10 (q := 11) rfl (v := nI 4) (by decide) ?_
          refine x_icmp_eq C (tgt := 24) dX10_fitsType_11 (by decide) (q := 14) rfl (a := ((ty : Nat) : Int)) (b := 4) (nI_toInt (by omega)) rfl (fun h3 => ?_) (fun h3 => ?_)
          · first
            | (exfalso; omega)
            |
              refine x_iconst C dX10_fitsType_24 (q := 25) rfl (v := nI 1) (by decide) ?_
              refine x_goto C (tgt := 29) dX10_fitsType_25 (by decide) ?_
              refine x_zret C hA hQ hr (ty := .boolean) (by first | rfl | assumption | exact xz_nar _) dX10_fitsType_29 (Nat.le_of_ble_eq_true rfl) ?_
              first | exact Or.inl ⟨rfl, rfl, by unfold canS; omega⟩ | exact Or.inr ⟨rfl, rfl, by unfold canS; omega⟩
          · first
            | (exfalso; omega)
            |
              refine x_iload_n C dX10_fitsType_14 (q := 15) rfl rfl 0 rfl ?_
              refine x_iconst C dX10_fitsType_15 (q := 16) rfl (v := nI 1) (by decide) ?_
              refine x_icmp_ne C (tgt := 28) dX10_fitsType_16 (by decide) (q := 19) rfl (a := ((fq : Nat) : Int)) (b := 1) (nI_toInt (by omega)) rfl (fun h4 => ?_) (fun h4 => ?_)
              · first
                | (exfalso; omega)
                |
                  refine x_iconst C dX10_fitsType_28 (q := 29) rfl (v := nI 0) (by decide) ?_
                  refine x_zret C hA hQ hr (ty := .boolean) (by first | rfl | assumption | exact xz_nar _) dX10_fitsType_29 (Nat.le_of_ble_eq_true rfl) ?_
                  first | exact Or.inl ⟨rfl, rfl, by unfold canS; omega⟩ | exact Or.inr ⟨rfl, rfl, by unfold canS; omega⟩
              · first
                | (exfalso; omega)
                |
                  refine x_iload_n C dX10_fitsType_19 (q := 20) rfl rfl 1 rfl ?_
                  refine x_iconst C dX10_fitsType_20 (q := 21) rfl (v := nI 2) (by decide) ?_
                  refine x_icmp_ne C (tgt := 28) dX10_fitsType_21 (by decide) (q := 24) rfl (a := ((ty : Nat) : Int)) (b := 2) (nI_toInt (by omega)) rfl (fun h5 => ?_) (fun h5 => ?_)
                  · first
                    | (exfalso; omega)
                    |
                      refine x_iconst C dX10_fitsType_28 (q := 29) rfl (v := nI 0) (by decide) ?_
                      refine x_zret C hA hQ hr (ty := .boolean) (by first | rfl | assumption | exact xz_nar _) dX10_fitsType_29 (Nat.le_of_ble_eq_true rfl) ?_
                      first | exact Or.inl ⟨rfl, rfl, by unfold canS; omega⟩ | exact Or.inr ⟨rfl, rfl, by unfold canS; omega⟩
                  · first
                    | (exfalso; omega)
                    |
                      refine x_iconst C dX10_fitsType_24 (q := 25) rfl (v := nI 1) (by decide) ?_
                      refine x_goto C (tgt := 29) dX10_fitsType_25 (by decide) ?_
                      refine x_zret C hA hQ hr (ty := .boolean) (by first | rfl | assumption | exact xz_nar _) dX10_fitsType_29 (Nat.le_of_ble_eq_true rfl) ?_
                      first | exact Or.inl ⟨rfl, rfl, by unfold canS; omega⟩ | exact Or.inr ⟨rfl, rfl, by unfold canS; omega⟩

set_option maxHeartbeats 4000000 in
set_option maxRecDepth 100000 in
/-- valueOf -/
theorem c_X10_valueOf (l : Launch) (D : va_G) (cy : Nat → ClassId) (mo : Nat) (mr : Nat → Nat) (cols : Nat) (lc : Nat) (smp : Nat) (mk : Nat) (rs : Nat) (nse : Nat) (npa : Nat) (nbo : Nat) (tn : Nat) (ik : Nat) (ky : Int32) (j0 : Int32) (j1 : Int32) (j2 : Int32) (j3 : Int32) (j4 : Int32) (fn : Nat → Nat) (fo : Nat → Nat) (ex : Nat → Int64) (wo : Nat → Int64) (ld : LD) (k9 : Nat) (c9 : Nat) (ty : Nat) (hml : MdL ld lc fn fo ex wo) (hk9 : k9 < lc) (hlc : lc ≤ 24) (hc9 : c9 < 5) (hcd : c9 < dNf ld k9) (hty : 1 ≤ ty ∧ ty ≤ 4) (hcan : canS (dFm ld k9 c9) ty) (hne : ¬ dFm ld k9 c9 = 0) : xMet l D cy xT yX10_valueOf wsX10_valueOf ({ frames := 1, cells := 0, slots := 0, locals := 0 } : Room) [.ref mo, .int (nI k9), .int (nI c9), .int (nI ty)] [(mo, .inr (9, [.int (nI cols), .int (nI lc), .int (nI smp), .int (ky), .ref (mr 0), .ref (mr 1), .ref (mr 2), .ref (mr 3), .ref (mr 4), .ref (mr 5), .ref (mr 6), .ref (mr 7), .ref (mr 8), .ref (mr 9), .int (nI mk), .int (nI rs), .ref (mr 10), .ref (mr 11), .ref (mr 12), .ref (mr 13), .ref (mr 14), .ref (mr 15), .ref (mr 16), .ref (mr 17), .ref (mr 18), .ref (mr 19), .ref (mr 20), .int (nI nse), .int (nI npa), .int (nI nbo), .ref (mr 21), .int (nI tn), .ref (mr 22), .int (nI ik), .int (j0), .int (j1), .ref (mr 23), .int (j2), .ref (mr 24), .ref (mr 25), .int (j3), .ref (mr 26), .int (j4), .ref (mr 27), .ref (mr 28), .ref (mr 29), .ref (mr 30)])), (mr 8, .inl (cy 2, 120, .inr (.inl ex))), (mr 9, .inl (cy 2, 120, .inr (.inl wo)))] [] (fun (v9 : Option Value) (w9 : va_W) => (v9 = some (.long (valS (dFm ld k9 c9) (dNm ld k9 c9) (dWd ld k9 c9) ty)) ∧ w9 = [(mo, .inr (9, [.int (nI cols), .int (nI lc), .int (nI smp), .int (ky), .ref (mr 0), .ref (mr 1), .ref (mr 2), .ref (mr 3), .ref (mr 4), .ref (mr 5), .ref (mr 6), .ref (mr 7), .ref (mr 8), .ref (mr 9), .int (nI mk), .int (nI rs), .ref (mr 10), .ref (mr 11), .ref (mr 12), .ref (mr 13), .ref (mr 14), .ref (mr 15), .ref (mr 16), .ref (mr 17), .ref (mr 18), .ref (mr 19), .ref (mr 20), .int (nI nse), .int (nI npa), .int (nI nbo), .ref (mr 21), .int (nI tn), .ref (mr 22), .int (nI ik), .int (j0), .int (j1), .ref (mr 23), .int (j2), .ref (mr 24), .ref (mr 25), .int (j3), .ref (mr 26), .int (j4), .ref (mr 27), .ref (mr 28), .ref (mr 29), .ref (mr 30)])), (mr 8, .inl (cy 2, 120, .inr (.inl ex))), (mr 9, .inl (cy 2, 120, .inr (.inl wo)))])) := by
  refine xMet_of (cc := cX10_valueOf) (maxL := 4) (ret := (some .long)) (by decide) rfl (Nat.le_of_ble_eq_true rfl) (fun p e s m args below meth c A R Q hA hR hQ C hr hnm hro hX => ?_)
  have hw0 : ∀ w ∈ u_ws RX10 TX10 47, w ∈ wsX10_valueOf := by decide +kernel
  have hw1 : Cond.fieldLink RX10 43 (TX10 12).1 (TX10 12).2.1 (TX10 12).2.2.1 ∈ wsX10_valueOf := by decide +kernel
  have hw2 : Jvm.Cond.constantLong RX10 291 (1000) ∈ wsX10_valueOf := by decide +kernel
  have hw3 : Cond.fieldLink RX10 47 (TX10 13).1 (TX10 13).2.1 (TX10 13).2.2.1 ∈ wsX10_valueOf := by decide +kernel
  refine x_L (L' := [(0, .ref mo), (1, .int (nI k9)), (2, .int (nI c9)), (3, .int (nI ty))]) [0, 1, 2, 3] rfl ?_
  have hmk := (hml k9 hk9).2.2 c9 hc9 hcd
  refine x_iload_n C dX10_valueOf_0 (q := 1) rfl rfl 3 rfl ?_
  refine x_iconst C dX10_valueOf_1 (q := 2) rfl (v := nI 4) (by decide) ?_
  refine x_icmp_ne C (tgt := 16) dX10_valueOf_2 (by decide) (q := 5) rfl (a := ((ty : Nat) : Int)) (b := 4) (nI_toInt (by omega)) rfl (fun h1 => ?_) (fun h1 => ?_)
  · first
    | (exfalso; omega)
    |
      refine x_iload_n C dX10_valueOf_16 (q := 17) rfl rfl 3 rfl ?_
      refine x_iconst C dX10_valueOf_17 (q := 18) rfl (v := nI 1) (by decide) ?_
      refine x_icmp_ne C (tgt := 38) dX10_valueOf_18 (by decide) (q := 21) rfl (a := ((ty : Nat) : Int)) (b := 1) (nI_toInt (by omega)) rfl (fun h2 => ?_) (fun h2 => ?_)
      · first
        | (exfalso; omega)
        |
          refine x_aload_n C dX10_valueOf_38 (q := 39) rfl rfl 0 rfl ?_
          refine x_get C (ci := 9) (v := .ref (mr 8)) hw0 0 rfl rfl 12 (by decide) hw1 rfl dX10_valueOf_39 (q := 42) rfl ?_
          refine x_iconst C dX10_valueOf_42 (q := 43) rfl (v := nI 5) (by decide) ?_
          refine x_iload_n C dX10_valueOf_43 (q := 44) rfl rfl 1 rfl ?_
          refine x_imul C dX10_valueOf_44 (q := 45) rfl (z := nI (5 * k9)) (pk_mul 5 k9) ?_
          refine x_iload_n C dX10_valueOf_45 (q := 46) rfl rfl 2 rfl ?_
          refine x_iadd C dX10_valueOf_46 (q := 47) rfl (z := nI (5 * k9 + c9)) (nI_add (5 * k9) c9) ?_
          refine x_lald C (j := 5 * k9 + c9) (v := ex (5 * k9 + c9)) 1 rfl (nI_toInt (by omega)) (by omega) rfl dX10_valueOf_47 (q := 48) rfl ?_
          refine x_lret C hA hQ hr dX10_valueOf_48 (Nat.le_of_ble_eq_true rfl) ?_
          refine ⟨?_, rfl⟩
          rw [← val_eq hcan hne (by omega) hmk.2.2.2]
          first | (rw [if_pos (by omega), hmk.2.2.1]) | (rw [if_neg (by omega), if_pos (by omega), hmk.2.1]) | (rw [if_neg (by omega), if_neg (by omega), hmk.2.1])
      · first
        | (exfalso; omega)
        |
          refine x_aload_n C dX10_valueOf_21 (q := 22) rfl rfl 0 rfl ?_
          refine x_get C (ci := 9) (v := .ref (mr 8)) hw0 0 rfl rfl 12 (by decide) hw1 rfl dX10_valueOf_22 (q := 25) rfl ?_
          refine x_iconst C dX10_valueOf_25 (q := 26) rfl (v := nI 5) (by decide) ?_
          refine x_iload_n C dX10_valueOf_26 (q := 27) rfl rfl 1 rfl ?_
          refine x_imul C dX10_valueOf_27 (q := 28) rfl (z := nI (5 * k9)) (pk_mul 5 k9) ?_
          refine x_iload_n C dX10_valueOf_28 (q := 29) rfl rfl 2 rfl ?_
          refine x_iadd C dX10_valueOf_29 (q := 30) rfl (z := nI (5 * k9 + c9)) (nI_add (5 * k9) c9) ?_
          refine x_lald C (j := 5 * k9 + c9) (v := ex (5 * k9 + c9)) 1 rfl (nI_toInt (by omega)) (by omega) rfl dX10_valueOf_30 (q := 31) rfl ?_
          refine x_ldc2 C (v := lN 1000) hw2 dX10_valueOf_31 (q := 34) rfl ?_
          refine x_ldiv C dX10_valueOf_34 (q := 35) rfl (xl_ne0 (b := 1000) rfl (by omega)) (z := (ex (5 * k9 + c9)) / (lN 1000)) (rfl) ?_
          refine x_goto C (tgt := 48) dX10_valueOf_35 (by decide) ?_
          refine x_lret C hA hQ hr dX10_valueOf_48 (Nat.le_of_ble_eq_true rfl) ?_
          refine ⟨?_, rfl⟩
          rw [← val_eq hcan hne (by omega) hmk.2.2.2]
          first | (rw [if_pos (by omega), hmk.2.2.1]) | (rw [if_neg (by omega), if_pos (by omega), hmk.2.1]) | (rw [if_neg (by omega), if_neg (by omega), hmk.2.1])
  · first
    | (exfalso; omega)
    |
      refine x_aload_n C dX10_valueOf_5 (q := 6) rfl rfl 0 rfl ?_
      refine x_get C (ci := 9) (v := .ref (mr 9)) hw0 0 rfl rfl 13 (by decide) hw3 rfl dX10_valueOf_6 (q := 9) rfl ?_
      refine x_iconst C dX10_valueOf_9 (q := 10) rfl (v := nI 5) (by decide) ?_
      refine x_iload_n C dX10_valueOf_10 (q := 11) rfl rfl 1 rfl ?_
      refine x_imul C dX10_valueOf_11 (q := 12) rfl (z := nI (5 * k9)) (pk_mul 5 k9) ?_
      refine x_iload_n C dX10_valueOf_12 (q := 13) rfl rfl 2 rfl ?_
      refine x_iadd C dX10_valueOf_13 (q := 14) rfl (z := nI (5 * k9 + c9)) (nI_add (5 * k9) c9) ?_
      refine x_lald C (j := 5 * k9 + c9) (v := wo (5 * k9 + c9)) 2 rfl (nI_toInt (by omega)) (by omega) rfl dX10_valueOf_14 (q := 15) rfl ?_
      refine x_lret C hA hQ hr dX10_valueOf_15 (Nat.le_of_ble_eq_true rfl) ?_
      refine ⟨?_, rfl⟩
      rw [← val_eq hcan hne (by omega) hmk.2.2.2]
      first | (rw [if_pos (by omega), hmk.2.2.1]) | (rw [if_neg (by omega), if_pos (by omega), hmk.2.1]) | (rw [if_neg (by omega), if_neg (by omega), hmk.2.1])
