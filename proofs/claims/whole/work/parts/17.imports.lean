
/-! IMPORTING a line: its fault -/
/-- how many columns from the first on the line's fields fit -/
def ufS (ld : LD) (st : Nat → Nat) (cols k : Nat) : Nat := runLen (fun c => decide (canS (dFm ld k c) (st c))) cols (cols - 0) 0
theorem ufS_le (ld : LD) (st : Nat → Nat) (cols k : Nat) : ufS ld st cols k ≤ cols := by
  have := runLen_le (fun c => decide (canS (dFm ld k c) (st c))) cols (cols - 0) 0
  unfold ufS
  omega
abbrev dvS (ld : LD) (st : Nat → Nat) (q k : Nat) : Int64 := valS (dFm ld k q) (dNm ld k q) (dWd ld k q) (st q)
def dpB (ld : LD) (st lr : Nat → Nat) (q k r : Nat) : Bool := decide (¬ dFm ld (lr r) q = 0) && decide (dvS ld st q (lr r) = dvS ld st q k)
theorem dpB_t {ld : LD} {st lr : Nat → Nat} {q k r : Nat} : dpB ld st lr q k r = true ↔ ¬ dFm ld (lr r) q = 0 ∧ dvS ld st q (lr r) = dvS ld st q k := by simp [dpB]
/-- the first row that has the key's value; the rows' number: none has -/
def dpS (ld : LD) (st lr : Nat → Nat) (q k rs : Nat) : Nat := runLen (fun r => !dpB ld st lr q k r) rs (rs - 0) 0
theorem dpS_le (ld : LD) (st lr : Nat → Nat) (q k rs : Nat) : dpS ld st lr q k rs ≤ rs := by
  have := runLen_le (fun r => !dpB ld st lr q k r) rs (rs - 0) 0
  unfold dpS
  omega
def ftS (ld : LD) (cols : Nat) (st lr : Nat → Nat) (rs : Nat) (ky : Int) (k : Nat) : Int32 × Int32 × Int32 :=
  if dNf ld k < cols then (nI 1, -5, -5)
  else if cols < dNf ld k then (nI 2, -5, -5)
  else if ufS ld st cols k < cols then (nI 3, nI (10 + ufS ld st cols k), nI (20 + dFm ld k (ufS ld st cols k)))
  else if ky < 0 ∨ (cols : Int) ≤ ky then (-5, -5, -5)
  else if dFm ld k ky.toNat = 0 then (nI 4, -5, -5)
  else if dpS ld st lr ky.toNat k rs < rs then (nI 5, nI (30 + lr (dpS ld st lr ky.toNat k rs)), -5)
  else (-5, -5, -5)

set_option maxHeartbeats 4000000 in
set_option maxRecDepth 100000 in
/-- Table.passUnfit -/
theorem c_X7_passUnfit (l : Launch) (D : va_G) (cy : Nat → ClassId) (tb : Nat) (nz : Nat) (tl : Nat) (pg : Nat) (se : Nat) (pa : Nat) (bo : Nat) (li : Nat) (ba : Nat) (cols : Nat) (lc : Nat) (smp : Nat) (lnf : Nat → Option Nat) (io : Nat) (a0 : Nat) (a1 : Nat) (a2 : Nat) (a3 : Nat) (a4 : Nat) (a5 : Nat) (st : Nat → Nat) (fa : Nat → Int32) (ca : Nat → Int32) (dc : Nat → Int32) (rl : Nat → Int32) (lr : Nat → Nat) (mk : Nat) (rs : Nat) (ky : Int32) (ld : LD) (pl : va_W) (kq : Nat) (ln : Nat) (hcols : cols ≤ 5) (hlc : lc ≤ 24) (hTL : TbL cy pl lc lnf ld) (hfm : ∀ k i, dFm ld k i ≤ 4) (hkq : kq < lc) (hka : lnf kq = some ln) (hnf : dNf ld kq = cols) (hmk : mk < 24) (hrs : rs ≤ mk) (hst : ∀ k, st k ≤ 4) : xMet l D cy xT yX7_passUnfit wsX7_passUnfit ({ frames := 3, cells := 0, slots := 0, locals := 300 } : Room) [.ref tb, .ref ln, .ref io] [(tb, .inr (6, [.ref nz, .ref tl, .ref pg, .ref se, .ref pa, .ref bo, .ref li, .ref ba, .int (nI cols), .int (nI lc), .int (nI smp)])), (io, .inr (4, [.ref a0, .ref a1, .ref a2, .ref a3, .ref a4, .ref a5, .int (nI mk), .int (nI rs), .int (ky)])), (a0, .inl (cy 1, 5, .inl (fun k => nI (st k)))), (a1, .inl (cy 1, 24, .inl fa)), (a2, .inl (cy 1, 24, .inl ca)), (a3, .inl (cy 1, 24, .inl dc)), (a4, .inl (cy 1, 24, .inl rl)), (a5, .inl (cy 1, 24, .inl (fun k => nI (lr k))))] pl (fun (v9 : Option Value) (w9 : va_W) => (v9 = some (.int (nI 1)) ∧ w9 = [(tb, .inr (6, [.ref nz, .ref tl, .ref pg, .ref se, .ref pa, .ref bo, .ref li, .ref ba, .int (nI cols), .int (nI lc), .int (nI smp)])), (io, .inr (4, [.ref a0, .ref a1, .ref a2, .ref a3, .ref a4, .ref a5, .int (nI (mk + 1)), .int (nI rs), .int (ky)])), (a0, .inl (cy 1, 5, .inl (fun k => nI (st k)))), (a1, .inl (cy 1, 24, .inl (va_up fa mk (nI 3)))), (a2, .inl (cy 1, 24, .inl (va_up ca mk (nI (10 + ufS ld st cols kq))))), (a3, .inl (cy 1, 24, .inl (va_up dc mk (nI (20 + dFm ld kq (ufS ld st cols kq)))))), (a4, .inl (cy 1, 24, .inl (va_up rl mk (-5)))), (a5, .inl (cy 1, 24, .inl (fun k => nI (lr k))))] ∧ ufS ld st cols kq < cols) ∨ (v9 = some (.int (nI 0)) ∧ w9 = [(tb, .inr (6, [.ref nz, .ref tl, .ref pg, .ref se, .ref pa, .ref bo, .ref li, .ref ba, .int (nI cols), .int (nI lc), .int (nI smp)])), (io, .inr (4, [.ref a0, .ref a1, .ref a2, .ref a3, .ref a4, .ref a5, .int (nI mk), .int (nI rs), .int (ky)])), (a0, .inl (cy 1, 5, .inl (fun k => nI (st k)))), (a1, .inl (cy 1, 24, .inl fa)), (a2, .inl (cy 1, 24, .inl ca)), (a3, .inl (cy 1, 24, .inl dc)), (a4, .inl (cy 1, 24, .inl rl)), (a5, .inl (cy 1, 24, .inl (fun k => nI (lr k))))] ∧ ufS ld st cols kq = cols)) := by
  refine xMet_of (cc := cX7_passUnfit) (maxL := 5) (ret := (some .boolean)) (by decide) rfl (Nat.le_of_ble_eq_true rfl) (fun p e s m args below meth c A R Q hA hR hQ C hr hnm hro hX => ?_)
  have hw0 : ∀ w ∈ u_ws RX7 TX7 11, w ∈ wsX7_passUnfit := by decide +kernel
  have hw1 : Cond.fieldLink RX7 49 (TX7 8).1 (TX7 8).2.1 (TX7 8).2.2.1 ∈ wsX7_passUnfit := by decide +kernel
  have hw2 : ∀ w ∈ u_ws RX5 TX5 9, w ∈ wsX7_passUnfit := by decide +kernel
  have hw3 : Cond.fieldLink RX7 100 (TX5 0).1 (TX5 0).2.1 (TX5 0).2.2.1 ∈ wsX7_passUnfit := by decide +kernel
  have hw4 : ∀ w ∈ u_ws RX1 TX1 4, w ∈ wsX7_passUnfit := by decide +kernel
  have hw5 : Cond.fieldLink RX7 122 (TX1 1).1 (TX1 1).2.1 (TX1 1).2.2.1 ∈ wsX7_passUnfit := by decide +kernel
  refine x_L (L' := [(0, .ref tb), (1, .ref ln), (2, .ref io)]) [0, 1, 2] rfl ?_
  have hpool : ∀ q ∈ pl, xRo D A s q := hro
  obtain ⟨a9k, fak, adk, gAk, gBk, gCk, gDk, gEk⟩ := hTL kq hkq
  obtain rfl : ln = a9k := Option.some.inj (hka.symm.trans gAk)
  refine x_iconst C dX7_passUnfit_0 (q := 1) rfl (v := nI 0) (by decide) ?_
  refine x_istore_n C (L' := [(3, .int (nI 0)), (0, .ref tb), (1, .ref ln), (2, .ref io)]) dX7_passUnfit_1 (q := 2) rfl rfl (by decide) rfl ?_
  have cut2 : ∀ (fuel : Nat) (i : Nat), (i ≤ cols) → (ufS ld st cols kq = i + runLen (fun c => decide (canS (dFm ld kq c) (st c))) cols (cols - i) i) → cols - i < fuel → xG p l e R s m args below meth c Q D A 5 [(tb, .inr (6, [.ref nz, .ref tl, .ref pg, .ref se, .ref pa, .ref bo, .ref li, .ref ba, .int (nI cols), .int (nI lc), .int (nI smp)])), (io, .inr (4, [.ref a0, .ref a1, .ref a2, .ref a3, .ref a4, .ref a5, .int (nI mk), .int (nI rs), .int (ky)])), (a0, .inl (cy 1, 5, .inl (fun k => nI (st k)))), (a1, .inl (cy 1, 24, .inl fa)), (a2, .inl (cy 1, 24, .inl ca)), (a3, .inl (cy 1, 24, .inl dc)), (a4, .inl (cy 1, 24, .inl rl)), (a5, .inl (cy 1, 24, .inl (fun k => nI (lr k))))] 0 0 2 [(0, .ref tb), (1, .ref ln), (2, .ref io), (3, .int (nI i))] [] := by
    intro fuel
    induction fuel with
    | zero =>
      intro i hi hu hmu
      exact absurd hmu (Nat.not_lt_zero _)
    | succ fuel ih =>
      intro i hi hu hmu
      have ih2 := ih
      clear ih
      refine x_iload_n C dX7_passUnfit_2 (q := 3) rfl rfl 3 rfl ?_
      refine x_aload_n C dX7_passUnfit_3 (q := 4) rfl rfl 0 rfl ?_
      refine x_get C (ci := 6) (v := .int (nI cols)) hw0 0 rfl rfl 8 (by decide) hw1 rfl dX7_passUnfit_4 (q := 7) rfl ?_
      refine x_icmp_ge C (tgt := 66) dX7_passUnfit_7 (by decide) (q := 10) rfl (a := ((i : Nat) : Int)) (b := ((cols : Nat) : Int)) (nI_toInt (by omega)) (nI_toInt (by omega)) (fun h1 => ?_) (fun h1 => ?_)
      · first
        | (exfalso; omega)
        |
          refine x_iconst C dX7_passUnfit_66 (q := 67) rfl (v := nI 0) (by decide) ?_
          refine x_zret C hA hQ hr (ty := .boolean) (by first | rfl | assumption | exact xz_nar _) dX7_passUnfit_67 (Nat.le_of_ble_eq_true rfl) ?_
          have e9 : i = cols := by omega
          have e8 : ufS ld st cols kq = i := by rw [hu, runLen_stop _ (fun z => absurd z.1 (by omega))]; rfl
          exact Or.inr ⟨rfl, rfl, by omega⟩
      · first
        | (exfalso; omega)
        |
          refine x_iload_n C dX7_passUnfit_10 (q := 11) rfl rfl 3 rfl ?_
          refine x_iconst C dX7_passUnfit_11 (q := 12) rfl (v := nI 5) (by decide) ?_
          refine x_icmp_ge C (tgt := 66) dX7_passUnfit_12 (by decide) (q := 15) rfl (a := ((i : Nat) : Int)) (b := 5) (nI_toInt (by omega)) rfl (fun h2 => ?_) (fun h2 => ?_)
          · first
            | (exfalso; omega)
            |
              refine x_iconst C dX7_passUnfit_66 (q := 67) rfl (v := nI 0) (by decide) ?_
              refine x_zret C hA hQ hr (ty := .boolean) (by first | rfl | assumption | exact xz_nar _) dX7_passUnfit_67 (Nat.le_of_ble_eq_true rfl) ?_
              have e9 : i = cols := by omega
              have e8 : ufS ld st cols kq = i := by rw [hu, runLen_stop _ (fun z => absurd z.1 (by omega))]; rfl
              exact Or.inr ⟨rfl, rfl, by omega⟩
          · first
            | (exfalso; omega)
            |
              refine x_aload_n C dX7_passUnfit_15 (q := 16) rfl rfl 1 rfl ?_
              refine x_iload_n C dX7_passUnfit_16 (q := 17) rfl rfl 3 rfl ?_
              refine x_callV C (roW := []) (roR := [(ln, .inr (3, [.ref fak])), (fak, .inl (cy 3, dNf ld kq, .inr (.inr (.inr (.inr adk)))))]) (c_X4_fieldAt_n l D cy ln fak (dNf ld kq) adk i (by omega) (by exact LnG.some (by assumption)) (by first | assumption | omega | (simp only []; omega))) (cwV 1 C.2.2.2.2.1 gX7_passUnfit_X4_fieldAt rfl rfl rfl (by decide +kernel) (by rw [hR]; exact ⟨Nat.le_of_ble_eq_true rfl, Nat.le_of_ble_eq_true rfl⟩)) [] [] rfl (by decide) rfl (by decide) (xro_cons (hpool _ gBk) (xro_cons (hpool _ gCk) xro_nil)) (List.mem_of_getElem? (i := 0) rfl) (ci := 3) rfl xT_bl (fun _ _ _ _ _ _ _ => trivial) rfl rfl dX7_passUnfit_17 rfl rfl (Nat.le_of_ble_eq_true rfl) (q := 20) rfl (k' := 0) rfl (n' := 0) rfl (by rw [hR]; exact ⟨Nat.le_of_ble_eq_true rfl, Nat.le_of_ble_eq_true rfl⟩) (fun v3 w3 hp3 => ?_)
              rcases hp3 with hp3 | hp3
              · skip
                obtain ⟨q_4, rfl, rfl, hc5, hc6⟩ := hp3
                refine x_ws (ws' := [(tb, .inr (6, [.ref nz, .ref tl, .ref pg, .ref se, .ref pa, .ref bo, .ref li, .ref ba, .int (nI cols), .int (nI lc), .int (nI smp)])), (io, .inr (4, [.ref a0, .ref a1, .ref a2, .ref a3, .ref a4, .ref a5, .int (nI mk), .int (nI rs), .int (ky)])), (a0, .inl (cy 1, 5, .inl (fun k => nI (st k)))), (a1, .inl (cy 1, 24, .inl fa)), (a2, .inl (cy 1, 24, .inl ca)), (a3, .inl (cy 1, 24, .inl dc)), (a4, .inl (cy 1, 24, .inl rl)), (a5, .inl (cy 1, 24, .inl (fun k => nI (lr k))))]) (List.append_nil _) ?_
                obtain ⟨q97, sg7, kA7, kB7, kC7⟩ := gEk i (by omega)
                obtain rfl : q_4 = q97 := Option.some.inj (hc6.symm.trans kA7)
                have hf97 := hfm kq i
                refine x_astore C (L' := [(4, .ref q_4), (0, .ref tb), (1, .ref ln), (2, .ref io), (3, .int (nI i))]) dX7_passUnfit_20 (q := 22) rfl (by decide) rfl ?_
                refine x_aload C dX7_passUnfit_22 (q := 24) rfl 0 rfl ?_
                refine x_ifnull C dX7_passUnfit_24 (q := 27) rfl ?_
                refine x_aload C dX7_passUnfit_27 (q := 29) rfl 0 rfl ?_
                refine x_aload_n C dX7_passUnfit_29 (q := 30) rfl rfl 3 rfl ?_
                refine x_get C (ci := 4) (v := .ref a0) hw2 1 rfl rfl 0 (by decide) hw3 rfl dX7_passUnfit_30 (q := 33) rfl ?_
                refine x_iload_n C dX7_passUnfit_33 (q := 34) rfl rfl 4 rfl ?_
                have hb8 := hst i
                refine x_iald C (j := i) (v := nI (st i)) 2 rfl (nI_toInt (by omega)) (by omega) rfl dX7_passUnfit_34 (q := 35) rfl ?_
                refine x_callV C (roW := []) (roR := [(q_4, .inr (0, [.ref sg7, .int (nI (dFm ld kq i)), .long (dNm ld kq i), .long (dWd ld kq i)]))]) (c_X1_canBe l D cy q_4 sg7 (dFm ld kq i) (dNm ld kq i) (dWd ld kq i) (st i) (by first | assumption | omega | (simp only []; omega)) (by first | assumption | omega | (simp only []; omega))) (cwV 1 C.2.2.2.2.1 gX7_passUnfit_X1_canBe rfl rfl rfl (by decide +kernel) (by rw [hR]; exact ⟨Nat.le_of_ble_eq_true rfl, Nat.le_of_ble_eq_true rfl⟩)) [] [] rfl (by decide) rfl (by decide) (xro_cons (hpool _ kB7) xro_nil) (List.mem_of_getElem? (i := 0) rfl) (ci := 0) rfl xT_bl (fun _ _ _ _ _ _ _ => trivial) rfl rfl dX7_passUnfit_35 rfl rfl (Nat.le_of_ble_eq_true rfl) (q := 38) rfl (k' := 0) rfl (n' := 0) rfl (by rw [hR]; exact ⟨Nat.le_of_ble_eq_true rfl, Nat.le_of_ble_eq_true rfl⟩) (fun v9 w9 hp9 => ?_)
                rcases hp9 with hp9 | hp9
                · skip
                  obtain ⟨rfl, rfl, hc10⟩ := hp9
                  refine x_ws (ws' := [(tb, .inr (6, [.ref nz, .ref tl, .ref pg, .ref se, .ref pa, .ref bo, .ref li, .ref ba, .int (nI cols), .int (nI lc), .int (nI smp)])), (io, .inr (4, [.ref a0, .ref a1, .ref a2, .ref a3, .ref a4, .ref a5, .int (nI mk), .int (nI rs), .int (ky)])), (a0, .inl (cy 1, 5, .inl (fun k => nI (st k)))), (a1, .inl (cy 1, 24, .inl fa)), (a2, .inl (cy 1, 24, .inl ca)), (a3, .inl (cy 1, 24, .inl dc)), (a4, .inl (cy 1, 24, .inl rl)), (a5, .inl (cy 1, 24, .inl (fun k => nI (lr k))))]) (List.append_nil _) ?_
                  refine x_if_ne C (tgt := 60) dX7_passUnfit_38 (by decide) (q := 41) rfl (a := 1) rfl (fun h11 => ?_) (fun h11 => (by omega : False).elim)
                  refine x_iinc C (L' := [(3, .int (nI (i + 1))), (4, .ref q_4), (0, .ref tb), (1, .ref ln), (2, .ref io)]) dX7_passUnfit_60 (q := 63) rfl 4 rfl (v := nI (i + 1)) (nI_add i 1) (by decide) rfl ?_
                  refine x_goto C (tgt := 2) dX7_passUnfit_63 (by decide) ?_
                  refine x_L (L' := [(0, .ref tb), (1, .ref ln), (2, .ref io), (3, .int (nI (i + 1)))]) [2, 3, 4, 0] rfl ?_
                  exact ih2 (i + 1) (by first | omega | assumption) (by have h8 := runLen_step (P := fun c => decide (canS (dFm ld kq c) (st c))) (to := cols) (k := i) (by omega) (decide_eq_true (by assumption)); omega) (by omega)
                · skip
                  obtain ⟨rfl, rfl, hc12⟩ := hp9
                  refine x_ws (ws' := [(tb, .inr (6, [.ref nz, .ref tl, .ref pg, .ref se, .ref pa, .ref bo, .ref li, .ref ba, .int (nI cols), .int (nI lc), .int (nI smp)])), (io, .inr (4, [.ref a0, .ref a1, .ref a2, .ref a3, .ref a4, .ref a5, .int (nI mk), .int (nI rs), .int (ky)])), (a0, .inl (cy 1, 5, .inl (fun k => nI (st k)))), (a1, .inl (cy 1, 24, .inl fa)), (a2, .inl (cy 1, 24, .inl ca)), (a3, .inl (cy 1, 24, .inl dc)), (a4, .inl (cy 1, 24, .inl rl)), (a5, .inl (cy 1, 24, .inl (fun k => nI (lr k))))]) (List.append_nil _) ?_
                  refine x_if_ne C (tgt := 60) dX7_passUnfit_38 (by decide) (q := 41) rfl (a := 0) rfl (fun h13 => (by omega : False).elim) (fun h13 => ?_)
                  refine x_aload_n C dX7_passUnfit_41 (q := 42) rfl rfl 3 rfl ?_
                  refine x_iconst C dX7_passUnfit_42 (q := 43) rfl (v := nI 3) (by decide) ?_
                  refine x_bipush C dX7_passUnfit_43 (q := 45) rfl (v := nI 10) (by decide) ?_
                  refine x_iload_n C dX7_passUnfit_45 (q := 46) rfl rfl 4 rfl ?_
                  refine x_iadd C dX7_passUnfit_46 (q := 47) rfl (z := nI (10 + i)) (nI_add 10 i) ?_
                  refine x_bipush C dX7_passUnfit_47 (q := 49) rfl (v := nI 20) (by decide) ?_
                  refine x_aload C dX7_passUnfit_49 (q := 51) rfl 0 rfl ?_
                  refine x_getR C (ci := 0) (v := .int (nI (dFm ld kq i))) hw4 (hpool _ kB7) rfl 1 (by decide) hw5 rfl dX7_passUnfit_51 (q := 54) rfl ?_
                  refine x_iadd C dX7_passUnfit_54 (q := 55) rfl (z := nI (20 + (dFm ld kq i))) (nI_add 20 (dFm ld kq i)) ?_
                  refine x_callV C (roW := []) (roR := []) (c_X5_passFault l D cy io a0 a1 a2 a3 a4 a5 st fa ca dc rl lr mk rs ky (nI 3) (nI (10 + i)) (nI (20 + (dFm ld kq i))) (by first | assumption | omega | (simp only []; omega))) (cwV 3 C.2.2.2.2.1 gX7_passUnfit_X5_passFault rfl rfl rfl (by decide +kernel) (by rw [hR]; exact ⟨Nat.le_of_ble_eq_true rfl, Nat.le_of_ble_eq_true rfl⟩)) [1, 2, 3, 4, 5, 6, 7] [] rfl (by decide) rfl (by decide) xro_nil (List.mem_of_getElem? (i := 0) rfl) (ci := 4) rfl xT_bl (fun _ _ _ _ _ _ _ => trivial) rfl rfl dX7_passUnfit_55 rfl rfl (Nat.le_of_ble_eq_true rfl) (q := 58) rfl (k' := 0) rfl (n' := 0) rfl (by rw [hR]; exact ⟨Nat.le_of_ble_eq_true rfl, Nat.le_of_ble_eq_true rfl⟩) (fun v14 w14 hp14 => ?_)
                  obtain ⟨rfl, rfl⟩ := hp14
                  refine x_ws (ws' := [(tb, .inr (6, [.ref nz, .ref tl, .ref pg, .ref se, .ref pa, .ref bo, .ref li, .ref ba, .int (nI cols), .int (nI lc), .int (nI smp)])), (io, .inr (4, [.ref a0, .ref a1, .ref a2, .ref a3, .ref a4, .ref a5, .int (nI (mk + 1)), .int (nI rs), .int (ky)])), (a0, .inl (cy 1, 5, .inl (fun k => nI (st k)))), (a1, .inl (cy 1, 24, .inl (va_up fa mk (nI 3)))), (a2, .inl (cy 1, 24, .inl (va_up ca mk (nI (10 + i))))), (a3, .inl (cy 1, 24, .inl (va_up dc mk (nI (20 + (dFm ld kq i)))))), (a4, .inl (cy 1, 24, .inl (va_up rl mk (-5)))), (a5, .inl (cy 1, 24, .inl (fun k => nI (lr k))))]) rfl ?_
                  refine x_iconst C dX7_passUnfit_58 (q := 59) rfl (v := nI 1) (by decide) ?_
                  refine x_zret C hA hQ hr (ty := .boolean) (by first | rfl | assumption | exact xz_nar _) dX7_passUnfit_59 (Nat.le_of_ble_eq_true rfl) ?_
                  have e9 : ufS ld st cols kq = i := by rw [hu, runLen_stop _ (fun z => (by assumption : ¬ canS (dFm ld kq i) (st i)) (of_decide_eq_true z.2))]; rfl
                  exact Or.inl ⟨rfl, by rw [e9], by omega⟩
              · exfalso; obtain ⟨_, _, hc15⟩ := hp3; omega
  refine x_L (L' := [(0, .ref tb), (1, .ref ln), (2, .ref io), (3, .int (nI 0))]) [1, 2, 3, 0] rfl ?_
  exact cut2 (cols - 0 + 1) 0 (by first | omega | assumption) (by rw [Nat.zero_add]; rfl) (by omega)

set_option maxHeartbeats 4000000 in
set_option maxRecDepth 100000 in
/-- Table.lineWithKeyOf -/
theorem c_X7_lineWithKeyOf (l : Launch) (D : va_G) (cy : Nat → ClassId) (tb : Nat) (nz : Nat) (tl : Nat) (pg : Nat) (se : Nat) (pa : Nat) (bo : Nat) (li : Nat) (ba : Nat) (cols : Nat) (lc : Nat) (smp : Nat) (lnf : Nat → Option Nat) (io : Nat) (a0 : Nat) (a1 : Nat) (a2 : Nat) (a3 : Nat) (a4 : Nat) (a5 : Nat) (st : Nat → Nat) (fa : Nat → Int32) (ca : Nat → Int32) (dc : Nat → Int32) (rl : Nat → Int32) (lr : Nat → Nat) (mk : Nat) (rs : Nat) (ky : Int32) (ld : LD) (pl : va_W) (kq : Nat) (fq : Nat) (sgq : Nat) (hcols : cols ≤ 5) (hlc : lc ≤ 24) (hTL : TbL cy pl lc lnf ld) (hfm : ∀ k i, dFm ld k i ≤ 4) (hmk : mk < 24) (hrs : rs ≤ mk) (hst : ∀ k, st k ≤ 4) (hlr : ∀ r, r < rs → lr r < lc ∧ dNf ld (lr r) = cols) (hky : 0 ≤ ky.toInt) (hky2 : ky.toInt < cols) (hfq : (fq, .inr (0, [.ref sgq, .int (nI (dFm ld kq ky.toInt.toNat)), .long (dNm ld kq ky.toInt.toNat), .long (dWd ld kq ky.toInt.toNat)])) ∈ pl) : xMet l D cy xT yX7_lineWithKeyOf wsX7_lineWithKeyOf ({ frames := 3, cells := 0, slots := 0, locals := 300 } : Room) [.ref tb, .ref fq, .ref io] [(tb, .inr (6, [.ref nz, .ref tl, .ref pg, .ref se, .ref pa, .ref bo, .ref li, .ref ba, .int (nI cols), .int (nI lc), .int (nI smp)])), (li, .inl (cy 4, 24, .inr (.inr (.inr (.inr lnf))))), (io, .inr (4, [.ref a0, .ref a1, .ref a2, .ref a3, .ref a4, .ref a5, .int (nI mk), .int (nI rs), .int (ky)])), (a0, .inl (cy 1, 5, .inl (fun k => nI (st k)))), (a1, .inl (cy 1, 24, .inl fa)), (a2, .inl (cy 1, 24, .inl ca)), (a3, .inl (cy 1, 24, .inl dc)), (a4, .inl (cy 1, 24, .inl rl)), (a5, .inl (cy 1, 24, .inl (fun k => nI (lr k))))] pl (fun (v9 : Option Value) (w9 : va_W) => (v9 = some (.int (nI (lr (dpS ld st lr ky.toInt.toNat kq rs)))) ∧ w9 = [(tb, .inr (6, [.ref nz, .ref tl, .ref pg, .ref se, .ref pa, .ref bo, .ref li, .ref ba, .int (nI cols), .int (nI lc), .int (nI smp)])), (li, .inl (cy 4, 24, .inr (.inr (.inr (.inr lnf))))), (io, .inr (4, [.ref a0, .ref a1, .ref a2, .ref a3, .ref a4, .ref a5, .int (nI mk), .int (nI rs), .int (ky)])), (a0, .inl (cy 1, 5, .inl (fun k => nI (st k)))), (a1, .inl (cy 1, 24, .inl fa)), (a2, .inl (cy 1, 24, .inl ca)), (a3, .inl (cy 1, 24, .inl dc)), (a4, .inl (cy 1, 24, .inl rl)), (a5, .inl (cy 1, 24, .inl (fun k => nI (lr k))))] ∧ dpS ld st lr ky.toInt.toNat kq rs < rs) ∨ (v9 = some (.int ((-5))) ∧ w9 = [(tb, .inr (6, [.ref nz, .ref tl, .ref pg, .ref se, .ref pa, .ref bo, .ref li, .ref ba, .int (nI cols), .int (nI lc), .int (nI smp)])), (li, .inl (cy 4, 24, .inr (.inr (.inr (.inr lnf))))), (io, .inr (4, [.ref a0, .ref a1, .ref a2, .ref a3, .ref a4, .ref a5, .int (nI mk), .int (nI rs), .int (ky)])), (a0, .inl (cy 1, 5, .inl (fun k => nI (st k)))), (a1, .inl (cy 1, 24, .inl fa)), (a2, .inl (cy 1, 24, .inl ca)), (a3, .inl (cy 1, 24, .inl dc)), (a4, .inl (cy 1, 24, .inl rl)), (a5, .inl (cy 1, 24, .inl (fun k => nI (lr k))))] ∧ dpS ld st lr ky.toInt.toNat kq rs = rs)) := by
  refine xMet_of (cc := cX7_lineWithKeyOf) (maxL := 8) (ret := (some .int)) (by decide) rfl (Nat.le_of_ble_eq_true rfl) (fun p e s m args below meth c A R Q hA hR hQ C hr hnm hro hX => ?_)
  have hw0 : ∀ w ∈ u_ws RX5 TX5 9, w ∈ wsX7_lineWithKeyOf := by decide +kernel
  have hw1 : Cond.fieldLink RX7 82 (TX5 8).1 (TX5 8).2.1 (TX5 8).2.2.1 ∈ wsX7_lineWithKeyOf := by decide +kernel
  have hw2 : Cond.fieldLink RX7 100 (TX5 0).1 (TX5 0).2.1 (TX5 0).2.2.1 ∈ wsX7_lineWithKeyOf := by decide +kernel
  have hw3 : Cond.fieldLink RX7 176 (TX5 7).1 (TX5 7).2.1 (TX5 7).2.2.1 ∈ wsX7_lineWithKeyOf := by decide +kernel
  have hw4 : ∀ w ∈ u_ws RX1 TX1 4, w ∈ wsX7_lineWithKeyOf := by decide +kernel
  have hw5 : Cond.fieldLink RX7 122 (TX1 1).1 (TX1 1).2.1 (TX1 1).2.2.1 ∈ wsX7_lineWithKeyOf := by decide +kernel
  refine x_L (L' := [(0, .ref tb), (1, .ref fq), (2, .ref io)]) [0, 1, 2] rfl ?_
  have hpool : ∀ q ∈ pl, xRo D A s q := hro
  have hfk9 := hfm kq ky.toInt.toNat
  refine x_aload_n C dX7_lineWithKeyOf_0 (q := 1) rfl rfl 0 rfl ?_
  refine x_aload_n C dX7_lineWithKeyOf_1 (q := 2) rfl rfl 2 rfl ?_
  refine x_get C (ci := 4) (v := .int (ky)) hw0 2 rfl rfl 8 (by decide) hw1 rfl dX7_lineWithKeyOf_2 (q := 5) rfl ?_
  refine x_callV C (roW := [(tb, .inr (6, [.ref nz, .ref tl, .ref pg, .ref se, .ref pa, .ref bo, .ref li, .ref ba, .int (nI cols), .int (nI lc), .int (nI smp)]))]) (roR := []) (c_X7_hasColumn l D cy tb nz tl pg se pa bo li ba cols lc smp ky (by first | assumption | omega | (simp only []; omega)) (by first | assumption | omega | (simp only []; omega))) (cwV 1 C.2.2.2.2.1 gX7_lineWithKeyOf_X7_hasColumn rfl rfl rfl (by decide +kernel) (by rw [hR]; exact ⟨Nat.le_of_ble_eq_true rfl, Nat.le_of_ble_eq_true rfl⟩)) [] [0] rfl (by decide) rfl (by decide) xro_nil (List.mem_of_getElem? (i := 0) rfl) (ci := 6) rfl xT_bl (fun _ _ _ _ _ _ _ => trivial) rfl rfl dX7_lineWithKeyOf_5 rfl rfl (Nat.le_of_ble_eq_true rfl) (q := 8) rfl (k' := 0) rfl (n' := 0) rfl (by rw [hR]; exact ⟨Nat.le_of_ble_eq_true rfl, Nat.le_of_ble_eq_true rfl⟩) (fun v1 w1 hp1 => ?_)
  rcases hp1 with hp1 | hp1
  · skip
    obtain ⟨rfl, rfl, hc2, hc3⟩ := hp1
    refine x_ws (ws' := [(tb, .inr (6, [.ref nz, .ref tl, .ref pg, .ref se, .ref pa, .ref bo, .ref li, .ref ba, .int (nI cols), .int (nI lc), .int (nI smp)])), (li, .inl (cy 4, 24, .inr (.inr (.inr (.inr lnf))))), (io, .inr (4, [.ref a0, .ref a1, .ref a2, .ref a3, .ref a4, .ref a5, .int (nI mk), .int (nI rs), .int (ky)])), (a0, .inl (cy 1, 5, .inl (fun k => nI (st k)))), (a1, .inl (cy 1, 24, .inl fa)), (a2, .inl (cy 1, 24, .inl ca)), (a3, .inl (cy 1, 24, .inl dc)), (a4, .inl (cy 1, 24, .inl rl)), (a5, .inl (cy 1, 24, .inl (fun k => nI (lr k))))]) (List.append_nil _) ?_
    refine x_if_ne C (tgt := 14) dX7_lineWithKeyOf_8 (by decide) (q := 11) rfl (a := 1) rfl (fun h4 => ?_) (fun h4 => (by omega : False).elim)
    refine x_aload_n C dX7_lineWithKeyOf_14 (q := 15) rfl rfl 2 rfl ?_
    refine x_get C (ci := 4) (v := .ref a0) hw0 2 rfl rfl 0 (by decide) hw2 rfl dX7_lineWithKeyOf_15 (q := 18) rfl ?_
    refine x_aload_n C dX7_lineWithKeyOf_18 (q := 19) rfl rfl 2 rfl ?_
    refine x_get C (ci := 4) (v := .int (ky)) hw0 2 rfl rfl 8 (by decide) hw1 rfl dX7_lineWithKeyOf_19 (q := 22) rfl ?_
    have hb5 := hst ky.toInt.toNat
    refine x_iald C (j := ky.toInt.toNat) (v := nI (st ky.toInt.toNat)) 3 rfl (by have h9 := (rfl : (ky : Int32).toInt = ky.toInt); omega) (by omega) rfl dX7_lineWithKeyOf_22 (q := 23) rfl ?_
    refine x_istore_n C (L' := [(3, .int (nI (st ky.toInt.toNat))), (0, .ref tb), (1, .ref fq), (2, .ref io)]) dX7_lineWithKeyOf_23 (q := 24) rfl rfl (by decide) rfl ?_
    have hst9 := hst ky.toInt.toNat
    refine x_iconst C dX7_lineWithKeyOf_24 (q := 25) rfl (v := nI 0) (by decide) ?_
    refine x_istore C (L' := [(4, .int (nI 0)), (3, .int (nI (st ky.toInt.toNat))), (0, .ref tb), (1, .ref fq), (2, .ref io)]) dX7_lineWithKeyOf_25 (q := 27) rfl (by decide) rfl ?_
    have cut27 : ∀ (fuel : Nat) (r : Nat), (r ≤ rs) → (dpS ld st lr ky.toInt.toNat kq rs = r + runLen (fun r => !dpB ld st lr ky.toInt.toNat kq r) rs (rs - r) r) → rs - r < fuel → xG p l e R s m args below meth c Q D A 8 [(tb, .inr (6, [.ref nz, .ref tl, .ref pg, .ref se, .ref pa, .ref bo, .ref li, .ref ba, .int (nI cols), .int (nI lc), .int (nI smp)])), (li, .inl (cy 4, 24, .inr (.inr (.inr (.inr lnf))))), (io, .inr (4, [.ref a0, .ref a1, .ref a2, .ref a3, .ref a4, .ref a5, .int (nI mk), .int (nI rs), .int (ky)])), (a0, .inl (cy 1, 5, .inl (fun k => nI (st k)))), (a1, .inl (cy 1, 24, .inl fa)), (a2, .inl (cy 1, 24, .inl ca)), (a3, .inl (cy 1, 24, .inl dc)), (a4, .inl (cy 1, 24, .inl rl)), (a5, .inl (cy 1, 24, .inl (fun k => nI (lr k))))] 0 0 27 [(0, .ref tb), (1, .ref fq), (2, .ref io), (3, .int (nI (st ky.toInt.toNat))), (4, .int (nI r))] [] := by
      intro fuel
      induction fuel with
      | zero =>
        intro r hr9 hd hmu
        exact absurd hmu (Nat.not_lt_zero _)
      | succ fuel ih =>
        intro r hr9 hd hmu
        have ih27 := ih
        clear ih
        refine x_iload C dX7_lineWithKeyOf_27 (q := 29) rfl 4 rfl ?_
        refine x_aload_n C dX7_lineWithKeyOf_29 (q := 30) rfl rfl 2 rfl ?_
        refine x_get C (ci := 4) (v := .int (nI rs)) hw0 2 rfl rfl 7 (by decide) hw3 rfl dX7_lineWithKeyOf_30 (q := 33) rfl ?_
        refine x_icmp_ge C (tgt := 121) dX7_lineWithKeyOf_33 (by decide) (q := 36) rfl (a := ((r : Nat) : Int)) (b := ((rs : Nat) : Int)) (nI_toInt (by omega)) (nI_toInt (by omega)) (fun h6 => ?_) (fun h6 => ?_)
        · first
          | (exfalso; omega)
          |
            refine x_bipush C dX7_lineWithKeyOf_121 (q := 123) rfl (v := (-5)) (by decide) ?_
            refine x_iret C hA hQ hr dX7_lineWithKeyOf_123 (Nat.le_of_ble_eq_true rfl) ?_
            have e8 : dpS ld st lr ky.toInt.toNat kq rs = r := by rw [hd, runLen_stop _ (fun z => absurd z.1 (by omega))]; rfl
            exact Or.inr ⟨rfl, rfl, by omega⟩
        · first
          | (exfalso; omega)
          |
            have hlr9 := hlr r (by omega)
            refine x_aload_n C dX7_lineWithKeyOf_36 (q := 37) rfl rfl 0 rfl ?_
            refine x_aload_n C dX7_lineWithKeyOf_37 (q := 38) rfl rfl 2 rfl ?_
            refine x_iload C dX7_lineWithKeyOf_38 (q := 40) rfl 4 rfl ?_
            refine x_callV C (roW := [(io, .inr (4, [.ref a0, .ref a1, .ref a2, .ref a3, .ref a4, .ref a5, .int (nI mk), .int (nI rs), .int (ky)])), (a0, .inl (cy 1, 5, .inl (fun k => nI (st k)))), (a1, .inl (cy 1, 24, .inl fa)), (a2, .inl (cy 1, 24, .inl ca)), (a3, .inl (cy 1, 24, .inl dc)), (a4, .inl (cy 1, 24, .inl rl)), (a5, .inl (cy 1, 24, .inl (fun k => nI (lr k))))]) (roR := []) (c_X5_lineOf_n l D cy io a0 a1 a2 a3 a4 a5 st fa ca dc rl lr mk rs ky r (by first | assumption | omega | (simp only []; omega)) (by first | assumption | omega | (simp only []; omega)) (by first | assumption | omega | (simp only []; omega))) (cwV 1 C.2.2.2.2.1 gX7_lineWithKeyOf_X5_lineOf rfl rfl rfl (by decide +kernel) (by rw [hR]; exact ⟨Nat.le_of_ble_eq_true rfl, Nat.le_of_ble_eq_true rfl⟩)) [] [2, 3, 4, 5, 6, 7, 8] rfl (by decide) rfl (by decide) xro_nil (List.mem_of_getElem? (i := 0) rfl) (ci := 4) rfl xT_bl (fun _ _ _ _ _ _ _ => trivial) rfl rfl dX7_lineWithKeyOf_40 rfl rfl (Nat.le_of_ble_eq_true rfl) (q := 43) rfl (k' := 0) rfl (n' := 0) rfl (by rw [hR]; exact ⟨Nat.le_of_ble_eq_true rfl, Nat.le_of_ble_eq_true rfl⟩) (fun v7 w7 hp7 => ?_)
            obtain ⟨rfl, rfl⟩ := hp7
            refine x_ws (ws' := [(tb, .inr (6, [.ref nz, .ref tl, .ref pg, .ref se, .ref pa, .ref bo, .ref li, .ref ba, .int (nI cols), .int (nI lc), .int (nI smp)])), (li, .inl (cy 4, 24, .inr (.inr (.inr (.inr lnf))))), (io, .inr (4, [.ref a0, .ref a1, .ref a2, .ref a3, .ref a4, .ref a5, .int (nI mk), .int (nI rs), .int (ky)])), (a0, .inl (cy 1, 5, .inl (fun k => nI (st k)))), (a1, .inl (cy 1, 24, .inl fa)), (a2, .inl (cy 1, 24, .inl ca)), (a3, .inl (cy 1, 24, .inl dc)), (a4, .inl (cy 1, 24, .inl rl)), (a5, .inl (cy 1, 24, .inl (fun k => nI (lr k))))]) (List.append_nil _) ?_
            refine x_callV C (roW := [(tb, .inr (6, [.ref nz, .ref tl, .ref pg, .ref se, .ref pa, .ref bo, .ref li, .ref ba, .int (nI cols), .int (nI lc), .int (nI smp)])), (li, .inl (cy 4, 24, .inr (.inr (.inr (.inr lnf)))))]) (roR := []) (c_X7_lineAt_n l D cy tb nz tl pg se pa bo li ba cols lc smp lnf (lr r) (by first | assumption | omega | (simp only []; omega)) (by first | assumption | omega | (simp only []; omega)) (by exact hTL.some) (by first | assumption | omega | (simp only []; omega))) (cwV 1 C.2.2.2.2.1 gX7_lineWithKeyOf_X7_lineAt rfl rfl rfl (by decide +kernel) (by rw [hR]; exact ⟨Nat.le_of_ble_eq_true rfl, Nat.le_of_ble_eq_true rfl⟩)) [] [0, 1] rfl (by decide) rfl (by decide) xro_nil (List.mem_of_getElem? (i := 0) rfl) (ci := 6) rfl xT_bl (fun _ _ _ _ _ _ _ => trivial) rfl rfl dX7_lineWithKeyOf_43 rfl rfl (Nat.le_of_ble_eq_true rfl) (q := 46) rfl (k' := 0) rfl (n' := 0) rfl (by rw [hR]; exact ⟨Nat.le_of_ble_eq_true rfl, Nat.le_of_ble_eq_true rfl⟩) (fun v8 w8 hp8 => ?_)
            rcases hp8 with hp8 | hp8
            · skip
              obtain ⟨a_9, rfl, rfl, hc10, hc11⟩ := hp8
              refine x_ws (ws' := [(tb, .inr (6, [.ref nz, .ref tl, .ref pg, .ref se, .ref pa, .ref bo, .ref li, .ref ba, .int (nI cols), .int (nI lc), .int (nI smp)])), (li, .inl (cy 4, 24, .inr (.inr (.inr (.inr lnf))))), (io, .inr (4, [.ref a0, .ref a1, .ref a2, .ref a3, .ref a4, .ref a5, .int (nI mk), .int (nI rs), .int (ky)])), (a0, .inl (cy 1, 5, .inl (fun k => nI (st k)))), (a1, .inl (cy 1, 24, .inl fa)), (a2, .inl (cy 1, 24, .inl ca)), (a3, .inl (cy 1, 24, .inl dc)), (a4, .inl (cy 1, 24, .inl rl)), (a5, .inl (cy 1, 24, .inl (fun k => nI (lr k))))]) (List.append_nil _) ?_
              obtain ⟨a912, fa12, ad12, gA12, gB12, gC12, gD12, gE12⟩ := hTL (lr r) (by omega)
              obtain rfl : a_9 = a912 := Option.some.inj (hc11.symm.trans gA12)
              refine x_astore C (L' := [(5, .ref a_9), (0, .ref tb), (1, .ref fq), (2, .ref io), (3, .int (nI (st ky.toInt.toNat))), (4, .int (nI r))]) dX7_lineWithKeyOf_46 (q := 48) rfl (by decide) rfl ?_
              refine x_aload C dX7_lineWithKeyOf_48 (q := 50) rfl 0 rfl ?_
              refine x_ifnonnull C (tgt := 57) dX7_lineWithKeyOf_50 (by decide) ?_
              refine x_aload C dX7_lineWithKeyOf_57 (q := 59) rfl 0 rfl ?_
              refine x_aload_n C dX7_lineWithKeyOf_59 (q := 60) rfl rfl 3 rfl ?_
              refine x_get C (ci := 4) (v := .int (ky)) hw0 2 rfl rfl 8 (by decide) hw1 rfl dX7_lineWithKeyOf_60 (q := 63) rfl ?_
              refine x_callV C (roW := []) (roR := [(a_9, .inr (3, [.ref fa12])), (fa12, .inl (cy 3, dNf ld (lr r), .inr (.inr (.inr (.inr ad12)))))]) (c_X4_fieldAt l D cy a_9 fa12 (dNf ld (lr r)) ad12 ky (by omega) (by exact LnG.some (by assumption))) (cwV 1 C.2.2.2.2.1 gX7_lineWithKeyOf_X4_fieldAt rfl rfl rfl (by decide +kernel) (by rw [hR]; exact ⟨Nat.le_of_ble_eq_true rfl, Nat.le_of_ble_eq_true rfl⟩)) [] [] rfl (by decide) rfl (by decide) (xro_cons (hpool _ gB12) (xro_cons (hpool _ gC12) xro_nil)) (List.mem_of_getElem? (i := 0) rfl) (ci := 3) rfl xT_bl (fun _ _ _ _ _ _ _ => trivial) rfl rfl dX7_lineWithKeyOf_63 rfl rfl (Nat.le_of_ble_eq_true rfl) (q := 66) rfl (k' := 0) rfl (n' := 0) rfl (by rw [hR]; exact ⟨Nat.le_of_ble_eq_true rfl, Nat.le_of_ble_eq_true rfl⟩) (fun v13 w13 hp13 => ?_)
              rcases hp13 with hp13 | hp13
              · skip
                obtain ⟨q_14, rfl, rfl, hc15, hc16, hc17⟩ := hp13
                refine x_ws (ws' := [(tb, .inr (6, [.ref nz, .ref tl, .ref pg, .ref se, .ref pa, .ref bo, .ref li, .ref ba, .int (nI cols), .int (nI lc), .int (nI smp)])), (li, .inl (cy 4, 24, .inr (.inr (.inr (.inr lnf))))), (io, .inr (4, [.ref a0, .ref a1, .ref a2, .ref a3, .ref a4, .ref a5, .int (nI mk), .int (nI rs), .int (ky)])), (a0, .inl (cy 1, 5, .inl (fun k => nI (st k)))), (a1, .inl (cy 1, 24, .inl fa)), (a2, .inl (cy 1, 24, .inl ca)), (a3, .inl (cy 1, 24, .inl dc)), (a4, .inl (cy 1, 24, .inl rl)), (a5, .inl (cy 1, 24, .inl (fun k => nI (lr k))))]) (List.append_nil _) ?_
                obtain ⟨q918, sg18, kA18, kB18, kC18⟩ := gE12 ky.toInt.toNat (by omega)
                obtain rfl : q_14 = q918 := Option.some.inj (hc17.symm.trans kA18)
                have hf918 := hfm (lr r) ky.toInt.toNat
                refine x_astore C (L' := [(6, .ref q_14), (5, .ref a_9), (0, .ref tb), (1, .ref fq), (2, .ref io), (3, .int (nI (st ky.toInt.toNat))), (4, .int (nI r))]) dX7_lineWithKeyOf_66 (q := 68) rfl (by decide) rfl ?_
                refine x_aload C dX7_lineWithKeyOf_68 (q := 70) rfl 0 rfl ?_
                refine x_ifnull C dX7_lineWithKeyOf_70 (q := 73) rfl ?_
                refine x_aload C dX7_lineWithKeyOf_73 (q := 75) rfl 0 rfl ?_
                refine x_getR C (ci := 0) (v := .int (nI (dFm ld (lr r) ky.toInt.toNat))) hw4 (hpool _ kB18) rfl 1 (by decide) hw5 rfl dX7_lineWithKeyOf_75 (q := 78) rfl ?_
                refine x_if_eq C (tgt := 85) dX7_lineWithKeyOf_78 (by decide) (q := 81) rfl (a := ((dFm ld (lr r) ky.toInt.toNat : Nat) : Int)) (nI_toInt (by omega)) (fun h19 => ?_) (fun h19 => ?_)
                · first
                  | (exfalso; omega)
                  |
                    refine x_iconst C dX7_lineWithKeyOf_85 (q := 86) rfl (v := nI 0) (by decide) ?_
                    refine x_istore C (L' := [(7, .int (nI 0)), (6, .ref q_14), (5, .ref a_9), (0, .ref tb), (1, .ref fq), (2, .ref io), (3, .int (nI (st ky.toInt.toNat))), (4, .int (nI r))]) dX7_lineWithKeyOf_86 (q := 88) rfl (by decide) rfl ?_
                    refine x_iload C dX7_lineWithKeyOf_88 (q := 90) rfl 0 rfl ?_
                    refine x_if_eq C (tgt := 115) dX7_lineWithKeyOf_90 (by decide) (q := 93) rfl (a := 0) rfl (fun h20 => ?_) (fun h20 => (by omega : False).elim)
                    refine x_iinc C (L' := [(4, .int (nI (r + 1))), (7, .int (nI 0)), (6, .ref q_14), (5, .ref a_9), (0, .ref tb), (1, .ref fq), (2, .ref io), (3, .int (nI (st ky.toInt.toNat)))]) dX7_lineWithKeyOf_115 (q := 118) rfl 7 rfl (v := nI (r + 1)) (nI_add r 1) (by decide) rfl ?_
                    refine x_goto C (tgt := 27) dX7_lineWithKeyOf_118 (by decide) ?_
                    refine x_L (L' := [(0, .ref tb), (1, .ref fq), (2, .ref io), (3, .int (nI (st ky.toInt.toNat))), (4, .int (nI (r + 1)))]) [4, 5, 6, 7, 0] rfl ?_
                    exact ih27 (r + 1) (by first | omega | assumption) (by have h8 := runLen_step (P := (fun r => !dpB ld st lr ky.toInt.toNat kq r)) (to := rs) (k := r) (by omega) (by rw [Bool.not_eq_true', ← Bool.not_eq_true]; intro z; have z1 := dpB_t.mp z; first | omega | exact absurd (congrArg Int64.toInt z1.2) (by assumption)); omega) (by omega)
                · first
                  | (exfalso; omega)
                  |
                    refine x_iconst C dX7_lineWithKeyOf_81 (q := 82) rfl (v := nI 1) (by decide) ?_
                    refine x_goto C (tgt := 86) dX7_lineWithKeyOf_82 (by decide) ?_
                    refine x_istore C (L' := [(7, .int (nI 1)), (6, .ref q_14), (5, .ref a_9), (0, .ref tb), (1, .ref fq), (2, .ref io), (3, .int (nI (st ky.toInt.toNat))), (4, .int (nI r))]) dX7_lineWithKeyOf_86 (q := 88) rfl (by decide) rfl ?_
                    refine x_iload C dX7_lineWithKeyOf_88 (q := 90) rfl 0 rfl ?_
                    refine x_if_eq C (tgt := 115) dX7_lineWithKeyOf_90 (by decide) (q := 93) rfl (a := 1) rfl (fun h21 => (by omega : False).elim) (fun h21 => ?_)
                    refine x_aload C dX7_lineWithKeyOf_93 (q := 95) rfl 1 rfl ?_
                    refine x_iload_n C dX7_lineWithKeyOf_95 (q := 96) rfl rfl 6 rfl ?_
                    refine x_callV C (roW := []) (roR := [(q_14, .inr (0, [.ref sg18, .int (nI (dFm ld (lr r) ky.toInt.toNat)), .long (dNm ld (lr r) ky.toInt.toNat), .long (dWd ld (lr r) ky.toInt.toNat)]))]) (c_X1_valueAs l D cy q_14 sg18 (dFm ld (lr r) ky.toInt.toNat) (dNm ld (lr r) ky.toInt.toNat) (dWd ld (lr r) ky.toInt.toNat) (st ky.toInt.toNat) (by first | assumption | omega | (simp only []; omega)) (by first | assumption | omega | (simp only []; omega))) (cwV 1 C.2.2.2.2.1 gX7_lineWithKeyOf_X1_valueAs rfl rfl rfl (by decide +kernel) (by rw [hR]; exact ⟨Nat.le_of_ble_eq_true rfl, Nat.le_of_ble_eq_true rfl⟩)) [] [] rfl (by decide) rfl (by decide) (xro_cons (hpool _ kB18) xro_nil) (List.mem_of_getElem? (i := 0) rfl) (ci := 0) rfl xT_bl (fun _ _ _ _ _ _ _ => trivial) rfl rfl dX7_lineWithKeyOf_96 rfl rfl (Nat.le_of_ble_eq_true rfl) (q := 99) rfl (k' := 0) rfl (n' := 0) rfl (by rw [hR]; exact ⟨Nat.le_of_ble_eq_true rfl, Nat.le_of_ble_eq_true rfl⟩) (fun v22 w22 hp22 => ?_)
                    obtain ⟨rfl, rfl⟩ := hp22
                    refine x_ws (ws' := [(tb, .inr (6, [.ref nz, .ref tl, .ref pg, .ref se, .ref pa, .ref bo, .ref li, .ref ba, .int (nI cols), .int (nI lc), .int (nI smp)])), (li, .inl (cy 4, 24, .inr (.inr (.inr (.inr lnf))))), (io, .inr (4, [.ref a0, .ref a1, .ref a2, .ref a3, .ref a4, .ref a5, .int (nI mk), .int (nI rs), .int (ky)])), (a0, .inl (cy 1, 5, .inl (fun k => nI (st k)))), (a1, .inl (cy 1, 24, .inl fa)), (a2, .inl (cy 1, 24, .inl ca)), (a3, .inl (cy 1, 24, .inl dc)), (a4, .inl (cy 1, 24, .inl rl)), (a5, .inl (cy 1, 24, .inl (fun k => nI (lr k))))]) (List.append_nil _) ?_
                    refine x_aload_n C dX7_lineWithKeyOf_99 (q := 100) rfl rfl 4 rfl ?_
                    refine x_iload_n C dX7_lineWithKeyOf_100 (q := 101) rfl rfl 6 rfl ?_
                    refine x_callV C (roW := []) (roR := [(fq, .inr (0, [.ref sgq, .int (nI (dFm ld kq ky.toInt.toNat)), .long (dNm ld kq ky.toInt.toNat), .long (dWd ld kq ky.toInt.toNat)]))]) (c_X1_valueAs l D cy fq sgq (dFm ld kq ky.toInt.toNat) (dNm ld kq ky.toInt.toNat) (dWd ld kq ky.toInt.toNat) (st ky.toInt.toNat) (by first | assumption | omega | (simp only []; omega)) (by first | assumption | omega | (simp only []; omega))) (cwV 1 C.2.2.2.2.1 gX7_lineWithKeyOf_X1_valueAs rfl rfl rfl (by decide +kernel) (by rw [hR]; exact ⟨Nat.le_of_ble_eq_true rfl, Nat.le_of_ble_eq_true rfl⟩)) [] [] rfl (by decide) rfl (by decide) (xro_cons (hpool _ hfq) xro_nil) (List.mem_of_getElem? (i := 0) rfl) (ci := 0) rfl xT_bl (fun _ _ _ _ _ _ _ => trivial) rfl rfl dX7_lineWithKeyOf_101 rfl rfl (Nat.le_of_ble_eq_true rfl) (q := 104) rfl (k' := 0) rfl (n' := 0) rfl (by rw [hR]; exact ⟨Nat.le_of_ble_eq_true rfl, Nat.le_of_ble_eq_true rfl⟩) (fun v23 w23 hp23 => ?_)
                    obtain ⟨rfl, rfl⟩ := hp23
                    refine x_ws (ws' := [(tb, .inr (6, [.ref nz, .ref tl, .ref pg, .ref se, .ref pa, .ref bo, .ref li, .ref ba, .int (nI cols), .int (nI lc), .int (nI smp)])), (li, .inl (cy 4, 24, .inr (.inr (.inr (.inr lnf))))), (io, .inr (4, [.ref a0, .ref a1, .ref a2, .ref a3, .ref a4, .ref a5, .int (nI mk), .int (nI rs), .int (ky)])), (a0, .inl (cy 1, 5, .inl (fun k => nI (st k)))), (a1, .inl (cy 1, 24, .inl fa)), (a2, .inl (cy 1, 24, .inl ca)), (a3, .inl (cy 1, 24, .inl dc)), (a4, .inl (cy 1, 24, .inl rl)), (a5, .inl (cy 1, 24, .inl (fun k => nI (lr k))))]) (List.append_nil _) ?_
                    refine x_lcmp_ne C (tgt := 115) dX7_lineWithKeyOf_104 dX7_lineWithKeyOf_105 (by decide) (q := 108) rfl (a := (valS (dFm ld (lr r) ky.toInt.toNat) (dNm ld (lr r) ky.toInt.toNat) (dWd ld (lr r) ky.toInt.toNat) (st ky.toInt.toNat)).toInt) (b := (valS (dFm ld kq ky.toInt.toNat) (dNm ld kq ky.toInt.toNat) (dWd ld kq ky.toInt.toNat) (st ky.toInt.toNat)).toInt) rfl rfl (fun h24 => ?_) (fun h24 => ?_)
                    · first
                      | (exfalso; omega)
                      |
                        refine x_iinc C (L' := [(4, .int (nI (r + 1))), (7, .int (nI 1)), (6, .ref q_14), (5, .ref a_9), (0, .ref tb), (1, .ref fq), (2, .ref io), (3, .int (nI (st ky.toInt.toNat)))]) dX7_lineWithKeyOf_115 (q := 118) rfl 7 rfl (v := nI (r + 1)) (nI_add r 1) (by decide) rfl ?_
                        refine x_goto C (tgt := 27) dX7_lineWithKeyOf_118 (by decide) ?_
                        refine x_L (L' := [(0, .ref tb), (1, .ref fq), (2, .ref io), (3, .int (nI (st ky.toInt.toNat))), (4, .int (nI (r + 1)))]) [4, 5, 6, 7, 0] rfl ?_
                        exact ih27 (r + 1) (by first | omega | assumption) (by have h8 := runLen_step (P := (fun r => !dpB ld st lr ky.toInt.toNat kq r)) (to := rs) (k := r) (by omega) (by rw [Bool.not_eq_true', ← Bool.not_eq_true]; intro z; have z1 := dpB_t.mp z; first | omega | exact absurd (congrArg Int64.toInt z1.2) (by assumption)); omega) (by omega)
                    · first
                      | (exfalso; omega)
                      |
                        refine x_aload_n C dX7_lineWithKeyOf_108 (q := 109) rfl rfl 5 rfl ?_
                        refine x_iload C dX7_lineWithKeyOf_109 (q := 111) rfl 7 rfl ?_
                        refine x_callV C (roW := [(io, .inr (4, [.ref a0, .ref a1, .ref a2, .ref a3, .ref a4, .ref a5, .int (nI mk), .int (nI rs), .int (ky)])), (a0, .inl (cy 1, 5, .inl (fun k => nI (st k)))), (a1, .inl (cy 1, 24, .inl fa)), (a2, .inl (cy 1, 24, .inl ca)), (a3, .inl (cy 1, 24, .inl dc)), (a4, .inl (cy 1, 24, .inl rl)), (a5, .inl (cy 1, 24, .inl (fun k => nI (lr k))))]) (roR := []) (c_X5_lineOf_n l D cy io a0 a1 a2 a3 a4 a5 st fa ca dc rl lr mk rs ky r (by first | assumption | omega | (simp only []; omega)) (by first | assumption | omega | (simp only []; omega)) (by first | assumption | omega | (simp only []; omega))) (cwV 1 C.2.2.2.2.1 gX7_lineWithKeyOf_X5_lineOf rfl rfl rfl (by decide +kernel) (by rw [hR]; exact ⟨Nat.le_of_ble_eq_true rfl, Nat.le_of_ble_eq_true rfl⟩)) [] [2, 3, 4, 5, 6, 7, 8] rfl (by decide) rfl (by decide) xro_nil (List.mem_of_getElem? (i := 0) rfl) (ci := 4) rfl xT_bl (fun _ _ _ _ _ _ _ => trivial) rfl rfl dX7_lineWithKeyOf_111 rfl rfl (Nat.le_of_ble_eq_true rfl) (q := 114) rfl (k' := 0) rfl (n' := 0) rfl (by rw [hR]; exact ⟨Nat.le_of_ble_eq_true rfl, Nat.le_of_ble_eq_true rfl⟩) (fun v25 w25 hp25 => ?_)
                        obtain ⟨rfl, rfl⟩ := hp25
                        refine x_ws (ws' := [(tb, .inr (6, [.ref nz, .ref tl, .ref pg, .ref se, .ref pa, .ref bo, .ref li, .ref ba, .int (nI cols), .int (nI lc), .int (nI smp)])), (li, .inl (cy 4, 24, .inr (.inr (.inr (.inr lnf))))), (io, .inr (4, [.ref a0, .ref a1, .ref a2, .ref a3, .ref a4, .ref a5, .int (nI mk), .int (nI rs), .int (ky)])), (a0, .inl (cy 1, 5, .inl (fun k => nI (st k)))), (a1, .inl (cy 1, 24, .inl fa)), (a2, .inl (cy 1, 24, .inl ca)), (a3, .inl (cy 1, 24, .inl dc)), (a4, .inl (cy 1, 24, .inl rl)), (a5, .inl (cy 1, 24, .inl (fun k => nI (lr k))))]) (List.append_nil _) ?_
                        refine x_iret C hA hQ hr dX7_lineWithKeyOf_114 (Nat.le_of_ble_eq_true rfl) ?_
                        have e9 : dpS ld st lr ky.toInt.toNat kq rs = r := by
                          rw [hd, runLen_stop _ (fun z => by have z1 := z.2; rw [Bool.not_eq_true', ← Bool.not_eq_true] at z1; exact z1 (dpB_t.mpr ⟨by omega, Int64.toInt_inj.mp (by assumption)⟩))]; rfl
                        exact Or.inl ⟨by rw [e9], rfl, by omega⟩
              · exfalso; obtain ⟨_, _, hc26⟩ := hp13; omega
            · exfalso; obtain ⟨_, _, hc27⟩ := hp8; omega
    refine x_L (L' := [(0, .ref tb), (1, .ref fq), (2, .ref io), (3, .int (nI (st ky.toInt.toNat))), (4, .int (nI 0))]) [2, 3, 4, 1, 0] rfl ?_
    exact cut27 (rs - 0 + 1) 0 (by first | omega | assumption) (by rw [Nat.zero_add]; rfl) (by omega)
  · exfalso; obtain ⟨_, _, hc28⟩ := hp1; omega
