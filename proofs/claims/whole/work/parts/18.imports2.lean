set_option maxHeartbeats 4000000 in
set_option maxRecDepth 100000 in
/-- Table.passByKey -/
theorem c_X7_passByKey (l : Launch) (D : va_G) (cy : Nat → ClassId) (tb : Nat) (nz : Nat) (tl : Nat) (pg : Nat) (se : Nat) (pa : Nat) (bo : Nat) (li : Nat) (ba : Nat) (cols : Nat) (lc : Nat) (smp : Nat) (lnf : Nat → Option Nat) (io : Nat) (a0 : Nat) (a1 : Nat) (a2 : Nat) (a3 : Nat) (a4 : Nat) (a5 : Nat) (st : Nat → Nat) (fa : Nat → Int32) (ca : Nat → Int32) (dc : Nat → Int32) (rl : Nat → Int32) (lr : Nat → Nat) (mk : Nat) (rs : Nat) (ky : Int32) (ld : LD) (pl : va_W) (kq : Nat) (ln : Nat) (hcols : cols ≤ 5) (hlc : lc ≤ 24) (hTL : TbL cy pl lc lnf ld) (hfm : ∀ k i, dFm ld k i ≤ 4) (hkq : kq < lc) (hka : lnf kq = some ln) (hnf : dNf ld kq = cols) (hmk : mk < 24) (hrs : rs ≤ mk) (hst : ∀ k, st k ≤ 4) (hlr : ∀ r, r < rs → lr r < lc ∧ dNf ld (lr r) = cols) : xMet l D cy xT yX7_passByKey wsX7_passByKey ({ frames := 4, cells := 0, slots := 0, locals := 500 } : Room) [.ref tb, .ref ln, .ref io] [(tb, .inr (6, [.ref nz, .ref tl, .ref pg, .ref se, .ref pa, .ref bo, .ref li, .ref ba, .int (nI cols), .int (nI lc), .int (nI smp)])), (li, .inl (cy 4, 24, .inr (.inr (.inr (.inr lnf))))), (io, .inr (4, [.ref a0, .ref a1, .ref a2, .ref a3, .ref a4, .ref a5, .int (nI mk), .int (nI rs), .int (ky)])), (a0, .inl (cy 1, 5, .inl (fun k => nI (st k)))), (a1, .inl (cy 1, 24, .inl fa)), (a2, .inl (cy 1, 24, .inl ca)), (a3, .inl (cy 1, 24, .inl dc)), (a4, .inl (cy 1, 24, .inl rl)), (a5, .inl (cy 1, 24, .inl (fun k => nI (lr k))))] pl (fun (v9 : Option Value) (w9 : va_W) => (v9 = some (.int (nI 0)) ∧ w9 = [(tb, .inr (6, [.ref nz, .ref tl, .ref pg, .ref se, .ref pa, .ref bo, .ref li, .ref ba, .int (nI cols), .int (nI lc), .int (nI smp)])), (li, .inl (cy 4, 24, .inr (.inr (.inr (.inr lnf))))), (io, .inr (4, [.ref a0, .ref a1, .ref a2, .ref a3, .ref a4, .ref a5, .int (nI mk), .int (nI rs), .int (ky)])), (a0, .inl (cy 1, 5, .inl (fun k => nI (st k)))), (a1, .inl (cy 1, 24, .inl fa)), (a2, .inl (cy 1, 24, .inl ca)), (a3, .inl (cy 1, 24, .inl dc)), (a4, .inl (cy 1, 24, .inl rl)), (a5, .inl (cy 1, 24, .inl (fun k => nI (lr k))))] ∧ (ky.toInt < 0 ∨ cols ≤ ky.toInt)) ∨ (v9 = some (.int (nI 1)) ∧ w9 = [(tb, .inr (6, [.ref nz, .ref tl, .ref pg, .ref se, .ref pa, .ref bo, .ref li, .ref ba, .int (nI cols), .int (nI lc), .int (nI smp)])), (li, .inl (cy 4, 24, .inr (.inr (.inr (.inr lnf))))), (io, .inr (4, [.ref a0, .ref a1, .ref a2, .ref a3, .ref a4, .ref a5, .int (nI (mk + 1)), .int (nI rs), .int (ky)])), (a0, .inl (cy 1, 5, .inl (fun k => nI (st k)))), (a1, .inl (cy 1, 24, .inl (va_up fa mk (nI 4)))), (a2, .inl (cy 1, 24, .inl (va_up ca mk (-5)))), (a3, .inl (cy 1, 24, .inl (va_up dc mk (-5)))), (a4, .inl (cy 1, 24, .inl (va_up rl mk (-5)))), (a5, .inl (cy 1, 24, .inl (fun k => nI (lr k))))] ∧ 0 ≤ ky.toInt ∧ ky.toInt < cols ∧ dFm ld kq ky.toInt.toNat = 0) ∨ (v9 = some (.int (nI 1)) ∧ w9 = [(tb, .inr (6, [.ref nz, .ref tl, .ref pg, .ref se, .ref pa, .ref bo, .ref li, .ref ba, .int (nI cols), .int (nI lc), .int (nI smp)])), (li, .inl (cy 4, 24, .inr (.inr (.inr (.inr lnf))))), (io, .inr (4, [.ref a0, .ref a1, .ref a2, .ref a3, .ref a4, .ref a5, .int (nI (mk + 1)), .int (nI rs), .int (ky)])), (a0, .inl (cy 1, 5, .inl (fun k => nI (st k)))), (a1, .inl (cy 1, 24, .inl (va_up fa mk (nI 5)))), (a2, .inl (cy 1, 24, .inl (va_up ca mk (nI (30 + lr (dpS ld st lr ky.toInt.toNat kq rs)))))), (a3, .inl (cy 1, 24, .inl (va_up dc mk (-5)))), (a4, .inl (cy 1, 24, .inl (va_up rl mk (-5)))), (a5, .inl (cy 1, 24, .inl (fun k => nI (lr k))))] ∧ 0 ≤ ky.toInt ∧ ky.toInt < cols ∧ ¬ dFm ld kq ky.toInt.toNat = 0 ∧ dpS ld st lr ky.toInt.toNat kq rs < rs) ∨ (v9 = some (.int (nI 0)) ∧ w9 = [(tb, .inr (6, [.ref nz, .ref tl, .ref pg, .ref se, .ref pa, .ref bo, .ref li, .ref ba, .int (nI cols), .int (nI lc), .int (nI smp)])), (li, .inl (cy 4, 24, .inr (.inr (.inr (.inr lnf))))), (io, .inr (4, [.ref a0, .ref a1, .ref a2, .ref a3, .ref a4, .ref a5, .int (nI mk), .int (nI rs), .int (ky)])), (a0, .inl (cy 1, 5, .inl (fun k => nI (st k)))), (a1, .inl (cy 1, 24, .inl fa)), (a2, .inl (cy 1, 24, .inl ca)), (a3, .inl (cy 1, 24, .inl dc)), (a4, .inl (cy 1, 24, .inl rl)), (a5, .inl (cy 1, 24, .inl (fun k => nI (lr k))))] ∧ 0 ≤ ky.toInt ∧ ky.toInt < cols ∧ ¬ dFm ld kq ky.toInt.toNat = 0 ∧ dpS ld st lr ky.toInt.toNat kq rs = rs)) := by
  refine xMet_of (cc := cX7_passByKey) (maxL := 5) (ret := (some .boolean)) (by decide) rfl (Nat.le_of_ble_eq_true rfl) (fun p e s m args below meth c A R Q hA hR hQ C hr hnm hro hX => ?_)
  have hw0 : ∀ w ∈ u_ws RX5 TX5 9, w ∈ wsX7_passByKey := by decide +kernel
  have hw1 : Cond.fieldLink RX7 82 (TX5 8).1 (TX5 8).2.1 (TX5 8).2.2.1 ∈ wsX7_passByKey := by decide +kernel
  have hw2 : ∀ w ∈ u_ws RX1 TX1 4, w ∈ wsX7_passByKey := by decide +kernel
  have hw3 : Cond.fieldLink RX7 122 (TX1 1).1 (TX1 1).2.1 (TX1 1).2.2.1 ∈ wsX7_passByKey := by decide +kernel
  refine x_L (L' := [(0, .ref tb), (1, .ref ln), (2, .ref io)]) [0, 1, 2] rfl ?_
  have hpool : ∀ q ∈ pl, xRo D A s q := hro
  obtain ⟨a9k, fak, adk, gAk, gBk, gCk, gDk, gEk⟩ := hTL kq hkq
  obtain rfl : ln = a9k := Option.some.inj (hka.symm.trans gAk)
  refine x_aload_n C dX7_passByKey_0 (q := 1) rfl rfl 0 rfl ?_
  refine x_aload_n C dX7_passByKey_1 (q := 2) rfl rfl 2 rfl ?_
  refine x_get C (ci := 4) (v := .int (ky)) hw0 2 rfl rfl 8 (by decide) hw1 rfl dX7_passByKey_2 (q := 5) rfl ?_
  refine x_callV C (roW := [(tb, .inr (6, [.ref nz, .ref tl, .ref pg, .ref se, .ref pa, .ref bo, .ref li, .ref ba, .int (nI cols), .int (nI lc), .int (nI smp)]))]) (roR := []) (c_X7_hasColumn l D cy tb nz tl pg se pa bo li ba cols lc smp ky (by first | assumption | omega | (simp only []; omega)) (by first | assumption | omega | (simp only []; omega))) (cwV 1 C.2.2.2.2.1 gX7_passByKey_X7_hasColumn rfl rfl rfl (by decide +kernel) (by rw [hR]; exact ⟨Nat.le_of_ble_eq_true rfl, Nat.le_of_ble_eq_true rfl⟩)) [] [0] rfl (by decide) rfl (by decide) xro_nil (List.mem_of_getElem? (i := 0) rfl) (ci := 6) rfl xT_bl (fun _ _ _ _ _ _ _ => trivial) rfl rfl dX7_passByKey_5 rfl rfl (Nat.le_of_ble_eq_true rfl) (q := 8) rfl (k' := 0) rfl (n' := 0) rfl (by rw [hR]; exact ⟨Nat.le_of_ble_eq_true rfl, Nat.le_of_ble_eq_true rfl⟩) (fun v1 w1 hp1 => ?_)
  rcases hp1 with hp1 | hp1
  · skip
    obtain ⟨rfl, rfl, hc2, hc3⟩ := hp1
    refine x_ws (ws' := [(tb, .inr (6, [.ref nz, .ref tl, .ref pg, .ref se, .ref pa, .ref bo, .ref li, .ref ba, .int (nI cols), .int (nI lc), .int (nI smp)])), (li, .inl (cy 4, 24, .inr (.inr (.inr (.inr lnf))))), (io, .inr (4, [.ref a0, .ref a1, .ref a2, .ref a3, .ref a4, .ref a5, .int (nI mk), .int (nI rs), .int (ky)])), (a0, .inl (cy 1, 5, .inl (fun k => nI (st k)))), (a1, .inl (cy 1, 24, .inl fa)), (a2, .inl (cy 1, 24, .inl ca)), (a3, .inl (cy 1, 24, .inl dc)), (a4, .inl (cy 1, 24, .inl rl)), (a5, .inl (cy 1, 24, .inl (fun k => nI (lr k))))]) (List.append_nil _) ?_
    refine x_if_ne C (tgt := 13) dX7_passByKey_8 (by decide) (q := 11) rfl (a := 1) rfl (fun h4 => ?_) (fun h4 => (by omega : False).elim)
    refine x_aload_n C dX7_passByKey_13 (q := 14) rfl rfl 1 rfl ?_
    refine x_aload_n C dX7_passByKey_14 (q := 15) rfl rfl 2 rfl ?_
    refine x_get C (ci := 4) (v := .int (ky)) hw0 2 rfl rfl 8 (by decide) hw1 rfl dX7_passByKey_15 (q := 18) rfl ?_
    refine x_callV C (roW := []) (roR := [(ln, .inr (3, [.ref fak])), (fak, .inl (cy 3, dNf ld kq, .inr (.inr (.inr (.inr adk)))))]) (c_X4_fieldAt l D cy ln fak (dNf ld kq) adk ky (by omega) (by exact LnG.some (by assumption))) (cwV 1 C.2.2.2.2.1 gX7_passByKey_X4_fieldAt rfl rfl rfl (by decide +kernel) (by rw [hR]; exact ⟨Nat.le_of_ble_eq_true rfl, Nat.le_of_ble_eq_true rfl⟩)) [] [] rfl (by decide) rfl (by decide) (xro_cons (hpool _ gBk) (xro_cons (hpool _ gCk) xro_nil)) (List.mem_of_getElem? (i := 0) rfl) (ci := 3) rfl xT_bl (fun _ _ _ _ _ _ _ => trivial) rfl rfl dX7_passByKey_18 rfl rfl (Nat.le_of_ble_eq_true rfl) (q := 21) rfl (k' := 0) rfl (n' := 0) rfl (by rw [hR]; exact ⟨Nat.le_of_ble_eq_true rfl, Nat.le_of_ble_eq_true rfl⟩) (fun v5 w5 hp5 => ?_)
    rcases hp5 with hp5 | hp5
    · skip
      obtain ⟨q_6, rfl, rfl, hc7, hc8, hc9⟩ := hp5
      refine x_ws (ws' := [(tb, .inr (6, [.ref nz, .ref tl, .ref pg, .ref se, .ref pa, .ref bo, .ref li, .ref ba, .int (nI cols), .int (nI lc), .int (nI smp)])), (li, .inl (cy 4, 24, .inr (.inr (.inr (.inr lnf))))), (io, .inr (4, [.ref a0, .ref a1, .ref a2, .ref a3, .ref a4, .ref a5, .int (nI mk), .int (nI rs), .int (ky)])), (a0, .inl (cy 1, 5, .inl (fun k => nI (st k)))), (a1, .inl (cy 1, 24, .inl fa)), (a2, .inl (cy 1, 24, .inl ca)), (a3, .inl (cy 1, 24, .inl dc)), (a4, .inl (cy 1, 24, .inl rl)), (a5, .inl (cy 1, 24, .inl (fun k => nI (lr k))))]) (List.append_nil _) ?_
      obtain ⟨q910, sg10, kA10, kB10, kC10⟩ := gEk ky.toInt.toNat (by omega)
      obtain rfl : q_6 = q910 := Option.some.inj (hc9.symm.trans kA10)
      have hf910 := hfm kq ky.toInt.toNat
      refine x_astore_n C (L' := [(3, .ref q_6), (0, .ref tb), (1, .ref ln), (2, .ref io)]) dX7_passByKey_21 (q := 22) rfl rfl (by decide) rfl ?_
      refine x_aload_n C dX7_passByKey_22 (q := 23) rfl rfl 0 rfl ?_
      refine x_ifnonnull C (tgt := 28) dX7_passByKey_23 (by decide) ?_
      refine x_aload_n C dX7_passByKey_28 (q := 29) rfl rfl 0 rfl ?_
      refine x_getR C (ci := 0) (v := .int (nI (dFm ld kq ky.toInt.toNat))) hw2 (hpool _ kB10) rfl 1 (by decide) hw3 rfl dX7_passByKey_29 (q := 32) rfl ?_
      refine x_if_ne C (tgt := 46) dX7_passByKey_32 (by decide) (q := 35) rfl (a := ((dFm ld kq ky.toInt.toNat : Nat) : Int)) (nI_toInt (by omega)) (fun h11 => ?_) (fun h11 => ?_)
      · first
        | (exfalso; omega)
        |
          refine x_aload_n C dX7_passByKey_46 (q := 47) rfl rfl 1 rfl ?_
          refine x_aload_n C dX7_passByKey_47 (q := 48) rfl rfl 0 rfl ?_
          refine x_aload_n C dX7_passByKey_48 (q := 49) rfl rfl 3 rfl ?_
          refine x_callV C (roW := []) (roR := pl) (c_X7_lineWithKeyOf l D cy tb nz tl pg se pa bo li ba cols lc smp lnf io a0 a1 a2 a3 a4 a5 st fa ca dc rl lr mk rs ky ld pl kq q_6 sg10 (by first | assumption | omega | (simp only []; omega)) (by first | assumption | omega | (simp only []; omega)) (by assumption) (by assumption) (by first | assumption | omega | (simp only []; omega)) (by first | assumption | omega | (simp only []; omega)) (by assumption) (by assumption) (by first | assumption | omega | (simp only []; omega)) (by first | assumption | omega | (simp only []; omega)) (by assumption)) (cwV 2 C.2.2.2.2.1 gX7_passByKey_X7_lineWithKeyOf rfl rfl rfl (by decide +kernel) (by rw [hR]; exact ⟨Nat.le_of_ble_eq_true rfl, Nat.le_of_ble_eq_true rfl⟩)) [0, 1, 2, 3, 4, 5, 6, 7, 8] [] rfl (by decide) rfl (by decide) hpool (List.mem_of_getElem? (i := 0) rfl) (ci := 6) rfl xT_bl (fun _ _ _ _ _ _ _ => trivial) rfl rfl dX7_passByKey_49 rfl rfl (Nat.le_of_ble_eq_true rfl) (q := 52) rfl (k' := 0) rfl (n' := 0) rfl (by rw [hR]; exact ⟨Nat.le_of_ble_eq_true rfl, Nat.le_of_ble_eq_true rfl⟩) (fun v12 w12 hp12 => ?_)
          rcases hp12 with hp12 | hp12
          · skip
            obtain ⟨rfl, rfl, hc13⟩ := hp12
            refine x_ws (ws' := [(tb, .inr (6, [.ref nz, .ref tl, .ref pg, .ref se, .ref pa, .ref bo, .ref li, .ref ba, .int (nI cols), .int (nI lc), .int (nI smp)])), (li, .inl (cy 4, 24, .inr (.inr (.inr (.inr lnf))))), (io, .inr (4, [.ref a0, .ref a1, .ref a2, .ref a3, .ref a4, .ref a5, .int (nI mk), .int (nI rs), .int (ky)])), (a0, .inl (cy 1, 5, .inl (fun k => nI (st k)))), (a1, .inl (cy 1, 24, .inl fa)), (a2, .inl (cy 1, 24, .inl ca)), (a3, .inl (cy 1, 24, .inl dc)), (a4, .inl (cy 1, 24, .inl rl)), (a5, .inl (cy 1, 24, .inl (fun k => nI (lr k))))]) rfl ?_
            have hlr9 := hlr (dpS ld st lr ky.toInt.toNat kq rs) (by omega)
            refine x_istore C (L' := [(4, .int (nI (lr (dpS ld st lr ky.toInt.toNat kq rs)))), (3, .ref q_6), (0, .ref tb), (1, .ref ln), (2, .ref io)]) dX7_passByKey_52 (q := 54) rfl (by decide) rfl ?_
            refine x_iload C dX7_passByKey_54 (q := 56) rfl 0 rfl ?_
            refine x_bipush C dX7_passByKey_56 (q := 58) rfl (v := (-5)) (by decide) ?_
            refine x_icmp_ne C (tgt := 63) dX7_passByKey_58 (by decide) (q := 61) rfl (a := ((lr (dpS ld st lr ky.toInt.toNat kq rs) : Nat) : Int)) (b := (-5)) (nI_toInt (by omega)) rfl (fun h14 => ?_) (fun h14 => ?_)
            · first
              | (exfalso; omega)
              |
                refine x_aload_n C dX7_passByKey_63 (q := 64) rfl rfl 4 rfl ?_
                refine x_iconst C dX7_passByKey_64 (q := 65) rfl (v := nI 5) (by decide) ?_
                refine x_bipush C dX7_passByKey_65 (q := 67) rfl (v := nI 30) (by decide) ?_
                refine x_iload C dX7_passByKey_67 (q := 69) rfl 0 rfl ?_
                refine x_iadd C dX7_passByKey_69 (q := 70) rfl (z := nI (30 + (lr (dpS ld st lr ky.toInt.toNat kq rs)))) (nI_add 30 (lr (dpS ld st lr ky.toInt.toNat kq rs))) ?_
                refine x_bipush C dX7_passByKey_70 (q := 72) rfl (v := (-5)) (by decide) ?_
                refine x_callV C (roW := []) (roR := []) (c_X5_passFault l D cy io a0 a1 a2 a3 a4 a5 st fa ca dc rl lr mk rs ky (nI 5) (nI (30 + (lr (dpS ld st lr ky.toInt.toNat kq rs)))) (-5) (by first | assumption | omega | (simp only []; omega))) (cwV 3 C.2.2.2.2.1 gX7_passByKey_X5_passFault rfl rfl rfl (by decide +kernel) (by rw [hR]; exact ⟨Nat.le_of_ble_eq_true rfl, Nat.le_of_ble_eq_true rfl⟩)) [2, 3, 4, 5, 6, 7, 8] [] rfl (by decide) rfl (by decide) xro_nil (List.mem_of_getElem? (i := 0) rfl) (ci := 4) rfl xT_bl (fun _ _ _ _ _ _ _ => trivial) rfl rfl dX7_passByKey_72 rfl rfl (Nat.le_of_ble_eq_true rfl) (q := 75) rfl (k' := 0) rfl (n' := 0) rfl (by rw [hR]; exact ⟨Nat.le_of_ble_eq_true rfl, Nat.le_of_ble_eq_true rfl⟩) (fun v15 w15 hp15 => ?_)
                obtain ⟨rfl, rfl⟩ := hp15
                refine x_ws (ws' := [(tb, .inr (6, [.ref nz, .ref tl, .ref pg, .ref se, .ref pa, .ref bo, .ref li, .ref ba, .int (nI cols), .int (nI lc), .int (nI smp)])), (li, .inl (cy 4, 24, .inr (.inr (.inr (.inr lnf))))), (io, .inr (4, [.ref a0, .ref a1, .ref a2, .ref a3, .ref a4, .ref a5, .int (nI (mk + 1)), .int (nI rs), .int (ky)])), (a0, .inl (cy 1, 5, .inl (fun k => nI (st k)))), (a1, .inl (cy 1, 24, .inl (va_up fa mk (nI 5)))), (a2, .inl (cy 1, 24, .inl (va_up ca mk (nI (30 + (lr (dpS ld st lr ky.toInt.toNat kq rs))))))), (a3, .inl (cy 1, 24, .inl (va_up dc mk (-5)))), (a4, .inl (cy 1, 24, .inl (va_up rl mk (-5)))), (a5, .inl (cy 1, 24, .inl (fun k => nI (lr k))))]) rfl ?_
                refine x_iconst C dX7_passByKey_75 (q := 76) rfl (v := nI 1) (by decide) ?_
                refine x_zret C hA hQ hr (ty := .boolean) (by first | rfl | assumption | exact xz_nar _) dX7_passByKey_76 (Nat.le_of_ble_eq_true rfl) ?_
                exact Or.inr (Or.inr (Or.inl ⟨rfl, rfl, by omega, by omega, by omega, by omega⟩))
            · first
              | (exfalso; omega)
              |
                refine x_iconst C dX7_passByKey_61 (q := 62) rfl (v := nI 0) (by decide) ?_
                refine x_zret C hA hQ hr (ty := .boolean) (by first | rfl | assumption | exact xz_nar _) dX7_passByKey_62 (Nat.le_of_ble_eq_true rfl) ?_
                exact Or.inr (Or.inr (Or.inr ⟨rfl, rfl, by omega, by omega, by omega, by omega⟩))
          · skip
            obtain ⟨rfl, rfl, hc16⟩ := hp12
            refine x_ws (ws' := [(tb, .inr (6, [.ref nz, .ref tl, .ref pg, .ref se, .ref pa, .ref bo, .ref li, .ref ba, .int (nI cols), .int (nI lc), .int (nI smp)])), (li, .inl (cy 4, 24, .inr (.inr (.inr (.inr lnf))))), (io, .inr (4, [.ref a0, .ref a1, .ref a2, .ref a3, .ref a4, .ref a5, .int (nI mk), .int (nI rs), .int (ky)])), (a0, .inl (cy 1, 5, .inl (fun k => nI (st k)))), (a1, .inl (cy 1, 24, .inl fa)), (a2, .inl (cy 1, 24, .inl ca)), (a3, .inl (cy 1, 24, .inl dc)), (a4, .inl (cy 1, 24, .inl rl)), (a5, .inl (cy 1, 24, .inl (fun k => nI (lr k))))]) rfl ?_
            refine x_istore C (L' := [(4, .int (-5)), (3, .ref q_6), (0, .ref tb), (1, .ref ln), (2, .ref io)]) dX7_passByKey_52 (q := 54) rfl (by decide) rfl ?_
            refine x_iload C dX7_passByKey_54 (q := 56) rfl 0 rfl ?_
            refine x_bipush C dX7_passByKey_56 (q := 58) rfl (v := (-5)) (by decide) ?_
            refine x_icmp_ne C (tgt := 63) dX7_passByKey_58 (by decide) (q := 61) rfl (a := (-5)) (b := (-5)) rfl rfl (fun h17 => (by omega : False).elim) (fun h17 => ?_)
            refine x_iconst C dX7_passByKey_61 (q := 62) rfl (v := nI 0) (by decide) ?_
            refine x_zret C hA hQ hr (ty := .boolean) (by first | rfl | assumption | exact xz_nar _) dX7_passByKey_62 (Nat.le_of_ble_eq_true rfl) ?_
            exact Or.inr (Or.inr (Or.inr ⟨rfl, rfl, by omega, by omega, by omega, by omega⟩))
      · first
        | (exfalso; omega)
        |
          refine x_aload_n C dX7_passByKey_35 (q := 36) rfl rfl 3 rfl ?_
          refine x_iconst C dX7_passByKey_36 (q := 37) rfl (v := nI 4) (by decide) ?_
          refine x_bipush C dX7_passByKey_37 (q := 39) rfl (v := (-5)) (by decide) ?_
          refine x_bipush C dX7_passByKey_39 (q := 41) rfl (v := (-5)) (by decide) ?_
          refine x_callV C (roW := []) (roR := []) (c_X5_passFault l D cy io a0 a1 a2 a3 a4 a5 st fa ca dc rl lr mk rs ky (nI 4) (-5) (-5) (by first | assumption | omega | (simp only []; omega))) (cwV 3 C.2.2.2.2.1 gX7_passByKey_X5_passFault rfl rfl rfl (by decide +kernel) (by rw [hR]; exact ⟨Nat.le_of_ble_eq_true rfl, Nat.le_of_ble_eq_true rfl⟩)) [2, 3, 4, 5, 6, 7, 8] [] rfl (by decide) rfl (by decide) xro_nil (List.mem_of_getElem? (i := 0) rfl) (ci := 4) rfl xT_bl (fun _ _ _ _ _ _ _ => trivial) rfl rfl dX7_passByKey_41 rfl rfl (Nat.le_of_ble_eq_true rfl) (q := 44) rfl (k' := 0) rfl (n' := 0) rfl (by rw [hR]; exact ⟨Nat.le_of_ble_eq_true rfl, Nat.le_of_ble_eq_true rfl⟩) (fun v18 w18 hp18 => ?_)
          obtain ⟨rfl, rfl⟩ := hp18
          refine x_ws (ws' := [(tb, .inr (6, [.ref nz, .ref tl, .ref pg, .ref se, .ref pa, .ref bo, .ref li, .ref ba, .int (nI cols), .int (nI lc), .int (nI smp)])), (li, .inl (cy 4, 24, .inr (.inr (.inr (.inr lnf))))), (io, .inr (4, [.ref a0, .ref a1, .ref a2, .ref a3, .ref a4, .ref a5, .int (nI (mk + 1)), .int (nI rs), .int (ky)])), (a0, .inl (cy 1, 5, .inl (fun k => nI (st k)))), (a1, .inl (cy 1, 24, .inl (va_up fa mk (nI 4)))), (a2, .inl (cy 1, 24, .inl (va_up ca mk (-5)))), (a3, .inl (cy 1, 24, .inl (va_up dc mk (-5)))), (a4, .inl (cy 1, 24, .inl (va_up rl mk (-5)))), (a5, .inl (cy 1, 24, .inl (fun k => nI (lr k))))]) rfl ?_
          refine x_iconst C dX7_passByKey_44 (q := 45) rfl (v := nI 1) (by decide) ?_
          refine x_zret C hA hQ hr (ty := .boolean) (by first | rfl | assumption | exact xz_nar _) dX7_passByKey_45 (Nat.le_of_ble_eq_true rfl) ?_
          exact Or.inr (Or.inl ⟨rfl, rfl, by omega, by omega, by omega⟩)
    · exfalso; obtain ⟨_, _, hc19⟩ := hp5; omega
  · skip
    obtain ⟨rfl, rfl, hc20⟩ := hp1
    refine x_ws (ws' := [(tb, .inr (6, [.ref nz, .ref tl, .ref pg, .ref se, .ref pa, .ref bo, .ref li, .ref ba, .int (nI cols), .int (nI lc), .int (nI smp)])), (li, .inl (cy 4, 24, .inr (.inr (.inr (.inr lnf))))), (io, .inr (4, [.ref a0, .ref a1, .ref a2, .ref a3, .ref a4, .ref a5, .int (nI mk), .int (nI rs), .int (ky)])), (a0, .inl (cy 1, 5, .inl (fun k => nI (st k)))), (a1, .inl (cy 1, 24, .inl fa)), (a2, .inl (cy 1, 24, .inl ca)), (a3, .inl (cy 1, 24, .inl dc)), (a4, .inl (cy 1, 24, .inl rl)), (a5, .inl (cy 1, 24, .inl (fun k => nI (lr k))))]) (List.append_nil _) ?_
    refine x_if_ne C (tgt := 13) dX7_passByKey_8 (by decide) (q := 11) rfl (a := 0) rfl (fun h21 => (by omega : False).elim) (fun h21 => ?_)
    refine x_iconst C dX7_passByKey_11 (q := 12) rfl (v := nI 0) (by decide) ?_
    refine x_zret C hA hQ hr (ty := .boolean) (by first | rfl | assumption | exact xz_nar _) dX7_passByKey_12 (Nat.le_of_ble_eq_true rfl) ?_
    exact Or.inl ⟨rfl, rfl, by omega⟩

set_option maxHeartbeats 4000000 in
set_option maxRecDepth 100000 in
/-- Table.importNext -/
theorem c_X7_importNext (l : Launch) (D : va_G) (cy : Nat → ClassId) (tb : Nat) (nz : Nat) (tl : Nat) (pg : Nat) (se : Nat) (pa : Nat) (bo : Nat) (li : Nat) (ba : Nat) (cols : Nat) (lc : Nat) (smp : Nat) (lnf : Nat → Option Nat) (io : Nat) (a0 : Nat) (a1 : Nat) (a2 : Nat) (a3 : Nat) (a4 : Nat) (a5 : Nat) (st : Nat → Nat) (fa : Nat → Int32) (ca : Nat → Int32) (dc : Nat → Int32) (rl : Nat → Int32) (lr : Nat → Nat) (mk : Nat) (rs : Nat) (ky : Int32) (ld : LD) (pl : va_W) (hcols : cols ≤ 5) (hlc : lc ≤ 24) (hTL : TbL cy pl lc lnf ld) (hfm : ∀ k i, dFm ld k i ≤ 4) (hmk : mk < 24) (hrs : rs ≤ mk) (hst : ∀ k, st k ≤ 4) (hlr : ∀ r, r < rs → lr r < lc ∧ dNf ld (lr r) = cols) (hml : mk < lc) : xMet l D cy xT yX7_importNext wsX7_importNext ({ frames := 5, cells := 0, slots := 0, locals := 700 } : Room) [.ref tb, .ref io] [(tb, .inr (6, [.ref nz, .ref tl, .ref pg, .ref se, .ref pa, .ref bo, .ref li, .ref ba, .int (nI cols), .int (nI lc), .int (nI smp)])), (li, .inl (cy 4, 24, .inr (.inr (.inr (.inr lnf))))), (io, .inr (4, [.ref a0, .ref a1, .ref a2, .ref a3, .ref a4, .ref a5, .int (nI mk), .int (nI rs), .int (ky)])), (a0, .inl (cy 1, 5, .inl (fun k => nI (st k)))), (a1, .inl (cy 1, 24, .inl fa)), (a2, .inl (cy 1, 24, .inl ca)), (a3, .inl (cy 1, 24, .inl dc)), (a4, .inl (cy 1, 24, .inl rl)), (a5, .inl (cy 1, 24, .inl (fun k => nI (lr k))))] pl (fun (v9 : Option Value) (w9 : va_W) => (∃ x : Int32, ∃ y : Int32, ∃ z : Int32, v9 = none ∧ w9 = [(tb, .inr (6, [.ref nz, .ref tl, .ref pg, .ref se, .ref pa, .ref bo, .ref li, .ref ba, .int (nI cols), .int (nI lc), .int (nI smp)])), (li, .inl (cy 4, 24, .inr (.inr (.inr (.inr lnf))))), (io, .inr (4, [.ref a0, .ref a1, .ref a2, .ref a3, .ref a4, .ref a5, .int (nI (mk + 1)), .int (nI rs), .int (ky)])), (a0, .inl (cy 1, 5, .inl (fun k => nI (st k)))), (a1, .inl (cy 1, 24, .inl (va_up fa mk x))), (a2, .inl (cy 1, 24, .inl (va_up ca mk y))), (a3, .inl (cy 1, 24, .inl (va_up dc mk z))), (a4, .inl (cy 1, 24, .inl (va_up rl mk (-5)))), (a5, .inl (cy 1, 24, .inl (fun k => nI (lr k))))] ∧ ftS ld cols st lr rs ky.toInt mk = (x, y, z) ∧ ¬ x = -5) ∨ (v9 = none ∧ w9 = [(tb, .inr (6, [.ref nz, .ref tl, .ref pg, .ref se, .ref pa, .ref bo, .ref li, .ref ba, .int (nI cols), .int (nI lc), .int (nI smp)])), (li, .inl (cy 4, 24, .inr (.inr (.inr (.inr lnf))))), (io, .inr (4, [.ref a0, .ref a1, .ref a2, .ref a3, .ref a4, .ref a5, .int (nI (mk + 1)), .int (nI (rs + 1)), .int (ky)])), (a0, .inl (cy 1, 5, .inl (fun k => nI (st k)))), (a1, .inl (cy 1, 24, .inl (va_up fa mk (-5)))), (a2, .inl (cy 1, 24, .inl (va_up ca mk (-5)))), (a3, .inl (cy 1, 24, .inl (va_up dc mk (-5)))), (a4, .inl (cy 1, 24, .inl (va_up rl mk (nI rs)))), (a5, .inl (cy 1, 24, .inl (fun k => nI ((va_up lr rs mk) k))))] ∧ ftS ld cols st lr rs ky.toInt mk = (-5, -5, -5))) := by
  refine xMet_of (cc := cX7_importNext) (maxL := 3) (ret := none) (by decide) rfl (Nat.le_of_ble_eq_true rfl) (fun p e s m args below meth c A R Q hA hR hQ C hr hnm hro hX => ?_)
  have hw0 : ∀ w ∈ u_ws RX5 TX5 9, w ∈ wsX7_importNext := by decide +kernel
  have hw1 : Cond.fieldLink RX7 127 (TX5 6).1 (TX5 6).2.1 (TX5 6).2.2.1 ∈ wsX7_importNext := by decide +kernel
  have hw2 : ∀ w ∈ u_ws RX4 TX4 1, w ∈ wsX7_importNext := by decide +kernel
  have hw3 : Cond.fieldLink RX7 151 (TX4 0).1 (TX4 0).2.1 (TX4 0).2.2.1 ∈ wsX7_importNext := by decide +kernel
  have hw4 : ∀ w ∈ u_ws RX7 TX7 11, w ∈ wsX7_importNext := by decide +kernel
  have hw5 : Cond.fieldLink RX7 49 (TX7 8).1 (TX7 8).2.1 (TX7 8).2.2.1 ∈ wsX7_importNext := by decide +kernel
  refine x_L (L' := [(0, .ref tb), (1, .ref io)]) [0, 1] rfl ?_
  have hpool : ∀ q ∈ pl, xRo D A s q := hro
  refine x_aload_n C dX7_importNext_0 (q := 1) rfl rfl 0 rfl ?_
  refine x_aload_n C dX7_importNext_1 (q := 2) rfl rfl 1 rfl ?_
  refine x_get C (ci := 4) (v := .int (nI mk)) hw0 2 rfl rfl 6 (by decide) hw1 rfl dX7_importNext_2 (q := 5) rfl ?_
  refine x_callV C (roW := [(tb, .inr (6, [.ref nz, .ref tl, .ref pg, .ref se, .ref pa, .ref bo, .ref li, .ref ba, .int (nI cols), .int (nI lc), .int (nI smp)])), (li, .inl (cy 4, 24, .inr (.inr (.inr (.inr lnf)))))]) (roR := []) (c_X7_lineAt_n l D cy tb nz tl pg se pa bo li ba cols lc smp lnf mk (by first | assumption | omega | (simp only []; omega)) (by first | assumption | omega | (simp only []; omega)) (by exact hTL.some) (by first | assumption | omega | (simp only []; omega))) (cwV 1 C.2.2.2.2.1 gX7_importNext_X7_lineAt rfl rfl rfl (by decide +kernel) (by rw [hR]; exact ⟨Nat.le_of_ble_eq_true rfl, Nat.le_of_ble_eq_true rfl⟩)) [] [0, 1] rfl (by decide) rfl (by decide) xro_nil (List.mem_of_getElem? (i := 0) rfl) (ci := 6) rfl xT_bl (fun _ _ _ _ _ _ _ => trivial) rfl rfl dX7_importNext_5 rfl rfl (Nat.le_of_ble_eq_true rfl) (q := 8) rfl (k' := 0) rfl (n' := 0) rfl (by rw [hR]; exact ⟨Nat.le_of_ble_eq_true rfl, Nat.le_of_ble_eq_true rfl⟩) (fun v1 w1 hp1 => ?_)
  rcases hp1 with hp1 | hp1
  · skip
    obtain ⟨a_2, rfl, rfl, hc3, hc4⟩ := hp1
    refine x_ws (ws' := [(tb, .inr (6, [.ref nz, .ref tl, .ref pg, .ref se, .ref pa, .ref bo, .ref li, .ref ba, .int (nI cols), .int (nI lc), .int (nI smp)])), (li, .inl (cy 4, 24, .inr (.inr (.inr (.inr lnf))))), (io, .inr (4, [.ref a0, .ref a1, .ref a2, .ref a3, .ref a4, .ref a5, .int (nI mk), .int (nI rs), .int (ky)])), (a0, .inl (cy 1, 5, .inl (fun k => nI (st k)))), (a1, .inl (cy 1, 24, .inl fa)), (a2, .inl (cy 1, 24, .inl ca)), (a3, .inl (cy 1, 24, .inl dc)), (a4, .inl (cy 1, 24, .inl rl)), (a5, .inl (cy 1, 24, .inl (fun k => nI (lr k))))]) (List.append_nil _) ?_
    obtain ⟨a95, fa5, ad5, gA5, gB5, gC5, gD5, gE5⟩ := hTL mk (by omega)
    obtain rfl : a_2 = a95 := Option.some.inj (hc4.symm.trans gA5)
    refine x_astore_n C (L' := [(2, .ref a_2), (0, .ref tb), (1, .ref io)]) dX7_importNext_8 (q := 9) rfl rfl (by decide) rfl ?_
    refine x_aload_n C dX7_importNext_9 (q := 10) rfl rfl 0 rfl ?_
    refine x_ifnonnull C (tgt := 14) dX7_importNext_10 (by decide) ?_
    refine x_aload_n C dX7_importNext_14 (q := 15) rfl rfl 0 rfl ?_
    refine x_getR C (ci := 3) (v := .ref fa5) hw2 (hpool _ gB5) rfl 0 (by decide) hw3 rfl dX7_importNext_15 (q := 18) rfl ?_
    refine x_alenR C 3 (hpool _ gC5) rfl (v := nI (dNf ld mk)) rfl dX7_importNext_18 (q := 19) rfl ?_
    refine x_aload_n C dX7_importNext_19 (q := 20) rfl rfl 1 rfl ?_
    refine x_get C (ci := 6) (v := .int (nI cols)) hw4 0 rfl rfl 8 (by decide) hw5 rfl dX7_importNext_20 (q := 23) rfl ?_
    refine x_icmp_ge C (tgt := 38) dX7_importNext_23 (by decide) (q := 26) rfl (a := ((dNf ld mk : Nat) : Int)) (b := ((cols : Nat) : Int)) (nI_toInt (by omega)) (nI_toInt (by omega)) (fun h6 => ?_) (fun h6 => ?_)
    · first
      | (exfalso; omega)
      |
        refine x_aload_n C dX7_importNext_38 (q := 39) rfl rfl 0 rfl ?_
        refine x_getR C (ci := 3) (v := .ref fa5) hw2 (hpool _ gB5) rfl 0 (by decide) hw3 rfl dX7_importNext_39 (q := 42) rfl ?_
        refine x_alenR C 3 (hpool _ gC5) rfl (v := nI (dNf ld mk)) rfl dX7_importNext_42 (q := 43) rfl ?_
        refine x_aload_n C dX7_importNext_43 (q := 44) rfl rfl 1 rfl ?_
        refine x_get C (ci := 6) (v := .int (nI cols)) hw4 0 rfl rfl 8 (by decide) hw5 rfl dX7_importNext_44 (q := 47) rfl ?_
        refine x_icmp_le C (tgt := 62) dX7_importNext_47 (by decide) (q := 50) rfl (a := ((dNf ld mk : Nat) : Int)) (b := ((cols : Nat) : Int)) (nI_toInt (by omega)) (nI_toInt (by omega)) (fun h7 => ?_) (fun h7 => ?_)
        · first
          | (exfalso; omega)
          |
            refine x_aload_n C dX7_importNext_62 (q := 63) rfl rfl 1 rfl ?_
            refine x_aload_n C dX7_importNext_63 (q := 64) rfl rfl 0 rfl ?_
            refine x_aload_n C dX7_importNext_64 (q := 65) rfl rfl 2 rfl ?_
            refine x_callV C (roW := []) (roR := pl) (c_X7_passUnfit l D cy tb nz tl pg se pa bo li ba cols lc smp lnf io a0 a1 a2 a3 a4 a5 st fa ca dc rl lr mk rs ky ld pl mk a_2 (by first | assumption | omega | (simp only []; omega)) (by first | assumption | omega | (simp only []; omega)) (by assumption) (by assumption) (by first | assumption | omega | (simp only []; omega)) (by assumption) (by omega) (by first | assumption | omega | (simp only []; omega)) (by first | assumption | omega | (simp only []; omega)) (by assumption)) (cwV 2 C.2.2.2.2.1 gX7_importNext_X7_passUnfit rfl rfl rfl (by decide +kernel) (by rw [hR]; exact ⟨Nat.le_of_ble_eq_true rfl, Nat.le_of_ble_eq_true rfl⟩)) [0, 2, 3, 4, 5, 6, 7, 8] [] rfl (by decide) rfl (by decide) hpool (List.mem_of_getElem? (i := 0) rfl) (ci := 6) rfl xT_bl (fun _ _ _ _ _ _ _ => trivial) rfl rfl dX7_importNext_65 rfl rfl (Nat.le_of_ble_eq_true rfl) (q := 68) rfl (k' := 0) rfl (n' := 0) rfl (by rw [hR]; exact ⟨Nat.le_of_ble_eq_true rfl, Nat.le_of_ble_eq_true rfl⟩) (fun v8 w8 hp8 => ?_)
            rcases hp8 with hp8 | hp8
            · skip
              obtain ⟨rfl, rfl, hc9⟩ := hp8
              refine x_ws (ws' := [(tb, .inr (6, [.ref nz, .ref tl, .ref pg, .ref se, .ref pa, .ref bo, .ref li, .ref ba, .int (nI cols), .int (nI lc), .int (nI smp)])), (li, .inl (cy 4, 24, .inr (.inr (.inr (.inr lnf))))), (io, .inr (4, [.ref a0, .ref a1, .ref a2, .ref a3, .ref a4, .ref a5, .int (nI (mk + 1)), .int (nI rs), .int (ky)])), (a0, .inl (cy 1, 5, .inl (fun k => nI (st k)))), (a1, .inl (cy 1, 24, .inl (va_up fa mk (nI 3)))), (a2, .inl (cy 1, 24, .inl (va_up ca mk (nI (10 + ufS ld st cols mk))))), (a3, .inl (cy 1, 24, .inl (va_up dc mk (nI (20 + dFm ld mk (ufS ld st cols mk)))))), (a4, .inl (cy 1, 24, .inl (va_up rl mk (-5)))), (a5, .inl (cy 1, 24, .inl (fun k => nI (lr k))))]) rfl ?_
              refine x_if_ne C (tgt := 84) dX7_importNext_68 (by decide) (q := 71) rfl (a := 1) rfl (fun h10 => ?_) (fun h10 => (by omega : False).elim)
              refine x_vret C hA hQ hr dX7_importNext_84 (Nat.le_of_ble_eq_true rfl) ?_
              refine Or.inl ⟨(nI 3), (nI (10 + ufS ld st cols mk)), (nI (20 + dFm ld mk (ufS ld st cols mk))), rfl, rfl, ?_, by decide⟩
              unfold ftS
              repeat (first | rw [if_pos (by omega)] | rw [if_neg (by omega)])
            · skip
              obtain ⟨rfl, rfl, hc11⟩ := hp8
              refine x_ws (ws' := [(tb, .inr (6, [.ref nz, .ref tl, .ref pg, .ref se, .ref pa, .ref bo, .ref li, .ref ba, .int (nI cols), .int (nI lc), .int (nI smp)])), (li, .inl (cy 4, 24, .inr (.inr (.inr (.inr lnf))))), (io, .inr (4, [.ref a0, .ref a1, .ref a2, .ref a3, .ref a4, .ref a5, .int (nI mk), .int (nI rs), .int (ky)])), (a0, .inl (cy 1, 5, .inl (fun k => nI (st k)))), (a1, .inl (cy 1, 24, .inl fa)), (a2, .inl (cy 1, 24, .inl ca)), (a3, .inl (cy 1, 24, .inl dc)), (a4, .inl (cy 1, 24, .inl rl)), (a5, .inl (cy 1, 24, .inl (fun k => nI (lr k))))]) rfl ?_
              refine x_if_ne C (tgt := 84) dX7_importNext_68 (by decide) (q := 71) rfl (a := 0) rfl (fun h12 => (by omega : False).elim) (fun h12 => ?_)
              refine x_aload_n C dX7_importNext_71 (q := 72) rfl rfl 1 rfl ?_
              refine x_aload_n C dX7_importNext_72 (q := 73) rfl rfl 0 rfl ?_
              refine x_aload_n C dX7_importNext_73 (q := 74) rfl rfl 2 rfl ?_
              refine x_callV C (roW := []) (roR := pl) (c_X7_passByKey l D cy tb nz tl pg se pa bo li ba cols lc smp lnf io a0 a1 a2 a3 a4 a5 st fa ca dc rl lr mk rs ky ld pl mk a_2 (by first | assumption | omega | (simp only []; omega)) (by first | assumption | omega | (simp only []; omega)) (by assumption) (by assumption) (by first | assumption | omega | (simp only []; omega)) (by assumption) (by omega) (by first | assumption | omega | (simp only []; omega)) (by first | assumption | omega | (simp only []; omega)) (by assumption) (by assumption)) (cwV 2 C.2.2.2.2.1 gX7_importNext_X7_passByKey rfl rfl rfl (by decide +kernel) (by rw [hR]; exact ⟨Nat.le_of_ble_eq_true rfl, Nat.le_of_ble_eq_true rfl⟩)) [0, 1, 2, 3, 4, 5, 6, 7, 8] [] rfl (by decide) rfl (by decide) hpool (List.mem_of_getElem? (i := 0) rfl) (ci := 6) rfl xT_bl (fun _ _ _ _ _ _ _ => trivial) rfl rfl dX7_importNext_74 rfl rfl (Nat.le_of_ble_eq_true rfl) (q := 77) rfl (k' := 0) rfl (n' := 0) rfl (by rw [hR]; exact ⟨Nat.le_of_ble_eq_true rfl, Nat.le_of_ble_eq_true rfl⟩) (fun v13 w13 hp13 => ?_)
              rcases hp13 with hp13 | hp13 | hp13 | hp13
              · skip
                obtain ⟨rfl, rfl, hc14⟩ := hp13
                refine x_ws (ws' := [(tb, .inr (6, [.ref nz, .ref tl, .ref pg, .ref se, .ref pa, .ref bo, .ref li, .ref ba, .int (nI cols), .int (nI lc), .int (nI smp)])), (li, .inl (cy 4, 24, .inr (.inr (.inr (.inr lnf))))), (io, .inr (4, [.ref a0, .ref a1, .ref a2, .ref a3, .ref a4, .ref a5, .int (nI mk), .int (nI rs), .int (ky)])), (a0, .inl (cy 1, 5, .inl (fun k => nI (st k)))), (a1, .inl (cy 1, 24, .inl fa)), (a2, .inl (cy 1, 24, .inl ca)), (a3, .inl (cy 1, 24, .inl dc)), (a4, .inl (cy 1, 24, .inl rl)), (a5, .inl (cy 1, 24, .inl (fun k => nI (lr k))))]) rfl ?_
                refine x_if_ne C (tgt := 84) dX7_importNext_77 (by decide) (q := 80) rfl (a := 0) rfl (fun h15 => (by omega : False).elim) (fun h15 => ?_)
                refine x_aload_n C dX7_importNext_80 (q := 81) rfl rfl 2 rfl ?_
                refine x_callV C (roW := []) (roR := []) (c_X5_passRow l D cy io a0 a1 a2 a3 a4 a5 st fa ca dc rl lr mk rs ky (by first | assumption | omega | (simp only []; omega)) (by first | assumption | omega | (simp only []; omega))) (cwV 0 C.2.2.2.2.1 gX7_importNext_X5_passRow rfl rfl rfl (by decide +kernel) (by rw [hR]; exact ⟨Nat.le_of_ble_eq_true rfl, Nat.le_of_ble_eq_true rfl⟩)) [2, 3, 4, 5, 6, 7, 8] [] rfl (by decide) rfl (by decide) xro_nil (List.mem_of_getElem? (i := 0) rfl) (ci := 4) rfl xT_bl (fun _ _ _ _ _ _ _ => trivial) rfl rfl dX7_importNext_81 rfl rfl (Nat.le_of_ble_eq_true rfl) (q := 84) rfl (k' := 0) rfl (n' := 0) rfl (by rw [hR]; exact ⟨Nat.le_of_ble_eq_true rfl, Nat.le_of_ble_eq_true rfl⟩) (fun v16 w16 hp16 => ?_)
                obtain ⟨rfl, rfl⟩ := hp16
                refine x_ws (ws' := [(tb, .inr (6, [.ref nz, .ref tl, .ref pg, .ref se, .ref pa, .ref bo, .ref li, .ref ba, .int (nI cols), .int (nI lc), .int (nI smp)])), (li, .inl (cy 4, 24, .inr (.inr (.inr (.inr lnf))))), (io, .inr (4, [.ref a0, .ref a1, .ref a2, .ref a3, .ref a4, .ref a5, .int (nI (mk + 1)), .int (nI (rs + 1)), .int (ky)])), (a0, .inl (cy 1, 5, .inl (fun k => nI (st k)))), (a1, .inl (cy 1, 24, .inl (va_up fa mk (-5)))), (a2, .inl (cy 1, 24, .inl (va_up ca mk (-5)))), (a3, .inl (cy 1, 24, .inl (va_up dc mk (-5)))), (a4, .inl (cy 1, 24, .inl (va_up rl mk (nI rs)))), (a5, .inl (cy 1, 24, .inl (fun k => nI ((va_up lr rs mk) k))))]) rfl ?_
                refine x_vret C hA hQ hr dX7_importNext_84 (Nat.le_of_ble_eq_true rfl) ?_
                refine Or.inr ⟨rfl, rfl, ?_⟩
                unfold ftS
                repeat (first | rw [if_pos (by omega)] | rw [if_neg (by omega)])
              · skip
                obtain ⟨rfl, rfl, hc17, hc18, hc19⟩ := hp13
                refine x_ws (ws' := [(tb, .inr (6, [.ref nz, .ref tl, .ref pg, .ref se, .ref pa, .ref bo, .ref li, .ref ba, .int (nI cols), .int (nI lc), .int (nI smp)])), (li, .inl (cy 4, 24, .inr (.inr (.inr (.inr lnf))))), (io, .inr (4, [.ref a0, .ref a1, .ref a2, .ref a3, .ref a4, .ref a5, .int (nI (mk + 1)), .int (nI rs), .int (ky)])), (a0, .inl (cy 1, 5, .inl (fun k => nI (st k)))), (a1, .inl (cy 1, 24, .inl (va_up fa mk (nI 4)))), (a2, .inl (cy 1, 24, .inl (va_up ca mk (-5)))), (a3, .inl (cy 1, 24, .inl (va_up dc mk (-5)))), (a4, .inl (cy 1, 24, .inl (va_up rl mk (-5)))), (a5, .inl (cy 1, 24, .inl (fun k => nI (lr k))))]) rfl ?_
                refine x_if_ne C (tgt := 84) dX7_importNext_77 (by decide) (q := 80) rfl (a := 1) rfl (fun h20 => ?_) (fun h20 => (by omega : False).elim)
                refine x_vret C hA hQ hr dX7_importNext_84 (Nat.le_of_ble_eq_true rfl) ?_
                refine Or.inl ⟨(nI 4), (-5), (-5), rfl, rfl, ?_, by decide⟩
                unfold ftS
                repeat (first | rw [if_pos (by omega)] | rw [if_neg (by omega)])
              · skip
                obtain ⟨rfl, rfl, hc21, hc22, hc23, hc24⟩ := hp13
                refine x_ws (ws' := [(tb, .inr (6, [.ref nz, .ref tl, .ref pg, .ref se, .ref pa, .ref bo, .ref li, .ref ba, .int (nI cols), .int (nI lc), .int (nI smp)])), (li, .inl (cy 4, 24, .inr (.inr (.inr (.inr lnf))))), (io, .inr (4, [.ref a0, .ref a1, .ref a2, .ref a3, .ref a4, .ref a5, .int (nI (mk + 1)), .int (nI rs), .int (ky)])), (a0, .inl (cy 1, 5, .inl (fun k => nI (st k)))), (a1, .inl (cy 1, 24, .inl (va_up fa mk (nI 5)))), (a2, .inl (cy 1, 24, .inl (va_up ca mk (nI (30 + lr (dpS ld st lr ky.toInt.toNat mk rs)))))), (a3, .inl (cy 1, 24, .inl (va_up dc mk (-5)))), (a4, .inl (cy 1, 24, .inl (va_up rl mk (-5)))), (a5, .inl (cy 1, 24, .inl (fun k => nI (lr k))))]) rfl ?_
                refine x_if_ne C (tgt := 84) dX7_importNext_77 (by decide) (q := 80) rfl (a := 1) rfl (fun h25 => ?_) (fun h25 => (by omega : False).elim)
                refine x_vret C hA hQ hr dX7_importNext_84 (Nat.le_of_ble_eq_true rfl) ?_
                refine Or.inl ⟨(nI 5), (nI (30 + lr (dpS ld st lr ky.toInt.toNat mk rs))), (-5), rfl, rfl, ?_, by decide⟩
                unfold ftS
                repeat (first | rw [if_pos (by omega)] | rw [if_neg (by omega)])
              · skip
                obtain ⟨rfl, rfl, hc26, hc27, hc28, hc29⟩ := hp13
                refine x_ws (ws' := [(tb, .inr (6, [.ref nz, .ref tl, .ref pg, .ref se, .ref pa, .ref bo, .ref li, .ref ba, .int (nI cols), .int (nI lc), .int (nI smp)])), (li, .inl (cy 4, 24, .inr (.inr (.inr (.inr lnf))))), (io, .inr (4, [.ref a0, .ref a1, .ref a2, .ref a3, .ref a4, .ref a5, .int (nI mk), .int (nI rs), .int (ky)])), (a0, .inl (cy 1, 5, .inl (fun k => nI (st k)))), (a1, .inl (cy 1, 24, .inl fa)), (a2, .inl (cy 1, 24, .inl ca)), (a3, .inl (cy 1, 24, .inl dc)), (a4, .inl (cy 1, 24, .inl rl)), (a5, .inl (cy 1, 24, .inl (fun k => nI (lr k))))]) rfl ?_
                refine x_if_ne C (tgt := 84) dX7_importNext_77 (by decide) (q := 80) rfl (a := 0) rfl (fun h30 => (by omega : False).elim) (fun h30 => ?_)
                refine x_aload_n C dX7_importNext_80 (q := 81) rfl rfl 2 rfl ?_
                refine x_callV C (roW := []) (roR := []) (c_X5_passRow l D cy io a0 a1 a2 a3 a4 a5 st fa ca dc rl lr mk rs ky (by first | assumption | omega | (simp only []; omega)) (by first | assumption | omega | (simp only []; omega))) (cwV 0 C.2.2.2.2.1 gX7_importNext_X5_passRow rfl rfl rfl (by decide +kernel) (by rw [hR]; exact ⟨Nat.le_of_ble_eq_true rfl, Nat.le_of_ble_eq_true rfl⟩)) [2, 3, 4, 5, 6, 7, 8] [] rfl (by decide) rfl (by decide) xro_nil (List.mem_of_getElem? (i := 0) rfl) (ci := 4) rfl xT_bl (fun _ _ _ _ _ _ _ => trivial) rfl rfl dX7_importNext_81 rfl rfl (Nat.le_of_ble_eq_true rfl) (q := 84) rfl (k' := 0) rfl (n' := 0) rfl (by rw [hR]; exact ⟨Nat.le_of_ble_eq_true rfl, Nat.le_of_ble_eq_true rfl⟩) (fun v31 w31 hp31 => ?_)
                obtain ⟨rfl, rfl⟩ := hp31
                refine x_ws (ws' := [(tb, .inr (6, [.ref nz, .ref tl, .ref pg, .ref se, .ref pa, .ref bo, .ref li, .ref ba, .int (nI cols), .int (nI lc), .int (nI smp)])), (li, .inl (cy 4, 24, .inr (.inr (.inr (.inr lnf))))), (io, .inr (4, [.ref a0, .ref a1, .ref a2, .ref a3, .ref a4, .ref a5, .int (nI (mk + 1)), .int (nI (rs + 1)), .int (ky)])), (a0, .inl (cy 1, 5, .inl (fun k => nI (st k)))), (a1, .inl (cy 1, 24, .inl (va_up fa mk (-5)))), (a2, .inl (cy 1, 24, .inl (va_up ca mk (-5)))), (a3, .inl (cy 1, 24, .inl (va_up dc mk (-5)))), (a4, .inl (cy 1, 24, .inl (va_up rl mk (nI rs)))), (a5, .inl (cy 1, 24, .inl (fun k => nI ((va_up lr rs mk) k))))]) rfl ?_
                refine x_vret C hA hQ hr dX7_importNext_84 (Nat.le_of_ble_eq_true rfl) ?_
                refine Or.inr ⟨rfl, rfl, ?_⟩
                unfold ftS
                repeat (first | rw [if_pos (by omega)] | rw [if_neg (by omega)])
        · first
          | (exfalso; omega)
          |
            refine x_aload_n C dX7_importNext_50 (q := 51) rfl rfl 2 rfl ?_
            refine x_iconst C dX7_importNext_51 (q := 52) rfl (v := nI 2) (by decide) ?_
            refine x_bipush C dX7_importNext_52 (q := 54) rfl (v := (-5)) (by decide) ?_
            refine x_bipush C dX7_importNext_54 (q := 56) rfl (v := (-5)) (by decide) ?_
            refine x_callV C (roW := []) (roR := []) (c_X5_passFault l D cy io a0 a1 a2 a3 a4 a5 st fa ca dc rl lr mk rs ky (nI 2) (-5) (-5) (by first | assumption | omega | (simp only []; omega))) (cwV 3 C.2.2.2.2.1 gX7_importNext_X5_passFault rfl rfl rfl (by decide +kernel) (by rw [hR]; exact ⟨Nat.le_of_ble_eq_true rfl, Nat.le_of_ble_eq_true rfl⟩)) [2, 3, 4, 5, 6, 7, 8] [] rfl (by decide) rfl (by decide) xro_nil (List.mem_of_getElem? (i := 0) rfl) (ci := 4) rfl xT_bl (fun _ _ _ _ _ _ _ => trivial) rfl rfl dX7_importNext_56 rfl rfl (Nat.le_of_ble_eq_true rfl) (q := 59) rfl (k' := 0) rfl (n' := 0) rfl (by rw [hR]; exact ⟨Nat.le_of_ble_eq_true rfl, Nat.le_of_ble_eq_true rfl⟩) (fun v32 w32 hp32 => ?_)
            obtain ⟨rfl, rfl⟩ := hp32
            refine x_ws (ws' := [(tb, .inr (6, [.ref nz, .ref tl, .ref pg, .ref se, .ref pa, .ref bo, .ref li, .ref ba, .int (nI cols), .int (nI lc), .int (nI smp)])), (li, .inl (cy 4, 24, .inr (.inr (.inr (.inr lnf))))), (io, .inr (4, [.ref a0, .ref a1, .ref a2, .ref a3, .ref a4, .ref a5, .int (nI (mk + 1)), .int (nI rs), .int (ky)])), (a0, .inl (cy 1, 5, .inl (fun k => nI (st k)))), (a1, .inl (cy 1, 24, .inl (va_up fa mk (nI 2)))), (a2, .inl (cy 1, 24, .inl (va_up ca mk (-5)))), (a3, .inl (cy 1, 24, .inl (va_up dc mk (-5)))), (a4, .inl (cy 1, 24, .inl (va_up rl mk (-5)))), (a5, .inl (cy 1, 24, .inl (fun k => nI (lr k))))]) rfl ?_
            refine x_goto C (tgt := 84) dX7_importNext_59 (by decide) ?_
            refine x_vret C hA hQ hr dX7_importNext_84 (Nat.le_of_ble_eq_true rfl) ?_
            refine Or.inl ⟨(nI 2), (-5), (-5), rfl, rfl, ?_, by decide⟩
            unfold ftS
            repeat (first | rw [if_pos (by omega)] | rw [if_neg (by omega)])
    · first
      | (exfalso; omega)
      |
        refine x_aload_n C dX7_importNext_26 (q := 27) rfl rfl 2 rfl ?_
        refine x_iconst C dX7_importNext_27 (q := 28) rfl (v := nI 1) (by decide) ?_
        refine x_bipush C dX7_importNext_28 (q := 30) rfl (v := (-5)) (by decide) ?_
        refine x_bipush C dX7_importNext_30 (q := 32) rfl (v := (-5)) (by decide) ?_
        refine x_callV C (roW := []) (roR := []) (c_X5_passFault l D cy io a0 a1 a2 a3 a4 a5 st fa ca dc rl lr mk rs ky (nI 1) (-5) (-5) (by first | assumption | omega | (simp only []; omega))) (cwV 3 C.2.2.2.2.1 gX7_importNext_X5_passFault rfl rfl rfl (by decide +kernel) (by rw [hR]; exact ⟨Nat.le_of_ble_eq_true rfl, Nat.le_of_ble_eq_true rfl⟩)) [2, 3, 4, 5, 6, 7, 8] [] rfl (by decide) rfl (by decide) xro_nil (List.mem_of_getElem? (i := 0) rfl) (ci := 4) rfl xT_bl (fun _ _ _ _ _ _ _ => trivial) rfl rfl dX7_importNext_32 rfl rfl (Nat.le_of_ble_eq_true rfl) (q := 35) rfl (k' := 0) rfl (n' := 0) rfl (by rw [hR]; exact ⟨Nat.le_of_ble_eq_true rfl, Nat.le_of_ble_eq_true rfl⟩) (fun v33 w33 hp33 => ?_)
        obtain ⟨rfl, rfl⟩ := hp33
        refine x_ws (ws' := [(tb, .inr (6, [.ref nz, .ref tl, .ref pg, .ref se, .ref pa, .ref bo, .ref li, .ref ba, .int (nI cols), .int (nI lc), .int (nI smp)])), (li, .inl (cy 4, 24, .inr (.inr (.inr (.inr lnf))))), (io, .inr (4, [.ref a0, .ref a1, .ref a2, .ref a3, .ref a4, .ref a5, .int (nI (mk + 1)), .int (nI rs), .int (ky)])), (a0, .inl (cy 1, 5, .inl (fun k => nI (st k)))), (a1, .inl (cy 1, 24, .inl (va_up fa mk (nI 1)))), (a2, .inl (cy 1, 24, .inl (va_up ca mk (-5)))), (a3, .inl (cy 1, 24, .inl (va_up dc mk (-5)))), (a4, .inl (cy 1, 24, .inl (va_up rl mk (-5)))), (a5, .inl (cy 1, 24, .inl (fun k => nI (lr k))))]) rfl ?_
        refine x_goto C (tgt := 84) dX7_importNext_35 (by decide) ?_
        refine x_vret C hA hQ hr dX7_importNext_84 (Nat.le_of_ble_eq_true rfl) ?_
        refine Or.inl ⟨(nI 1), (-5), (-5), rfl, rfl, ?_, by decide⟩
        unfold ftS
        repeat (first | rw [if_pos (by omega)] | rw [if_neg (by omega)])
  · exfalso; obtain ⟨_, _, hc34⟩ := hp1; omega
