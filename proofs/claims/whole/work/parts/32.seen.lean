set_option maxHeartbeats 4000000 in
set_option maxRecDepth 100000 in
/-- whether what is SEEN is so -/
theorem c_X9_isSeenSo (l : Launch) (D : va_G) (cy : Nat → ClassId) (fi : Nat) (tO : Nat) (gO : Nat) (nO : Nat) (tb : Nat) (tb' : Nat) (trO : Nat) (gA : Nat) (tP : Nat) (kf : Nat) (nz : Nat) (tl : Nat) (pg : Nat) (se : Nat) (pa : Nat) (bo : Nat) (li : Nat) (ba : Nat) (cols : Nat) (lc : Nat) (smp : Nat) (s1 : Nat) (s2 : Nat) (nse : Nat) (fs : Nat → Int32) (gs : Nat → Int32) (io : Nat) (a0 : Nat) (a1 : Nat) (a2 : Nat) (a3 : Nat) (a4 : Nat) (a5 : Nat) (P : PS) (ky : Int32) (hnse : nse ≤ 6) (hmk : pMk P ≤ 24) (hrs : pRs P ≤ 24) : xMet l D cy xT yX9_isSeenSo wsX9_isSeenSo ({ frames := 4, cells := 0, slots := 0, locals := 400 } : Room) [.ref fi, .ref io] [(fi, .inr (8, [.ref tO, .ref gO, .ref nO, .ref tb, .ref tb', .ref trO, .ref gA, .ref tP, .int (nI kf)])), (tb, .inr (6, [.ref nz, .ref tl, .ref pg, .ref se, .ref pa, .ref bo, .ref li, .ref ba, .int (nI cols), .int (nI lc), .int (nI smp)])), (se, .inr (1, [.ref s1, .ref s2, .int (nI nse)])), (s1, .inl (cy 1, 6, .inl fs)), (s2, .inl (cy 1, 6, .inl gs)), (io, .inr (4, [.ref a0, .ref a1, .ref a2, .ref a3, .ref a4, .ref a5, .int (nI (pMk P)), .int (nI (pRs P)), .int (ky)])), (a0, .inl (cy 1, 5, .inl (fun k => nI ((pSt P) k)))), (a1, .inl (cy 1, 24, .inl (pFa P))), (a2, .inl (cy 1, 24, .inl (pCa P))), (a3, .inl (cy 1, 24, .inl (pDc P))), (a4, .inl (cy 1, 24, .inl (pRl P))), (a5, .inl (cy 1, 24, .inl (fun k => nI ((pLr P) k))))] [] (fun (v9 : Option Value) (w9 : va_W) => (v9 = some (.int (nI 1)) ∧ w9 = [(fi, .inr (8, [.ref tO, .ref gO, .ref nO, .ref tb, .ref tb', .ref trO, .ref gA, .ref tP, .int (nI kf)])), (tb, .inr (6, [.ref nz, .ref tl, .ref pg, .ref se, .ref pa, .ref bo, .ref li, .ref ba, .int (nI cols), .int (nI lc), .int (nI smp)])), (se, .inr (1, [.ref s1, .ref s2, .int (nI nse)])), (s1, .inl (cy 1, 6, .inl fs)), (s2, .inl (cy 1, 6, .inl gs)), (io, .inr (4, [.ref a0, .ref a1, .ref a2, .ref a3, .ref a4, .ref a5, .int (nI (pMk P)), .int (nI (pRs P)), .int (ky)])), (a0, .inl (cy 1, 5, .inl (fun k => nI ((pSt P) k)))), (a1, .inl (cy 1, 24, .inl (pFa P))), (a2, .inl (cy 1, 24, .inl (pCa P))), (a3, .inl (cy 1, 24, .inl (pDc P))), (a4, .inl (cy 1, 24, .inl (pRl P))), (a5, .inl (cy 1, 24, .inl (fun k => nI ((pLr P) k))))] ∧ ssS P (nse, fs, gs) = nse) ∨ (v9 = some (.int (nI 0)) ∧ w9 = [(fi, .inr (8, [.ref tO, .ref gO, .ref nO, .ref tb, .ref tb', .ref trO, .ref gA, .ref tP, .int (nI kf)])), (tb, .inr (6, [.ref nz, .ref tl, .ref pg, .ref se, .ref pa, .ref bo, .ref li, .ref ba, .int (nI cols), .int (nI lc), .int (nI smp)])), (se, .inr (1, [.ref s1, .ref s2, .int (nI nse)])), (s1, .inl (cy 1, 6, .inl fs)), (s2, .inl (cy 1, 6, .inl gs)), (io, .inr (4, [.ref a0, .ref a1, .ref a2, .ref a3, .ref a4, .ref a5, .int (nI (pMk P)), .int (nI (pRs P)), .int (ky)])), (a0, .inl (cy 1, 5, .inl (fun k => nI ((pSt P) k)))), (a1, .inl (cy 1, 24, .inl (pFa P))), (a2, .inl (cy 1, 24, .inl (pCa P))), (a3, .inl (cy 1, 24, .inl (pDc P))), (a4, .inl (cy 1, 24, .inl (pRl P))), (a5, .inl (cy 1, 24, .inl (fun k => nI ((pLr P) k))))] ∧ ssS P (nse, fs, gs) < nse)) := by
  refine xMet_of (cc := cX9_isSeenSo) (maxL := 5) (ret := (some .boolean)) (by decide) rfl (Nat.le_of_ble_eq_true rfl) (fun p e s m args below meth c A R Q hA hR hQ C hr hnm hro hX => ?_)
  have hw0 : ∀ w ∈ u_ws RX9 TX9 9, w ∈ wsX9_isSeenSo := by decide +kernel
  have hw1 : Cond.fieldLink RX9 33 (TX9 3).1 (TX9 3).2.1 (TX9 3).2.2.1 ∈ wsX9_isSeenSo := by decide +kernel
  have hw2 : ∀ w ∈ u_ws RX7 TX7 11, w ∈ wsX9_isSeenSo := by decide +kernel
  have hw3 : Cond.fieldLink RX9 215 (TX7 3).1 (TX7 3).2.1 (TX7 3).2.2.1 ∈ wsX9_isSeenSo := by decide +kernel
  have hw4 : ∀ w ∈ u_ws RX2 TX2 3, w ∈ wsX9_isSeenSo := by decide +kernel
  have hw5 : Cond.fieldLink RX9 247 (TX2 2).1 (TX2 2).2.1 (TX2 2).2.2.1 ∈ wsX9_isSeenSo := by decide +kernel
  refine x_L (L' := [(0, .ref fi), (1, .ref io)]) [0, 1] rfl ?_
  have z5 : (-5 : Int32).toInt = -5 := rfl
  have z0 : (nI 0).toInt = 0 := rfl
  refine x_aload_n C dX9_isSeenSo_0 (q := 1) rfl rfl 0 rfl ?_
  refine x_get C (ci := 8) (v := .ref tb) hw0 0 rfl rfl 3 (by decide) hw1 rfl dX9_isSeenSo_1 (q := 4) rfl ?_
  refine x_get C (ci := 6) (v := .ref se) hw2 1 rfl rfl 3 (by decide) hw3 rfl dX9_isSeenSo_4 (q := 7) rfl ?_
  refine x_astore_n C (L' := [(2, .ref se), (0, .ref fi), (1, .ref io)]) dX9_isSeenSo_7 (q := 8) rfl rfl (by decide) rfl ?_
  refine x_iconst C dX9_isSeenSo_8 (q := 9) rfl (v := nI 0) (by decide) ?_
  refine x_istore_n C (L' := [(3, .int (nI 0)), (2, .ref se), (0, .ref fi), (1, .ref io)]) dX9_isSeenSo_9 (q := 10) rfl rfl (by decide) rfl ?_
  have cut10 : ∀ (fuel : Nat) (i : Nat), (i ≤ nse) → (ssS P (nse, fs, gs) = i + runLen (ssB P fs gs) nse (nse - i) i) → nse - i < fuel → xG p l e R s m args below meth c Q D A 5 [(fi, .inr (8, [.ref tO, .ref gO, .ref nO, .ref tb, .ref tb', .ref trO, .ref gA, .ref tP, .int (nI kf)])), (tb, .inr (6, [.ref nz, .ref tl, .ref pg, .ref se, .ref pa, .ref bo, .ref li, .ref ba, .int (nI cols), .int (nI lc), .int (nI smp)])), (se, .inr (1, [.ref s1, .ref s2, .int (nI nse)])), (s1, .inl (cy 1, 6, .inl fs)), (s2, .inl (cy 1, 6, .inl gs)), (io, .inr (4, [.ref a0, .ref a1, .ref a2, .ref a3, .ref a4, .ref a5, .int (nI (pMk P)), .int (nI (pRs P)), .int (ky)])), (a0, .inl (cy 1, 5, .inl (fun k => nI ((pSt P) k)))), (a1, .inl (cy 1, 24, .inl (pFa P))), (a2, .inl (cy 1, 24, .inl (pCa P))), (a3, .inl (cy 1, 24, .inl (pDc P))), (a4, .inl (cy 1, 24, .inl (pRl P))), (a5, .inl (cy 1, 24, .inl (fun k => nI ((pLr P) k))))] 0 0 10 [(0, .ref fi), (1, .ref io), (2, .ref se), (3, .int (nI i))] [] := by
    intro fuel
    induction fuel with
    | zero =>
      intro i hi he hmu
      exact absurd hmu (Nat.not_lt_zero _)
    | succ fuel ih =>
      intro i hi he hmu
      have ih10 := ih
      clear ih
      refine x_iload_n C dX9_isSeenSo_10 (q := 11) rfl rfl 3 rfl ?_
      refine x_aload_n C dX9_isSeenSo_11 (q := 12) rfl rfl 2 rfl ?_
      refine x_get C (ci := 1) (v := .int (nI nse)) hw4 2 rfl rfl 2 (by decide) hw5 rfl dX9_isSeenSo_12 (q := 15) rfl ?_
      refine x_icmp_ge C (tgt := 67) dX9_isSeenSo_15 (by decide) (q := 18) rfl (a := ((i : Nat) : Int)) (b := ((nse : Nat) : Int)) (nI_toInt (by omega)) (nI_toInt (by omega)) (fun h1 => ?_) (fun h1 => ?_)
      · first
        | (exfalso; omega)
        |
          refine x_iconst C dX9_isSeenSo_67 (q := 68) rfl (v := nI 1) (by decide) ?_
          refine x_zret C hA hQ hr (ty := .boolean) (by first | rfl | assumption | exact xz_nar _) dX9_isSeenSo_68 (Nat.le_of_ble_eq_true rfl) ?_
          exact Or.inl ⟨rfl, rfl, by rw [he, show nse - i = 0 by omega]; show i + 0 = nse; omega⟩
      · first
        | (exfalso; omega)
        |
          have cut38 : ∀ (t : Nat), (t ≤ 1 ∧ (t = 1 ↔ (¬ (fpA P (fs i).toInt 0).toInt = -5))) → xG p l e R s m args below meth c Q D A 5 [(fi, .inr (8, [.ref tO, .ref gO, .ref nO, .ref tb, .ref tb', .ref trO, .ref gA, .ref tP, .int (nI kf)])), (tb, .inr (6, [.ref nz, .ref tl, .ref pg, .ref se, .ref pa, .ref bo, .ref li, .ref ba, .int (nI cols), .int (nI lc), .int (nI smp)])), (se, .inr (1, [.ref s1, .ref s2, .int (nI nse)])), (s1, .inl (cy 1, 6, .inl fs)), (s2, .inl (cy 1, 6, .inl gs)), (io, .inr (4, [.ref a0, .ref a1, .ref a2, .ref a3, .ref a4, .ref a5, .int (nI (pMk P)), .int (nI (pRs P)), .int (ky)])), (a0, .inl (cy 1, 5, .inl (fun k => nI ((pSt P) k)))), (a1, .inl (cy 1, 24, .inl (pFa P))), (a2, .inl (cy 1, 24, .inl (pCa P))), (a3, .inl (cy 1, 24, .inl (pDc P))), (a4, .inl (cy 1, 24, .inl (pRl P))), (a5, .inl (cy 1, 24, .inl (fun k => nI ((pLr P) k))))] 0 0 38 [(0, .ref fi), (1, .ref io), (2, .ref se), (3, .int (nI i))] [.int (nI t)] := by
            intro t ht
            refine x_istore C (L' := [(4, .int (nI t)), (0, .ref fi), (1, .ref io), (2, .ref se), (3, .int (nI i))]) dX9_isSeenSo_38 (q := 40) rfl (by decide) rfl ?_
            have cut56 : ∀ (u : Nat), (u ≤ 1 ∧ (u = 1 ↔ (gs i).toInt = 1)) → xG p l e R s m args below meth c Q D A 5 [(fi, .inr (8, [.ref tO, .ref gO, .ref nO, .ref tb, .ref tb', .ref trO, .ref gA, .ref tP, .int (nI kf)])), (tb, .inr (6, [.ref nz, .ref tl, .ref pg, .ref se, .ref pa, .ref bo, .ref li, .ref ba, .int (nI cols), .int (nI lc), .int (nI smp)])), (se, .inr (1, [.ref s1, .ref s2, .int (nI nse)])), (s1, .inl (cy 1, 6, .inl fs)), (s2, .inl (cy 1, 6, .inl gs)), (io, .inr (4, [.ref a0, .ref a1, .ref a2, .ref a3, .ref a4, .ref a5, .int (nI (pMk P)), .int (nI (pRs P)), .int (ky)])), (a0, .inl (cy 1, 5, .inl (fun k => nI ((pSt P) k)))), (a1, .inl (cy 1, 24, .inl (pFa P))), (a2, .inl (cy 1, 24, .inl (pCa P))), (a3, .inl (cy 1, 24, .inl (pDc P))), (a4, .inl (cy 1, 24, .inl (pRl P))), (a5, .inl (cy 1, 24, .inl (fun k => nI ((pLr P) k))))] 0 0 56 [(0, .ref fi), (1, .ref io), (2, .ref se), (3, .int (nI i))] [.int (nI u), .int (nI t)] := by
              intro u hu
              refine x_icmp_eq C (tgt := 61) dX9_isSeenSo_56 (by decide) (q := 59) rfl (a := ((t : Nat) : Int)) (b := ((u : Nat) : Int)) (nI_toInt (by omega)) (nI_toInt (by omega)) (fun h2 => ?_) (fun h2 => ?_)
              · first
                | (exfalso; omega)
                |
                  refine x_iinc C (L' := [(3, .int (nI (i + 1))), (0, .ref fi), (1, .ref io), (2, .ref se)]) dX9_isSeenSo_61 (q := 64) rfl 3 rfl (v := nI (i + 1)) (nI_add i 1) (by decide) rfl ?_
                  refine x_goto C (tgt := 10) dX9_isSeenSo_64 (by decide) ?_
                  refine x_L (L' := [(0, .ref fi), (1, .ref io), (2, .ref se), (3, .int (nI (i + 1)))]) [1, 2, 3, 0] rfl ?_
                  exact ih10 (i + 1) (by first | omega | assumption) (by have h8 := runLen_step (P := (ssB P fs gs)) (to := nse) (k := i) (by omega) (decide_eq_true (by omega)); omega) (by omega)
              · first
                | (exfalso; omega)
                |
                  refine x_iconst C dX9_isSeenSo_59 (q := 60) rfl (v := nI 0) (by decide) ?_
                  refine x_zret C hA hQ hr (ty := .boolean) (by first | rfl | assumption | exact xz_nar _) dX9_isSeenSo_60 (Nat.le_of_ble_eq_true rfl) ?_
                  have e7 : runLen (ssB P fs gs) nse (nse - i) i = 0 := runLen_stop _ (fun z => absurd (of_decide_eq_true (show decide ((¬ (fpA P (fs i).toInt 0).toInt = -5) ↔ (gs i).toInt = 1) = true from z.2)) (by omega))
                  exact Or.inr ⟨rfl, rfl, by rw [he, e7]; omega⟩
            refine x_iload C dX9_isSeenSo_40 (q := 42) rfl 0 rfl ?_
            refine x_aload_n C dX9_isSeenSo_42 (q := 43) rfl rfl 3 rfl ?_
            refine x_iload_n C dX9_isSeenSo_43 (q := 44) rfl rfl 4 rfl ?_
            refine x_callV C (roW := [(se, .inr (1, [.ref s1, .ref s2, .int (nI nse)])), (s1, .inl (cy 1, 6, .inl fs)), (s2, .inl (cy 1, 6, .inl gs))]) (roR := []) (c_X2_secondOf l D cy se s1 s2 nse 6 fs gs i (by first | assumption | omega | (simp only []; omega)) (by first | assumption | omega | (simp only []; omega)) (by first | assumption | omega | (simp only []; omega))) (cwV 1 C.2.2.2.2.1 gX9_isSeenSo_X2_secondOf rfl rfl rfl (by decide +kernel) (by rw [hR]; exact ⟨Nat.le_of_ble_eq_true rfl, Nat.le_of_ble_eq_true rfl⟩)) [] [2, 3, 4] rfl (by decide) rfl (by decide) xro_nil (List.mem_of_getElem? (i := 0) rfl) (ci := 1) rfl xT_bl (fun _ _ _ _ _ _ _ => trivial) rfl rfl dX9_isSeenSo_44 rfl rfl (Nat.le_of_ble_eq_true rfl) (q := 47) rfl (k' := 0) rfl (n' := 0) rfl (by rw [hR]; exact ⟨Nat.le_of_ble_eq_true rfl, Nat.le_of_ble_eq_true rfl⟩) (fun v3 w3 hp3 => ?_)
            obtain ⟨rfl, rfl⟩ := hp3
            refine x_ws (ws' := [(fi, .inr (8, [.ref tO, .ref gO, .ref nO, .ref tb, .ref tb', .ref trO, .ref gA, .ref tP, .int (nI kf)])), (tb, .inr (6, [.ref nz, .ref tl, .ref pg, .ref se, .ref pa, .ref bo, .ref li, .ref ba, .int (nI cols), .int (nI lc), .int (nI smp)])), (se, .inr (1, [.ref s1, .ref s2, .int (nI nse)])), (s1, .inl (cy 1, 6, .inl fs)), (s2, .inl (cy 1, 6, .inl gs)), (io, .inr (4, [.ref a0, .ref a1, .ref a2, .ref a3, .ref a4, .ref a5, .int (nI (pMk P)), .int (nI (pRs P)), .int (ky)])), (a0, .inl (cy 1, 5, .inl (fun k => nI ((pSt P) k)))), (a1, .inl (cy 1, 24, .inl (pFa P))), (a2, .inl (cy 1, 24, .inl (pCa P))), (a3, .inl (cy 1, 24, .inl (pDc P))), (a4, .inl (cy 1, 24, .inl (pRl P))), (a5, .inl (cy 1, 24, .inl (fun k => nI ((pLr P) k))))]) (List.append_nil _) ?_
            refine x_iconst C dX9_isSeenSo_47 (q := 48) rfl (v := nI 1) (by decide) ?_
            refine x_icmp_ne C (tgt := 55) dX9_isSeenSo_48 (by decide) (q := 51) rfl (a := (gs i).toInt) (b := 1) rfl rfl (fun h4 => ?_) (fun h4 => ?_)
            · first
              | (exfalso; omega)
              |
                refine x_iconst C dX9_isSeenSo_55 (q := 56) rfl (v := nI 0) (by decide) ?_
                refine x_L (L' := [(0, .ref fi), (1, .ref io), (2, .ref se), (3, .int (nI i))]) [1, 2, 3, 4] rfl ?_
                exact cut56 0 (by omega)
            · first
              | (exfalso; omega)
              |
                refine x_iconst C dX9_isSeenSo_51 (q := 52) rfl (v := nI 1) (by decide) ?_
                refine x_goto C (tgt := 56) dX9_isSeenSo_52 (by decide) ?_
                refine x_L (L' := [(0, .ref fi), (1, .ref io), (2, .ref se), (3, .int (nI i))]) [1, 2, 3, 4] rfl ?_
                exact cut56 1 (by omega)
          refine x_aload_n C dX9_isSeenSo_18 (q := 19) rfl rfl 1 rfl ?_
          refine x_aload_n C dX9_isSeenSo_19 (q := 20) rfl rfl 2 rfl ?_
          refine x_iload_n C dX9_isSeenSo_20 (q := 21) rfl rfl 3 rfl ?_
          refine x_callV C (roW := [(se, .inr (1, [.ref s1, .ref s2, .int (nI nse)])), (s1, .inl (cy 1, 6, .inl fs)), (s2, .inl (cy 1, 6, .inl gs))]) (roR := []) (c_X2_firstOf l D cy se s1 s2 nse 6 fs gs i (by first | assumption | omega | (simp only []; omega)) (by first | assumption | omega | (simp only []; omega)) (by first | assumption | omega | (simp only []; omega))) (cwV 1 C.2.2.2.2.1 gX9_isSeenSo_X2_firstOf rfl rfl rfl (by decide +kernel) (by rw [hR]; exact ⟨Nat.le_of_ble_eq_true rfl, Nat.le_of_ble_eq_true rfl⟩)) [] [2, 3, 4] rfl (by decide) rfl (by decide) xro_nil (List.mem_of_getElem? (i := 0) rfl) (ci := 1) rfl xT_bl (fun _ _ _ _ _ _ _ => trivial) rfl rfl dX9_isSeenSo_21 rfl rfl (Nat.le_of_ble_eq_true rfl) (q := 24) rfl (k' := 0) rfl (n' := 0) rfl (by rw [hR]; exact ⟨Nat.le_of_ble_eq_true rfl, Nat.le_of_ble_eq_true rfl⟩) (fun v5 w5 hp5 => ?_)
          obtain ⟨rfl, rfl⟩ := hp5
          refine x_ws (ws' := [(fi, .inr (8, [.ref tO, .ref gO, .ref nO, .ref tb, .ref tb', .ref trO, .ref gA, .ref tP, .int (nI kf)])), (tb, .inr (6, [.ref nz, .ref tl, .ref pg, .ref se, .ref pa, .ref bo, .ref li, .ref ba, .int (nI cols), .int (nI lc), .int (nI smp)])), (se, .inr (1, [.ref s1, .ref s2, .int (nI nse)])), (s1, .inl (cy 1, 6, .inl fs)), (s2, .inl (cy 1, 6, .inl gs)), (io, .inr (4, [.ref a0, .ref a1, .ref a2, .ref a3, .ref a4, .ref a5, .int (nI (pMk P)), .int (nI (pRs P)), .int (ky)])), (a0, .inl (cy 1, 5, .inl (fun k => nI ((pSt P) k)))), (a1, .inl (cy 1, 24, .inl (pFa P))), (a2, .inl (cy 1, 24, .inl (pCa P))), (a3, .inl (cy 1, 24, .inl (pDc P))), (a4, .inl (cy 1, 24, .inl (pRl P))), (a5, .inl (cy 1, 24, .inl (fun k => nI ((pLr P) k))))]) (List.append_nil _) ?_
          refine x_iconst C dX9_isSeenSo_24 (q := 25) rfl (v := nI 0) (by decide) ?_
          refine x_callV C (roW := [(io, .inr (4, [.ref a0, .ref a1, .ref a2, .ref a3, .ref a4, .ref a5, .int (nI (pMk P)), .int (nI (pRs P)), .int (ky)])), (a0, .inl (cy 1, 5, .inl (fun k => nI ((pSt P) k)))), (a1, .inl (cy 1, 24, .inl (pFa P))), (a2, .inl (cy 1, 24, .inl (pCa P))), (a3, .inl (cy 1, 24, .inl (pDc P))), (a4, .inl (cy 1, 24, .inl (pRl P))), (a5, .inl (cy 1, 24, .inl (fun k => nI ((pLr P) k))))]) (roR := []) (c_X5_faultPart l D cy io a0 a1 a2 a3 a4 a5 (pSt P) (pFa P) (pCa P) (pDc P) (pRl P) (pLr P) (pMk P) (pRs P) ky (fs i) (nI 0) (by first | assumption | omega | (simp only []; omega)) (by first | assumption | omega | (simp only []; omega))) (cwV 2 C.2.2.2.2.1 gX9_isSeenSo_X5_faultPart rfl rfl rfl (by decide +kernel) (by rw [hR]; exact ⟨Nat.le_of_ble_eq_true rfl, Nat.le_of_ble_eq_true rfl⟩)) [] [5, 6, 7, 8, 9, 10, 11] rfl (by decide) rfl (by decide) xro_nil (List.mem_of_getElem? (i := 0) rfl) (ci := 4) rfl xT_bl (fun _ _ _ _ _ _ _ => trivial) rfl rfl dX9_isSeenSo_25 rfl rfl (Nat.le_of_ble_eq_true rfl) (q := 28) rfl (k' := 0) rfl (n' := 0) rfl (by rw [hR]; exact ⟨Nat.le_of_ble_eq_true rfl, Nat.le_of_ble_eq_true rfl⟩) (fun v6 w6 hp6 => ?_)
          rcases hp6 with hp6 | hp6 | hp6 | hp6 | hp6
          · skip
            obtain ⟨rfl, rfl, hc7⟩ := hp6
            refine x_ws (ws' := [(fi, .inr (8, [.ref tO, .ref gO, .ref nO, .ref tb, .ref tb', .ref trO, .ref gA, .ref tP, .int (nI kf)])), (tb, .inr (6, [.ref nz, .ref tl, .ref pg, .ref se, .ref pa, .ref bo, .ref li, .ref ba, .int (nI cols), .int (nI lc), .int (nI smp)])), (se, .inr (1, [.ref s1, .ref s2, .int (nI nse)])), (s1, .inl (cy 1, 6, .inl fs)), (s2, .inl (cy 1, 6, .inl gs)), (io, .inr (4, [.ref a0, .ref a1, .ref a2, .ref a3, .ref a4, .ref a5, .int (nI (pMk P)), .int (nI (pRs P)), .int (ky)])), (a0, .inl (cy 1, 5, .inl (fun k => nI ((pSt P) k)))), (a1, .inl (cy 1, 24, .inl (pFa P))), (a2, .inl (cy 1, 24, .inl (pCa P))), (a3, .inl (cy 1, 24, .inl (pDc P))), (a4, .inl (cy 1, 24, .inl (pRl P))), (a5, .inl (cy 1, 24, .inl (fun k => nI ((pLr P) k))))]) (List.append_nil _) ?_
            refine x_bipush C dX9_isSeenSo_28 (q := 30) rfl (v := (-5)) (by decide) ?_
            refine x_icmp_eq C (tgt := 37) dX9_isSeenSo_30 (by decide) (q := 33) rfl (a := (-5)) (b := (-5)) rfl rfl (fun h8 => ?_) (fun h8 => (by omega : False).elim)
            refine x_iconst C dX9_isSeenSo_37 (q := 38) rfl (v := nI 0) (by decide) ?_
            exact cut38 0 (by unfold fpA; (repeat (first | rw [if_pos (by omega)] | rw [if_neg (by omega)])); omega)
          · skip
            obtain ⟨rfl, rfl, hc9, hc10, hc11⟩ := hp6
            refine x_ws (ws' := [(fi, .inr (8, [.ref tO, .ref gO, .ref nO, .ref tb, .ref tb', .ref trO, .ref gA, .ref tP, .int (nI kf)])), (tb, .inr (6, [.ref nz, .ref tl, .ref pg, .ref se, .ref pa, .ref bo, .ref li, .ref ba, .int (nI cols), .int (nI lc), .int (nI smp)])), (se, .inr (1, [.ref s1, .ref s2, .int (nI nse)])), (s1, .inl (cy 1, 6, .inl fs)), (s2, .inl (cy 1, 6, .inl gs)), (io, .inr (4, [.ref a0, .ref a1, .ref a2, .ref a3, .ref a4, .ref a5, .int (nI (pMk P)), .int (nI (pRs P)), .int (ky)])), (a0, .inl (cy 1, 5, .inl (fun k => nI ((pSt P) k)))), (a1, .inl (cy 1, 24, .inl (pFa P))), (a2, .inl (cy 1, 24, .inl (pCa P))), (a3, .inl (cy 1, 24, .inl (pDc P))), (a4, .inl (cy 1, 24, .inl (pRl P))), (a5, .inl (cy 1, 24, .inl (fun k => nI ((pLr P) k))))]) (List.append_nil _) ?_
            refine x_bipush C dX9_isSeenSo_28 (q := 30) rfl (v := (-5)) (by decide) ?_
            refine x_icmp_eq C (tgt := 37) dX9_isSeenSo_30 (by decide) (q := 33) rfl (a := ((pFa P) (fs i).toInt.toNat).toInt) (b := (-5)) rfl rfl (fun h12 => ?_) (fun h12 => ?_)
            · first
              | (exfalso; omega)
              |
                refine x_iconst C dX9_isSeenSo_37 (q := 38) rfl (v := nI 0) (by decide) ?_
                exact cut38 0 (by unfold fpA; (repeat (first | rw [if_pos (by omega)] | rw [if_neg (by omega)])); omega)
            · first
              | (exfalso; omega)
              |
                refine x_iconst C dX9_isSeenSo_33 (q := 34) rfl (v := nI 1) (by decide) ?_
                refine x_goto C (tgt := 38) dX9_isSeenSo_34 (by decide) ?_
                exact cut38 1 (by unfold fpA; (repeat (first | rw [if_pos (by omega)] | rw [if_neg (by omega)])); omega)
          · skip
            obtain ⟨rfl, rfl, hc13, hc14, hc15⟩ := hp6
            refine x_ws (ws' := [(fi, .inr (8, [.ref tO, .ref gO, .ref nO, .ref tb, .ref tb', .ref trO, .ref gA, .ref tP, .int (nI kf)])), (tb, .inr (6, [.ref nz, .ref tl, .ref pg, .ref se, .ref pa, .ref bo, .ref li, .ref ba, .int (nI cols), .int (nI lc), .int (nI smp)])), (se, .inr (1, [.ref s1, .ref s2, .int (nI nse)])), (s1, .inl (cy 1, 6, .inl fs)), (s2, .inl (cy 1, 6, .inl gs)), (io, .inr (4, [.ref a0, .ref a1, .ref a2, .ref a3, .ref a4, .ref a5, .int (nI (pMk P)), .int (nI (pRs P)), .int (ky)])), (a0, .inl (cy 1, 5, .inl (fun k => nI ((pSt P) k)))), (a1, .inl (cy 1, 24, .inl (pFa P))), (a2, .inl (cy 1, 24, .inl (pCa P))), (a3, .inl (cy 1, 24, .inl (pDc P))), (a4, .inl (cy 1, 24, .inl (pRl P))), (a5, .inl (cy 1, 24, .inl (fun k => nI ((pLr P) k))))]) (List.append_nil _) ?_
            refine x_bipush C dX9_isSeenSo_28 (q := 30) rfl (v := (-5)) (by decide) ?_
            refine x_icmp_eq C (tgt := 37) dX9_isSeenSo_30 (by decide) (q := 33) rfl (a := ((pCa P) (fs i).toInt.toNat).toInt) (b := (-5)) rfl rfl (fun h16 => ?_) (fun h16 => ?_)
            · first
              | (exfalso; omega)
              |
                refine x_iconst C dX9_isSeenSo_37 (q := 38) rfl (v := nI 0) (by decide) ?_
                exact cut38 0 (by unfold fpA; (repeat (first | rw [if_pos (by omega)] | rw [if_neg (by omega)])); omega)
            · first
              | (exfalso; omega)
              |
                refine x_iconst C dX9_isSeenSo_33 (q := 34) rfl (v := nI 1) (by decide) ?_
                refine x_goto C (tgt := 38) dX9_isSeenSo_34 (by decide) ?_
                exact cut38 1 (by unfold fpA; (repeat (first | rw [if_pos (by omega)] | rw [if_neg (by omega)])); omega)
          · skip
            obtain ⟨rfl, rfl, hc17, hc18, hc19⟩ := hp6
            refine x_ws (ws' := [(fi, .inr (8, [.ref tO, .ref gO, .ref nO, .ref tb, .ref tb', .ref trO, .ref gA, .ref tP, .int (nI kf)])), (tb, .inr (6, [.ref nz, .ref tl, .ref pg, .ref se, .ref pa, .ref bo, .ref li, .ref ba, .int (nI cols), .int (nI lc), .int (nI smp)])), (se, .inr (1, [.ref s1, .ref s2, .int (nI nse)])), (s1, .inl (cy 1, 6, .inl fs)), (s2, .inl (cy 1, 6, .inl gs)), (io, .inr (4, [.ref a0, .ref a1, .ref a2, .ref a3, .ref a4, .ref a5, .int (nI (pMk P)), .int (nI (pRs P)), .int (ky)])), (a0, .inl (cy 1, 5, .inl (fun k => nI ((pSt P) k)))), (a1, .inl (cy 1, 24, .inl (pFa P))), (a2, .inl (cy 1, 24, .inl (pCa P))), (a3, .inl (cy 1, 24, .inl (pDc P))), (a4, .inl (cy 1, 24, .inl (pRl P))), (a5, .inl (cy 1, 24, .inl (fun k => nI ((pLr P) k))))]) (List.append_nil _) ?_
            refine x_bipush C dX9_isSeenSo_28 (q := 30) rfl (v := (-5)) (by decide) ?_
            refine x_icmp_eq C (tgt := 37) dX9_isSeenSo_30 (by decide) (q := 33) rfl (a := ((pDc P) (fs i).toInt.toNat).toInt) (b := (-5)) rfl rfl (fun h20 => ?_) (fun h20 => ?_)
            · first
              | (exfalso; omega)
              |
                refine x_iconst C dX9_isSeenSo_37 (q := 38) rfl (v := nI 0) (by decide) ?_
                exact cut38 0 (by unfold fpA; (repeat (first | rw [if_pos (by omega)] | rw [if_neg (by omega)])); omega)
            · first
              | (exfalso; omega)
              |
                refine x_iconst C dX9_isSeenSo_33 (q := 34) rfl (v := nI 1) (by decide) ?_
                refine x_goto C (tgt := 38) dX9_isSeenSo_34 (by decide) ?_
                exact cut38 1 (by unfold fpA; (repeat (first | rw [if_pos (by omega)] | rw [if_neg (by omega)])); omega)
          · skip
            obtain ⟨rfl, rfl, hc21, hc22, hc23⟩ := hp6
            refine x_ws (ws' := [(fi, .inr (8, [.ref tO, .ref gO, .ref nO, .ref tb, .ref tb', .ref trO, .ref gA, .ref tP, .int (nI kf)])), (tb, .inr (6, [.ref nz, .ref tl, .ref pg, .ref se, .ref pa, .ref bo, .ref li, .ref ba, .int (nI cols), .int (nI lc), .int (nI smp)])), (se, .inr (1, [.ref s1, .ref s2, .int (nI nse)])), (s1, .inl (cy 1, 6, .inl fs)), (s2, .inl (cy 1, 6, .inl gs)), (io, .inr (4, [.ref a0, .ref a1, .ref a2, .ref a3, .ref a4, .ref a5, .int (nI (pMk P)), .int (nI (pRs P)), .int (ky)])), (a0, .inl (cy 1, 5, .inl (fun k => nI ((pSt P) k)))), (a1, .inl (cy 1, 24, .inl (pFa P))), (a2, .inl (cy 1, 24, .inl (pCa P))), (a3, .inl (cy 1, 24, .inl (pDc P))), (a4, .inl (cy 1, 24, .inl (pRl P))), (a5, .inl (cy 1, 24, .inl (fun k => nI ((pLr P) k))))]) (List.append_nil _) ?_
            refine x_bipush C dX9_isSeenSo_28 (q := 30) rfl (v := (-5)) (by decide) ?_
            refine x_icmp_eq C (tgt := 37) dX9_isSeenSo_30 (by decide) (q := 33) rfl (a := (-5)) (b := (-5)) rfl rfl (fun h24 => ?_) (fun h24 => (by omega : False).elim)
            refine x_iconst C dX9_isSeenSo_37 (q := 38) rfl (v := nI 0) (by decide) ?_
            exact cut38 0 (by unfold fpA; (repeat (first | rw [if_pos (by omega)] | rw [if_neg (by omega)])); omega)
  refine x_L (L' := [(0, .ref fi), (1, .ref io), (2, .ref se), (3, .int (nI 0))]) [2, 3, 1, 0] rfl ?_
  exact cut10 (nse - 0 + 1) 0 (by first | omega | assumption) (by rw [Nat.zero_add]; rfl) (by omega)
