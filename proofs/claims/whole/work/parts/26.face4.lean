
abbrev HR : Type := Nat × (Nat → Int32) × (Nat → Int32)
def enN (cap : Nat) (h : HR) (x y : Int32) : HR := if cap ≤ h.1 then h else (h.1 + 1, va_up h.2.1 h.1 x, va_up h.2.2 h.1 y)
def enA (cap : Nat) (h : HR) : Int32 := if cap ≤ h.1 then -4 else nI (h.1 + 1)
def seeA (lc : Nat) (h : HR) (x : Int32) : Int32 := if x.toInt = -1 then nI 0 else if x.toInt < 0 ∨ lc ≤ x.toInt then -1 else enA 6 h
def seeN (lc : Nat) (h : HR) (x y : Int32) : HR := if x.toInt = -1 then (0, h.2) else if x.toInt < 0 ∨ lc ≤ x.toInt then h else enN 6 h x (if y.toInt = 0 then nI 0 else nI 1)
def plaB (cols : Nat) (x y : Int32) : Nat := if x.toInt = -1 then 0 else if x.toInt < 0 ∨ 2 < x.toInt then 1 else if x.toInt = 1 ∧ ¬ y.toInt = -1 ∧ (y.toInt < 0 ∨ cols ≤ y.toInt) then 1 else if x.toInt = 0 ∧ (y.toInt < 0 ∨ 24 < y.toInt) then 2 else 3
def plaA (cols : Nat) (h : HR) (x y : Int32) : Int32 := if plaB cols x y = 0 then nI 0 else if plaB cols x y = 1 then -1 else if plaB cols x y = 2 then -2 else enA 8 h
def plaN (cols : Nat) (h : HR) (x y : Int32) : HR := if plaB cols x y = 0 then (0, h.2) else if plaB cols x y = 1 then h else if plaB cols x y = 2 then h else enN 8 h x y
def booA (cols : Nat) (h : HR) (x y : Int32) : Int32 := if x.toInt = -1 then nI 0 else if x.toInt < 0 ∨ cols ≤ x.toInt then -1 else if y.toInt < 1 ∨ 4 < y.toInt then -2 else enA 8 h
def booN (cols : Nat) (h : HR) (x y : Int32) : HR := if x.toInt = -1 then (0, h.2) else if x.toInt < 0 ∨ cols ≤ x.toInt then h else if y.toInt < 1 ∨ 4 < y.toInt then h else enN 8 h x y
def wouA (ld : LD) (cols lc : Nat) (tl : Nat → Nat) (z : Nat) (ky : Int) (Z : PS) (x y : Int32) : Int32 := if x.toInt < 0 ∨ cols ≤ x.toInt then -1 else if y.toInt < 1 ∨ 4 < y.toInt then -2 else nI (pMk (rhS ld cols lc tl z x.toInt y.toInt.toNat ky Z) - pRs (rhS ld cols lc tl z x.toInt y.toInt.toNat ky Z))
def endA (ld : LD) (cols lc : Nat) (tl : Nat → Nat) (z : Nat) (ky : Int32) (P : PS) (h : HR) (x : Int32) : Int32 := if ¬ x.toInt = 0 ∧ ¬ x.toInt = 1 then -1 else if x.toInt = 0 then nI (pRs (cpS ld cols lc tl z h.2.1 h.2.2 h.1 (P, ky)).1) else nI (pMk (cpS ld cols lc tl z h.2.1 h.2.2 h.1 (P, ky)).1 - pRs (cpS ld cols lc tl z h.2.1 h.2.2 h.1 (P, ky)).1)
def couA (lc nse npa nbo tn : Nat) (x : Int32) : Int32 := if x.toInt = 0 then nI lc else if x.toInt = 1 then nI nse else if x.toInt = 2 then nI npa else if x.toInt = 3 then nI nbo else if x.toInt = 4 then nI tn else -2

set_option maxHeartbeats 4000000 in
set_option maxRecDepth 100000 in
/-- see -/
theorem c_X9_see (l : Launch) (D : va_G) (cy : Nat → ClassId) (fi : Nat) (tO : Nat) (gO : Nat) (nO : Nat) (tb : Nat) (tb' : Nat) (trO : Nat) (gA : Nat) (tP : Nat) (kf : Nat) (nz : Nat) (tl : Nat) (pg : Nat) (se : Nat) (pa : Nat) (bo : Nat) (li : Nat) (ba : Nat) (cols : Nat) (lc : Nat) (smp : Nat) (lnf : Nat → Option Nat) (s1 : Nat) (s2 : Nat) (nse : Nat) (fs : Nat → Int32) (gs : Nat → Int32) (ld : LD) (pl : va_W) (x : Int32) (y : Int32) (hcols : cols ≤ 5) (hlc : lc ≤ 24) (hTL : TbL cy pl lc lnf ld) (hfm : ∀ k i, dFm ld k i ≤ 4) (hnse : nse ≤ 6) : xMet l D cy xT yX9_see wsX9_see ({ frames := 4, cells := 0, slots := 0, locals := 400 } : Room) [.ref fi, .int (x), .int (y)] [(fi, .inr (8, [.ref tO, .ref gO, .ref nO, .ref tb, .ref tb', .ref trO, .ref gA, .ref tP, .int (nI kf)])), (tb, .inr (6, [.ref nz, .ref tl, .ref pg, .ref se, .ref pa, .ref bo, .ref li, .ref ba, .int (nI cols), .int (nI lc), .int (nI smp)])), (li, .inl (cy 4, 24, .inr (.inr (.inr (.inr lnf))))), (se, .inr (1, [.ref s1, .ref s2, .int (nI nse)])), (s1, .inl (cy 1, 6, .inl fs)), (s2, .inl (cy 1, 6, .inl gs))] pl (fun (v9 : Option Value) (w9 : va_W) => (v9 = some (.int (seeA lc (nse, fs, gs) x)) ∧ w9 = [(fi, .inr (8, [.ref tO, .ref gO, .ref nO, .ref tb, .ref tb', .ref trO, .ref gA, .ref tP, .int (nI kf)])), (tb, .inr (6, [.ref nz, .ref tl, .ref pg, .ref se, .ref pa, .ref bo, .ref li, .ref ba, .int (nI cols), .int (nI lc), .int (nI smp)])), (li, .inl (cy 4, 24, .inr (.inr (.inr (.inr lnf))))), (se, .inr (1, [.ref s1, .ref s2, .int (nI ((seeN lc (nse, fs, gs) x y).1))])), (s1, .inl (cy 1, 6, .inl ((seeN lc (nse, fs, gs) x y).2.1))), (s2, .inl (cy 1, 6, .inl ((seeN lc (nse, fs, gs) x y).2.2)))])) := by
  refine xMet_of (cc := cX9_see) (maxL := 3) (ret := (some .int)) (by decide) rfl (Nat.le_of_ble_eq_true rfl) (fun p e s m args below meth c A R Q hA hR hQ C hr hnm hro hX => ?_)
  have hw0 : ∀ w ∈ u_ws RX9 TX9 9, w ∈ wsX9_see := by decide +kernel
  have hw1 : Cond.fieldLink RX9 33 (TX9 3).1 (TX9 3).2.1 (TX9 3).2.2.1 ∈ wsX9_see := by decide +kernel
  have hw2 : ∀ w ∈ u_ws RX7 TX7 11, w ∈ wsX9_see := by decide +kernel
  have hw3 : Cond.fieldLink RX9 215 (TX7 3).1 (TX7 3).2.1 (TX7 3).2.2.1 ∈ wsX9_see := by decide +kernel
  refine x_L (L' := [(0, .ref fi), (1, .int (x)), (2, .int (y))]) [0, 1, 2] rfl ?_
  have hpool : ∀ q ∈ pl, xRo D A s q := hro
  refine x_iload_n C dX9_see_0 (q := 1) rfl rfl 1 rfl ?_
  refine x_iconst C dX9_see_1 (q := 2) rfl (v := (-1)) (by decide) ?_
  refine x_icmp_ne C (tgt := 16) dX9_see_2 (by decide) (q := 5) rfl (a := x.toInt) (b := (-1)) rfl rfl (fun h1 => ?_) (fun h1 => ?_)
  · first
    | (exfalso; omega)
    |
      refine x_aload_n C dX9_see_16 (q := 17) rfl rfl 0 rfl ?_
      refine x_get C (ci := 8) (v := .ref tb) hw0 0 rfl rfl 3 (by decide) hw1 rfl dX9_see_17 (q := 20) rfl ?_
      refine x_iload_n C dX9_see_20 (q := 21) rfl rfl 1 rfl ?_
      refine x_callV C (roW := [(tb, .inr (6, [.ref nz, .ref tl, .ref pg, .ref se, .ref pa, .ref bo, .ref li, .ref ba, .int (nI cols), .int (nI lc), .int (nI smp)])), (li, .inl (cy 4, 24, .inr (.inr (.inr (.inr lnf)))))]) (roR := []) (c_X7_lineAt l D cy tb nz tl pg se pa bo li ba cols lc smp lnf x (by first | assumption | omega | (simp only []; omega)) (by first | assumption | omega | (simp only []; omega)) (by exact hTL.some)) (cwV 1 C.2.2.2.2.1 gX9_see_X7_lineAt rfl rfl rfl (by decide +kernel) (by rw [hR]; exact ⟨Nat.le_of_ble_eq_true rfl, Nat.le_of_ble_eq_true rfl⟩)) [] [1, 2] rfl (by decide) rfl (by decide) xro_nil (List.mem_of_getElem? (i := 0) rfl) (ci := 6) rfl xT_bl (fun _ _ _ _ _ _ _ => trivial) rfl rfl dX9_see_21 rfl rfl (Nat.le_of_ble_eq_true rfl) (q := 24) rfl (k' := 0) rfl (n' := 0) rfl (by rw [hR]; exact ⟨Nat.le_of_ble_eq_true rfl, Nat.le_of_ble_eq_true rfl⟩) (fun v2 w2 hp2 => ?_)
      rcases hp2 with hp2 | hp2
      · skip
        obtain ⟨a_3, rfl, rfl, hc4, hc5, hc6⟩ := hp2
        refine x_ws (ws' := [(fi, .inr (8, [.ref tO, .ref gO, .ref nO, .ref tb, .ref tb', .ref trO, .ref gA, .ref tP, .int (nI kf)])), (tb, .inr (6, [.ref nz, .ref tl, .ref pg, .ref se, .ref pa, .ref bo, .ref li, .ref ba, .int (nI cols), .int (nI lc), .int (nI smp)])), (li, .inl (cy 4, 24, .inr (.inr (.inr (.inr lnf))))), (se, .inr (1, [.ref s1, .ref s2, .int (nI nse)])), (s1, .inl (cy 1, 6, .inl fs)), (s2, .inl (cy 1, 6, .inl gs))]) (List.append_nil _) ?_
        refine x_ifnonnull C (tgt := 29) dX9_see_24 (by decide) ?_
        refine x_aload_n C dX9_see_29 (q := 30) rfl rfl 0 rfl ?_
        refine x_get C (ci := 8) (v := .ref tb) hw0 0 rfl rfl 3 (by decide) hw1 rfl dX9_see_30 (q := 33) rfl ?_
        refine x_get C (ci := 6) (v := .ref se) hw2 1 rfl rfl 3 (by decide) hw3 rfl dX9_see_33 (q := 36) rfl ?_
        refine x_iload_n C dX9_see_36 (q := 37) rfl rfl 1 rfl ?_
        refine x_iload_n C dX9_see_37 (q := 38) rfl rfl 2 rfl ?_
        refine x_if_eq C (tgt := 45) dX9_see_38 (by decide) (q := 41) rfl (a := y.toInt) rfl (fun h7 => ?_) (fun h7 => ?_)
        · first
          | (exfalso; omega)
          |
            refine x_iconst C dX9_see_45 (q := 46) rfl (v := nI 0) (by decide) ?_
            refine x_callV C (roW := []) (roR := []) (c_X2_enter l D cy se s1 s2 nse 6 fs gs x (nI 0) (by first | assumption | omega | (simp only []; omega)) (by first | assumption | omega | (simp only []; omega))) (cwV 2 C.2.2.2.2.1 gX9_see_X2_enter rfl rfl rfl (by decide +kernel) (by rw [hR]; exact ⟨Nat.le_of_ble_eq_true rfl, Nat.le_of_ble_eq_true rfl⟩)) [3, 4, 5] [] rfl (by decide) rfl (by decide) xro_nil (List.mem_of_getElem? (i := 0) rfl) (ci := 1) rfl xT_bl (fun _ _ _ _ _ _ _ => trivial) rfl rfl dX9_see_46 rfl rfl (Nat.le_of_ble_eq_true rfl) (q := 49) rfl (k' := 0) rfl (n' := 0) rfl (by rw [hR]; exact ⟨Nat.le_of_ble_eq_true rfl, Nat.le_of_ble_eq_true rfl⟩) (fun v8 w8 hp8 => ?_)
            rcases hp8 with hp8 | hp8
            · skip
              obtain ⟨rfl, rfl, hc9⟩ := hp8
              refine x_ws (ws' := [(fi, .inr (8, [.ref tO, .ref gO, .ref nO, .ref tb, .ref tb', .ref trO, .ref gA, .ref tP, .int (nI kf)])), (tb, .inr (6, [.ref nz, .ref tl, .ref pg, .ref se, .ref pa, .ref bo, .ref li, .ref ba, .int (nI cols), .int (nI lc), .int (nI smp)])), (li, .inl (cy 4, 24, .inr (.inr (.inr (.inr lnf))))), (se, .inr (1, [.ref s1, .ref s2, .int (nI nse)])), (s1, .inl (cy 1, 6, .inl fs)), (s2, .inl (cy 1, 6, .inl gs))]) rfl ?_
              refine x_iret C hA hQ hr dX9_see_49 (Nat.le_of_ble_eq_true rfl) ?_
              unfold seeA seeN enA enN
              repeat (first | rw [if_pos (by omega)] | rw [if_neg (by omega)])
              exact ⟨rfl, rfl⟩
            · skip
              obtain ⟨rfl, rfl, hc10⟩ := hp8
              refine x_ws (ws' := [(fi, .inr (8, [.ref tO, .ref gO, .ref nO, .ref tb, .ref tb', .ref trO, .ref gA, .ref tP, .int (nI kf)])), (tb, .inr (6, [.ref nz, .ref tl, .ref pg, .ref se, .ref pa, .ref bo, .ref li, .ref ba, .int (nI cols), .int (nI lc), .int (nI smp)])), (li, .inl (cy 4, 24, .inr (.inr (.inr (.inr lnf))))), (se, .inr (1, [.ref s1, .ref s2, .int (nI (nse + 1))])), (s1, .inl (cy 1, 6, .inl (va_up fs nse x))), (s2, .inl (cy 1, 6, .inl (va_up gs nse (nI 0))))]) rfl ?_
              refine x_iret C hA hQ hr dX9_see_49 (Nat.le_of_ble_eq_true rfl) ?_
              unfold seeA seeN enA enN
              repeat (first | rw [if_pos (by omega)] | rw [if_neg (by omega)])
              exact ⟨rfl, rfl⟩
        · first
          | (exfalso; omega)
          |
            refine x_iconst C dX9_see_41 (q := 42) rfl (v := nI 1) (by decide) ?_
            refine x_goto C (tgt := 46) dX9_see_42 (by decide) ?_
            refine x_callV C (roW := []) (roR := []) (c_X2_enter l D cy se s1 s2 nse 6 fs gs x (nI 1) (by first | assumption | omega | (simp only []; omega)) (by first | assumption | omega | (simp only []; omega))) (cwV 2 C.2.2.2.2.1 gX9_see_X2_enter rfl rfl rfl (by decide +kernel) (by rw [hR]; exact ⟨Nat.le_of_ble_eq_true rfl, Nat.le_of_ble_eq_true rfl⟩)) [3, 4, 5] [] rfl (by decide) rfl (by decide) xro_nil (List.mem_of_getElem? (i := 0) rfl) (ci := 1) rfl xT_bl (fun _ _ _ _ _ _ _ => trivial) rfl rfl dX9_see_46 rfl rfl (Nat.le_of_ble_eq_true rfl) (q := 49) rfl (k' := 0) rfl (n' := 0) rfl (by rw [hR]; exact ⟨Nat.le_of_ble_eq_true rfl, Nat.le_of_ble_eq_true rfl⟩) (fun v11 w11 hp11 => ?_)
            rcases hp11 with hp11 | hp11
            · skip
              obtain ⟨rfl, rfl, hc12⟩ := hp11
              refine x_ws (ws' := [(fi, .inr (8, [.ref tO, .ref gO, .ref nO, .ref tb, .ref tb', .ref trO, .ref gA, .ref tP, .int (nI kf)])), (tb, .inr (6, [.ref nz, .ref tl, .ref pg, .ref se, .ref pa, .ref bo, .ref li, .ref ba, .int (nI cols), .int (nI lc), .int (nI smp)])), (li, .inl (cy 4, 24, .inr (.inr (.inr (.inr lnf))))), (se, .inr (1, [.ref s1, .ref s2, .int (nI nse)])), (s1, .inl (cy 1, 6, .inl fs)), (s2, .inl (cy 1, 6, .inl gs))]) rfl ?_
              refine x_iret C hA hQ hr dX9_see_49 (Nat.le_of_ble_eq_true rfl) ?_
              unfold seeA seeN enA enN
              repeat (first | rw [if_pos (by omega)] | rw [if_neg (by omega)])
              exact ⟨rfl, rfl⟩
            · skip
              obtain ⟨rfl, rfl, hc13⟩ := hp11
              refine x_ws (ws' := [(fi, .inr (8, [.ref tO, .ref gO, .ref nO, .ref tb, .ref tb', .ref trO, .ref gA, .ref tP, .int (nI kf)])), (tb, .inr (6, [.ref nz, .ref tl, .ref pg, .ref se, .ref pa, .ref bo, .ref li, .ref ba, .int (nI cols), .int (nI lc), .int (nI smp)])), (li, .inl (cy 4, 24, .inr (.inr (.inr (.inr lnf))))), (se, .inr (1, [.ref s1, .ref s2, .int (nI (nse + 1))])), (s1, .inl (cy 1, 6, .inl (va_up fs nse x))), (s2, .inl (cy 1, 6, .inl (va_up gs nse (nI 1))))]) rfl ?_
              refine x_iret C hA hQ hr dX9_see_49 (Nat.le_of_ble_eq_true rfl) ?_
              unfold seeA seeN enA enN
              repeat (first | rw [if_pos (by omega)] | rw [if_neg (by omega)])
              exact ⟨rfl, rfl⟩
      · skip
        obtain ⟨rfl, rfl, hc14⟩ := hp2
        refine x_ws (ws' := [(fi, .inr (8, [.ref tO, .ref gO, .ref nO, .ref tb, .ref tb', .ref trO, .ref gA, .ref tP, .int (nI kf)])), (tb, .inr (6, [.ref nz, .ref tl, .ref pg, .ref se, .ref pa, .ref bo, .ref li, .ref ba, .int (nI cols), .int (nI lc), .int (nI smp)])), (li, .inl (cy 4, 24, .inr (.inr (.inr (.inr lnf))))), (se, .inr (1, [.ref s1, .ref s2, .int (nI nse)])), (s1, .inl (cy 1, 6, .inl fs)), (s2, .inl (cy 1, 6, .inl gs))]) (List.append_nil _) ?_
        refine x_ifnonnullN C dX9_see_24 (q := 27) rfl ?_
        refine x_iconst C dX9_see_27 (q := 28) rfl (v := (-1)) (by decide) ?_
        refine x_iret C hA hQ hr dX9_see_28 (Nat.le_of_ble_eq_true rfl) ?_
        unfold seeA seeN enA enN
        repeat (first | rw [if_pos (by omega)] | rw [if_neg (by omega)])
        exact ⟨rfl, rfl⟩
  · first
    | (exfalso; omega)
    |
      refine x_aload_n C dX9_see_5 (q := 6) rfl rfl 0 rfl ?_
      refine x_get C (ci := 8) (v := .ref tb) hw0 0 rfl rfl 3 (by decide) hw1 rfl dX9_see_6 (q := 9) rfl ?_
      refine x_get C (ci := 6) (v := .ref se) hw2 1 rfl rfl 3 (by decide) hw3 rfl dX9_see_9 (q := 12) rfl ?_
      refine x_callV C (roW := []) (roR := []) (c_X2_clear l D cy se s1 s2 nse ) (cwV 0 C.2.2.2.2.1 gX9_see_X2_clear rfl rfl rfl (by decide +kernel) (by rw [hR]; exact ⟨Nat.le_of_ble_eq_true rfl, Nat.le_of_ble_eq_true rfl⟩)) [3] [] rfl (by decide) rfl (by decide) xro_nil (List.mem_of_getElem? (i := 0) rfl) (ci := 1) rfl xT_bl (fun _ _ _ _ _ _ _ => trivial) rfl rfl dX9_see_12 rfl rfl (Nat.le_of_ble_eq_true rfl) (q := 15) rfl (k' := 0) rfl (n' := 0) rfl (by rw [hR]; exact ⟨Nat.le_of_ble_eq_true rfl, Nat.le_of_ble_eq_true rfl⟩) (fun v15 w15 hp15 => ?_)
      obtain ⟨rfl, rfl⟩ := hp15
      refine x_ws (ws' := [(fi, .inr (8, [.ref tO, .ref gO, .ref nO, .ref tb, .ref tb', .ref trO, .ref gA, .ref tP, .int (nI kf)])), (tb, .inr (6, [.ref nz, .ref tl, .ref pg, .ref se, .ref pa, .ref bo, .ref li, .ref ba, .int (nI cols), .int (nI lc), .int (nI smp)])), (li, .inl (cy 4, 24, .inr (.inr (.inr (.inr lnf))))), (se, .inr (1, [.ref s1, .ref s2, .int (nI 0)])), (s1, .inl (cy 1, 6, .inl fs)), (s2, .inl (cy 1, 6, .inl gs))]) rfl ?_
      refine x_iret C hA hQ hr dX9_see_15 (Nat.le_of_ble_eq_true rfl) ?_
      unfold seeA seeN enA enN
      repeat (first | rw [if_pos (by omega)] | rw [if_neg (by omega)])
      exact ⟨rfl, rfl⟩

set_option maxHeartbeats 4000000 in
set_option maxRecDepth 100000 in
/-- book -/
theorem c_X9_book (l : Launch) (D : va_G) (cy : Nat → ClassId) (fi : Nat) (tO : Nat) (gO : Nat) (nO : Nat) (tb : Nat) (tb' : Nat) (trO : Nat) (gA : Nat) (tP : Nat) (kf : Nat) (nz : Nat) (tl : Nat) (pg : Nat) (se : Nat) (pa : Nat) (bo : Nat) (li : Nat) (ba : Nat) (cols : Nat) (lc : Nat) (smp : Nat) (b1 : Nat) (b2 : Nat) (nbo : Nat) (fb : Nat → Int32) (gb : Nat → Int32) (x : Int32) (y : Int32) (hcols : cols ≤ 5) (hlc : lc ≤ 24) (hnbo : nbo ≤ 8) : xMet l D cy xT yX9_book wsX9_book ({ frames := 4, cells := 0, slots := 0, locals := 400 } : Room) [.ref fi, .int (x), .int (y)] [(fi, .inr (8, [.ref tO, .ref gO, .ref nO, .ref tb, .ref tb', .ref trO, .ref gA, .ref tP, .int (nI kf)])), (tb, .inr (6, [.ref nz, .ref tl, .ref pg, .ref se, .ref pa, .ref bo, .ref li, .ref ba, .int (nI cols), .int (nI lc), .int (nI smp)])), (bo, .inr (1, [.ref b1, .ref b2, .int (nI nbo)])), (b1, .inl (cy 1, 8, .inl fb)), (b2, .inl (cy 1, 8, .inl gb))] [] (fun (v9 : Option Value) (w9 : va_W) => (v9 = some (.int (booA cols (nbo, fb, gb) x y)) ∧ w9 = [(fi, .inr (8, [.ref tO, .ref gO, .ref nO, .ref tb, .ref tb', .ref trO, .ref gA, .ref tP, .int (nI kf)])), (tb, .inr (6, [.ref nz, .ref tl, .ref pg, .ref se, .ref pa, .ref bo, .ref li, .ref ba, .int (nI cols), .int (nI lc), .int (nI smp)])), (bo, .inr (1, [.ref b1, .ref b2, .int (nI ((booN cols (nbo, fb, gb) x y).1))])), (b1, .inl (cy 1, 8, .inl ((booN cols (nbo, fb, gb) x y).2.1))), (b2, .inl (cy 1, 8, .inl ((booN cols (nbo, fb, gb) x y).2.2)))])) := by
  refine xMet_of (cc := cX9_book) (maxL := 3) (ret := (some .int)) (by decide) rfl (Nat.le_of_ble_eq_true rfl) (fun p e s m args below meth c A R Q hA hR hQ C hr hnm hro hX => ?_)
  have hw0 : ∀ w ∈ u_ws RX9 TX9 9, w ∈ wsX9_book := by decide +kernel
  have hw1 : Cond.fieldLink RX9 33 (TX9 3).1 (TX9 3).2.1 (TX9 3).2.2.1 ∈ wsX9_book := by decide +kernel
  have hw2 : ∀ w ∈ u_ws RX7 TX7 11, w ∈ wsX9_book := by decide +kernel
  have hw3 : Cond.fieldLink RX9 244 (TX7 5).1 (TX7 5).2.1 (TX7 5).2.2.1 ∈ wsX9_book := by decide +kernel
  refine x_L (L' := [(0, .ref fi), (1, .int (x)), (2, .int (y))]) [0, 1, 2] rfl ?_
  refine x_iload_n C dX9_book_0 (q := 1) rfl rfl 1 rfl ?_
  refine x_iconst C dX9_book_1 (q := 2) rfl (v := (-1)) (by decide) ?_
  refine x_icmp_ne C (tgt := 16) dX9_book_2 (by decide) (q := 5) rfl (a := x.toInt) (b := (-1)) rfl rfl (fun h1 => ?_) (fun h1 => ?_)
  · first
    | (exfalso; omega)
    |
      refine x_aload_n C dX9_book_16 (q := 17) rfl rfl 0 rfl ?_
      refine x_get C (ci := 8) (v := .ref tb) hw0 0 rfl rfl 3 (by decide) hw1 rfl dX9_book_17 (q := 20) rfl ?_
      refine x_iload_n C dX9_book_20 (q := 21) rfl rfl 1 rfl ?_
      refine x_callV C (roW := [(tb, .inr (6, [.ref nz, .ref tl, .ref pg, .ref se, .ref pa, .ref bo, .ref li, .ref ba, .int (nI cols), .int (nI lc), .int (nI smp)]))]) (roR := []) (c_X7_hasColumn l D cy tb nz tl pg se pa bo li ba cols lc smp x (by first | assumption | omega | (simp only []; omega)) (by first | assumption | omega | (simp only []; omega))) (cwV 1 C.2.2.2.2.1 gX9_book_X7_hasColumn rfl rfl rfl (by decide +kernel) (by rw [hR]; exact ⟨Nat.le_of_ble_eq_true rfl, Nat.le_of_ble_eq_true rfl⟩)) [] [1] rfl (by decide) rfl (by decide) xro_nil (List.mem_of_getElem? (i := 0) rfl) (ci := 6) rfl xT_bl (fun _ _ _ _ _ _ _ => trivial) rfl rfl dX9_book_21 rfl rfl (Nat.le_of_ble_eq_true rfl) (q := 24) rfl (k' := 0) rfl (n' := 0) rfl (by rw [hR]; exact ⟨Nat.le_of_ble_eq_true rfl, Nat.le_of_ble_eq_true rfl⟩) (fun v2 w2 hp2 => ?_)
      rcases hp2 with hp2 | hp2
      · skip
        obtain ⟨rfl, rfl, hc3, hc4⟩ := hp2
        refine x_ws (ws' := [(fi, .inr (8, [.ref tO, .ref gO, .ref nO, .ref tb, .ref tb', .ref trO, .ref gA, .ref tP, .int (nI kf)])), (tb, .inr (6, [.ref nz, .ref tl, .ref pg, .ref se, .ref pa, .ref bo, .ref li, .ref ba, .int (nI cols), .int (nI lc), .int (nI smp)])), (bo, .inr (1, [.ref b1, .ref b2, .int (nI nbo)])), (b1, .inl (cy 1, 8, .inl fb)), (b2, .inl (cy 1, 8, .inl gb))]) (List.append_nil _) ?_
        refine x_if_ne C (tgt := 29) dX9_book_24 (by decide) (q := 27) rfl (a := 1) rfl (fun h5 => ?_) (fun h5 => (by omega : False).elim)
        refine x_iload_n C dX9_book_29 (q := 30) rfl rfl 2 rfl ?_
        refine x_iconst C dX9_book_30 (q := 31) rfl (v := nI 1) (by decide) ?_
        refine x_icmp_lt C (tgt := 39) dX9_book_31 (by decide) (q := 34) rfl (a := y.toInt) (b := 1) rfl rfl (fun h6 => ?_) (fun h6 => ?_)
        · first
          | (exfalso; omega)
          |
            refine x_bipush C dX9_book_39 (q := 41) rfl (v := (-2)) (by decide) ?_
            refine x_iret C hA hQ hr dX9_book_41 (Nat.le_of_ble_eq_true rfl) ?_
            unfold booA booN enA enN
            repeat (first | rw [if_pos (by omega)] | rw [if_neg (by omega)])
            exact ⟨rfl, rfl⟩
        · first
          | (exfalso; omega)
          |
            refine x_iload_n C dX9_book_34 (q := 35) rfl rfl 2 rfl ?_
            refine x_iconst C dX9_book_35 (q := 36) rfl (v := nI 4) (by decide) ?_
            refine x_icmp_le C (tgt := 42) dX9_book_36 (by decide) (q := 39) rfl (a := y.toInt) (b := 4) rfl rfl (fun h7 => ?_) (fun h7 => ?_)
            · first
              | (exfalso; omega)
              |
                refine x_aload_n C dX9_book_42 (q := 43) rfl rfl 0 rfl ?_
                refine x_get C (ci := 8) (v := .ref tb) hw0 0 rfl rfl 3 (by decide) hw1 rfl dX9_book_43 (q := 46) rfl ?_
                refine x_get C (ci := 6) (v := .ref bo) hw2 1 rfl rfl 5 (by decide) hw3 rfl dX9_book_46 (q := 49) rfl ?_
                refine x_iload_n C dX9_book_49 (q := 50) rfl rfl 1 rfl ?_
                refine x_iload_n C dX9_book_50 (q := 51) rfl rfl 2 rfl ?_
                refine x_callV C (roW := []) (roR := []) (c_X2_enter l D cy bo b1 b2 nbo 8 fb gb x y (by first | assumption | omega | (simp only []; omega)) (by first | assumption | omega | (simp only []; omega))) (cwV 2 C.2.2.2.2.1 gX9_book_X2_enter rfl rfl rfl (by decide +kernel) (by rw [hR]; exact ⟨Nat.le_of_ble_eq_true rfl, Nat.le_of_ble_eq_true rfl⟩)) [2, 3, 4] [] rfl (by decide) rfl (by decide) xro_nil (List.mem_of_getElem? (i := 0) rfl) (ci := 1) rfl xT_bl (fun _ _ _ _ _ _ _ => trivial) rfl rfl dX9_book_51 rfl rfl (Nat.le_of_ble_eq_true rfl) (q := 54) rfl (k' := 0) rfl (n' := 0) rfl (by rw [hR]; exact ⟨Nat.le_of_ble_eq_true rfl, Nat.le_of_ble_eq_true rfl⟩) (fun v8 w8 hp8 => ?_)
                rcases hp8 with hp8 | hp8
                · skip
                  obtain ⟨rfl, rfl, hc9⟩ := hp8
                  refine x_ws (ws' := [(fi, .inr (8, [.ref tO, .ref gO, .ref nO, .ref tb, .ref tb', .ref trO, .ref gA, .ref tP, .int (nI kf)])), (tb, .inr (6, [.ref nz, .ref tl, .ref pg, .ref se, .ref pa, .ref bo, .ref li, .ref ba, .int (nI cols), .int (nI lc), .int (nI smp)])), (bo, .inr (1, [.ref b1, .ref b2, .int (nI nbo)])), (b1, .inl (cy 1, 8, .inl fb)), (b2, .inl (cy 1, 8, .inl gb))]) rfl ?_
                  refine x_iret C hA hQ hr dX9_book_54 (Nat.le_of_ble_eq_true rfl) ?_
                  unfold booA booN enA enN
                  repeat (first | rw [if_pos (by omega)] | rw [if_neg (by omega)])
                  exact ⟨rfl, rfl⟩
                · skip
                  obtain ⟨rfl, rfl, hc10⟩ := hp8
                  refine x_ws (ws' := [(fi, .inr (8, [.ref tO, .ref gO, .ref nO, .ref tb, .ref tb', .ref trO, .ref gA, .ref tP, .int (nI kf)])), (tb, .inr (6, [.ref nz, .ref tl, .ref pg, .ref se, .ref pa, .ref bo, .ref li, .ref ba, .int (nI cols), .int (nI lc), .int (nI smp)])), (bo, .inr (1, [.ref b1, .ref b2, .int (nI (nbo + 1))])), (b1, .inl (cy 1, 8, .inl (va_up fb nbo x))), (b2, .inl (cy 1, 8, .inl (va_up gb nbo y)))]) rfl ?_
                  refine x_iret C hA hQ hr dX9_book_54 (Nat.le_of_ble_eq_true rfl) ?_
                  unfold booA booN enA enN
                  repeat (first | rw [if_pos (by omega)] | rw [if_neg (by omega)])
                  exact ⟨rfl, rfl⟩
            · first
              | (exfalso; omega)
              |
                refine x_bipush C dX9_book_39 (q := 41) rfl (v := (-2)) (by decide) ?_
                refine x_iret C hA hQ hr dX9_book_41 (Nat.le_of_ble_eq_true rfl) ?_
                unfold booA booN enA enN
                repeat (first | rw [if_pos (by omega)] | rw [if_neg (by omega)])
                exact ⟨rfl, rfl⟩
      · skip
        obtain ⟨rfl, rfl, hc11⟩ := hp2
        refine x_ws (ws' := [(fi, .inr (8, [.ref tO, .ref gO, .ref nO, .ref tb, .ref tb', .ref trO, .ref gA, .ref tP, .int (nI kf)])), (tb, .inr (6, [.ref nz, .ref tl, .ref pg, .ref se, .ref pa, .ref bo, .ref li, .ref ba, .int (nI cols), .int (nI lc), .int (nI smp)])), (bo, .inr (1, [.ref b1, .ref b2, .int (nI nbo)])), (b1, .inl (cy 1, 8, .inl fb)), (b2, .inl (cy 1, 8, .inl gb))]) (List.append_nil _) ?_
        refine x_if_ne C (tgt := 29) dX9_book_24 (by decide) (q := 27) rfl (a := 0) rfl (fun h12 => (by omega : False).elim) (fun h12 => ?_)
        refine x_iconst C dX9_book_27 (q := 28) rfl (v := (-1)) (by decide) ?_
        refine x_iret C hA hQ hr dX9_book_28 (Nat.le_of_ble_eq_true rfl) ?_
        unfold booA booN enA enN
        repeat (first | rw [if_pos (by omega)] | rw [if_neg (by omega)])
        exact ⟨rfl, rfl⟩
  · first
    | (exfalso; omega)
    |
      refine x_aload_n C dX9_book_5 (q := 6) rfl rfl 0 rfl ?_
      refine x_get C (ci := 8) (v := .ref tb) hw0 0 rfl rfl 3 (by decide) hw1 rfl dX9_book_6 (q := 9) rfl ?_
      refine x_get C (ci := 6) (v := .ref bo) hw2 1 rfl rfl 5 (by decide) hw3 rfl dX9_book_9 (q := 12) rfl ?_
      refine x_callV C (roW := []) (roR := []) (c_X2_clear l D cy bo b1 b2 nbo ) (cwV 0 C.2.2.2.2.1 gX9_book_X2_clear rfl rfl rfl (by decide +kernel) (by rw [hR]; exact ⟨Nat.le_of_ble_eq_true rfl, Nat.le_of_ble_eq_true rfl⟩)) [2] [] rfl (by decide) rfl (by decide) xro_nil (List.mem_of_getElem? (i := 0) rfl) (ci := 1) rfl xT_bl (fun _ _ _ _ _ _ _ => trivial) rfl rfl dX9_book_12 rfl rfl (Nat.le_of_ble_eq_true rfl) (q := 15) rfl (k' := 0) rfl (n' := 0) rfl (by rw [hR]; exact ⟨Nat.le_of_ble_eq_true rfl, Nat.le_of_ble_eq_true rfl⟩) (fun v13 w13 hp13 => ?_)
      obtain ⟨rfl, rfl⟩ := hp13
      refine x_ws (ws' := [(fi, .inr (8, [.ref tO, .ref gO, .ref nO, .ref tb, .ref tb', .ref trO, .ref gA, .ref tP, .int (nI kf)])), (tb, .inr (6, [.ref nz, .ref tl, .ref pg, .ref se, .ref pa, .ref bo, .ref li, .ref ba, .int (nI cols), .int (nI lc), .int (nI smp)])), (bo, .inr (1, [.ref b1, .ref b2, .int (nI 0)])), (b1, .inl (cy 1, 8, .inl fb)), (b2, .inl (cy 1, 8, .inl gb))]) rfl ?_
      refine x_iret C hA hQ hr dX9_book_15 (Nat.le_of_ble_eq_true rfl) ?_
      unfold booA booN enA enN
      repeat (first | rw [if_pos (by omega)] | rw [if_neg (by omega)])
      exact ⟨rfl, rfl⟩

set_option maxHeartbeats 4000000 in
set_option maxRecDepth 100000 in
/-- count -/
theorem c_X9_count (l : Launch) (D : va_G) (cy : Nat → ClassId) (fi : Nat) (tO : Nat) (gO : Nat) (nO : Nat) (tb : Nat) (tb' : Nat) (trO : Nat) (gA : Nat) (tP : Nat) (kf : Nat) (tB : Nat) (tn : Nat) (tx : Nat → Nat) (nz : Nat) (tl : Nat) (pg : Nat) (se : Nat) (pa : Nat) (bo : Nat) (li : Nat) (ba : Nat) (cols : Nat) (lc : Nat) (smp : Nat) (s1 : Nat) (s2 : Nat) (nse : Nat) (fs : Nat → Int32) (gs : Nat → Int32) (p1 : Nat) (p2 : Nat) (npa : Nat) (fp : Nat → Int32) (gp : Nat → Int32) (b1 : Nat) (b2 : Nat) (nbo : Nat) (fb : Nat → Int32) (gb : Nat → Int32) (x : Int32)  : xMet l D cy xT yX9_count wsX9_count ({ frames := 1, cells := 0, slots := 0, locals := 0 } : Room) [.ref fi, .int (x)] [(fi, .inr (8, [.ref tO, .ref gO, .ref nO, .ref tb, .ref tb', .ref trO, .ref gA, .ref tP, .int (nI kf)])), (tO, .inr (5, [.ref tB, .int (nI tn)])), (tB, .inl (cy 0, 60, .inl (fun k => nI (tx k)))), (tb, .inr (6, [.ref nz, .ref tl, .ref pg, .ref se, .ref pa, .ref bo, .ref li, .ref ba, .int (nI cols), .int (nI lc), .int (nI smp)])), (se, .inr (1, [.ref s1, .ref s2, .int (nI nse)])), (s1, .inl (cy 1, 6, .inl fs)), (s2, .inl (cy 1, 6, .inl gs)), (pa, .inr (1, [.ref p1, .ref p2, .int (nI npa)])), (p1, .inl (cy 1, 8, .inl fp)), (p2, .inl (cy 1, 8, .inl gp)), (bo, .inr (1, [.ref b1, .ref b2, .int (nI nbo)])), (b1, .inl (cy 1, 8, .inl fb)), (b2, .inl (cy 1, 8, .inl gb))] [] (fun (v9 : Option Value) (w9 : va_W) => (v9 = some (.int (couA lc nse npa nbo tn x)) ∧ w9 = [(fi, .inr (8, [.ref tO, .ref gO, .ref nO, .ref tb, .ref tb', .ref trO, .ref gA, .ref tP, .int (nI kf)])), (tO, .inr (5, [.ref tB, .int (nI tn)])), (tB, .inl (cy 0, 60, .inl (fun k => nI (tx k)))), (tb, .inr (6, [.ref nz, .ref tl, .ref pg, .ref se, .ref pa, .ref bo, .ref li, .ref ba, .int (nI cols), .int (nI lc), .int (nI smp)])), (se, .inr (1, [.ref s1, .ref s2, .int (nI nse)])), (s1, .inl (cy 1, 6, .inl fs)), (s2, .inl (cy 1, 6, .inl gs)), (pa, .inr (1, [.ref p1, .ref p2, .int (nI npa)])), (p1, .inl (cy 1, 8, .inl fp)), (p2, .inl (cy 1, 8, .inl gp)), (bo, .inr (1, [.ref b1, .ref b2, .int (nI nbo)])), (b1, .inl (cy 1, 8, .inl fb)), (b2, .inl (cy 1, 8, .inl gb))])) := by
  refine xMet_of (cc := cX9_count) (maxL := 2) (ret := (some .int)) (by decide) rfl (Nat.le_of_ble_eq_true rfl) (fun p e s m args below meth c A R Q hA hR hQ C hr hnm hro hX => ?_)
  have hw0 : ∀ w ∈ u_ws RX9 TX9 9, w ∈ wsX9_count := by decide +kernel
  have hw1 : Cond.fieldLink RX9 33 (TX9 3).1 (TX9 3).2.1 (TX9 3).2.2.1 ∈ wsX9_count := by decide +kernel
  have hw2 : ∀ w ∈ u_ws RX7 TX7 11, w ∈ wsX9_count := by decide +kernel
  have hw3 : Cond.fieldLink RX9 83 (TX7 9).1 (TX7 9).2.1 (TX7 9).2.2.1 ∈ wsX9_count := by decide +kernel
  have hw4 : Cond.fieldLink RX9 215 (TX7 3).1 (TX7 3).2.1 (TX7 3).2.2.1 ∈ wsX9_count := by decide +kernel
  have hw5 : ∀ w ∈ u_ws RX2 TX2 3, w ∈ wsX9_count := by decide +kernel
  have hw6 : Cond.fieldLink RX9 247 (TX2 2).1 (TX2 2).2.1 (TX2 2).2.2.1 ∈ wsX9_count := by decide +kernel
  have hw7 : Cond.fieldLink RX9 234 (TX7 4).1 (TX7 4).2.1 (TX7 4).2.2.1 ∈ wsX9_count := by decide +kernel
  have hw8 : Cond.fieldLink RX9 244 (TX7 5).1 (TX7 5).2.1 (TX7 5).2.2.1 ∈ wsX9_count := by decide +kernel
  have hw9 : Cond.fieldLink RX9 16 (TX9 0).1 (TX9 0).2.1 (TX9 0).2.2.1 ∈ wsX9_count := by decide +kernel
  have hw10 : ∀ w ∈ u_ws RX6 TX6 2, w ∈ wsX9_count := by decide +kernel
  have hw11 : Cond.fieldLink RX9 62 (TX6 1).1 (TX6 1).2.1 (TX6 1).2.2.1 ∈ wsX9_count := by decide +kernel
  refine x_L (L' := [(0, .ref fi), (1, .int (x))]) [0, 1] rfl ?_
  refine x_iload_n C dX9_count_0 (q := 1) rfl rfl 1 rfl ?_
  by_cases hs1 : x.toInt < 0 ∨ 4 < x.toInt
  · refine x_tableOut C (tgt := 85) dX9_count_1 hs1 (by decide) ?_
    refine x_bipush C dX9_count_85 (q := 87) rfl (v := (-2)) (by decide) ?_
    refine x_iret C hA hQ hr dX9_count_87 (Nat.le_of_ble_eq_true rfl) ?_
    refine ⟨?_, rfl⟩
    unfold couA
    repeat (first | rw [if_pos (by omega)] | rw [if_neg (by omega)])
  · have hs1' : x.toInt = 0 ∨ x.toInt = 1 ∨ x.toInt = 2 ∨ x.toInt = 3 ∨ x.toInt = 4 := by omega
    rcases hs1' with hs1e | hs1e | hs1e | hs1e | hs1e
    · refine x_tableIn C (tgt := 36) (0 : Int) ((rfl : (x : Int32).toInt = x.toInt).trans hs1e) dX9_count_1 (by decide) (by decide) rfl (by decide) ?_
      refine x_aload_n C dX9_count_36 (q := 37) rfl rfl 0 rfl ?_
      refine x_get C (ci := 8) (v := .ref tb) hw0 0 rfl rfl 3 (by decide) hw1 rfl dX9_count_37 (q := 40) rfl ?_
      refine x_get C (ci := 6) (v := .int (nI lc)) hw2 3 rfl rfl 9 (by decide) hw3 rfl dX9_count_40 (q := 43) rfl ?_
      refine x_iret C hA hQ hr dX9_count_43 (Nat.le_of_ble_eq_true rfl) ?_
      refine ⟨?_, rfl⟩
      unfold couA
      repeat (first | rw [if_pos (by omega)] | rw [if_neg (by omega)])
    · refine x_tableIn C (tgt := 44) (1 : Int) ((rfl : (x : Int32).toInt = x.toInt).trans hs1e) dX9_count_1 (by decide) (by decide) rfl (by decide) ?_
      refine x_aload_n C dX9_count_44 (q := 45) rfl rfl 0 rfl ?_
      refine x_get C (ci := 8) (v := .ref tb) hw0 0 rfl rfl 3 (by decide) hw1 rfl dX9_count_45 (q := 48) rfl ?_
      refine x_get C (ci := 6) (v := .ref se) hw2 3 rfl rfl 3 (by decide) hw4 rfl dX9_count_48 (q := 51) rfl ?_
      refine x_get C (ci := 1) (v := .int (nI nse)) hw5 4 rfl rfl 2 (by decide) hw6 rfl dX9_count_51 (q := 54) rfl ?_
      refine x_iret C hA hQ hr dX9_count_54 (Nat.le_of_ble_eq_true rfl) ?_
      refine ⟨?_, rfl⟩
      unfold couA
      repeat (first | rw [if_pos (by omega)] | rw [if_neg (by omega)])
    · refine x_tableIn C (tgt := 55) (2 : Int) ((rfl : (x : Int32).toInt = x.toInt).trans hs1e) dX9_count_1 (by decide) (by decide) rfl (by decide) ?_
      refine x_aload_n C dX9_count_55 (q := 56) rfl rfl 0 rfl ?_
      refine x_get C (ci := 8) (v := .ref tb) hw0 0 rfl rfl 3 (by decide) hw1 rfl dX9_count_56 (q := 59) rfl ?_
      refine x_get C (ci := 6) (v := .ref pa) hw2 3 rfl rfl 4 (by decide) hw7 rfl dX9_count_59 (q := 62) rfl ?_
      refine x_get C (ci := 1) (v := .int (nI npa)) hw5 7 rfl rfl 2 (by decide) hw6 rfl dX9_count_62 (q := 65) rfl ?_
      refine x_iret C hA hQ hr dX9_count_65 (Nat.le_of_ble_eq_true rfl) ?_
      refine ⟨?_, rfl⟩
      unfold couA
      repeat (first | rw [if_pos (by omega)] | rw [if_neg (by omega)])
    · refine x_tableIn C (tgt := 66) (3 : Int) ((rfl : (x : Int32).toInt = x.toInt).trans hs1e) dX9_count_1 (by decide) (by decide) rfl (by decide) ?_
      refine x_aload_n C dX9_count_66 (q := 67) rfl rfl 0 rfl ?_
      refine x_get C (ci := 8) (v := .ref tb) hw0 0 rfl rfl 3 (by decide) hw1 rfl dX9_count_67 (q := 70) rfl ?_
      refine x_get C (ci := 6) (v := .ref bo) hw2 3 rfl rfl 5 (by decide) hw8 rfl dX9_count_70 (q := 73) rfl ?_
      refine x_get C (ci := 1) (v := .int (nI nbo)) hw5 10 rfl rfl 2 (by decide) hw6 rfl dX9_count_73 (q := 76) rfl ?_
      refine x_iret C hA hQ hr dX9_count_76 (Nat.le_of_ble_eq_true rfl) ?_
      refine ⟨?_, rfl⟩
      unfold couA
      repeat (first | rw [if_pos (by omega)] | rw [if_neg (by omega)])
    · refine x_tableIn C (tgt := 77) (4 : Int) ((rfl : (x : Int32).toInt = x.toInt).trans hs1e) dX9_count_1 (by decide) (by decide) rfl (by decide) ?_
      refine x_aload_n C dX9_count_77 (q := 78) rfl rfl 0 rfl ?_
      refine x_get C (ci := 8) (v := .ref tO) hw0 0 rfl rfl 0 (by decide) hw9 rfl dX9_count_78 (q := 81) rfl ?_
      refine x_get C (ci := 5) (v := .int (nI tn)) hw10 1 rfl rfl 1 (by decide) hw11 rfl dX9_count_81 (q := 84) rfl ?_
      refine x_iret C hA hQ hr dX9_count_84 (Nat.le_of_ble_eq_true rfl) ?_
      refine ⟨?_, rfl⟩
      unfold couA
      repeat (first | rw [if_pos (by omega)] | rw [if_neg (by omega)])

