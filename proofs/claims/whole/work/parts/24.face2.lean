
theorem xput_length : ∀ (is : List Nat) (ws cs : va_W), is.length = cs.length → (xput ws is cs).length = ws.length
  | [], ws, [], _ => by show (ws ++ []).length = _; rw [List.append_nil]
  | [], ws, _ :: _, h => by cases h
  | i :: is, ws, c :: cs, h => (xput_length is (ws.set i c) cs (by simpa using h)).trans (List.length_set)
  | _ :: _, ws, [], h => by cases h
theorem xput_eq {ws ws' w' : va_W} (isC rest : List Nat) (n : Nat) (h0 : ws.length = n) (h1 : ws'.length = n) (hi : ∀ i ∈ isC, i < n) (hc : isC.map (fun i => ws'[i]?) = w'.map some) (hr : rest.map (fun i => ws'[i]?) = rest.map (fun i => ws[i]?)) (ha : (List.range n).all (fun i => isC.contains i || rest.contains i) = true) : xput ws isC w' = ws' := by
  have hl : isC.length = w'.length := by have := congrArg List.length hc; simpa using this
  have hlen := xput_length isC ws w' hl
  refine List.ext_getElem? (fun k => ?_)
  by_cases hk : k < n
  · have hk2 : k < (xput ws isC w').length := by rw [hlen, h0]; exact hk
    rw [List.getElem?_eq_getElem hk2]
    rcases xput_get isC ws w' (Nat.le_of_eq hl) (fun i h => by rw [h0]; exact hi i h) k _ (List.getElem?_eq_getElem hk2) with ⟨j, g1, g2⟩ | ⟨g1, g2⟩ | ⟨j, g1, g2, g3⟩
    · have e := congrArg (fun z => z[j]?) hc
      simp only [List.getElem?_map, g1, g2, Option.map_some] at e
      exact (Option.some.inj e).symm
    · have m1 := List.all_eq_true.mp ha k (List.mem_range.mpr hk)
      rw [Bool.or_eq_true] at m1
      have m2 : k ∈ rest := by
        rcases m1 with m1 | m1
        · exact absurd (List.contains_iff_mem.mp m1) g1
        · exact List.contains_iff_mem.mp m1
      obtain ⟨j, hj⟩ := List.getElem?_of_mem m2
      have e := congrArg (fun z => z[j]?) hr
      simp only [List.getElem?_map, hj, Option.map_some] at e
      rw [Option.some.inj e, g2]
    · have := (List.getElem?_eq_some_iff.mp g2).1
      omega
  · rw [List.getElem?_eq_none (by rw [hlen, h0]; omega), List.getElem?_eq_none (by rw [h1]; omega)]
/-- where a LINE's text is at fault, or -1 -/
def lfF (tx : Nat → Nat) (n : Nat) : Nat → Nat → Nat → Int
  | 0, _, _ => -1
  | f + 1, len, p => if p < n then (if tx p = 44 then lfF tx n f 0 (p + 1) else if tx p < 32 ∨ 126 < tx p ∨ len = 12 then (p : Int) else lfF tx n f (len + 1) (p + 1)) else -1
def lfA (tx : Nat → Nat) (n : Nat) : Int := lfF tx n n 0 0
theorem lfF_c {tx : Nat → Nat} {n f len p : Nat} (a : p < n) (b : tx p = 44) : lfF tx n (f + 1) len p = lfF tx n f 0 (p + 1) := (if_pos a).trans (if_pos b)
theorem lfF_x {tx : Nat → Nat} {n f len p : Nat} (a : p < n) (b : ¬ tx p = 44) (d : tx p < 32 ∨ 126 < tx p ∨ len = 12) : lfF tx n (f + 1) len p = (p : Int) := (if_pos a).trans ((if_neg b).trans (if_pos d))
theorem lfF_n {tx : Nat → Nat} {n f len p : Nat} (a : p < n) (b : ¬ tx p = 44) (d : ¬ (tx p < 32 ∨ 126 < tx p ∨ len = 12)) : lfF tx n (f + 1) len p = lfF tx n f (len + 1) (p + 1) := (if_pos a).trans ((if_neg b).trans (if_neg d))
theorem lfF_end {tx : Nat → Nat} {n : Nat} : ∀ (f len p : Nat), n ≤ p + f → p ≤ n → len ≤ 12 → lfF tx n f len p = -1 → fEnd tx n p - p + len ≤ 12 ∧ (fEnd tx n p < n → ∃ g, n ≤ fEnd tx n p + 1 + g ∧ lfF tx n g 0 (fEnd tx n p + 1) = -1)
  | 0, len, p, h1, h2, h3, h4 => by
    have e : p = n := by omega
    have e2 := fEnd_stop (tx := tx) (n := n) (p := p) (by omega)
    rw [e2]
    exact ⟨by omega, fun z => by omega⟩
  | f + 1, len, p, h1, h2, h3, h4 => by
    by_cases a : p < n
    · by_cases b : tx p = 44
      · have e2 := fEnd_stop (tx := tx) (n := n) (p := p) (by omega)
        rw [e2]
        refine ⟨by omega, fun _ => ⟨f, by omega, ?_⟩⟩
        unfold lfF at h4
        rw [if_pos a, if_pos b] at h4
        exact h4
      · have e2 := fEnd_step (tx := tx) (n := n) (p := p) a b
        unfold lfF at h4
        rw [if_pos a, if_neg b] at h4
        by_cases d : tx p < 32 ∨ 126 < tx p ∨ len = 12
        · rw [if_pos d] at h4
          omega
        · rw [if_neg d] at h4
          have h5 := lfF_end f (len + 1) (p + 1) (by omega) (by omega) (by omega) h4
          have h6 := fEnd_ge tx n (p + 1)
          rw [e2]
          exact ⟨by omega, h5.2⟩
    · have e2 := fEnd_stop (tx := tx) (n := n) (p := p) (by omega)
      rw [e2]
      exact ⟨by omega, fun z => by omega⟩
theorem lfA_len {tx : Nat → Nat} {n : Nat} (h : lfA tx n = -1) : ∀ i, i < nF tx n → fLen tx n i ≤ 12 := by
  have h1 : ∀ i, i < nF tx n → ∃ g, n ≤ fSt tx n i + g ∧ lfF tx n g 0 (fSt tx n i) = -1 := by
    intro i
    induction i with
    | zero => exact fun _ => ⟨n, by omega, h⟩
    | succ i ih =>
      intro hi
      obtain ⟨g, g1, g2⟩ := ih (by omega)
      have h2 := fSt_le (tx := tx) (n := n) (i := i) (by omega)
      have h3 := fSt_le (tx := tx) (n := n) (i := i + 1) hi
      have h4 : fSt tx n (i + 1) = fEnd tx n (fSt tx n i) + 1 := rfl
      have h5 := (lfF_end g 0 (fSt tx n i) g1 h2 (by omega) g2).2 (by omega)
      rw [h4]
      exact h5
  intro i hi
  obtain ⟨g, g1, g2⟩ := h1 i hi
  have h2 := fSt_le (tx := tx) (n := n) (i := i) hi
  have h5 := (lfF_end g 0 (fSt tx n i) g1 h2 (by omega) g2).1
  have h6 : fLen tx n i = fEnd tx n (fSt tx n i) - fSt tx n i := rfl
  omega

set_option maxHeartbeats 4000000 in
set_option maxRecDepth 100000 in
/-- where a LINE's text is at fault, or -1 -/
theorem c_X9_lineFaultPlace (l : Launch) (D : va_G) (cy : Nat → ClassId) (tB : Nat) (tn : Nat) (tx : Nat → Nat) (tO : Nat) (htn : tn ≤ 60) (htx : ∀ k, tx k < 128) : xMet l D cy xT yX9_lineFaultPlace wsX9_lineFaultPlace ({ frames := 2, cells := 0, slots := 0, locals := 200 } : Room) [.ref tO] [] [(tO, .inr (5, [.ref tB, .int (nI tn)])), (tB, .inl (cy 0, 60, .inl (fun k => nI (tx k))))] (fun (v9 : Option Value) (w9 : va_W) => (∃ r : Int32, v9 = some (.int (r)) ∧ w9 = [] ∧ r.toInt = lfA tx tn)) := by
  refine xMet_of (cc := cX9_lineFaultPlace) (maxL := 4) (ret := (some .int)) (by decide) rfl (Nat.le_of_ble_eq_true rfl) (fun p e s m args below meth c A R Q hA hR hQ C hr hnm hro hX => ?_)
  have hw0 : ∀ w ∈ u_ws RX6 TX6 2, w ∈ wsX9_lineFaultPlace := by decide +kernel
  have hw1 : Cond.fieldLink RX9 62 (TX6 1).1 (TX6 1).2.1 (TX6 1).2.2.1 ∈ wsX9_lineFaultPlace := by decide +kernel
  refine x_L (L' := [(0, .ref tO)]) [0] rfl ?_
  refine x_iconst C dX9_lineFaultPlace_0 (q := 1) rfl (v := nI 0) (by decide) ?_
  refine x_istore_n C (L' := [(1, .int (nI 0)), (0, .ref tO)]) dX9_lineFaultPlace_1 (q := 2) rfl rfl (by decide) rfl ?_
  refine x_iconst C dX9_lineFaultPlace_2 (q := 3) rfl (v := nI 0) (by decide) ?_
  refine x_istore_n C (L' := [(2, .int (nI 0)), (1, .int (nI 0)), (0, .ref tO)]) dX9_lineFaultPlace_3 (q := 4) rfl rfl (by decide) rfl ?_
  have cut4 : ∀ (fuel : Nat) (len : Nat) (i : Nat), (i ≤ tn) → (len ≤ 12) → (lfA tx tn = lfF tx tn (tn - i) len i) → tn - i < fuel → xG p l e R s m args below meth c Q D A 4 [] 0 0 4 [(0, .ref tO), (1, .int (nI len)), (2, .int (nI i))] [] := by
    intro fuel
    induction fuel with
    | zero =>
      intro len i hi hlen he hmu
      exact absurd hmu (Nat.not_lt_zero _)
    | succ fuel ih =>
      intro len i hi hlen he hmu
      have ih4 := ih
      clear ih
      refine x_iload_n C dX9_lineFaultPlace_4 (q := 5) rfl rfl 2 rfl ?_
      refine x_aload_n C dX9_lineFaultPlace_5 (q := 6) rfl rfl 0 rfl ?_
      refine x_getR C (ci := 5) (v := .int (nI tn)) hw0 (hro (tO, .inr (5, [.ref tB, .int (nI tn)])) (List.mem_of_getElem? (i := 0) rfl)) rfl 1 (by decide) hw1 rfl dX9_lineFaultPlace_6 (q := 9) rfl ?_
      refine x_icmp_ge C (tgt := 58) dX9_lineFaultPlace_9 (by decide) (q := 12) rfl (a := ((i : Nat) : Int)) (b := ((tn : Nat) : Int)) (nI_toInt (by omega)) (nI_toInt (by omega)) (fun h1 => ?_) (fun h1 => ?_)
      · first
        | (exfalso; omega)
        |
          refine x_iconst C dX9_lineFaultPlace_58 (q := 59) rfl (v := (-1)) (by decide) ?_
          refine x_iret C hA hQ hr dX9_lineFaultPlace_59 (Nat.le_of_ble_eq_true rfl) ?_
          refine ⟨_, rfl, rfl, ?_⟩
          rw [he, show tn - i = 0 by omega]
          rfl
      · first
        | (exfalso; omega)
        |
          refine x_aload_n C dX9_lineFaultPlace_12 (q := 13) rfl rfl 0 rfl ?_
          refine x_iload_n C dX9_lineFaultPlace_13 (q := 14) rfl rfl 2 rfl ?_
          refine x_callV C (roW := []) (roR := [(tO, .inr (5, [.ref tB, .int (nI tn)])), (tB, .inl (cy 0, 60, .inl (fun k => nI (tx k))))]) (c_X6_at l D cy tO tB tn 60 tx i (by first | assumption | omega | (simp only []; omega)) (by first | assumption | omega | (simp only []; omega)) (by first | assumption | omega | (simp only []; omega)) (by assumption)) (cwV 1 C.2.2.2.2.1 gX9_lineFaultPlace_X6_at rfl rfl rfl (by decide +kernel) (by rw [hR]; exact ⟨Nat.le_of_ble_eq_true rfl, Nat.le_of_ble_eq_true rfl⟩)) [] [] rfl (by decide) rfl (by decide) (xro_cons (hro (tO, .inr (5, [.ref tB, .int (nI tn)])) (List.mem_of_getElem? (i := 0) rfl)) (xro_cons (hro (tB, .inl (cy 0, 60, .inl (fun k => nI (tx k)))) (List.mem_of_getElem? (i := 1) rfl)) xro_nil)) (List.mem_of_getElem? (i := 0) rfl) (ci := 5) rfl xT_bl (fun _ _ _ _ _ _ _ => trivial) rfl rfl dX9_lineFaultPlace_14 rfl rfl (Nat.le_of_ble_eq_true rfl) (q := 17) rfl (k' := 0) rfl (n' := 0) rfl (by rw [hR]; exact ⟨Nat.le_of_ble_eq_true rfl, Nat.le_of_ble_eq_true rfl⟩) (fun v2 w2 hp2 => ?_)
          obtain ⟨r_3, rfl, rfl, hc4⟩ := hp2
          refine x_ws (ws' := []) (List.append_nil _) ?_
          rw [sgA_in (by omega)] at hc4
          refine x_istore_n C (L' := [(3, .int (r_3)), (0, .ref tO), (1, .int (nI len)), (2, .int (nI i))]) dX9_lineFaultPlace_17 (q := 18) rfl rfl (by decide) rfl ?_
          have cut52 : ∀ (len2 : Nat), (len2 ≤ 12) → (lfA tx tn = lfF tx tn (tn - (i + 1)) len2 (i + 1)) → xG p l e R s m args below meth c Q D A 4 [] 0 0 52 [(0, .ref tO), (1, .int (nI len2)), (2, .int (nI i))] [] := by
            intro len2 hlen2 he2
            refine x_iinc C (L' := [(2, .int (nI (i + 1))), (0, .ref tO), (1, .int (nI len2))]) dX9_lineFaultPlace_52 (q := 55) rfl 2 rfl (v := nI (i + 1)) (nI_add i 1) (by decide) rfl ?_
            refine x_goto C (tgt := 4) dX9_lineFaultPlace_55 (by decide) ?_
            refine x_L (L' := [(0, .ref tO), (1, .int (nI len2)), (2, .int (nI (i + 1)))]) [1, 2, 0] rfl ?_
            exact ih4 len2 (i + 1) (by first | omega | assumption) (by first | omega | assumption) (by first | assumption | omega) (by omega)
          refine x_iload_n C dX9_lineFaultPlace_18 (q := 19) rfl rfl 0 rfl ?_
          refine x_bipush C dX9_lineFaultPlace_19 (q := 21) rfl (v := nI 44) (by decide) ?_
          refine x_icmp_ne C (tgt := 29) dX9_lineFaultPlace_21 (by decide) (q := 24) rfl (a := r_3.toInt) (b := 44) rfl rfl (fun h5 => ?_) (fun h5 => ?_)
          · first
            | (exfalso; omega)
            |
              refine x_iload_n C dX9_lineFaultPlace_29 (q := 30) rfl rfl 0 rfl ?_
              refine x_bipush C dX9_lineFaultPlace_30 (q := 32) rfl (v := nI 32) (by decide) ?_
              refine x_icmp_lt C (tgt := 47) dX9_lineFaultPlace_32 (by decide) (q := 35) rfl (a := r_3.toInt) (b := 32) rfl rfl (fun h6 => ?_) (fun h6 => ?_)
              · first
                | (exfalso; omega)
                |
                  refine x_iload_n C dX9_lineFaultPlace_47 (q := 48) rfl rfl 3 rfl ?_
                  refine x_iret C hA hQ hr dX9_lineFaultPlace_48 (Nat.le_of_ble_eq_true rfl) ?_
                  refine ⟨_, rfl, rfl, ?_⟩
                  rw [he, show tn - i = (tn - (i + 1)) + 1 by omega, lfF_x (by omega) (by omega) (by omega)]
                  exact nI_toInt (by omega)
              · first
                | (exfalso; omega)
                |
                  refine x_iload_n C dX9_lineFaultPlace_35 (q := 36) rfl rfl 0 rfl ?_
                  refine x_bipush C dX9_lineFaultPlace_36 (q := 38) rfl (v := nI 126) (by decide) ?_
                  refine x_icmp_gt C (tgt := 47) dX9_lineFaultPlace_38 (by decide) (q := 41) rfl (a := r_3.toInt) (b := 126) rfl rfl (fun h7 => ?_) (fun h7 => ?_)
                  · first
                    | (exfalso; omega)
                    |
                      refine x_iload_n C dX9_lineFaultPlace_47 (q := 48) rfl rfl 3 rfl ?_
                      refine x_iret C hA hQ hr dX9_lineFaultPlace_48 (Nat.le_of_ble_eq_true rfl) ?_
                      refine ⟨_, rfl, rfl, ?_⟩
                      rw [he, show tn - i = (tn - (i + 1)) + 1 by omega, lfF_x (by omega) (by omega) (by omega)]
                      exact nI_toInt (by omega)
                  · first
                    | (exfalso; omega)
                    |
                      refine x_iload_n C dX9_lineFaultPlace_41 (q := 42) rfl rfl 2 rfl ?_
                      refine x_bipush C dX9_lineFaultPlace_42 (q := 44) rfl (v := nI 12) (by decide) ?_
                      refine x_icmp_ne C (tgt := 49) dX9_lineFaultPlace_44 (by decide) (q := 47) rfl (a := ((len : Nat) : Int)) (b := 12) (nI_toInt (by omega)) rfl (fun h8 => ?_) (fun h8 => ?_)
                      · first
                        | (exfalso; omega)
                        |
                          refine x_iinc C (L' := [(1, .int (nI (len + 1))), (3, .int (r_3)), (0, .ref tO), (2, .int (nI i))]) dX9_lineFaultPlace_49 (q := 52) rfl 2 rfl (v := nI (len + 1)) (nI_add len 1) (by decide) rfl ?_
                          refine x_L (L' := [(0, .ref tO), (1, .int (nI (len + 1))), (2, .int (nI i))]) [2, 0, 3] rfl ?_
                          exact cut52 (len + 1) (by first | omega | assumption) (by first | (rw [he, show tn - i = (tn - (i + 1)) + 1 by omega]; exact lfF_c (by omega) (by omega)) | (rw [he, show tn - i = (tn - (i + 1)) + 1 by omega]; exact lfF_n (by omega) (by omega) (by omega)))
                      · first
                        | (exfalso; omega)
                        |
                          refine x_iload_n C dX9_lineFaultPlace_47 (q := 48) rfl rfl 3 rfl ?_
                          refine x_iret C hA hQ hr dX9_lineFaultPlace_48 (Nat.le_of_ble_eq_true rfl) ?_
                          refine ⟨_, rfl, rfl, ?_⟩
                          rw [he, show tn - i = (tn - (i + 1)) + 1 by omega, lfF_x (by omega) (by omega) (by omega)]
                          exact nI_toInt (by omega)
          · first
            | (exfalso; omega)
            |
              refine x_iconst C dX9_lineFaultPlace_24 (q := 25) rfl (v := nI 0) (by decide) ?_
              refine x_istore_n C (L' := [(1, .int (nI 0)), (3, .int (r_3)), (0, .ref tO), (2, .int (nI i))]) dX9_lineFaultPlace_25 (q := 26) rfl rfl (by decide) rfl ?_
              refine x_goto C (tgt := 52) dX9_lineFaultPlace_26 (by decide) ?_
              refine x_L (L' := [(0, .ref tO), (1, .int (nI 0)), (2, .int (nI i))]) [2, 0, 3] rfl ?_
              exact cut52 0 (by first | omega | assumption) (by first | (rw [he, show tn - i = (tn - (i + 1)) + 1 by omega]; exact lfF_c (by omega) (by omega)) | (rw [he, show tn - i = (tn - (i + 1)) + 1 by omega]; exact lfF_n (by omega) (by omega) (by omega)))
  refine x_L (L' := [(0, .ref tO), (1, .int (nI 0)), (2, .int (nI 0))]) [2, 1, 0] rfl ?_
  exact cut4 (tn - 0 + 1) 0 0 (by first | omega | assumption) (by first | omega | assumption) (by rw [Nat.sub_zero]; rfl) (by omega)


theorem xi_sub10 {r : Int32} (h : 0 ≤ r.toInt ∧ r.toInt ≤ 1000) : ((-10 : Int32) - r).toInt = -10 - r.toInt := by
  rw [Int32.toInt_sub, show (-10 : Int32).toInt = -10 from rfl]
  exact Int.bmod_eq_of_le (by omega) (by omega)
theorem hdR_in {tx : Nat → Nat} {n : Nat} : ∀ (f : Nat) (ss zs : Nat → Nat) (m p : Nat), p ≤ n → 0 ≤ n → (hdR tx n f ss zs m p).1 = -1 ∨ (0 ≤ (hdR tx n f ss zs m p).1 ∧ (hdR tx n f ss zs m p).1 ≤ n)
  | 0, ss, zs, m, p, h, h0 => Or.inr ⟨Int.natCast_nonneg p, by show (p : Int) ≤ n; omega⟩
  | f + 1, ss, zs, m, p, h, h0 => by
    have h1 := ltr_in (tx := tx) h
    unfold hdR
    split
    · exact Or.inr ⟨Int.natCast_nonneg p, by show (p : Int) ≤ n; omega⟩
    · split
      · exact Or.inl rfl
      · split
        · exact Or.inr ⟨Int.natCast_nonneg _, by show ((p + ltr tx n p : Nat) : Int) ≤ n; omega⟩
        · exact hdR_in f _ _ _ _ (by omega) h0

set_option maxHeartbeats 4000000 in
set_option maxRecDepth 100000 in
/-- head -/
theorem c_X9_head (l : Launch) (D : va_G) (cy : Nat → ClassId) (fi : Nat) (tO : Nat) (gO : Nat) (nO : Nat) (tb : Nat) (tb' : Nat) (trO : Nat) (gA : Nat) (tP : Nat) (kf : Nat) (tB : Nat) (tn : Nat) (tx : Nat → Nat) (nz : Nat) (tl : Nat) (pg : Nat) (se : Nat) (pa : Nat) (bo : Nat) (li : Nat) (ba : Nat) (cols : Nat) (lc : Nat) (smp : Nat) (sa : Nat) (za : Nat) (nm : Nat) (ss : Nat → Nat) (zs : Nat → Nat) (nzf : Nat → Nat) (tlf : Nat → Nat) (g0 : Nat) (g1 : Nat) (g2 : Nat) (g3 : Nat) (g4 : Nat) (g5 : Nat) (P : PS) (ky : Int32) (s1 : Nat) (s2 : Nat) (nse : Nat) (p1 : Nat) (p2 : Nat) (npa : Nat) (b1 : Nat) (b2 : Nat) (nbo : Nat) (fs : Nat → Int32) (gs : Nat → Int32) (fp : Nat → Int32) (gp : Nat → Int32) (fb : Nat → Int32) (gb : Nat → Int32) (htn : tn ≤ 60) (htx : ∀ k, tx k < 128) (hzs : ∀ k, zs k ≤ 4) (hs60 : ∀ k, ss k ≤ 60) : xMet l D cy xT yX9_head wsX9_head ({ frames := 5, cells := 0, slots := 0, locals := 600 } : Room) [.ref fi] [(fi, .inr (8, [.ref tO, .ref gO, .ref nO, .ref tb, .ref tb', .ref trO, .ref gA, .ref tP, .int (nI kf)])), (tO, .inr (5, [.ref tB, .int (nI tn)])), (tB, .inl (cy 0, 60, .inl (fun k => nI (tx k)))), (nO, .inr (2, [.ref sa, .ref za, .int (nI nm)])), (sa, .inl (cy 1, 5, .inl (fun k => nI (ss k)))), (za, .inl (cy 1, 5, .inl (fun k => nI (zs k)))), (tb, .inr (6, [.ref nz, .ref tl, .ref pg, .ref se, .ref pa, .ref bo, .ref li, .ref ba, .int (nI cols), .int (nI lc), .int (nI smp)])), (nz, .inl (cy 1, 5, .inl (fun k => nI (nzf k)))), (tl, .inl (cy 1, 5, .inl (fun k => nI (tlf k)))), (pg, .inr (4, [.ref g0, .ref g1, .ref g2, .ref g3, .ref g4, .ref g5, .int (nI (pMk P)), .int (nI (pRs P)), .int (ky)])), (g0, .inl (cy 1, 5, .inl (fun k => nI ((pSt P) k)))), (g1, .inl (cy 1, 24, .inl (pFa P))), (g2, .inl (cy 1, 24, .inl (pCa P))), (g3, .inl (cy 1, 24, .inl (pDc P))), (g4, .inl (cy 1, 24, .inl (pRl P))), (g5, .inl (cy 1, 24, .inl (fun k => nI ((pLr P) k)))), (se, .inr (1, [.ref s1, .ref s2, .int (nI nse)])), (s1, .inl (cy 1, 6, .inl fs)), (s2, .inl (cy 1, 6, .inl gs)), (pa, .inr (1, [.ref p1, .ref p2, .int (nI npa)])), (p1, .inl (cy 1, 8, .inl fp)), (p2, .inl (cy 1, 8, .inl gp)), (bo, .inr (1, [.ref b1, .ref b2, .int (nI nbo)])), (b1, .inl (cy 1, 8, .inl fb)), (b2, .inl (cy 1, 8, .inl gb))] [] (fun (v9 : Option Value) (w9 : va_W) => (∃ r : Int32, ∃ hp : Int, ∃ m2 : Nat, ∃ ss2 : Nat → Nat, ∃ zs2 : Nat → Nat, v9 = some (.int (r)) ∧ w9 = [(fi, .inr (8, [.ref tO, .ref gO, .ref nO, .ref tb, .ref tb', .ref trO, .ref gA, .ref tP, .int (nI kf)])), (tO, .inr (5, [.ref tB, .int (nI 0)])), (tB, .inl (cy 0, 60, .inl (fun k => nI (tx k)))), (nO, .inr (2, [.ref sa, .ref za, .int (nI m2)])), (sa, .inl (cy 1, 5, .inl (fun k => nI (ss2 k)))), (za, .inl (cy 1, 5, .inl (fun k => nI (zs2 k)))), (tb, .inr (6, [.ref nz, .ref tl, .ref pg, .ref se, .ref pa, .ref bo, .ref li, .ref ba, .int (nI cols), .int (nI lc), .int (nI smp)])), (nz, .inl (cy 1, 5, .inl (fun k => nI (nzf k)))), (tl, .inl (cy 1, 5, .inl (fun k => nI (tlf k)))), (pg, .inr (4, [.ref g0, .ref g1, .ref g2, .ref g3, .ref g4, .ref g5, .int (nI (pMk P)), .int (nI (pRs P)), .int (ky)])), (g0, .inl (cy 1, 5, .inl (fun k => nI ((pSt P) k)))), (g1, .inl (cy 1, 24, .inl (pFa P))), (g2, .inl (cy 1, 24, .inl (pCa P))), (g3, .inl (cy 1, 24, .inl (pDc P))), (g4, .inl (cy 1, 24, .inl (pRl P))), (g5, .inl (cy 1, 24, .inl (fun k => nI ((pLr P) k)))), (se, .inr (1, [.ref s1, .ref s2, .int (nI nse)])), (s1, .inl (cy 1, 6, .inl fs)), (s2, .inl (cy 1, 6, .inl gs)), (pa, .inr (1, [.ref p1, .ref p2, .int (nI npa)])), (p1, .inl (cy 1, 8, .inl fp)), (p2, .inl (cy 1, 8, .inl gp)), (bo, .inr (1, [.ref b1, .ref b2, .int (nI nbo)])), (b1, .inl (cy 1, 8, .inl fb)), (b2, .inl (cy 1, 8, .inl gb))] ∧ hdR tx tn 5 ss zs 0 0 = (hp, m2, ss2, zs2) ∧ ¬ hp = -1 ∧ r.toInt = -10 - hp ∧ (∀ k, zs2 k ≤ 4) ∧ (∀ k, ss2 k ≤ 60) ∧ m2 ≤ 5) ∨ (∃ m2 : Nat, ∃ ss2 : Nat → Nat, ∃ zs2 : Nat → Nat, v9 = some (.int (nI m2)) ∧ w9 = [(fi, .inr (8, [.ref tO, .ref gO, .ref nO, .ref tb, .ref tb', .ref trO, .ref gA, .ref tP, .int (nI kf)])), (tO, .inr (5, [.ref tB, .int (nI 0)])), (tB, .inl (cy 0, 60, .inl (fun k => nI (tx k)))), (nO, .inr (2, [.ref sa, .ref za, .int (nI m2)])), (sa, .inl (cy 1, 5, .inl (fun k => nI (ss2 k)))), (za, .inl (cy 1, 5, .inl (fun k => nI (zs2 k)))), (tb, .inr (6, [.ref nz, .ref tl, .ref pg, .ref se, .ref pa, .ref bo, .ref li, .ref ba, .int (nI m2), .int (nI 0), .int (nI smp)])), (nz, .inl (cy 1, 5, .inl (fun k => nI (zs2 k)))), (tl, .inl (cy 1, 5, .inl (fun k => nI ((fun _ => 0) k)))), (pg, .inr (4, [.ref g0, .ref g1, .ref g2, .ref g3, .ref g4, .ref g5, .int (nI (pMk (rs0 P))), .int (nI (pRs (rs0 P))), .int (-1)])), (g0, .inl (cy 1, 5, .inl (fun k => nI ((pSt (rs0 P)) k)))), (g1, .inl (cy 1, 24, .inl (pFa (rs0 P)))), (g2, .inl (cy 1, 24, .inl (pCa (rs0 P)))), (g3, .inl (cy 1, 24, .inl (pDc (rs0 P)))), (g4, .inl (cy 1, 24, .inl (pRl (rs0 P)))), (g5, .inl (cy 1, 24, .inl (fun k => nI ((pLr (rs0 P)) k)))), (se, .inr (1, [.ref s1, .ref s2, .int (nI 0)])), (s1, .inl (cy 1, 6, .inl fs)), (s2, .inl (cy 1, 6, .inl gs)), (pa, .inr (1, [.ref p1, .ref p2, .int (nI 0)])), (p1, .inl (cy 1, 8, .inl fp)), (p2, .inl (cy 1, 8, .inl gp)), (bo, .inr (1, [.ref b1, .ref b2, .int (nI 0)])), (b1, .inl (cy 1, 8, .inl fb)), (b2, .inl (cy 1, 8, .inl gb))] ∧ hdR tx tn 5 ss zs 0 0 = (-1, m2, ss2, zs2) ∧ (∀ k, zs2 k ≤ 4) ∧ (∀ k, ss2 k ≤ 60) ∧ m2 ≤ 5)) := by
  refine xMet_of (cc := cX9_head) (maxL := 2) (ret := (some .int)) (by decide) rfl (Nat.le_of_ble_eq_true rfl) (fun p e s m args below meth c A R Q hA hR hQ C hr hnm hro hX => ?_)
  have hw0 : ∀ w ∈ u_ws RX9 TX9 9, w ∈ wsX9_head := by decide +kernel
  have hw1 : Cond.fieldLink RX9 26 (TX9 2).1 (TX9 2).2.1 (TX9 2).2.2.1 ∈ wsX9_head := by decide +kernel
  have hw2 : Cond.fieldLink RX9 16 (TX9 0).1 (TX9 0).2.1 (TX9 0).2.2.1 ∈ wsX9_head := by decide +kernel
  have hw3 : Cond.fieldLink RX9 33 (TX9 3).1 (TX9 3).2.1 (TX9 3).2.2.1 ∈ wsX9_head := by decide +kernel
  have hw4 : ∀ w ∈ u_ws RX7 TX7 11, w ∈ wsX9_head := by decide +kernel
  have hw5 : Cond.fieldLink RX9 80 (TX7 8).1 (TX7 8).2.1 (TX7 8).2.2.1 ∈ wsX9_head := by decide +kernel
  refine x_L (L' := [(0, .ref fi)]) [0] rfl ?_
  refine x_aload_n C dX9_head_0 (q := 1) rfl rfl 0 rfl ?_
  refine x_get C (ci := 8) (v := .ref nO) hw0 0 rfl rfl 2 (by decide) hw1 rfl dX9_head_1 (q := 4) rfl ?_
  refine x_aload_n C dX9_head_4 (q := 5) rfl rfl 0 rfl ?_
  refine x_get C (ci := 8) (v := .ref tO) hw0 0 rfl rfl 0 (by decide) hw2 rfl dX9_head_5 (q := 8) rfl ?_
  refine x_callV C (roW := [(tO, .inr (5, [.ref tB, .int (nI tn)])), (tB, .inl (cy 0, 60, .inl (fun k => nI (tx k))))]) (roR := []) (c_X3_faultPlaceIn l D cy nO sa za nm ss zs tO tB tn tx (by first | assumption | omega | (simp only []; omega)) (by assumption) (by assumption) (by assumption)) (cwV 1 C.2.2.2.2.1 gX9_head_X3_faultPlaceIn rfl rfl rfl (by decide +kernel) (by rw [hR]; exact ⟨Nat.le_of_ble_eq_true rfl, Nat.le_of_ble_eq_true rfl⟩)) [3, 4, 5] [1, 2] rfl (by decide) rfl (by decide) xro_nil (List.mem_of_getElem? (i := 0) rfl) (ci := 2) rfl xT_bl (fun _ _ _ _ _ _ _ => trivial) rfl rfl dX9_head_8 rfl rfl (Nat.le_of_ble_eq_true rfl) (q := 11) rfl (k' := 0) rfl (n' := 0) rfl (by rw [hR]; exact ⟨Nat.le_of_ble_eq_true rfl, Nat.le_of_ble_eq_true rfl⟩) (fun v1 w1 hp1 => ?_)
  obtain ⟨r_2, m2_3, ss2_4, zs2_5, rfl, rfl, hc6, hc7, hc8, hc9⟩ := hp1
  refine x_ws (ws' := [(fi, .inr (8, [.ref tO, .ref gO, .ref nO, .ref tb, .ref tb', .ref trO, .ref gA, .ref tP, .int (nI kf)])), (tO, .inr (5, [.ref tB, .int (nI tn)])), (tB, .inl (cy 0, 60, .inl (fun k => nI (tx k)))), (nO, .inr (2, [.ref sa, .ref za, .int (nI m2_3)])), (sa, .inl (cy 1, 5, .inl (fun k => nI (ss2_4 k)))), (za, .inl (cy 1, 5, .inl (fun k => nI (zs2_5 k)))), (tb, .inr (6, [.ref nz, .ref tl, .ref pg, .ref se, .ref pa, .ref bo, .ref li, .ref ba, .int (nI cols), .int (nI lc), .int (nI smp)])), (nz, .inl (cy 1, 5, .inl (fun k => nI (nzf k)))), (tl, .inl (cy 1, 5, .inl (fun k => nI (tlf k)))), (pg, .inr (4, [.ref g0, .ref g1, .ref g2, .ref g3, .ref g4, .ref g5, .int (nI (pMk P)), .int (nI (pRs P)), .int (ky)])), (g0, .inl (cy 1, 5, .inl (fun k => nI ((pSt P) k)))), (g1, .inl (cy 1, 24, .inl (pFa P))), (g2, .inl (cy 1, 24, .inl (pCa P))), (g3, .inl (cy 1, 24, .inl (pDc P))), (g4, .inl (cy 1, 24, .inl (pRl P))), (g5, .inl (cy 1, 24, .inl (fun k => nI ((pLr P) k)))), (se, .inr (1, [.ref s1, .ref s2, .int (nI nse)])), (s1, .inl (cy 1, 6, .inl fs)), (s2, .inl (cy 1, 6, .inl gs)), (pa, .inr (1, [.ref p1, .ref p2, .int (nI npa)])), (p1, .inl (cy 1, 8, .inl fp)), (p2, .inl (cy 1, 8, .inl gp)), (bo, .inr (1, [.ref b1, .ref b2, .int (nI nbo)])), (b1, .inl (cy 1, 8, .inl fb)), (b2, .inl (cy 1, 8, .inl gb))]) rfl ?_
  have hRz : r_2.toInt = -1 ∨ (0 ≤ r_2.toInt ∧ r_2.toInt ≤ 60) := by
    have h9 := hdR_in (tx := tx) (n := tn) 5 ss zs 0 0 (Nat.zero_le _) (Nat.zero_le _)
    rw [hc6] at h9
    exact h9.imp id (fun z => ⟨z.1, by have := z.2; omega⟩)
  refine x_istore_n C (L' := [(1, .int (r_2)), (0, .ref fi)]) dX9_head_11 (q := 12) rfl rfl (by decide) rfl ?_
  refine x_aload_n C dX9_head_12 (q := 13) rfl rfl 1 rfl ?_
  refine x_get C (ci := 8) (v := .ref tO) hw0 0 rfl rfl 0 (by decide) hw2 rfl dX9_head_13 (q := 16) rfl ?_
  refine x_callV C (roW := []) (roR := []) (c_X6_clear l D cy tO tB tn ) (cwV 0 C.2.2.2.2.1 gX9_head_X6_clear rfl rfl rfl (by decide +kernel) (by rw [hR]; exact ⟨Nat.le_of_ble_eq_true rfl, Nat.le_of_ble_eq_true rfl⟩)) [1] [] rfl (by decide) rfl (by decide) xro_nil (List.mem_of_getElem? (i := 0) rfl) (ci := 5) rfl xT_bl (fun _ _ _ _ _ _ _ => trivial) rfl rfl dX9_head_16 rfl rfl (Nat.le_of_ble_eq_true rfl) (q := 19) rfl (k' := 0) rfl (n' := 0) rfl (by rw [hR]; exact ⟨Nat.le_of_ble_eq_true rfl, Nat.le_of_ble_eq_true rfl⟩) (fun v10 w10 hp10 => ?_)
  obtain ⟨rfl, rfl⟩ := hp10
  refine x_ws (ws' := [(fi, .inr (8, [.ref tO, .ref gO, .ref nO, .ref tb, .ref tb', .ref trO, .ref gA, .ref tP, .int (nI kf)])), (tO, .inr (5, [.ref tB, .int (nI 0)])), (tB, .inl (cy 0, 60, .inl (fun k => nI (tx k)))), (nO, .inr (2, [.ref sa, .ref za, .int (nI m2_3)])), (sa, .inl (cy 1, 5, .inl (fun k => nI (ss2_4 k)))), (za, .inl (cy 1, 5, .inl (fun k => nI (zs2_5 k)))), (tb, .inr (6, [.ref nz, .ref tl, .ref pg, .ref se, .ref pa, .ref bo, .ref li, .ref ba, .int (nI cols), .int (nI lc), .int (nI smp)])), (nz, .inl (cy 1, 5, .inl (fun k => nI (nzf k)))), (tl, .inl (cy 1, 5, .inl (fun k => nI (tlf k)))), (pg, .inr (4, [.ref g0, .ref g1, .ref g2, .ref g3, .ref g4, .ref g5, .int (nI (pMk P)), .int (nI (pRs P)), .int (ky)])), (g0, .inl (cy 1, 5, .inl (fun k => nI ((pSt P) k)))), (g1, .inl (cy 1, 24, .inl (pFa P))), (g2, .inl (cy 1, 24, .inl (pCa P))), (g3, .inl (cy 1, 24, .inl (pDc P))), (g4, .inl (cy 1, 24, .inl (pRl P))), (g5, .inl (cy 1, 24, .inl (fun k => nI ((pLr P) k)))), (se, .inr (1, [.ref s1, .ref s2, .int (nI nse)])), (s1, .inl (cy 1, 6, .inl fs)), (s2, .inl (cy 1, 6, .inl gs)), (pa, .inr (1, [.ref p1, .ref p2, .int (nI npa)])), (p1, .inl (cy 1, 8, .inl fp)), (p2, .inl (cy 1, 8, .inl gp)), (bo, .inr (1, [.ref b1, .ref b2, .int (nI nbo)])), (b1, .inl (cy 1, 8, .inl fb)), (b2, .inl (cy 1, 8, .inl gb))]) rfl ?_
  refine x_iload_n C dX9_head_19 (q := 20) rfl rfl 0 rfl ?_
  refine x_iconst C dX9_head_20 (q := 21) rfl (v := (-1)) (by decide) ?_
  refine x_icmp_eq C (tgt := 29) dX9_head_21 (by decide) (q := 24) rfl (a := r_2.toInt) (b := (-1)) rfl rfl (fun h11 => ?_) (fun h11 => ?_)
  · first
    | (exfalso; omega)
    |
      refine x_aload_n C dX9_head_29 (q := 30) rfl rfl 1 rfl ?_
      refine x_get C (ci := 8) (v := .ref tb) hw0 0 rfl rfl 3 (by decide) hw3 rfl dX9_head_30 (q := 33) rfl ?_
      refine x_aload_n C dX9_head_33 (q := 34) rfl rfl 1 rfl ?_
      refine x_get C (ci := 8) (v := .ref nO) hw0 0 rfl rfl 2 (by decide) hw1 rfl dX9_head_34 (q := 37) rfl ?_
      refine x_callV C (roW := []) (roR := []) (c_X7_begin l D cy tb nz tl pg se pa bo li ba cols lc smp tlf nzf g0 g1 g2 g3 g4 g5 P ky s1 s2 nse p1 p2 npa b1 b2 nbo fs gs fp gp fb gb nO sa za m2_3 ss2_4 zs2_5 ) (cwV 1 C.2.2.2.2.1 gX9_head_X7_begin rfl rfl rfl (by decide +kernel) (by rw [hR]; exact ⟨Nat.le_of_ble_eq_true rfl, Nat.le_of_ble_eq_true rfl⟩)) [6, 7, 8, 9, 10, 11, 12, 13, 14, 15, 16, 17, 18, 19, 20, 21, 22, 23, 24, 3, 4, 5] [] rfl (by decide) rfl (by decide) xro_nil (List.mem_of_getElem? (i := 0) rfl) (ci := 6) rfl xT_bl (fun _ _ _ _ _ _ _ => trivial) rfl rfl dX9_head_37 rfl rfl (Nat.le_of_ble_eq_true rfl) (q := 40) rfl (k' := 0) rfl (n' := 0) rfl (by rw [hR]; exact ⟨Nat.le_of_ble_eq_true rfl, Nat.le_of_ble_eq_true rfl⟩) (fun v12 w12 hp12 => ?_)
      obtain ⟨rfl, rfl⟩ := hp12
      refine x_ws (ws' := [(fi, .inr (8, [.ref tO, .ref gO, .ref nO, .ref tb, .ref tb', .ref trO, .ref gA, .ref tP, .int (nI kf)])), (tO, .inr (5, [.ref tB, .int (nI 0)])), (tB, .inl (cy 0, 60, .inl (fun k => nI (tx k)))), (nO, .inr (2, [.ref sa, .ref za, .int (nI m2_3)])), (sa, .inl (cy 1, 5, .inl (fun k => nI (ss2_4 k)))), (za, .inl (cy 1, 5, .inl (fun k => nI (zs2_5 k)))), (tb, .inr (6, [.ref nz, .ref tl, .ref pg, .ref se, .ref pa, .ref bo, .ref li, .ref ba, .int (nI m2_3), .int (nI 0), .int (nI smp)])), (nz, .inl (cy 1, 5, .inl (fun k => nI (zs2_5 k)))), (tl, .inl (cy 1, 5, .inl (fun k => nI ((fun _ => 0) k)))), (pg, .inr (4, [.ref g0, .ref g1, .ref g2, .ref g3, .ref g4, .ref g5, .int (nI (pMk (rs0 P))), .int (nI (pRs (rs0 P))), .int (-1)])), (g0, .inl (cy 1, 5, .inl (fun k => nI ((pSt (rs0 P)) k)))), (g1, .inl (cy 1, 24, .inl (pFa (rs0 P)))), (g2, .inl (cy 1, 24, .inl (pCa (rs0 P)))), (g3, .inl (cy 1, 24, .inl (pDc (rs0 P)))), (g4, .inl (cy 1, 24, .inl (pRl (rs0 P)))), (g5, .inl (cy 1, 24, .inl (fun k => nI ((pLr (rs0 P)) k)))), (se, .inr (1, [.ref s1, .ref s2, .int (nI 0)])), (s1, .inl (cy 1, 6, .inl fs)), (s2, .inl (cy 1, 6, .inl gs)), (pa, .inr (1, [.ref p1, .ref p2, .int (nI 0)])), (p1, .inl (cy 1, 8, .inl fp)), (p2, .inl (cy 1, 8, .inl gp)), (bo, .inr (1, [.ref b1, .ref b2, .int (nI 0)])), (b1, .inl (cy 1, 8, .inl fb)), (b2, .inl (cy 1, 8, .inl gb))]) (xput_eq [6, 7, 8, 9, 10, 11, 12, 13, 14, 15, 16, 17, 18, 19, 20, 21, 22, 23, 24, 3, 4, 5] [0, 1, 2] 25 rfl rfl (by decide) rfl rfl (by decide)) ?_
      refine x_aload_n C dX9_head_40 (q := 41) rfl rfl 1 rfl ?_
      refine x_get C (ci := 8) (v := .ref tb) hw0 0 rfl rfl 3 (by decide) hw3 rfl dX9_head_41 (q := 44) rfl ?_
      refine x_get C (ci := 6) (v := .int (nI m2_3)) hw4 6 rfl rfl 8 (by decide) hw5 rfl dX9_head_44 (q := 47) rfl ?_
      refine x_iret C hA hQ hr dX9_head_47 (Nat.le_of_ble_eq_true rfl) ?_
      refine Or.inr ⟨_, _, _, rfl, rfl, ?_, hc8, hc9, hc7⟩
      rw [hc6, show r_2.toInt = -1 by omega]
  · first
    | (exfalso; omega)
    |
      refine x_bipush C dX9_head_24 (q := 26) rfl (v := (-10)) (by decide) ?_
      refine x_iload_n C dX9_head_26 (q := 27) rfl rfl 0 rfl ?_
      refine x_isub C dX9_head_27 (q := 28) rfl (z := ((-10)) - r_2) (rfl) ?_
      refine x_iret C hA hQ hr dX9_head_28 (Nat.le_of_ble_eq_true rfl) ?_
      refine Or.inl ⟨_, _, _, _, _, rfl, rfl, hc6, by omega, ?_, hc8, hc9, hc7⟩
      exact xi_sub10 (by omega)


theorem lfF_in {tx : Nat → Nat} {n : Nat} : ∀ (f len p : Nat), n ≤ p + f → p ≤ n → lfF tx n f len p = -1 ∨ (0 ≤ lfF tx n f len p ∧ lfF tx n f len p ≤ n)
  | 0, len, p, h1, h2 => Or.inl rfl
  | f + 1, len, p, h1, h2 => by
    unfold lfF
    split
    · split
      · exact lfF_in f 0 (p + 1) (by omega) (by omega)
      · split
        · exact Or.inr ⟨by omega, by omega⟩
        · exact lfF_in f (len + 1) (p + 1) (by omega) (by omega)
    · exact Or.inl rfl

set_option maxHeartbeats 4000000 in
set_option maxRecDepth 100000 in
/-- line -/
theorem c_X9_line (l : Launch) (D : va_G) (cy : Nat → ClassId) (t0 : Nat) (adK : Nat → Nat) (adV : Nat → Nat) (fi : Nat) (tO : Nat) (gO : Nat) (nO : Nat) (tb : Nat) (tb' : Nat) (trO : Nat) (gA : Nat) (tP : Nat) (kf : Nat) (tB : Nat) (tn : Nat) (tx : Nat → Nat) (nz : Nat) (tl : Nat) (pg : Nat) (se : Nat) (pa : Nat) (bo : Nat) (li : Nat) (ba : Nat) (cols : Nat) (lc : Nat) (smp : Nat) (lnf : Nat → Option Nat) (htn : tn ≤ 60) (htx : ∀ k, tx k < 128) (hcols : cols ≤ 5) (hlc : lc ≤ 24) : xMet l D cy (xZA t0 adK adV) yX9_line wsX9_line ({ frames := 10, cells := 125, slots := 401, locals := 2600 } : Room) [.ref fi] [(fi, .inr (8, [.ref tO, .ref gO, .ref nO, .ref tb, .ref tb', .ref trO, .ref gA, .ref tP, .int (nI kf)])), (tO, .inr (5, [.ref tB, .int (nI tn)])), (tB, .inl (cy 0, 60, .inl (fun k => nI (tx k)))), (tb, .inr (6, [.ref nz, .ref tl, .ref pg, .ref se, .ref pa, .ref bo, .ref li, .ref ba, .int (nI cols), .int (nI lc), .int (nI smp)])), (li, .inl (cy 4, 24, .inr (.inr (.inr (.inr lnf)))))] [] (fun (v9 : Option Value) (w9 : va_W) => (v9 = some (.int ((-3))) ∧ w9 = [(fi, .inr (8, [.ref tO, .ref gO, .ref nO, .ref tb, .ref tb', .ref trO, .ref gA, .ref tP, .int (nI kf)])), (tO, .inr (5, [.ref tB, .int (nI tn)])), (tB, .inl (cy 0, 60, .inl (fun k => nI (tx k)))), (tb, .inr (6, [.ref nz, .ref tl, .ref pg, .ref se, .ref pa, .ref bo, .ref li, .ref ba, .int (nI cols), .int (nI lc), .int (nI smp)])), (li, .inl (cy 4, 24, .inr (.inr (.inr (.inr lnf)))))] ∧ cols = 0) ∨ (v9 = some (.int ((-4))) ∧ w9 = [(fi, .inr (8, [.ref tO, .ref gO, .ref nO, .ref tb, .ref tb', .ref trO, .ref gA, .ref tP, .int (nI kf)])), (tO, .inr (5, [.ref tB, .int (nI tn)])), (tB, .inl (cy 0, 60, .inl (fun k => nI (tx k)))), (tb, .inr (6, [.ref nz, .ref tl, .ref pg, .ref se, .ref pa, .ref bo, .ref li, .ref ba, .int (nI cols), .int (nI lc), .int (nI smp)])), (li, .inl (cy 4, 24, .inr (.inr (.inr (.inr lnf)))))] ∧ ¬ cols = 0 ∧ 24 ≤ lc) ∨ (∃ r : Int32, v9 = some (.int (r)) ∧ w9 = [(fi, .inr (8, [.ref tO, .ref gO, .ref nO, .ref tb, .ref tb', .ref trO, .ref gA, .ref tP, .int (nI kf)])), (tO, .inr (5, [.ref tB, .int (nI 0)])), (tB, .inl (cy 0, 60, .inl (fun k => nI (tx k)))), (tb, .inr (6, [.ref nz, .ref tl, .ref pg, .ref se, .ref pa, .ref bo, .ref li, .ref ba, .int (nI cols), .int (nI lc), .int (nI smp)])), (li, .inl (cy 4, 24, .inr (.inr (.inr (.inr lnf)))))] ∧ ¬ cols = 0 ∧ lc < 24 ∧ ¬ lfA tx tn = -1 ∧ r.toInt = -10 - lfA tx tn) ∨ (∃ ln : Nat, ∃ fa : Nat, ∃ ad : Nat → Option Nat, ∃ pl : va_W, v9 = some (.int (nI lc)) ∧ w9 = [(fi, .inr (8, [.ref tO, .ref gO, .ref nO, .ref tb, .ref tb', .ref trO, .ref gA, .ref tP, .int (nI kf)])), (tO, .inr (5, [.ref tB, .int (nI 0)])), (tB, .inl (cy 0, 60, .inl (fun k => nI (tx k)))), (tb, .inr (6, [.ref nz, .ref tl, .ref pg, .ref se, .ref pa, .ref bo, .ref li, .ref ba, .int (nI cols), .int (nI (lc + 1)), .int (nI smp)])), (li, .inl (cy 4, 24, .inr (.inr (.inr (.inr (va_up lnf lc (some ln))))))), (ln, .inr (3, [.ref fa])), (fa, .inl (cy 3, nF tx tn, .inr (.inr (.inr (.inr ad)))))] ++ pl ∧ ¬ cols = 0 ∧ lc < 24 ∧ lfA tx tn = -1 ∧ LnF cy pl tx tn ad)) := by
  refine xMet_of (cc := cX9_line) (maxL := 2) (ret := (some .int)) (by decide) rfl (Nat.le_of_ble_eq_true rfl) (fun p e s m args below meth c A R Q hA hR hQ C hr hnm hro hX => ?_)
  have hw0 : ∀ w ∈ u_ws RX9 TX9 9, w ∈ wsX9_line := by decide +kernel
  have hw1 : Cond.fieldLink RX9 33 (TX9 3).1 (TX9 3).2.1 (TX9 3).2.2.1 ∈ wsX9_line := by decide +kernel
  have hw2 : ∀ w ∈ u_ws RX7 TX7 11, w ∈ wsX9_line := by decide +kernel
  have hw3 : Cond.fieldLink RX9 80 (TX7 8).1 (TX7 8).2.1 (TX7 8).2.2.1 ∈ wsX9_line := by decide +kernel
  have hw4 : Cond.fieldLink RX9 83 (TX7 9).1 (TX7 9).2.1 (TX7 9).2.2.1 ∈ wsX9_line := by decide +kernel
  have hw5 : Cond.fieldLink RX9 16 (TX9 0).1 (TX9 0).2.1 (TX9 0).2.2.1 ∈ wsX9_line := by decide +kernel
  have hw6 : ∀ w ∈ u_ws RX4 TX4 1, w ∈ wsX9_line := by decide +kernel
  have hw7 : Cond.classLink RX9 89 RX4 ∈ wsX9_line := by decide +kernel
  have hw8 : Cond.instantiable RX4 1 ∈ wsX9_line := by decide +kernel
  have hw9 : Cond.initialized RX4 ∈ wsX9_line := by decide +kernel
  have hw10 : Cond.methodLink RX9 91 yX4_init ∈ wsX9_line := by decide +kernel
  have hw11 : Cond.instanceMethod yX4_init ∈ wsX9_line := by decide +kernel
  refine x_L (L' := [(0, .ref fi)]) [0] rfl ?_
  refine x_aload_n C dX9_line_0 (q := 1) rfl rfl 0 rfl ?_
  refine x_get C (ci := 8) (v := .ref tb) hw0 0 rfl rfl 3 (by decide) hw1 rfl dX9_line_1 (q := 4) rfl ?_
  refine x_get C (ci := 6) (v := .int (nI cols)) hw2 3 rfl rfl 8 (by decide) hw3 rfl dX9_line_4 (q := 7) rfl ?_
  refine x_if_ne C (tgt := 13) dX9_line_7 (by decide) (q := 10) rfl (a := ((cols : Nat) : Int)) (nI_toInt (by omega)) (fun h1 => ?_) (fun h1 => ?_)
  · first
    | (exfalso; omega)
    |
      refine x_aload_n C dX9_line_13 (q := 14) rfl rfl 0 rfl ?_
      refine x_get C (ci := 8) (v := .ref tb) hw0 0 rfl rfl 3 (by decide) hw1 rfl dX9_line_14 (q := 17) rfl ?_
      refine x_get C (ci := 6) (v := .int (nI lc)) hw2 3 rfl rfl 9 (by decide) hw4 rfl dX9_line_17 (q := 20) rfl ?_
      refine x_bipush C dX9_line_20 (q := 22) rfl (v := nI 24) (by decide) ?_
      refine x_icmp_lt C (tgt := 28) dX9_line_22 (by decide) (q := 25) rfl (a := ((lc : Nat) : Int)) (b := 24) (nI_toInt (by omega)) rfl (fun h2 => ?_) (fun h2 => ?_)
      · first
        | (exfalso; omega)
        |
          refine x_aload_n C dX9_line_28 (q := 29) rfl rfl 0 rfl ?_
          refine x_get C (ci := 8) (v := .ref tO) hw0 0 rfl rfl 0 (by decide) hw5 rfl dX9_line_29 (q := 32) rfl ?_
          refine x_callS C (roW := [(tO, .inr (5, [.ref tB, .int (nI tn)])), (tB, .inl (cy 0, 60, .inl (fun k => nI (tx k))))]) (roR := []) (c_X9_lineFaultPlace l D cy tB tn tx tO (by first | assumption | omega | (simp only []; omega)) (by assumption)) (cwS 1 C.2.2.2.2.1 gX9_line_X9_lineFaultPlace rfl rfl rfl (by decide +kernel) (by rw [hR]; exact ⟨Nat.le_of_ble_eq_true rfl, Nat.le_of_ble_eq_true rfl⟩)) [] [1, 2] rfl (by decide) rfl (by decide) xro_nil xT_bl (fun _ _ _ _ _ _ _ => trivial) rfl rfl dX9_line_32 rfl rfl (Nat.le_of_ble_eq_true rfl) (q := 35) rfl (k' := 0) rfl (n' := 0) rfl (by rw [hR]; exact ⟨Nat.le_of_ble_eq_true rfl, Nat.le_of_ble_eq_true rfl⟩) (fun v3 w3 hp3 => ?_)
          obtain ⟨r_4, rfl, rfl, hc5⟩ := hp3
          refine x_ws (ws' := [(fi, .inr (8, [.ref tO, .ref gO, .ref nO, .ref tb, .ref tb', .ref trO, .ref gA, .ref tP, .int (nI kf)])), (tO, .inr (5, [.ref tB, .int (nI tn)])), (tB, .inl (cy 0, 60, .inl (fun k => nI (tx k)))), (tb, .inr (6, [.ref nz, .ref tl, .ref pg, .ref se, .ref pa, .ref bo, .ref li, .ref ba, .int (nI cols), .int (nI lc), .int (nI smp)])), (li, .inl (cy 4, 24, .inr (.inr (.inr (.inr lnf)))))]) (List.append_nil _) ?_
          have hRz : lfA tx tn = -1 ∨ (0 ≤ lfA tx tn ∧ lfA tx tn ≤ tn) := lfF_in tn 0 0 (by omega) (by omega)
          refine x_istore_n C (L' := [(1, .int (r_4)), (0, .ref fi)]) dX9_line_35 (q := 36) rfl rfl (by decide) rfl ?_
          refine x_iload_n C dX9_line_36 (q := 37) rfl rfl 0 rfl ?_
          refine x_iconst C dX9_line_37 (q := 38) rfl (v := (-1)) (by decide) ?_
          refine x_icmp_eq C (tgt := 53) dX9_line_38 (by decide) (q := 41) rfl (a := r_4.toInt) (b := (-1)) rfl rfl (fun h6 => ?_) (fun h6 => ?_)
          · first
            | (exfalso; omega)
            |
              have hLok := lfA_len (tx := tx) (n := tn) (by omega)
              refine x_aload_n C dX9_line_53 (q := 54) rfl rfl 1 rfl ?_
              refine x_get C (ci := 8) (v := .ref tb) hw0 0 rfl rfl 3 (by decide) hw1 rfl dX9_line_54 (q := 57) rfl ?_
              refine x_new C (ci := 3) (fs := [.null]) hw6 tyX4 tyX4_ok hw7 hw8 hw9 rfl (by decide +kernel) (k' := 1) rfl (n' := 1) rfl (by rw [hR]; exact ⟨Nat.le_of_ble_eq_true rfl, Nat.le_of_ble_eq_true rfl⟩) dX9_line_57 (q := 60) rfl (fun ln => ?_)
              refine x_ws (ws' := [(fi, .inr (8, [.ref tO, .ref gO, .ref nO, .ref tb, .ref tb', .ref trO, .ref gA, .ref tP, .int (nI kf)])), (tO, .inr (5, [.ref tB, .int (nI tn)])), (tB, .inl (cy 0, 60, .inl (fun k => nI (tx k)))), (tb, .inr (6, [.ref nz, .ref tl, .ref pg, .ref se, .ref pa, .ref bo, .ref li, .ref ba, .int (nI cols), .int (nI lc), .int (nI smp)])), (li, .inl (cy 4, 24, .inr (.inr (.inr (.inr lnf))))), (ln, .inr (3, [.null]))]) rfl ?_
              refine x_dup C dX9_line_60 (q := 61) rfl rfl ?_
              refine x_aload_n C dX9_line_61 (q := 62) rfl rfl 1 rfl ?_
              refine x_get C (ci := 8) (v := .ref tO) hw0 0 rfl rfl 0 (by decide) hw5 rfl dX9_line_62 (q := 65) rfl ?_
              refine x_callI C (ret := none) (roW := [(tO, .inr (5, [.ref tB, .int (nI tn)])), (tB, .inl (cy 0, 60, .inl (fun k => nI (tx k))))]) (roR := []) (c_X4_init l D cy t0 adK adV tO tB tn tx ln (by first | assumption | omega | (simp only []; omega)) (by assumption) (by assumption)) (cwI 1 C.2.2.2.2.1 gX9_line_X4_init rfl rfl rfl (C.2.2.2.2.1 _ hw9) (C.2.2.2.2.1 _ hw10) (C.2.2.2.2.1 _ hw11) rfl (by decide +kernel) (by rw [hR]; exact ⟨Nat.le_of_ble_eq_true rfl, Nat.le_of_ble_eq_true rfl⟩)) [5] [1, 2] rfl (by decide) rfl (by decide) xro_nil (xZA_bl t0 adK adV) (fun H9 locs9 U9 hS9 hF9 hU9 hW9 => xZA_call hX hS9 hF9 hU9 hW9) rfl rfl dX9_line_65 rfl rfl (Nat.le_of_ble_eq_true rfl) (q := 68) rfl (k' := 125) rfl (n' := 401) rfl (by rw [hR]; exact ⟨Nat.le_of_ble_eq_true rfl, Nat.le_of_ble_eq_true rfl⟩) (fun v7 w7 hp7 => ?_)
              obtain ⟨fa_8, ad_9, pl_10, rfl, rfl, hc11⟩ := hp7
              refine x_ws (ws' := ([(fi, .inr (8, [.ref tO, .ref gO, .ref nO, .ref tb, .ref tb', .ref trO, .ref gA, .ref tP, .int (nI kf)])), (tO, .inr (5, [.ref tB, .int (nI tn)])), (tB, .inl (cy 0, 60, .inl (fun k => nI (tx k)))), (tb, .inr (6, [.ref nz, .ref tl, .ref pg, .ref se, .ref pa, .ref bo, .ref li, .ref ba, .int (nI cols), .int (nI lc), .int (nI smp)])), (li, .inl (cy 4, 24, .inr (.inr (.inr (.inr lnf))))), (ln, .inr (3, [.ref fa_8])), (fa_8, .inl (cy 3, nF tx tn, .inr (.inr (.inr (.inr ad_9)))))] ++ pl_10)) rfl ?_
              refine x_callV C (roW := [(ln, .inr (3, [.ref fa_8]))]) (roR := []) (c_X7_addLine l D cy tb nz tl pg se pa bo li ba cols lc smp lnf ln fa_8 (by first | assumption | omega | (simp only []; omega))) (cwV 1 C.2.2.2.2.1 gX9_line_X7_addLine rfl rfl rfl (by decide +kernel) (by rw [hR]; exact ⟨Nat.le_of_ble_eq_true rfl, Nat.le_of_ble_eq_true rfl⟩)) [3, 4] [5] rfl (by decide) rfl (by decide) xro_nil (List.mem_of_getElem? (i := 0) rfl) (ci := 6) rfl xT_bl (fun _ _ _ _ _ _ _ => trivial) rfl rfl dX9_line_68 rfl rfl (Nat.le_of_ble_eq_true rfl) (q := 71) rfl (k' := 125) rfl (n' := 401) rfl (by rw [hR]; exact ⟨Nat.le_of_ble_eq_true rfl, Nat.le_of_ble_eq_true rfl⟩) (fun v12 w12 hp12 => ?_)
              obtain ⟨rfl, rfl⟩ := hp12
              refine x_ws (ws' := ([(fi, .inr (8, [.ref tO, .ref gO, .ref nO, .ref tb, .ref tb', .ref trO, .ref gA, .ref tP, .int (nI kf)])), (tO, .inr (5, [.ref tB, .int (nI tn)])), (tB, .inl (cy 0, 60, .inl (fun k => nI (tx k)))), (tb, .inr (6, [.ref nz, .ref tl, .ref pg, .ref se, .ref pa, .ref bo, .ref li, .ref ba, .int (nI cols), .int (nI (lc + 1)), .int (nI smp)])), (li, .inl (cy 4, 24, .inr (.inr (.inr (.inr (va_up lnf lc (some ln))))))), (ln, .inr (3, [.ref fa_8])), (fa_8, .inl (cy 3, nF tx tn, .inr (.inr (.inr (.inr ad_9)))))] ++ pl_10)) (List.append_nil _) ?_
              refine x_aload_n C dX9_line_71 (q := 72) rfl rfl 1 rfl ?_
              refine x_get C (ci := 8) (v := .ref tO) hw0 0 rfl rfl 0 (by decide) hw5 rfl dX9_line_72 (q := 75) rfl ?_
              refine x_callV C (roW := []) (roR := []) (c_X6_clear l D cy tO tB tn ) (cwV 0 C.2.2.2.2.1 gX9_line_X6_clear rfl rfl rfl (by decide +kernel) (by rw [hR]; exact ⟨Nat.le_of_ble_eq_true rfl, Nat.le_of_ble_eq_true rfl⟩)) [1] [] rfl (by decide) rfl (by decide) xro_nil (List.mem_of_getElem? (i := 0) rfl) (ci := 5) rfl xT_bl (fun _ _ _ _ _ _ _ => trivial) rfl rfl dX9_line_75 rfl rfl (Nat.le_of_ble_eq_true rfl) (q := 78) rfl (k' := 125) rfl (n' := 401) rfl (by rw [hR]; exact ⟨Nat.le_of_ble_eq_true rfl, Nat.le_of_ble_eq_true rfl⟩) (fun v13 w13 hp13 => ?_)
              obtain ⟨rfl, rfl⟩ := hp13
              refine x_ws (ws' := ([(fi, .inr (8, [.ref tO, .ref gO, .ref nO, .ref tb, .ref tb', .ref trO, .ref gA, .ref tP, .int (nI kf)])), (tO, .inr (5, [.ref tB, .int (nI 0)])), (tB, .inl (cy 0, 60, .inl (fun k => nI (tx k)))), (tb, .inr (6, [.ref nz, .ref tl, .ref pg, .ref se, .ref pa, .ref bo, .ref li, .ref ba, .int (nI cols), .int (nI (lc + 1)), .int (nI smp)])), (li, .inl (cy 4, 24, .inr (.inr (.inr (.inr (va_up lnf lc (some ln))))))), (ln, .inr (3, [.ref fa_8])), (fa_8, .inl (cy 3, nF tx tn, .inr (.inr (.inr (.inr ad_9)))))] ++ pl_10)) (List.append_nil _) ?_
              refine x_aload_n C dX9_line_78 (q := 79) rfl rfl 1 rfl ?_
              refine x_get C (ci := 8) (v := .ref tb) hw0 0 rfl rfl 3 (by decide) hw1 rfl dX9_line_79 (q := 82) rfl ?_
              refine x_get C (ci := 6) (v := .int (nI (lc + 1))) hw2 3 rfl rfl 9 (by decide) hw4 rfl dX9_line_82 (q := 85) rfl ?_
              refine x_iconst C dX9_line_85 (q := 86) rfl (v := nI 1) (by decide) ?_
              refine x_isub C dX9_line_86 (q := 87) rfl (z := nI lc) (xi_subN (by omega) (by omega)) ?_
              refine x_iret C hA hQ hr dX9_line_87 (by simp) ?_
              exact Or.inr (Or.inr (Or.inr ⟨ln, fa_8, ad_9, pl_10, rfl, rfl, by omega, by omega, by omega, hc11⟩))
          · first
            | (exfalso; omega)
            |
              refine x_aload_n C dX9_line_41 (q := 42) rfl rfl 1 rfl ?_
              refine x_get C (ci := 8) (v := .ref tO) hw0 0 rfl rfl 0 (by decide) hw5 rfl dX9_line_42 (q := 45) rfl ?_
              refine x_callV C (roW := []) (roR := []) (c_X6_clear l D cy tO tB tn ) (cwV 0 C.2.2.2.2.1 gX9_line_X6_clear rfl rfl rfl (by decide +kernel) (by rw [hR]; exact ⟨Nat.le_of_ble_eq_true rfl, Nat.le_of_ble_eq_true rfl⟩)) [1] [] rfl (by decide) rfl (by decide) xro_nil (List.mem_of_getElem? (i := 0) rfl) (ci := 5) rfl xT_bl (fun _ _ _ _ _ _ _ => trivial) rfl rfl dX9_line_45 rfl rfl (Nat.le_of_ble_eq_true rfl) (q := 48) rfl (k' := 0) rfl (n' := 0) rfl (by rw [hR]; exact ⟨Nat.le_of_ble_eq_true rfl, Nat.le_of_ble_eq_true rfl⟩) (fun v14 w14 hp14 => ?_)
              obtain ⟨rfl, rfl⟩ := hp14
              refine x_ws (ws' := [(fi, .inr (8, [.ref tO, .ref gO, .ref nO, .ref tb, .ref tb', .ref trO, .ref gA, .ref tP, .int (nI kf)])), (tO, .inr (5, [.ref tB, .int (nI 0)])), (tB, .inl (cy 0, 60, .inl (fun k => nI (tx k)))), (tb, .inr (6, [.ref nz, .ref tl, .ref pg, .ref se, .ref pa, .ref bo, .ref li, .ref ba, .int (nI cols), .int (nI lc), .int (nI smp)])), (li, .inl (cy 4, 24, .inr (.inr (.inr (.inr lnf)))))]) rfl ?_
              refine x_bipush C dX9_line_48 (q := 50) rfl (v := (-10)) (by decide) ?_
              refine x_iload_n C dX9_line_50 (q := 51) rfl rfl 0 rfl ?_
              refine x_isub C dX9_line_51 (q := 52) rfl (z := ((-10)) - r_4) (rfl) ?_
              refine x_widen (k' := 125) (n' := 401) (by omega) (by omega) ?_
              refine x_iret C hA hQ hr dX9_line_52 (by simp) ?_
              refine Or.inr (Or.inr (Or.inl ⟨_, rfl, rfl, by omega, by omega, by omega, ?_⟩))
              rw [← hc5]
              exact xi_sub10 (by omega)
      · first
        | (exfalso; omega)
        |
          refine x_bipush C dX9_line_25 (q := 27) rfl (v := (-4)) (by decide) ?_
          refine x_widen (k' := 125) (n' := 401) (by omega) (by omega) ?_
          refine x_iret C hA hQ hr dX9_line_27 (by simp) ?_
          exact Or.inr (Or.inl ⟨rfl, rfl, by omega, by omega⟩)
  · first
    | (exfalso; omega)
    |
      refine x_bipush C dX9_line_10 (q := 12) rfl (v := (-3)) (by decide) ?_
      refine x_widen (k' := 125) (n' := 401) (by omega) (by omega) ?_
      refine x_iret C hA hQ hr dX9_line_12 (by simp) ?_
      exact Or.inl ⟨rfl, rfl, by omega⟩
