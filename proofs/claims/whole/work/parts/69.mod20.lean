
theorem dgE_spec {v : Nat} : ∀ f k, v < p10 (k + f + 1) → (dgE v 1 f k = k ∨ p10 (dgE v 1 f k) ≤ v) ∧ v < p10 (dgE v 1 f k + 1)
  | 0, k, h => ⟨Or.inl rfl, h⟩
  | f + 1, k, h => by
    show ((if k + 1 < 1 ∨ p10 k * 10 ≤ v then dgE v 1 f (k + 1) else k) = k ∨ p10 (if k + 1 < 1 ∨ p10 k * 10 ≤ v then dgE v 1 f (k + 1) else k) ≤ v) ∧ v < p10 ((if k + 1 < 1 ∨ p10 k * 10 ≤ v then dgE v 1 f (k + 1) else k) + 1)
    by_cases c : p10 k * 10 ≤ v
    · rw [if_pos (Or.inr c)]
      have i := dgE_spec f (k + 1) (by rw [show k + 1 + f + 1 = k + (f + 1) + 1 by omega]; exact h)
      refine ⟨?_, i.2⟩
      rcases i.1 with e | e
      · rw [e]
        exact Or.inr c
      · exact Or.inr e
    · rw [if_neg (by omega)]
      exact ⟨Or.inl rfl, by show v < p10 k * 10; omega⟩
theorem dgE_char {v e : Nat} : ∀ f k, k ≤ e → e ≤ k + f → (e = k ∨ p10 e ≤ v) → v < p10 (e + 1) → dgE v 1 f k = e
  | 0, k, h1, h2, _, _ => by
    have : e = k := by omega
    rw [this]
    rfl
  | f + 1, k, h1, h2, h3, h4 => by
    show (if k + 1 < 1 ∨ p10 k * 10 ≤ v then dgE v 1 f (k + 1) else k) = e
    by_cases c : e = k
    · subst c
      have : p10 (e + 1) = p10 e * 10 := rfl
      rw [if_neg (by omega)]
    · have h5 := h3.resolve_left c
      have h6 := p10_mono (a := k + 1) (b := e) (by omega)
      have h7 : p10 (k + 1) = p10 k * 10 := rfl
      rw [if_pos (Or.inr (by omega))]
      exact dgE_char f (k + 1) (by omega) (by omega) (Or.inr h5) h4
theorem dgE_1 {v : Nat} (h : v ≤ 9) : dgE v 1 17 0 = 0 := dgE_char 17 0 (Nat.le_refl 0) (by omega) (Or.inl rfl) (by show v < 10; omega)
theorem dgE_10 {v : Nat} (h : 10 ≤ v) (h2 : v < 100000000000000000) : dgE v 1 17 0 = dgE (v / 10) 1 17 0 + 1 := by
  have hs := dgE_spec (v := v / 10) 17 0 (Nat.lt_of_lt_of_le (show v / 10 < p10 17 from Nat.lt_of_le_of_lt (Nat.div_le_self v 10) h2) (p10_mono (by decide)))
  have hl := dgE_lt (v := v / 10) (wd := 1) (m := 15) (by show v / 10 < 10000000000000000; omega) (by decide) 17 0 (by decide)
  have e1 : ∀ k, p10 (k + 1) = p10 k * 10 := fun _ => rfl
  have a1 := e1 (dgE (v / 10) 1 17 0 + 1)
  have a2 := e1 (dgE (v / 10) 1 17 0)
  refine dgE_char 17 0 (Nat.zero_le _) (by omega) (Or.inr ?_) ?_
  · rcases hs.1 with e | e
    · rw [e]
      show 10 ≤ v
      exact h
    · rw [a2]
      omega
  · rw [a1]
    have := hs.2
    omega
theorem dgF_10 {v e : Nat} {sh : Nat → Nat} {n : Nat} : ∀ j, j ≤ e + 1 → dgF v (e + 1) sh n j = dgF (v / 10) e sh n j
  | 0, _ => rfl
  | j + 1, h => by
    show va_up (dgF v (e + 1) sh n j) (n + j) (48 + v / p10 (e + 1 - j) % 10) = va_up (dgF (v / 10) e sh n j) (n + j) (48 + v / 10 / p10 (e - j) % 10)
    rw [dgF_10 j (by omega), Nat.div_div_eq_div_mul, show e + 1 - j = (e - j) + 1 by omega, show p10 (e - j + 1) = 10 * p10 (e - j) from Nat.mul_comm _ _]
theorem dg_one {v : Nat} {sh : Nat → Nat} {n : Nat} (h : v ≤ 9) : va_up sh n (48 + v % 10) = dgF v (dgE v 1 17 0) sh n (dgE v 1 17 0 + 1) := by
  rw [dgE_1 h]
  show _ = va_up sh (n + 0) (48 + v / 1 % 10)
  rw [Nat.div_one]
  rfl
theorem dg_ten {v : Nat} {sh : Nat → Nat} {n : Nat} (h : 10 ≤ v) (h2 : v < 100000000000000000) : va_up (dgF (v / 10) (dgE (v / 10) 1 17 0) sh n (dgE (v / 10) 1 17 0 + 1)) (n + (dgE (v / 10) 1 17 0 + 1)) (48 + v % 10) = dgF v (dgE v 1 17 0) sh n (dgE v 1 17 0 + 1) := by
  rw [dgE_10 h h2]
  show _ = va_up (dgF v (dgE (v / 10) 1 17 0 + 1) sh n (dgE (v / 10) 1 17 0 + 1)) (n + (dgE (v / 10) 1 17 0 + 1)) (48 + v / p10 (dgE (v / 10) 1 17 0 + 1 - (dgE (v / 10) 1 17 0 + 1)) % 10)
  rw [dgF_10 _ (Nat.le_refl _), Nat.sub_self]
  show _ = va_up _ _ (48 + v / 1 % 10)
  rw [Nat.div_one]
/-- so many bytes laid behind n signs -/
def cpF (b sh : Nat → Nat) (n : Nat) : Nat → (Nat → Nat)
  | 0 => sh
  | j + 1 => va_up (cpF b sh n j) (n + j) (b j)

set_option maxHeartbeats 600000 in
set_option maxRecDepth 100000 in
/-- a sign is shown -/
theorem c_X10_shows (l : Launch) (D : va_G) (cy : Nat → ClassId) (mo : Nat) (mr : Nat → Nat) (cols : Nat) (lc : Nat) (smp : Nat) (mk : Nat) (rs : Nat) (nse : Nat) (npa : Nat) (nbo : Nat) (tn : Nat) (ik : Nat) (ky : Int32) (j0 : Int32) (j1 : Int32) (j2 : Int32) (j3 : Int32) (n9 : Nat) (sh9 : Nat → Nat) (v : Nat) (hn9 : n9 < 24) : xMet l D cy xT yX10_shows wsX10_shows ({ frames := 1, cells := 0, slots := 0, locals := 0 } : Room) [.ref mo, .int (nI v)] [(mo, .inr (9, [.int (nI cols), .int (nI lc), .int (nI smp), .int (ky), .ref (mr 0), .ref (mr 1), .ref (mr 2), .ref (mr 3), .ref (mr 4), .ref (mr 5), .ref (mr 6), .ref (mr 7), .ref (mr 8), .ref (mr 9), .int (nI mk), .int (nI rs), .ref (mr 10), .ref (mr 11), .ref (mr 12), .ref (mr 13), .ref (mr 14), .ref (mr 15), .ref (mr 16), .ref (mr 17), .ref (mr 18), .ref (mr 19), .ref (mr 20), .int (nI nse), .int (nI npa), .int (nI nbo), .ref (mr 21), .int (nI tn), .ref (mr 22), .int (nI ik), .int (j0), .int (j1), .ref (mr 23), .int (j2), .ref (mr 24), .ref (mr 25), .int (j3), .ref (mr 26), .int (nI n9), .ref (mr 27), .ref (mr 28), .ref (mr 29), .ref (mr 30)])), (mr 26, .inl (cy 1, 24, .inl (fun k => nI (sh9 k))))] [] (fun (v9 : Option Value) (w9 : va_W) => (v9 = none ∧ w9 = [(mo, .inr (9, [.int (nI cols), .int (nI lc), .int (nI smp), .int (ky), .ref (mr 0), .ref (mr 1), .ref (mr 2), .ref (mr 3), .ref (mr 4), .ref (mr 5), .ref (mr 6), .ref (mr 7), .ref (mr 8), .ref (mr 9), .int (nI mk), .int (nI rs), .ref (mr 10), .ref (mr 11), .ref (mr 12), .ref (mr 13), .ref (mr 14), .ref (mr 15), .ref (mr 16), .ref (mr 17), .ref (mr 18), .ref (mr 19), .ref (mr 20), .int (nI nse), .int (nI npa), .int (nI nbo), .ref (mr 21), .int (nI tn), .ref (mr 22), .int (nI ik), .int (j0), .int (j1), .ref (mr 23), .int (j2), .ref (mr 24), .ref (mr 25), .int (j3), .ref (mr 26), .int (nI (n9 + 1)), .ref (mr 27), .ref (mr 28), .ref (mr 29), .ref (mr 30)])), (mr 26, .inl (cy 1, 24, .inl (fun k => nI ((va_up sh9 n9 v) k))))])) := by
  refine xMet_of (cc := cX10_shows) (maxL := 2) (ret := none) (by decide) rfl (Nat.le_of_ble_eq_true rfl) (fun p e s m args below meth c A R Q hA hR hQ C hr hnm hro hX => ?_)
  have hw0 : ∀ w ∈ u_ws RX10 TX10 47, w ∈ wsX10_shows := by decide +kernel
  have hw1 : Cond.fieldLink RX10 98 (TX10 41).1 (TX10 41).2.1 (TX10 41).2.2.1 ∈ wsX10_shows := by decide +kernel
  have hw2 : Cond.fieldLink RX10 325 (TX10 42).1 (TX10 42).2.1 (TX10 42).2.2.1 ∈ wsX10_shows := by decide +kernel
  refine x_L (L' := [(0, .ref mo), (1, .int (nI v))]) [0, 1] rfl ?_
  refine x_aload_n C dX10_shows_0 (q := 1) rfl rfl 0 rfl ?_
  refine x_get C (ci := 9) (v := .ref (mr 26)) hw0 0 rfl rfl 41 (by decide) hw1 rfl dX10_shows_1 (q := 4) rfl ?_
  refine x_aload_n C dX10_shows_4 (q := 5) rfl rfl 0 rfl ?_
  refine x_get C (ci := 9) (v := .int (nI n9)) hw0 0 rfl rfl 42 (by decide) hw2 rfl dX10_shows_5 (q := 8) rfl ?_
  refine x_iload_n C dX10_shows_8 (q := 9) rfl rfl 1 rfl ?_
  refine x_iast C (ws' := [(mo, .inr (9, [.int (nI cols), .int (nI lc), .int (nI smp), .int (ky), .ref (mr 0), .ref (mr 1), .ref (mr 2), .ref (mr 3), .ref (mr 4), .ref (mr 5), .ref (mr 6), .ref (mr 7), .ref (mr 8), .ref (mr 9), .int (nI mk), .int (nI rs), .ref (mr 10), .ref (mr 11), .ref (mr 12), .ref (mr 13), .ref (mr 14), .ref (mr 15), .ref (mr 16), .ref (mr 17), .ref (mr 18), .ref (mr 19), .ref (mr 20), .int (nI nse), .int (nI npa), .int (nI nbo), .ref (mr 21), .int (nI tn), .ref (mr 22), .int (nI ik), .int (j0), .int (j1), .ref (mr 23), .int (j2), .ref (mr 24), .ref (mr 25), .int (j3), .ref (mr 26), .int (nI n9), .ref (mr 27), .ref (mr 28), .ref (mr 29), .ref (mr 30)])), (mr 26, .inl (cy 1, 24, .inl (fun k => nI ((va_up sh9 n9 v) k))))]) 1 rfl (j := n9) (nI_toInt (by omega)) (by omega) (xup_n sh9 n9 v) rfl dX10_shows_9 (q := 10) rfl ?_
  refine x_aload_n C dX10_shows_10 (q := 11) rfl rfl 0 rfl ?_
  refine x_dup C dX10_shows_11 (q := 12) rfl rfl ?_
  refine x_get C (ci := 9) (v := .int (nI n9)) hw0 0 rfl rfl 42 (by decide) hw2 rfl dX10_shows_12 (q := 15) rfl ?_
  refine x_iconst C dX10_shows_15 (q := 16) rfl (v := nI 1) (by decide) ?_
  refine x_iadd C dX10_shows_16 (q := 17) rfl (z := nI (n9 + 1)) (nI_add n9 1) ?_
  refine x_put C (ci := 9) (ty := .int) (ws' := [(mo, .inr (9, [.int (nI cols), .int (nI lc), .int (nI smp), .int (ky), .ref (mr 0), .ref (mr 1), .ref (mr 2), .ref (mr 3), .ref (mr 4), .ref (mr 5), .ref (mr 6), .ref (mr 7), .ref (mr 8), .ref (mr 9), .int (nI mk), .int (nI rs), .ref (mr 10), .ref (mr 11), .ref (mr 12), .ref (mr 13), .ref (mr 14), .ref (mr 15), .ref (mr 16), .ref (mr 17), .ref (mr 18), .ref (mr 19), .ref (mr 20), .int (nI nse), .int (nI npa), .int (nI nbo), .ref (mr 21), .int (nI tn), .ref (mr 22), .int (nI ik), .int (j0), .int (j1), .ref (mr 23), .int (j2), .ref (mr 24), .ref (mr 25), .int (j3), .ref (mr 26), .int (nI (n9 + 1)), .ref (mr 27), .ref (mr 28), .ref (mr 29), .ref (mr 30)])), (mr 26, .inl (cy 1, 24, .inl (fun k => nI ((va_up sh9 n9 v) k))))]) hw0 tyX10 tyX10_ok nmX10 0 rfl rfl 42 (by decide) hw2 rfl (by decide +kernel) rfl rfl (Nat.le_of_ble_eq_true rfl) rfl dX10_shows_17 (q := 20) rfl ?_
  refine x_vret C hA hQ hr dX10_shows_20 (Nat.le_of_ble_eq_true rfl) ?_
  first | exact ⟨rfl, rfl⟩ | exact ⟨_, rfl, rfl, by first | rfl | omega | assumption⟩ | (refine ⟨_, rfl, rfl, ?_⟩; (first | rfl | omega | (simp only []; omega)))

set_option maxHeartbeats 600000 in
set_option maxRecDepth 100000 in
/-- digits are shown -/
theorem c_X10_showsDigits_0 (l : Launch) (D : va_G) (cy : Nat → ClassId) (mo : Nat) (mr : Nat → Nat) (cols : Nat) (lc : Nat) (smp : Nat) (mk : Nat) (rs : Nat) (nse : Nat) (npa : Nat) (nbo : Nat) (tn : Nat) (ik : Nat) (ky : Int32) (j0 : Int32) (j1 : Int32) (j2 : Int32) (j3 : Int32) (n9 : Nat) (sh9 : Nat → Nat) (v : Nat) (hn9 : n9 + 1 ≤ 24) (hv : v < 10) : xMet l D cy xT yX10_showsDigits wsX10_showsDigits ({ frames := 2, cells := 0, slots := 0, locals := 200 } : Room) [.ref mo, .long (lN v)] [(mo, .inr (9, [.int (nI cols), .int (nI lc), .int (nI smp), .int (ky), .ref (mr 0), .ref (mr 1), .ref (mr 2), .ref (mr 3), .ref (mr 4), .ref (mr 5), .ref (mr 6), .ref (mr 7), .ref (mr 8), .ref (mr 9), .int (nI mk), .int (nI rs), .ref (mr 10), .ref (mr 11), .ref (mr 12), .ref (mr 13), .ref (mr 14), .ref (mr 15), .ref (mr 16), .ref (mr 17), .ref (mr 18), .ref (mr 19), .ref (mr 20), .int (nI nse), .int (nI npa), .int (nI nbo), .ref (mr 21), .int (nI tn), .ref (mr 22), .int (nI ik), .int (j0), .int (j1), .ref (mr 23), .int (j2), .ref (mr 24), .ref (mr 25), .int (j3), .ref (mr 26), .int (nI n9), .ref (mr 27), .ref (mr 28), .ref (mr 29), .ref (mr 30)])), (mr 26, .inl (cy 1, 24, .inl (fun k => nI (sh9 k))))] [] (fun (v9 : Option Value) (w9 : va_W) => (v9 = none ∧ w9 = [(mo, .inr (9, [.int (nI cols), .int (nI lc), .int (nI smp), .int (ky), .ref (mr 0), .ref (mr 1), .ref (mr 2), .ref (mr 3), .ref (mr 4), .ref (mr 5), .ref (mr 6), .ref (mr 7), .ref (mr 8), .ref (mr 9), .int (nI mk), .int (nI rs), .ref (mr 10), .ref (mr 11), .ref (mr 12), .ref (mr 13), .ref (mr 14), .ref (mr 15), .ref (mr 16), .ref (mr 17), .ref (mr 18), .ref (mr 19), .ref (mr 20), .int (nI nse), .int (nI npa), .int (nI nbo), .ref (mr 21), .int (nI tn), .ref (mr 22), .int (nI ik), .int (j0), .int (j1), .ref (mr 23), .int (j2), .ref (mr 24), .ref (mr 25), .int (j3), .ref (mr 26), .int (nI (n9 + (dgE v 1 17 0 + 1))), .ref (mr 27), .ref (mr 28), .ref (mr 29), .ref (mr 30)])), (mr 26, .inl (cy 1, 24, .inl (fun k => nI ((dgF v (dgE v 1 17 0) sh9 n9 (dgE v 1 17 0 + 1)) k))))])) := by
  refine xMet_of (cc := cX10_showsDigits) (maxL := 3) (ret := none) (by decide) rfl (Nat.le_of_ble_eq_true rfl) (fun p e s m args below meth c A R Q hA hR hQ C hr hnm hro hX => ?_)
  have hw0 : Jvm.Cond.constantLong RX10 328 (9) ∈ wsX10_showsDigits := by decide +kernel
  have hw1 : Jvm.Cond.constantLong RX10 247 (10) ∈ wsX10_showsDigits := by decide +kernel
  refine x_L (L' := [(0, .ref mo), (1, .long (lN v))]) [0, 1] rfl ?_
  refine x_lload_n C dX10_showsDigits_0 (q := 1) rfl rfl 1 rfl ?_
  refine x_ldc2 C (v := lN 9) hw0 dX10_showsDigits_1 (q := 4) rfl ?_
  refine x_lcmp_le C (tgt := 17) dX10_showsDigits_4 dX10_showsDigits_5 (by decide) (q := 8) rfl (a := ((v : Nat) : Int)) (b := 9) (pk_lT (by omega)) rfl (fun h1 => ?_) (fun h1 => ?_)
  · first
    | (exfalso; omega)
    |
      refine x_aload_n C dX10_showsDigits_17 (q := 18) rfl rfl 0 rfl ?_
      refine x_bipush C dX10_showsDigits_18 (q := 20) rfl (v := nI 48) (by decide) ?_
      refine x_lload_n C dX10_showsDigits_20 (q := 21) rfl rfl 1 rfl ?_
      refine x_ldc2 C (v := lN 10) hw1 dX10_showsDigits_21 (q := 24) rfl ?_
      refine x_lrem C dX10_showsDigits_24 (q := 25) rfl (xl_ne0 (b := 10) rfl (by omega)) (z := lN (v % 10)) (pk_lRem (by omega) (by omega) (by omega)) ?_
      refine x_l2i C dX10_showsDigits_25 (q := 26) rfl (v := nI (v % 10)) (lN_i (v % 10)) ?_
      refine x_iadd C dX10_showsDigits_26 (q := 27) rfl (z := nI (48 + (v % 10))) (nI_add 48 (v % 10)) ?_
      refine x_callV C (roW := []) (roR := []) (c_X10_shows l D cy mo mr cols lc smp mk rs nse npa nbo tn ik ky j0 j1 j2 j3 n9 sh9 (48 + (v % 10)) (by first | assumption | omega | (simp only []; omega))) (cwV 1 C.2.2.2.2.1 gX10_showsDigits_X10_shows rfl rfl rfl (by decide +kernel) (by rw [hR]; exact ⟨Nat.le_of_ble_eq_true rfl, Nat.le_of_ble_eq_true rfl⟩)) [0, 1] [] rfl (by decide) rfl (by decide) xro_nil (List.mem_of_getElem? (i := 0) rfl) (ci := 9) rfl xT_bl (fun _ _ _ _ _ _ _ => trivial) rfl rfl dX10_showsDigits_27 rfl rfl (Nat.le_of_ble_eq_true rfl) (q := 30) rfl (k' := 0) rfl (n' := 0) rfl (by rw [hR]; exact ⟨Nat.le_of_ble_eq_true rfl, Nat.le_of_ble_eq_true rfl⟩) (fun v2 w2 hp2 => ?_)
      obtain ⟨rfl, rfl⟩ := hp2
      refine x_ws (ws' := [(mo, .inr (9, [.int (nI cols), .int (nI lc), .int (nI smp), .int (ky), .ref (mr 0), .ref (mr 1), .ref (mr 2), .ref (mr 3), .ref (mr 4), .ref (mr 5), .ref (mr 6), .ref (mr 7), .ref (mr 8), .ref (mr 9), .int (nI mk), .int (nI rs), .ref (mr 10), .ref (mr 11), .ref (mr 12), .ref (mr 13), .ref (mr 14), .ref (mr 15), .ref (mr 16), .ref (mr 17), .ref (mr 18), .ref (mr 19), .ref (mr 20), .int (nI nse), .int (nI npa), .int (nI nbo), .ref (mr 21), .int (nI tn), .ref (mr 22), .int (nI ik), .int (j0), .int (j1), .ref (mr 23), .int (j2), .ref (mr 24), .ref (mr 25), .int (j3), .ref (mr 26), .int (nI (n9 + 1)), .ref (mr 27), .ref (mr 28), .ref (mr 29), .ref (mr 30)])), (mr 26, .inl (cy 1, 24, .inl (fun k => nI ((va_up sh9 n9 (48 + (v % 10))) k))))]) rfl ?_
      refine x_vret C hA hQ hr dX10_showsDigits_30 (Nat.le_of_ble_eq_true rfl) ?_
      exact ⟨rfl, by rw [dgE_1 (by omega), dg_one (by omega), dgE_1 (by omega)]⟩
  · first
    | (exfalso; omega)
    |
      refine x_aload_n C dX10_showsDigits_8 (q := 9) rfl rfl 0 rfl ?_
      refine x_lload_n C dX10_showsDigits_9 (q := 10) rfl rfl 1 rfl ?_
      refine x_ldc2 C (v := lN 10) hw1 dX10_showsDigits_10 (q := 13) rfl ?_
      refine x_ldiv C dX10_showsDigits_13 (q := 14) rfl (xl_ne0 (b := 10) rfl (by omega)) (z := lN (v / 10)) (pk_lDiv (by omega) (by omega) (by omega)) ?_
      refine x_callV C (roW := []) (roR := []) (c_X10_showsDigits_0 l D cy mo mr cols lc smp mk rs nse npa nbo tn ik ky j0 j1 j2 j3 n9 sh9 (v / 10) (by first | assumption | omega | (simp only []; omega)) (by first | assumption | omega | (simp only []; omega))) (cwV 1 C.2.2.2.2.1 gX10_showsDigits_X10_showsDigits rfl rfl rfl (by decide +kernel) (by rw [hR]; exact ⟨Nat.le_of_ble_eq_true rfl, Nat.le_of_ble_eq_true rfl⟩)) [0, 1] [] rfl (by decide) rfl (by decide) xro_nil (List.mem_of_getElem? (i := 0) rfl) (ci := 9) rfl xT_bl (fun _ _ _ _ _ _ _ => trivial) rfl rfl dX10_showsDigits_14 rfl rfl (Nat.le_of_ble_eq_true rfl) (q := 17) rfl (k' := 0) rfl (n' := 0) rfl (by rw [hR]; exact ⟨Nat.le_of_ble_eq_true rfl, Nat.le_of_ble_eq_true rfl⟩) (fun v3 w3 hp3 => ?_)
      obtain ⟨rfl, rfl⟩ := hp3
      refine x_ws (ws' := [(mo, .inr (9, [.int (nI cols), .int (nI lc), .int (nI smp), .int (ky), .ref (mr 0), .ref (mr 1), .ref (mr 2), .ref (mr 3), .ref (mr 4), .ref (mr 5), .ref (mr 6), .ref (mr 7), .ref (mr 8), .ref (mr 9), .int (nI mk), .int (nI rs), .ref (mr 10), .ref (mr 11), .ref (mr 12), .ref (mr 13), .ref (mr 14), .ref (mr 15), .ref (mr 16), .ref (mr 17), .ref (mr 18), .ref (mr 19), .ref (mr 20), .int (nI nse), .int (nI npa), .int (nI nbo), .ref (mr 21), .int (nI tn), .ref (mr 22), .int (nI ik), .int (j0), .int (j1), .ref (mr 23), .int (j2), .ref (mr 24), .ref (mr 25), .int (j3), .ref (mr 26), .int (nI (n9 + (dgE (v / 10) 1 17 0 + 1))), .ref (mr 27), .ref (mr 28), .ref (mr 29), .ref (mr 30)])), (mr 26, .inl (cy 1, 24, .inl (fun k => nI ((dgF (v / 10) (dgE (v / 10) 1 17 0) sh9 n9 (dgE (v / 10) 1 17 0 + 1)) k))))]) rfl ?_
      refine x_aload_n C dX10_showsDigits_17 (q := 18) rfl rfl 0 rfl ?_
      refine x_bipush C dX10_showsDigits_18 (q := 20) rfl (v := nI 48) (by decide) ?_
      refine x_lload_n C dX10_showsDigits_20 (q := 21) rfl rfl 1 rfl ?_
      refine x_ldc2 C (v := lN 10) hw1 dX10_showsDigits_21 (q := 24) rfl ?_
      refine x_lrem C dX10_showsDigits_24 (q := 25) rfl (xl_ne0 (b := 10) rfl (by omega)) (z := lN (v % 10)) (pk_lRem (by omega) (by omega) (by omega)) ?_
      refine x_l2i C dX10_showsDigits_25 (q := 26) rfl (v := nI (v % 10)) (lN_i (v % 10)) ?_
      refine x_iadd C dX10_showsDigits_26 (q := 27) rfl (z := nI (48 + (v % 10))) (nI_add 48 (v % 10)) ?_
      refine x_callV C (roW := []) (roR := []) (c_X10_shows l D cy mo mr cols lc smp mk rs nse npa nbo tn ik ky j0 j1 j2 j3 (n9 + (dgE (v / 10) 1 17 0 + 1)) (dgF (v / 10) (dgE (v / 10) 1 17 0) sh9 n9 (dgE (v / 10) 1 17 0 + 1)) (48 + (v % 10)) (by first | assumption | omega | (simp only []; omega))) (cwV 1 C.2.2.2.2.1 gX10_showsDigits_X10_shows rfl rfl rfl (by decide +kernel) (by rw [hR]; exact ⟨Nat.le_of_ble_eq_true rfl, Nat.le_of_ble_eq_true rfl⟩)) [0, 1] [] rfl (by decide) rfl (by decide) xro_nil (List.mem_of_getElem? (i := 0) rfl) (ci := 9) rfl xT_bl (fun _ _ _ _ _ _ _ => trivial) rfl rfl dX10_showsDigits_27 rfl rfl (Nat.le_of_ble_eq_true rfl) (q := 30) rfl (k' := 0) rfl (n' := 0) rfl (by rw [hR]; exact ⟨Nat.le_of_ble_eq_true rfl, Nat.le_of_ble_eq_true rfl⟩) (fun v4 w4 hp4 => ?_)
      obtain ⟨rfl, rfl⟩ := hp4
      refine x_ws (ws' := [(mo, .inr (9, [.int (nI cols), .int (nI lc), .int (nI smp), .int (ky), .ref (mr 0), .ref (mr 1), .ref (mr 2), .ref (mr 3), .ref (mr 4), .ref (mr 5), .ref (mr 6), .ref (mr 7), .ref (mr 8), .ref (mr 9), .int (nI mk), .int (nI rs), .ref (mr 10), .ref (mr 11), .ref (mr 12), .ref (mr 13), .ref (mr 14), .ref (mr 15), .ref (mr 16), .ref (mr 17), .ref (mr 18), .ref (mr 19), .ref (mr 20), .int (nI nse), .int (nI npa), .int (nI nbo), .ref (mr 21), .int (nI tn), .ref (mr 22), .int (nI ik), .int (j0), .int (j1), .ref (mr 23), .int (j2), .ref (mr 24), .ref (mr 25), .int (j3), .ref (mr 26), .int (nI ((n9 + (dgE (v / 10) 1 17 0 + 1)) + 1)), .ref (mr 27), .ref (mr 28), .ref (mr 29), .ref (mr 30)])), (mr 26, .inl (cy 1, 24, .inl (fun k => nI ((va_up (dgF (v / 10) (dgE (v / 10) 1 17 0) sh9 n9 (dgE (v / 10) 1 17 0 + 1)) (n9 + (dgE (v / 10) 1 17 0 + 1)) (48 + (v % 10))) k))))]) rfl ?_
      refine x_vret C hA hQ hr dX10_showsDigits_30 (Nat.le_of_ble_eq_true rfl) ?_
      exact ⟨rfl, by rw [dg_ten (by omega) (by omega), hdt]; rfl⟩

set_option maxHeartbeats 600000 in
set_option maxRecDepth 100000 in
/-- digits are shown -/
theorem c_X10_showsDigits_1 (l : Launch) (D : va_G) (cy : Nat → ClassId) (mo : Nat) (mr : Nat → Nat) (cols : Nat) (lc : Nat) (smp : Nat) (mk : Nat) (rs : Nat) (nse : Nat) (npa : Nat) (nbo : Nat) (tn : Nat) (ik : Nat) (ky : Int32) (j0 : Int32) (j1 : Int32) (j2 : Int32) (j3 : Int32) (n9 : Nat) (sh9 : Nat → Nat) (v : Nat) (hn9 : n9 + 2 ≤ 24) (hv : v < 100) : xMet l D cy xT yX10_showsDigits wsX10_showsDigits ({ frames := 3, cells := 0, slots := 0, locals := 300 } : Room) [.ref mo, .long (lN v)] [(mo, .inr (9, [.int (nI cols), .int (nI lc), .int (nI smp), .int (ky), .ref (mr 0), .ref (mr 1), .ref (mr 2), .ref (mr 3), .ref (mr 4), .ref (mr 5), .ref (mr 6), .ref (mr 7), .ref (mr 8), .ref (mr 9), .int (nI mk), .int (nI rs), .ref (mr 10), .ref (mr 11), .ref (mr 12), .ref (mr 13), .ref (mr 14), .ref (mr 15), .ref (mr 16), .ref (mr 17), .ref (mr 18), .ref (mr 19), .ref (mr 20), .int (nI nse), .int (nI npa), .int (nI nbo), .ref (mr 21), .int (nI tn), .ref (mr 22), .int (nI ik), .int (j0), .int (j1), .ref (mr 23), .int (j2), .ref (mr 24), .ref (mr 25), .int (j3), .ref (mr 26), .int (nI n9), .ref (mr 27), .ref (mr 28), .ref (mr 29), .ref (mr 30)])), (mr 26, .inl (cy 1, 24, .inl (fun k => nI (sh9 k))))] [] (fun (v9 : Option Value) (w9 : va_W) => (v9 = none ∧ w9 = [(mo, .inr (9, [.int (nI cols), .int (nI lc), .int (nI smp), .int (ky), .ref (mr 0), .ref (mr 1), .ref (mr 2), .ref (mr 3), .ref (mr 4), .ref (mr 5), .ref (mr 6), .ref (mr 7), .ref (mr 8), .ref (mr 9), .int (nI mk), .int (nI rs), .ref (mr 10), .ref (mr 11), .ref (mr 12), .ref (mr 13), .ref (mr 14), .ref (mr 15), .ref (mr 16), .ref (mr 17), .ref (mr 18), .ref (mr 19), .ref (mr 20), .int (nI nse), .int (nI npa), .int (nI nbo), .ref (mr 21), .int (nI tn), .ref (mr 22), .int (nI ik), .int (j0), .int (j1), .ref (mr 23), .int (j2), .ref (mr 24), .ref (mr 25), .int (j3), .ref (mr 26), .int (nI (n9 + (dgE v 1 17 0 + 1))), .ref (mr 27), .ref (mr 28), .ref (mr 29), .ref (mr 30)])), (mr 26, .inl (cy 1, 24, .inl (fun k => nI ((dgF v (dgE v 1 17 0) sh9 n9 (dgE v 1 17 0 + 1)) k))))])) := by
  refine xMet_of (cc := cX10_showsDigits) (maxL := 3) (ret := none) (by decide) rfl (Nat.le_of_ble_eq_true rfl) (fun p e s m args below meth c A R Q hA hR hQ C hr hnm hro hX => ?_)
  have hw0 : Jvm.Cond.constantLong RX10 328 (9) ∈ wsX10_showsDigits := by decide +kernel
  have hw1 : Jvm.Cond.constantLong RX10 247 (10) ∈ wsX10_showsDigits := by decide +kernel
  refine x_L (L' := [(0, .ref mo), (1, .long (lN v))]) [0, 1] rfl ?_
  refine x_lload_n C dX10_showsDigits_0 (q := 1) rfl rfl 1 rfl ?_
  refine x_ldc2 C (v := lN 9) hw0 dX10_showsDigits_1 (q := 4) rfl ?_
  refine x_lcmp_le C (tgt := 17) dX10_showsDigits_4 dX10_showsDigits_5 (by decide) (q := 8) rfl (a := ((v : Nat) : Int)) (b := 9) (pk_lT (by omega)) rfl (fun h1 => ?_) (fun h1 => ?_)
  · first
    | (exfalso; omega)
    |
      refine x_aload_n C dX10_showsDigits_17 (q := 18) rfl rfl 0 rfl ?_
      refine x_bipush C dX10_showsDigits_18 (q := 20) rfl (v := nI 48) (by decide) ?_
      refine x_lload_n C dX10_showsDigits_20 (q := 21) rfl rfl 1 rfl ?_
      refine x_ldc2 C (v := lN 10) hw1 dX10_showsDigits_21 (q := 24) rfl ?_
      refine x_lrem C dX10_showsDigits_24 (q := 25) rfl (xl_ne0 (b := 10) rfl (by omega)) (z := lN (v % 10)) (pk_lRem (by omega) (by omega) (by omega)) ?_
      refine x_l2i C dX10_showsDigits_25 (q := 26) rfl (v := nI (v % 10)) (lN_i (v % 10)) ?_
      refine x_iadd C dX10_showsDigits_26 (q := 27) rfl (z := nI (48 + (v % 10))) (nI_add 48 (v % 10)) ?_
      refine x_callV C (roW := []) (roR := []) (c_X10_shows l D cy mo mr cols lc smp mk rs nse npa nbo tn ik ky j0 j1 j2 j3 n9 sh9 (48 + (v % 10)) (by first | assumption | omega | (simp only []; omega))) (cwV 1 C.2.2.2.2.1 gX10_showsDigits_X10_shows rfl rfl rfl (by decide +kernel) (by rw [hR]; exact ⟨Nat.le_of_ble_eq_true rfl, Nat.le_of_ble_eq_true rfl⟩)) [0, 1] [] rfl (by decide) rfl (by decide) xro_nil (List.mem_of_getElem? (i := 0) rfl) (ci := 9) rfl xT_bl (fun _ _ _ _ _ _ _ => trivial) rfl rfl dX10_showsDigits_27 rfl rfl (Nat.le_of_ble_eq_true rfl) (q := 30) rfl (k' := 0) rfl (n' := 0) rfl (by rw [hR]; exact ⟨Nat.le_of_ble_eq_true rfl, Nat.le_of_ble_eq_true rfl⟩) (fun v2 w2 hp2 => ?_)
      obtain ⟨rfl, rfl⟩ := hp2
      refine x_ws (ws' := [(mo, .inr (9, [.int (nI cols), .int (nI lc), .int (nI smp), .int (ky), .ref (mr 0), .ref (mr 1), .ref (mr 2), .ref (mr 3), .ref (mr 4), .ref (mr 5), .ref (mr 6), .ref (mr 7), .ref (mr 8), .ref (mr 9), .int (nI mk), .int (nI rs), .ref (mr 10), .ref (mr 11), .ref (mr 12), .ref (mr 13), .ref (mr 14), .ref (mr 15), .ref (mr 16), .ref (mr 17), .ref (mr 18), .ref (mr 19), .ref (mr 20), .int (nI nse), .int (nI npa), .int (nI nbo), .ref (mr 21), .int (nI tn), .ref (mr 22), .int (nI ik), .int (j0), .int (j1), .ref (mr 23), .int (j2), .ref (mr 24), .ref (mr 25), .int (j3), .ref (mr 26), .int (nI (n9 + 1)), .ref (mr 27), .ref (mr 28), .ref (mr 29), .ref (mr 30)])), (mr 26, .inl (cy 1, 24, .inl (fun k => nI ((va_up sh9 n9 (48 + (v % 10))) k))))]) rfl ?_
      refine x_vret C hA hQ hr dX10_showsDigits_30 (Nat.le_of_ble_eq_true rfl) ?_
      exact ⟨rfl, by rw [dgE_1 (by omega), dg_one (by omega), dgE_1 (by omega)]⟩
  · first
    | (exfalso; omega)
    |
      have hdt := dgE_10 (v := v) (by omega) (by omega)
      have hdl := dgE_lt (v := v / 10) (wd := 1) (m := 0) (by show _ < 10; omega) (by decide) 17 0 (by decide)
      refine x_aload_n C dX10_showsDigits_8 (q := 9) rfl rfl 0 rfl ?_
      refine x_lload_n C dX10_showsDigits_9 (q := 10) rfl rfl 1 rfl ?_
      refine x_ldc2 C (v := lN 10) hw1 dX10_showsDigits_10 (q := 13) rfl ?_
      refine x_ldiv C dX10_showsDigits_13 (q := 14) rfl (xl_ne0 (b := 10) rfl (by omega)) (z := lN (v / 10)) (pk_lDiv (by omega) (by omega) (by omega)) ?_
      refine x_callV C (roW := []) (roR := []) (c_X10_showsDigits_0 l D cy mo mr cols lc smp mk rs nse npa nbo tn ik ky j0 j1 j2 j3 n9 sh9 (v / 10) (by first | assumption | omega | (simp only []; omega)) (by first | assumption | omega | (simp only []; omega))) (cwV 1 C.2.2.2.2.1 gX10_showsDigits_X10_showsDigits rfl rfl rfl (by decide +kernel) (by rw [hR]; exact ⟨Nat.le_of_ble_eq_true rfl, Nat.le_of_ble_eq_true rfl⟩)) [0, 1] [] rfl (by decide) rfl (by decide) xro_nil (List.mem_of_getElem? (i := 0) rfl) (ci := 9) rfl xT_bl (fun _ _ _ _ _ _ _ => trivial) rfl rfl dX10_showsDigits_14 rfl rfl (Nat.le_of_ble_eq_true rfl) (q := 17) rfl (k' := 0) rfl (n' := 0) rfl (by rw [hR]; exact ⟨Nat.le_of_ble_eq_true rfl, Nat.le_of_ble_eq_true rfl⟩) (fun v3 w3 hp3 => ?_)
      obtain ⟨rfl, rfl⟩ := hp3
      refine x_ws (ws' := [(mo, .inr (9, [.int (nI cols), .int (nI lc), .int (nI smp), .int (ky), .ref (mr 0), .ref (mr 1), .ref (mr 2), .ref (mr 3), .ref (mr 4), .ref (mr 5), .ref (mr 6), .ref (mr 7), .ref (mr 8), .ref (mr 9), .int (nI mk), .int (nI rs), .ref (mr 10), .ref (mr 11), .ref (mr 12), .ref (mr 13), .ref (mr 14), .ref (mr 15), .ref (mr 16), .ref (mr 17), .ref (mr 18), .ref (mr 19), .ref (mr 20), .int (nI nse), .int (nI npa), .int (nI nbo), .ref (mr 21), .int (nI tn), .ref (mr 22), .int (nI ik), .int (j0), .int (j1), .ref (mr 23), .int (j2), .ref (mr 24), .ref (mr 25), .int (j3), .ref (mr 26), .int (nI (n9 + (dgE (v / 10) 1 17 0 + 1))), .ref (mr 27), .ref (mr 28), .ref (mr 29), .ref (mr 30)])), (mr 26, .inl (cy 1, 24, .inl (fun k => nI ((dgF (v / 10) (dgE (v / 10) 1 17 0) sh9 n9 (dgE (v / 10) 1 17 0 + 1)) k))))]) rfl ?_
      refine x_aload_n C dX10_showsDigits_17 (q := 18) rfl rfl 0 rfl ?_
      refine x_bipush C dX10_showsDigits_18 (q := 20) rfl (v := nI 48) (by decide) ?_
      refine x_lload_n C dX10_showsDigits_20 (q := 21) rfl rfl 1 rfl ?_
      refine x_ldc2 C (v := lN 10) hw1 dX10_showsDigits_21 (q := 24) rfl ?_
      refine x_lrem C dX10_showsDigits_24 (q := 25) rfl (xl_ne0 (b := 10) rfl (by omega)) (z := lN (v % 10)) (pk_lRem (by omega) (by omega) (by omega)) ?_
      refine x_l2i C dX10_showsDigits_25 (q := 26) rfl (v := nI (v % 10)) (lN_i (v % 10)) ?_
      refine x_iadd C dX10_showsDigits_26 (q := 27) rfl (z := nI (48 + (v % 10))) (nI_add 48 (v % 10)) ?_
      refine x_callV C (roW := []) (roR := []) (c_X10_shows l D cy mo mr cols lc smp mk rs nse npa nbo tn ik ky j0 j1 j2 j3 (n9 + (dgE (v / 10) 1 17 0 + 1)) (dgF (v / 10) (dgE (v / 10) 1 17 0) sh9 n9 (dgE (v / 10) 1 17 0 + 1)) (48 + (v % 10)) (by first | assumption | omega | (simp only []; omega))) (cwV 1 C.2.2.2.2.1 gX10_showsDigits_X10_shows rfl rfl rfl (by decide +kernel) (by rw [hR]; exact ⟨Nat.le_of_ble_eq_true rfl, Nat.le_of_ble_eq_true rfl⟩)) [0, 1] [] rfl (by decide) rfl (by decide) xro_nil (List.mem_of_getElem? (i := 0) rfl) (ci := 9) rfl xT_bl (fun _ _ _ _ _ _ _ => trivial) rfl rfl dX10_showsDigits_27 rfl rfl (Nat.le_of_ble_eq_true rfl) (q := 30) rfl (k' := 0) rfl (n' := 0) rfl (by rw [hR]; exact ⟨Nat.le_of_ble_eq_true rfl, Nat.le_of_ble_eq_true rfl⟩) (fun v4 w4 hp4 => ?_)
      obtain ⟨rfl, rfl⟩ := hp4
      refine x_ws (ws' := [(mo, .inr (9, [.int (nI cols), .int (nI lc), .int (nI smp), .int (ky), .ref (mr 0), .ref (mr 1), .ref (mr 2), .ref (mr 3), .ref (mr 4), .ref (mr 5), .ref (mr 6), .ref (mr 7), .ref (mr 8), .ref (mr 9), .int (nI mk), .int (nI rs), .ref (mr 10), .ref (mr 11), .ref (mr 12), .ref (mr 13), .ref (mr 14), .ref (mr 15), .ref (mr 16), .ref (mr 17), .ref (mr 18), .ref (mr 19), .ref (mr 20), .int (nI nse), .int (nI npa), .int (nI nbo), .ref (mr 21), .int (nI tn), .ref (mr 22), .int (nI ik), .int (j0), .int (j1), .ref (mr 23), .int (j2), .ref (mr 24), .ref (mr 25), .int (j3), .ref (mr 26), .int (nI ((n9 + (dgE (v / 10) 1 17 0 + 1)) + 1)), .ref (mr 27), .ref (mr 28), .ref (mr 29), .ref (mr 30)])), (mr 26, .inl (cy 1, 24, .inl (fun k => nI ((va_up (dgF (v / 10) (dgE (v / 10) 1 17 0) sh9 n9 (dgE (v / 10) 1 17 0 + 1)) (n9 + (dgE (v / 10) 1 17 0 + 1)) (48 + (v % 10))) k))))]) rfl ?_
      refine x_vret C hA hQ hr dX10_showsDigits_30 (Nat.le_of_ble_eq_true rfl) ?_
      exact ⟨rfl, by rw [dg_ten (by omega) (by omega), hdt]; rfl⟩

set_option maxHeartbeats 600000 in
set_option maxRecDepth 100000 in
/-- digits are shown -/
theorem c_X10_showsDigits_2 (l : Launch) (D : va_G) (cy : Nat → ClassId) (mo : Nat) (mr : Nat → Nat) (cols : Nat) (lc : Nat) (smp : Nat) (mk : Nat) (rs : Nat) (nse : Nat) (npa : Nat) (nbo : Nat) (tn : Nat) (ik : Nat) (ky : Int32) (j0 : Int32) (j1 : Int32) (j2 : Int32) (j3 : Int32) (n9 : Nat) (sh9 : Nat → Nat) (v : Nat) (hn9 : n9 + 3 ≤ 24) (hv : v < 1000) : xMet l D cy xT yX10_showsDigits wsX10_showsDigits ({ frames := 4, cells := 0, slots := 0, locals := 400 } : Room) [.ref mo, .long (lN v)] [(mo, .inr (9, [.int (nI cols), .int (nI lc), .int (nI smp), .int (ky), .ref (mr 0), .ref (mr 1), .ref (mr 2), .ref (mr 3), .ref (mr 4), .ref (mr 5), .ref (mr 6), .ref (mr 7), .ref (mr 8), .ref (mr 9), .int (nI mk), .int (nI rs), .ref (mr 10), .ref (mr 11), .ref (mr 12), .ref (mr 13), .ref (mr 14), .ref (mr 15), .ref (mr 16), .ref (mr 17), .ref (mr 18), .ref (mr 19), .ref (mr 20), .int (nI nse), .int (nI npa), .int (nI nbo), .ref (mr 21), .int (nI tn), .ref (mr 22), .int (nI ik), .int (j0), .int (j1), .ref (mr 23), .int (j2), .ref (mr 24), .ref (mr 25), .int (j3), .ref (mr 26), .int (nI n9), .ref (mr 27), .ref (mr 28), .ref (mr 29), .ref (mr 30)])), (mr 26, .inl (cy 1, 24, .inl (fun k => nI (sh9 k))))] [] (fun (v9 : Option Value) (w9 : va_W) => (v9 = none ∧ w9 = [(mo, .inr (9, [.int (nI cols), .int (nI lc), .int (nI smp), .int (ky), .ref (mr 0), .ref (mr 1), .ref (mr 2), .ref (mr 3), .ref (mr 4), .ref (mr 5), .ref (mr 6), .ref (mr 7), .ref (mr 8), .ref (mr 9), .int (nI mk), .int (nI rs), .ref (mr 10), .ref (mr 11), .ref (mr 12), .ref (mr 13), .ref (mr 14), .ref (mr 15), .ref (mr 16), .ref (mr 17), .ref (mr 18), .ref (mr 19), .ref (mr 20), .int (nI nse), .int (nI npa), .int (nI nbo), .ref (mr 21), .int (nI tn), .ref (mr 22), .int (nI ik), .int (j0), .int (j1), .ref (mr 23), .int (j2), .ref (mr 24), .ref (mr 25), .int (j3), .ref (mr 26), .int (nI (n9 + (dgE v 1 17 0 + 1))), .ref (mr 27), .ref (mr 28), .ref (mr 29), .ref (mr 30)])), (mr 26, .inl (cy 1, 24, .inl (fun k => nI ((dgF v (dgE v 1 17 0) sh9 n9 (dgE v 1 17 0 + 1)) k))))])) := by
  refine xMet_of (cc := cX10_showsDigits) (maxL := 3) (ret := none) (by decide) rfl (Nat.le_of_ble_eq_true rfl) (fun p e s m args below meth c A R Q hA hR hQ C hr hnm hro hX => ?_)
  have hw0 : Jvm.Cond.constantLong RX10 328 (9) ∈ wsX10_showsDigits := by decide +kernel
  have hw1 : Jvm.Cond.constantLong RX10 247 (10) ∈ wsX10_showsDigits := by decide +kernel
  refine x_L (L' := [(0, .ref mo), (1, .long (lN v))]) [0, 1] rfl ?_
  refine x_lload_n C dX10_showsDigits_0 (q := 1) rfl rfl 1 rfl ?_
  refine x_ldc2 C (v := lN 9) hw0 dX10_showsDigits_1 (q := 4) rfl ?_
  refine x_lcmp_le C (tgt := 17) dX10_showsDigits_4 dX10_showsDigits_5 (by decide) (q := 8) rfl (a := ((v : Nat) : Int)) (b := 9) (pk_lT (by omega)) rfl (fun h1 => ?_) (fun h1 => ?_)
  · first
    | (exfalso; omega)
    |
      refine x_aload_n C dX10_showsDigits_17 (q := 18) rfl rfl 0 rfl ?_
      refine x_bipush C dX10_showsDigits_18 (q := 20) rfl (v := nI 48) (by decide) ?_
      refine x_lload_n C dX10_showsDigits_20 (q := 21) rfl rfl 1 rfl ?_
      refine x_ldc2 C (v := lN 10) hw1 dX10_showsDigits_21 (q := 24) rfl ?_
      refine x_lrem C dX10_showsDigits_24 (q := 25) rfl (xl_ne0 (b := 10) rfl (by omega)) (z := lN (v % 10)) (pk_lRem (by omega) (by omega) (by omega)) ?_
      refine x_l2i C dX10_showsDigits_25 (q := 26) rfl (v := nI (v % 10)) (lN_i (v % 10)) ?_
      refine x_iadd C dX10_showsDigits_26 (q := 27) rfl (z := nI (48 + (v % 10))) (nI_add 48 (v % 10)) ?_
      refine x_callV C (roW := []) (roR := []) (c_X10_shows l D cy mo mr cols lc smp mk rs nse npa nbo tn ik ky j0 j1 j2 j3 n9 sh9 (48 + (v % 10)) (by first | assumption | omega | (simp only []; omega))) (cwV 1 C.2.2.2.2.1 gX10_showsDigits_X10_shows rfl rfl rfl (by decide +kernel) (by rw [hR]; exact ⟨Nat.le_of_ble_eq_true rfl, Nat.le_of_ble_eq_true rfl⟩)) [0, 1] [] rfl (by decide) rfl (by decide) xro_nil (List.mem_of_getElem? (i := 0) rfl) (ci := 9) rfl xT_bl (fun _ _ _ _ _ _ _ => trivial) rfl rfl dX10_showsDigits_27 rfl rfl (Nat.le_of_ble_eq_true rfl) (q := 30) rfl (k' := 0) rfl (n' := 0) rfl (by rw [hR]; exact ⟨Nat.le_of_ble_eq_true rfl, Nat.le_of_ble_eq_true rfl⟩) (fun v2 w2 hp2 => ?_)
      obtain ⟨rfl, rfl⟩ := hp2
      refine x_ws (ws' := [(mo, .inr (9, [.int (nI cols), .int (nI lc), .int (nI smp), .int (ky), .ref (mr 0), .ref (mr 1), .ref (mr 2), .ref (mr 3), .ref (mr 4), .ref (mr 5), .ref (mr 6), .ref (mr 7), .ref (mr 8), .ref (mr 9), .int (nI mk), .int (nI rs), .ref (mr 10), .ref (mr 11), .ref (mr 12), .ref (mr 13), .ref (mr 14), .ref (mr 15), .ref (mr 16), .ref (mr 17), .ref (mr 18), .ref (mr 19), .ref (mr 20), .int (nI nse), .int (nI npa), .int (nI nbo), .ref (mr 21), .int (nI tn), .ref (mr 22), .int (nI ik), .int (j0), .int (j1), .ref (mr 23), .int (j2), .ref (mr 24), .ref (mr 25), .int (j3), .ref (mr 26), .int (nI (n9 + 1)), .ref (mr 27), .ref (mr 28), .ref (mr 29), .ref (mr 30)])), (mr 26, .inl (cy 1, 24, .inl (fun k => nI ((va_up sh9 n9 (48 + (v % 10))) k))))]) rfl ?_
      refine x_vret C hA hQ hr dX10_showsDigits_30 (Nat.le_of_ble_eq_true rfl) ?_
      exact ⟨rfl, by rw [dgE_1 (by omega), dg_one (by omega), dgE_1 (by omega)]⟩
  · first
    | (exfalso; omega)
    |
      have hdt := dgE_10 (v := v) (by omega) (by omega)
      have hdl := dgE_lt (v := v / 10) (wd := 1) (m := 1) (by show _ < 100; omega) (by decide) 17 0 (by decide)
      refine x_aload_n C dX10_showsDigits_8 (q := 9) rfl rfl 0 rfl ?_
      refine x_lload_n C dX10_showsDigits_9 (q := 10) rfl rfl 1 rfl ?_
      refine x_ldc2 C (v := lN 10) hw1 dX10_showsDigits_10 (q := 13) rfl ?_
      refine x_ldiv C dX10_showsDigits_13 (q := 14) rfl (xl_ne0 (b := 10) rfl (by omega)) (z := lN (v / 10)) (pk_lDiv (by omega) (by omega) (by omega)) ?_
      refine x_callV C (roW := []) (roR := []) (c_X10_showsDigits_1 l D cy mo mr cols lc smp mk rs nse npa nbo tn ik ky j0 j1 j2 j3 n9 sh9 (v / 10) (by first | assumption | omega | (simp only []; omega)) (by first | assumption | omega | (simp only []; omega))) (cwV 1 C.2.2.2.2.1 gX10_showsDigits_X10_showsDigits rfl rfl rfl (by decide +kernel) (by rw [hR]; exact ⟨Nat.le_of_ble_eq_true rfl, Nat.le_of_ble_eq_true rfl⟩)) [0, 1] [] rfl (by decide) rfl (by decide) xro_nil (List.mem_of_getElem? (i := 0) rfl) (ci := 9) rfl xT_bl (fun _ _ _ _ _ _ _ => trivial) rfl rfl dX10_showsDigits_14 rfl rfl (Nat.le_of_ble_eq_true rfl) (q := 17) rfl (k' := 0) rfl (n' := 0) rfl (by rw [hR]; exact ⟨Nat.le_of_ble_eq_true rfl, Nat.le_of_ble_eq_true rfl⟩) (fun v3 w3 hp3 => ?_)
      obtain ⟨rfl, rfl⟩ := hp3
      refine x_ws (ws' := [(mo, .inr (9, [.int (nI cols), .int (nI lc), .int (nI smp), .int (ky), .ref (mr 0), .ref (mr 1), .ref (mr 2), .ref (mr 3), .ref (mr 4), .ref (mr 5), .ref (mr 6), .ref (mr 7), .ref (mr 8), .ref (mr 9), .int (nI mk), .int (nI rs), .ref (mr 10), .ref (mr 11), .ref (mr 12), .ref (mr 13), .ref (mr 14), .ref (mr 15), .ref (mr 16), .ref (mr 17), .ref (mr 18), .ref (mr 19), .ref (mr 20), .int (nI nse), .int (nI npa), .int (nI nbo), .ref (mr 21), .int (nI tn), .ref (mr 22), .int (nI ik), .int (j0), .int (j1), .ref (mr 23), .int (j2), .ref (mr 24), .ref (mr 25), .int (j3), .ref (mr 26), .int (nI (n9 + (dgE (v / 10) 1 17 0 + 1))), .ref (mr 27), .ref (mr 28), .ref (mr 29), .ref (mr 30)])), (mr 26, .inl (cy 1, 24, .inl (fun k => nI ((dgF (v / 10) (dgE (v / 10) 1 17 0) sh9 n9 (dgE (v / 10) 1 17 0 + 1)) k))))]) rfl ?_
      refine x_aload_n C dX10_showsDigits_17 (q := 18) rfl rfl 0 rfl ?_
      refine x_bipush C dX10_showsDigits_18 (q := 20) rfl (v := nI 48) (by decide) ?_
      refine x_lload_n C dX10_showsDigits_20 (q := 21) rfl rfl 1 rfl ?_
      refine x_ldc2 C (v := lN 10) hw1 dX10_showsDigits_21 (q := 24) rfl ?_
      refine x_lrem C dX10_showsDigits_24 (q := 25) rfl (xl_ne0 (b := 10) rfl (by omega)) (z := lN (v % 10)) (pk_lRem (by omega) (by omega) (by omega)) ?_
      refine x_l2i C dX10_showsDigits_25 (q := 26) rfl (v := nI (v % 10)) (lN_i (v % 10)) ?_
      refine x_iadd C dX10_showsDigits_26 (q := 27) rfl (z := nI (48 + (v % 10))) (nI_add 48 (v % 10)) ?_
      refine x_callV C (roW := []) (roR := []) (c_X10_shows l D cy mo mr cols lc smp mk rs nse npa nbo tn ik ky j0 j1 j2 j3 (n9 + (dgE (v / 10) 1 17 0 + 1)) (dgF (v / 10) (dgE (v / 10) 1 17 0) sh9 n9 (dgE (v / 10) 1 17 0 + 1)) (48 + (v % 10)) (by first | assumption | omega | (simp only []; omega))) (cwV 1 C.2.2.2.2.1 gX10_showsDigits_X10_shows rfl rfl rfl (by decide +kernel) (by rw [hR]; exact ⟨Nat.le_of_ble_eq_true rfl, Nat.le_of_ble_eq_true rfl⟩)) [0, 1] [] rfl (by decide) rfl (by decide) xro_nil (List.mem_of_getElem? (i := 0) rfl) (ci := 9) rfl xT_bl (fun _ _ _ _ _ _ _ => trivial) rfl rfl dX10_showsDigits_27 rfl rfl (Nat.le_of_ble_eq_true rfl) (q := 30) rfl (k' := 0) rfl (n' := 0) rfl (by rw [hR]; exact ⟨Nat.le_of_ble_eq_true rfl, Nat.le_of_ble_eq_true rfl⟩) (fun v4 w4 hp4 => ?_)
      obtain ⟨rfl, rfl⟩ := hp4
      refine x_ws (ws' := [(mo, .inr (9, [.int (nI cols), .int (nI lc), .int (nI smp), .int (ky), .ref (mr 0), .ref (mr 1), .ref (mr 2), .ref (mr 3), .ref (mr 4), .ref (mr 5), .ref (mr 6), .ref (mr 7), .ref (mr 8), .ref (mr 9), .int (nI mk), .int (nI rs), .ref (mr 10), .ref (mr 11), .ref (mr 12), .ref (mr 13), .ref (mr 14), .ref (mr 15), .ref (mr 16), .ref (mr 17), .ref (mr 18), .ref (mr 19), .ref (mr 20), .int (nI nse), .int (nI npa), .int (nI nbo), .ref (mr 21), .int (nI tn), .ref (mr 22), .int (nI ik), .int (j0), .int (j1), .ref (mr 23), .int (j2), .ref (mr 24), .ref (mr 25), .int (j3), .ref (mr 26), .int (nI ((n9 + (dgE (v / 10) 1 17 0 + 1)) + 1)), .ref (mr 27), .ref (mr 28), .ref (mr 29), .ref (mr 30)])), (mr 26, .inl (cy 1, 24, .inl (fun k => nI ((va_up (dgF (v / 10) (dgE (v / 10) 1 17 0) sh9 n9 (dgE (v / 10) 1 17 0 + 1)) (n9 + (dgE (v / 10) 1 17 0 + 1)) (48 + (v % 10))) k))))]) rfl ?_
      refine x_vret C hA hQ hr dX10_showsDigits_30 (Nat.le_of_ble_eq_true rfl) ?_
      exact ⟨rfl, by rw [dg_ten (by omega) (by omega), hdt]; rfl⟩

set_option maxHeartbeats 600000 in
set_option maxRecDepth 100000 in
/-- digits are shown -/
theorem c_X10_showsDigits_3 (l : Launch) (D : va_G) (cy : Nat → ClassId) (mo : Nat) (mr : Nat → Nat) (cols : Nat) (lc : Nat) (smp : Nat) (mk : Nat) (rs : Nat) (nse : Nat) (npa : Nat) (nbo : Nat) (tn : Nat) (ik : Nat) (ky : Int32) (j0 : Int32) (j1 : Int32) (j2 : Int32) (j3 : Int32) (n9 : Nat) (sh9 : Nat → Nat) (v : Nat) (hn9 : n9 + 4 ≤ 24) (hv : v < 10000) : xMet l D cy xT yX10_showsDigits wsX10_showsDigits ({ frames := 5, cells := 0, slots := 0, locals := 500 } : Room) [.ref mo, .long (lN v)] [(mo, .inr (9, [.int (nI cols), .int (nI lc), .int (nI smp), .int (ky), .ref (mr 0), .ref (mr 1), .ref (mr 2), .ref (mr 3), .ref (mr 4), .ref (mr 5), .ref (mr 6), .ref (mr 7), .ref (mr 8), .ref (mr 9), .int (nI mk), .int (nI rs), .ref (mr 10), .ref (mr 11), .ref (mr 12), .ref (mr 13), .ref (mr 14), .ref (mr 15), .ref (mr 16), .ref (mr 17), .ref (mr 18), .ref (mr 19), .ref (mr 20), .int (nI nse), .int (nI npa), .int (nI nbo), .ref (mr 21), .int (nI tn), .ref (mr 22), .int (nI ik), .int (j0), .int (j1), .ref (mr 23), .int (j2), .ref (mr 24), .ref (mr 25), .int (j3), .ref (mr 26), .int (nI n9), .ref (mr 27), .ref (mr 28), .ref (mr 29), .ref (mr 30)])), (mr 26, .inl (cy 1, 24, .inl (fun k => nI (sh9 k))))] [] (fun (v9 : Option Value) (w9 : va_W) => (v9 = none ∧ w9 = [(mo, .inr (9, [.int (nI cols), .int (nI lc), .int (nI smp), .int (ky), .ref (mr 0), .ref (mr 1), .ref (mr 2), .ref (mr 3), .ref (mr 4), .ref (mr 5), .ref (mr 6), .ref (mr 7), .ref (mr 8), .ref (mr 9), .int (nI mk), .int (nI rs), .ref (mr 10), .ref (mr 11), .ref (mr 12), .ref (mr 13), .ref (mr 14), .ref (mr 15), .ref (mr 16), .ref (mr 17), .ref (mr 18), .ref (mr 19), .ref (mr 20), .int (nI nse), .int (nI npa), .int (nI nbo), .ref (mr 21), .int (nI tn), .ref (mr 22), .int (nI ik), .int (j0), .int (j1), .ref (mr 23), .int (j2), .ref (mr 24), .ref (mr 25), .int (j3), .ref (mr 26), .int (nI (n9 + (dgE v 1 17 0 + 1))), .ref (mr 27), .ref (mr 28), .ref (mr 29), .ref (mr 30)])), (mr 26, .inl (cy 1, 24, .inl (fun k => nI ((dgF v (dgE v 1 17 0) sh9 n9 (dgE v 1 17 0 + 1)) k))))])) := by
  refine xMet_of (cc := cX10_showsDigits) (maxL := 3) (ret := none) (by decide) rfl (Nat.le_of_ble_eq_true rfl) (fun p e s m args below meth c A R Q hA hR hQ C hr hnm hro hX => ?_)
  have hw0 : Jvm.Cond.constantLong RX10 328 (9) ∈ wsX10_showsDigits := by decide +kernel
  have hw1 : Jvm.Cond.constantLong RX10 247 (10) ∈ wsX10_showsDigits := by decide +kernel
  refine x_L (L' := [(0, .ref mo), (1, .long (lN v))]) [0, 1] rfl ?_
  refine x_lload_n C dX10_showsDigits_0 (q := 1) rfl rfl 1 rfl ?_
  refine x_ldc2 C (v := lN 9) hw0 dX10_showsDigits_1 (q := 4) rfl ?_
  refine x_lcmp_le C (tgt := 17) dX10_showsDigits_4 dX10_showsDigits_5 (by decide) (q := 8) rfl (a := ((v : Nat) : Int)) (b := 9) (pk_lT (by omega)) rfl (fun h1 => ?_) (fun h1 => ?_)
  · first
    | (exfalso; omega)
    |
      refine x_aload_n C dX10_showsDigits_17 (q := 18) rfl rfl 0 rfl ?_
      refine x_bipush C dX10_showsDigits_18 (q := 20) rfl (v := nI 48) (by decide) ?_
      refine x_lload_n C dX10_showsDigits_20 (q := 21) rfl rfl 1 rfl ?_
      refine x_ldc2 C (v := lN 10) hw1 dX10_showsDigits_21 (q := 24) rfl ?_
      refine x_lrem C dX10_showsDigits_24 (q := 25) rfl (xl_ne0 (b := 10) rfl (by omega)) (z := lN (v % 10)) (pk_lRem (by omega) (by omega) (by omega)) ?_
      refine x_l2i C dX10_showsDigits_25 (q := 26) rfl (v := nI (v % 10)) (lN_i (v % 10)) ?_
      refine x_iadd C dX10_showsDigits_26 (q := 27) rfl (z := nI (48 + (v % 10))) (nI_add 48 (v % 10)) ?_
      refine x_callV C (roW := []) (roR := []) (c_X10_shows l D cy mo mr cols lc smp mk rs nse npa nbo tn ik ky j0 j1 j2 j3 n9 sh9 (48 + (v % 10)) (by first | assumption | omega | (simp only []; omega))) (cwV 1 C.2.2.2.2.1 gX10_showsDigits_X10_shows rfl rfl rfl (by decide +kernel) (by rw [hR]; exact ⟨Nat.le_of_ble_eq_true rfl, Nat.le_of_ble_eq_true rfl⟩)) [0, 1] [] rfl (by decide) rfl (by decide) xro_nil (List.mem_of_getElem? (i := 0) rfl) (ci := 9) rfl xT_bl (fun _ _ _ _ _ _ _ => trivial) rfl rfl dX10_showsDigits_27 rfl rfl (Nat.le_of_ble_eq_true rfl) (q := 30) rfl (k' := 0) rfl (n' := 0) rfl (by rw [hR]; exact ⟨Nat.le_of_ble_eq_true rfl, Nat.le_of_ble_eq_true rfl⟩) (fun v2 w2 hp2 => ?_)
      obtain ⟨rfl, rfl⟩ := hp2
      refine x_ws (ws' := [(mo, .inr (9, [.int (nI cols), .int (nI lc), .int (nI smp), .int (ky), .ref (mr 0), .ref (mr 1), .ref (mr 2), .ref (mr 3), .ref (mr 4), .ref (mr 5), .ref (mr 6), .ref (mr 7), .ref (mr 8), .ref (mr 9), .int (nI mk), .int (nI rs), .ref (mr 10), .ref (mr 11), .ref (mr 12), .ref (mr 13), .ref (mr 14), .ref (mr 15), .ref (mr 16), .ref (mr 17), .ref (mr 18), .ref (mr 19), .ref (mr 20), .int (nI nse), .int (nI npa), .int (nI nbo), .ref (mr 21), .int (nI tn), .ref (mr 22), .int (nI ik), .int (j0), .int (j1), .ref (mr 23), .int (j2), .ref (mr 24), .ref (mr 25), .int (j3), .ref (mr 26), .int (nI (n9 + 1)), .ref (mr 27), .ref (mr 28), .ref (mr 29), .ref (mr 30)])), (mr 26, .inl (cy 1, 24, .inl (fun k => nI ((va_up sh9 n9 (48 + (v % 10))) k))))]) rfl ?_
      refine x_vret C hA hQ hr dX10_showsDigits_30 (Nat.le_of_ble_eq_true rfl) ?_
      exact ⟨rfl, by rw [dgE_1 (by omega), dg_one (by omega), dgE_1 (by omega)]⟩
  · first
    | (exfalso; omega)
    |
      have hdt := dgE_10 (v := v) (by omega) (by omega)
      have hdl := dgE_lt (v := v / 10) (wd := 1) (m := 2) (by show _ < 1000; omega) (by decide) 17 0 (by decide)
      refine x_aload_n C dX10_showsDigits_8 (q := 9) rfl rfl 0 rfl ?_
      refine x_lload_n C dX10_showsDigits_9 (q := 10) rfl rfl 1 rfl ?_
      refine x_ldc2 C (v := lN 10) hw1 dX10_showsDigits_10 (q := 13) rfl ?_
      refine x_ldiv C dX10_showsDigits_13 (q := 14) rfl (xl_ne0 (b := 10) rfl (by omega)) (z := lN (v / 10)) (pk_lDiv (by omega) (by omega) (by omega)) ?_
      refine x_callV C (roW := []) (roR := []) (c_X10_showsDigits_2 l D cy mo mr cols lc smp mk rs nse npa nbo tn ik ky j0 j1 j2 j3 n9 sh9 (v / 10) (by first | assumption | omega | (simp only []; omega)) (by first | assumption | omega | (simp only []; omega))) (cwV 1 C.2.2.2.2.1 gX10_showsDigits_X10_showsDigits rfl rfl rfl (by decide +kernel) (by rw [hR]; exact ⟨Nat.le_of_ble_eq_true rfl, Nat.le_of_ble_eq_true rfl⟩)) [0, 1] [] rfl (by decide) rfl (by decide) xro_nil (List.mem_of_getElem? (i := 0) rfl) (ci := 9) rfl xT_bl (fun _ _ _ _ _ _ _ => trivial) rfl rfl dX10_showsDigits_14 rfl rfl (Nat.le_of_ble_eq_true rfl) (q := 17) rfl (k' := 0) rfl (n' := 0) rfl (by rw [hR]; exact ⟨Nat.le_of_ble_eq_true rfl, Nat.le_of_ble_eq_true rfl⟩) (fun v3 w3 hp3 => ?_)
      obtain ⟨rfl, rfl⟩ := hp3
      refine x_ws (ws' := [(mo, .inr (9, [.int (nI cols), .int (nI lc), .int (nI smp), .int (ky), .ref (mr 0), .ref (mr 1), .ref (mr 2), .ref (mr 3), .ref (mr 4), .ref (mr 5), .ref (mr 6), .ref (mr 7), .ref (mr 8), .ref (mr 9), .int (nI mk), .int (nI rs), .ref (mr 10), .ref (mr 11), .ref (mr 12), .ref (mr 13), .ref (mr 14), .ref (mr 15), .ref (mr 16), .ref (mr 17), .ref (mr 18), .ref (mr 19), .ref (mr 20), .int (nI nse), .int (nI npa), .int (nI nbo), .ref (mr 21), .int (nI tn), .ref (mr 22), .int (nI ik), .int (j0), .int (j1), .ref (mr 23), .int (j2), .ref (mr 24), .ref (mr 25), .int (j3), .ref (mr 26), .int (nI (n9 + (dgE (v / 10) 1 17 0 + 1))), .ref (mr 27), .ref (mr 28), .ref (mr 29), .ref (mr 30)])), (mr 26, .inl (cy 1, 24, .inl (fun k => nI ((dgF (v / 10) (dgE (v / 10) 1 17 0) sh9 n9 (dgE (v / 10) 1 17 0 + 1)) k))))]) rfl ?_
      refine x_aload_n C dX10_showsDigits_17 (q := 18) rfl rfl 0 rfl ?_
      refine x_bipush C dX10_showsDigits_18 (q := 20) rfl (v := nI 48) (by decide) ?_
      refine x_lload_n C dX10_showsDigits_20 (q := 21) rfl rfl 1 rfl ?_
      refine x_ldc2 C (v := lN 10) hw1 dX10_showsDigits_21 (q := 24) rfl ?_
      refine x_lrem C dX10_showsDigits_24 (q := 25) rfl (xl_ne0 (b := 10) rfl (by omega)) (z := lN (v % 10)) (pk_lRem (by omega) (by omega) (by omega)) ?_
      refine x_l2i C dX10_showsDigits_25 (q := 26) rfl (v := nI (v % 10)) (lN_i (v % 10)) ?_
      refine x_iadd C dX10_showsDigits_26 (q := 27) rfl (z := nI (48 + (v % 10))) (nI_add 48 (v % 10)) ?_
      refine x_callV C (roW := []) (roR := []) (c_X10_shows l D cy mo mr cols lc smp mk rs nse npa nbo tn ik ky j0 j1 j2 j3 (n9 + (dgE (v / 10) 1 17 0 + 1)) (dgF (v / 10) (dgE (v / 10) 1 17 0) sh9 n9 (dgE (v / 10) 1 17 0 + 1)) (48 + (v % 10)) (by first | assumption | omega | (simp only []; omega))) (cwV 1 C.2.2.2.2.1 gX10_showsDigits_X10_shows rfl rfl rfl (by decide +kernel) (by rw [hR]; exact ⟨Nat.le_of_ble_eq_true rfl, Nat.le_of_ble_eq_true rfl⟩)) [0, 1] [] rfl (by decide) rfl (by decide) xro_nil (List.mem_of_getElem? (i := 0) rfl) (ci := 9) rfl xT_bl (fun _ _ _ _ _ _ _ => trivial) rfl rfl dX10_showsDigits_27 rfl rfl (Nat.le_of_ble_eq_true rfl) (q := 30) rfl (k' := 0) rfl (n' := 0) rfl (by rw [hR]; exact ⟨Nat.le_of_ble_eq_true rfl, Nat.le_of_ble_eq_true rfl⟩) (fun v4 w4 hp4 => ?_)
      obtain ⟨rfl, rfl⟩ := hp4
      refine x_ws (ws' := [(mo, .inr (9, [.int (nI cols), .int (nI lc), .int (nI smp), .int (ky), .ref (mr 0), .ref (mr 1), .ref (mr 2), .ref (mr 3), .ref (mr 4), .ref (mr 5), .ref (mr 6), .ref (mr 7), .ref (mr 8), .ref (mr 9), .int (nI mk), .int (nI rs), .ref (mr 10), .ref (mr 11), .ref (mr 12), .ref (mr 13), .ref (mr 14), .ref (mr 15), .ref (mr 16), .ref (mr 17), .ref (mr 18), .ref (mr 19), .ref (mr 20), .int (nI nse), .int (nI npa), .int (nI nbo), .ref (mr 21), .int (nI tn), .ref (mr 22), .int (nI ik), .int (j0), .int (j1), .ref (mr 23), .int (j2), .ref (mr 24), .ref (mr 25), .int (j3), .ref (mr 26), .int (nI ((n9 + (dgE (v / 10) 1 17 0 + 1)) + 1)), .ref (mr 27), .ref (mr 28), .ref (mr 29), .ref (mr 30)])), (mr 26, .inl (cy 1, 24, .inl (fun k => nI ((va_up (dgF (v / 10) (dgE (v / 10) 1 17 0) sh9 n9 (dgE (v / 10) 1 17 0 + 1)) (n9 + (dgE (v / 10) 1 17 0 + 1)) (48 + (v % 10))) k))))]) rfl ?_
      refine x_vret C hA hQ hr dX10_showsDigits_30 (Nat.le_of_ble_eq_true rfl) ?_
      exact ⟨rfl, by rw [dg_ten (by omega) (by omega), hdt]; rfl⟩

set_option maxHeartbeats 600000 in
set_option maxRecDepth 100000 in
/-- digits are shown -/
theorem c_X10_showsDigits_4 (l : Launch) (D : va_G) (cy : Nat → ClassId) (mo : Nat) (mr : Nat → Nat) (cols : Nat) (lc : Nat) (smp : Nat) (mk : Nat) (rs : Nat) (nse : Nat) (npa : Nat) (nbo : Nat) (tn : Nat) (ik : Nat) (ky : Int32) (j0 : Int32) (j1 : Int32) (j2 : Int32) (j3 : Int32) (n9 : Nat) (sh9 : Nat → Nat) (v : Nat) (hn9 : n9 + 5 ≤ 24) (hv : v < 100000) : xMet l D cy xT yX10_showsDigits wsX10_showsDigits ({ frames := 6, cells := 0, slots := 0, locals := 600 } : Room) [.ref mo, .long (lN v)] [(mo, .inr (9, [.int (nI cols), .int (nI lc), .int (nI smp), .int (ky), .ref (mr 0), .ref (mr 1), .ref (mr 2), .ref (mr 3), .ref (mr 4), .ref (mr 5), .ref (mr 6), .ref (mr 7), .ref (mr 8), .ref (mr 9), .int (nI mk), .int (nI rs), .ref (mr 10), .ref (mr 11), .ref (mr 12), .ref (mr 13), .ref (mr 14), .ref (mr 15), .ref (mr 16), .ref (mr 17), .ref (mr 18), .ref (mr 19), .ref (mr 20), .int (nI nse), .int (nI npa), .int (nI nbo), .ref (mr 21), .int (nI tn), .ref (mr 22), .int (nI ik), .int (j0), .int (j1), .ref (mr 23), .int (j2), .ref (mr 24), .ref (mr 25), .int (j3), .ref (mr 26), .int (nI n9), .ref (mr 27), .ref (mr 28), .ref (mr 29), .ref (mr 30)])), (mr 26, .inl (cy 1, 24, .inl (fun k => nI (sh9 k))))] [] (fun (v9 : Option Value) (w9 : va_W) => (v9 = none ∧ w9 = [(mo, .inr (9, [.int (nI cols), .int (nI lc), .int (nI smp), .int (ky), .ref (mr 0), .ref (mr 1), .ref (mr 2), .ref (mr 3), .ref (mr 4), .ref (mr 5), .ref (mr 6), .ref (mr 7), .ref (mr 8), .ref (mr 9), .int (nI mk), .int (nI rs), .ref (mr 10), .ref (mr 11), .ref (mr 12), .ref (mr 13), .ref (mr 14), .ref (mr 15), .ref (mr 16), .ref (mr 17), .ref (mr 18), .ref (mr 19), .ref (mr 20), .int (nI nse), .int (nI npa), .int (nI nbo), .ref (mr 21), .int (nI tn), .ref (mr 22), .int (nI ik), .int (j0), .int (j1), .ref (mr 23), .int (j2), .ref (mr 24), .ref (mr 25), .int (j3), .ref (mr 26), .int (nI (n9 + (dgE v 1 17 0 + 1))), .ref (mr 27), .ref (mr 28), .ref (mr 29), .ref (mr 30)])), (mr 26, .inl (cy 1, 24, .inl (fun k => nI ((dgF v (dgE v 1 17 0) sh9 n9 (dgE v 1 17 0 + 1)) k))))])) := by
  refine xMet_of (cc := cX10_showsDigits) (maxL := 3) (ret := none) (by decide) rfl (Nat.le_of_ble_eq_true rfl) (fun p e s m args below meth c A R Q hA hR hQ C hr hnm hro hX => ?_)
  have hw0 : Jvm.Cond.constantLong RX10 328 (9) ∈ wsX10_showsDigits := by decide +kernel
  have hw1 : Jvm.Cond.constantLong RX10 247 (10) ∈ wsX10_showsDigits := by decide +kernel
  refine x_L (L' := [(0, .ref mo), (1, .long (lN v))]) [0, 1] rfl ?_
  refine x_lload_n C dX10_showsDigits_0 (q := 1) rfl rfl 1 rfl ?_
  refine x_ldc2 C (v := lN 9) hw0 dX10_showsDigits_1 (q := 4) rfl ?_
  refine x_lcmp_le C (tgt := 17) dX10_showsDigits_4 dX10_showsDigits_5 (by decide) (q := 8) rfl (a := ((v : Nat) : Int)) (b := 9) (pk_lT (by omega)) rfl (fun h1 => ?_) (fun h1 => ?_)
  · first
    | (exfalso; omega)
    |
      refine x_aload_n C dX10_showsDigits_17 (q := 18) rfl rfl 0 rfl ?_
      refine x_bipush C dX10_showsDigits_18 (q := 20) rfl (v := nI 48) (by decide) ?_
      refine x_lload_n C dX10_showsDigits_20 (q := 21) rfl rfl 1 rfl ?_
      refine x_ldc2 C (v := lN 10) hw1 dX10_showsDigits_21 (q := 24) rfl ?_
      refine x_lrem C dX10_showsDigits_24 (q := 25) rfl (xl_ne0 (b := 10) rfl (by omega)) (z := lN (v % 10)) (pk_lRem (by omega) (by omega) (by omega)) ?_
      refine x_l2i C dX10_showsDigits_25 (q := 26) rfl (v := nI (v % 10)) (lN_i (v % 10)) ?_
      refine x_iadd C dX10_showsDigits_26 (q := 27) rfl (z := nI (48 + (v % 10))) (nI_add 48 (v % 10)) ?_
      refine x_callV C (roW := []) (roR := []) (c_X10_shows l D cy mo mr cols lc smp mk rs nse npa nbo tn ik ky j0 j1 j2 j3 n9 sh9 (48 + (v % 10)) (by first | assumption | omega | (simp only []; omega))) (cwV 1 C.2.2.2.2.1 gX10_showsDigits_X10_shows rfl rfl rfl (by decide +kernel) (by rw [hR]; exact ⟨Nat.le_of_ble_eq_true rfl, Nat.le_of_ble_eq_true rfl⟩)) [0, 1] [] rfl (by decide) rfl (by decide) xro_nil (List.mem_of_getElem? (i := 0) rfl) (ci := 9) rfl xT_bl (fun _ _ _ _ _ _ _ => trivial) rfl rfl dX10_showsDigits_27 rfl rfl (Nat.le_of_ble_eq_true rfl) (q := 30) rfl (k' := 0) rfl (n' := 0) rfl (by rw [hR]; exact ⟨Nat.le_of_ble_eq_true rfl, Nat.le_of_ble_eq_true rfl⟩) (fun v2 w2 hp2 => ?_)
      obtain ⟨rfl, rfl⟩ := hp2
      refine x_ws (ws' := [(mo, .inr (9, [.int (nI cols), .int (nI lc), .int (nI smp), .int (ky), .ref (mr 0), .ref (mr 1), .ref (mr 2), .ref (mr 3), .ref (mr 4), .ref (mr 5), .ref (mr 6), .ref (mr 7), .ref (mr 8), .ref (mr 9), .int (nI mk), .int (nI rs), .ref (mr 10), .ref (mr 11), .ref (mr 12), .ref (mr 13), .ref (mr 14), .ref (mr 15), .ref (mr 16), .ref (mr 17), .ref (mr 18), .ref (mr 19), .ref (mr 20), .int (nI nse), .int (nI npa), .int (nI nbo), .ref (mr 21), .int (nI tn), .ref (mr 22), .int (nI ik), .int (j0), .int (j1), .ref (mr 23), .int (j2), .ref (mr 24), .ref (mr 25), .int (j3), .ref (mr 26), .int (nI (n9 + 1)), .ref (mr 27), .ref (mr 28), .ref (mr 29), .ref (mr 30)])), (mr 26, .inl (cy 1, 24, .inl (fun k => nI ((va_up sh9 n9 (48 + (v % 10))) k))))]) rfl ?_
      refine x_vret C hA hQ hr dX10_showsDigits_30 (Nat.le_of_ble_eq_true rfl) ?_
      exact ⟨rfl, by rw [dgE_1 (by omega), dg_one (by omega), dgE_1 (by omega)]⟩
  · first
    | (exfalso; omega)
    |
      have hdt := dgE_10 (v := v) (by omega) (by omega)
      have hdl := dgE_lt (v := v / 10) (wd := 1) (m := 3) (by show _ < 10000; omega) (by decide) 17 0 (by decide)
      refine x_aload_n C dX10_showsDigits_8 (q := 9) rfl rfl 0 rfl ?_
      refine x_lload_n C dX10_showsDigits_9 (q := 10) rfl rfl 1 rfl ?_
      refine x_ldc2 C (v := lN 10) hw1 dX10_showsDigits_10 (q := 13) rfl ?_
      refine x_ldiv C dX10_showsDigits_13 (q := 14) rfl (xl_ne0 (b := 10) rfl (by omega)) (z := lN (v / 10)) (pk_lDiv (by omega) (by omega) (by omega)) ?_
      refine x_callV C (roW := []) (roR := []) (c_X10_showsDigits_3 l D cy mo mr cols lc smp mk rs nse npa nbo tn ik ky j0 j1 j2 j3 n9 sh9 (v / 10) (by first | assumption | omega | (simp only []; omega)) (by first | assumption | omega | (simp only []; omega))) (cwV 1 C.2.2.2.2.1 gX10_showsDigits_X10_showsDigits rfl rfl rfl (by decide +kernel) (by rw [hR]; exact ⟨Nat.le_of_ble_eq_true rfl, Nat.le_of_ble_eq_true rfl⟩)) [0, 1] [] rfl (by decide) rfl (by decide) xro_nil (List.mem_of_getElem? (i := 0) rfl) (ci := 9) rfl xT_bl (fun _ _ _ _ _ _ _ => trivial) rfl rfl dX10_showsDigits_14 rfl rfl (Nat.le_of_ble_eq_true rfl) (q := 17) rfl (k' := 0) rfl (n' := 0) rfl (by rw [hR]; exact ⟨Nat.le_of_ble_eq_true rfl, Nat.le_of_ble_eq_true rfl⟩) (fun v3 w3 hp3 => ?_)
      obtain ⟨rfl, rfl⟩ := hp3
      refine x_ws (ws' := [(mo, .inr (9, [.int (nI cols), .int (nI lc), .int (nI smp), .int (ky), .ref (mr 0), .ref (mr 1), .ref (mr 2), .ref (mr 3), .ref (mr 4), .ref (mr 5), .ref (mr 6), .ref (mr 7), .ref (mr 8), .ref (mr 9), .int (nI mk), .int (nI rs), .ref (mr 10), .ref (mr 11), .ref (mr 12), .ref (mr 13), .ref (mr 14), .ref (mr 15), .ref (mr 16), .ref (mr 17), .ref (mr 18), .ref (mr 19), .ref (mr 20), .int (nI nse), .int (nI npa), .int (nI nbo), .ref (mr 21), .int (nI tn), .ref (mr 22), .int (nI ik), .int (j0), .int (j1), .ref (mr 23), .int (j2), .ref (mr 24), .ref (mr 25), .int (j3), .ref (mr 26), .int (nI (n9 + (dgE (v / 10) 1 17 0 + 1))), .ref (mr 27), .ref (mr 28), .ref (mr 29), .ref (mr 30)])), (mr 26, .inl (cy 1, 24, .inl (fun k => nI ((dgF (v / 10) (dgE (v / 10) 1 17 0) sh9 n9 (dgE (v / 10) 1 17 0 + 1)) k))))]) rfl ?_
      refine x_aload_n C dX10_showsDigits_17 (q := 18) rfl rfl 0 rfl ?_
      refine x_bipush C dX10_showsDigits_18 (q := 20) rfl (v := nI 48) (by decide) ?_
      refine x_lload_n C dX10_showsDigits_20 (q := 21) rfl rfl 1 rfl ?_
      refine x_ldc2 C (v := lN 10) hw1 dX10_showsDigits_21 (q := 24) rfl ?_
      refine x_lrem C dX10_showsDigits_24 (q := 25) rfl (xl_ne0 (b := 10) rfl (by omega)) (z := lN (v % 10)) (pk_lRem (by omega) (by omega) (by omega)) ?_
      refine x_l2i C dX10_showsDigits_25 (q := 26) rfl (v := nI (v % 10)) (lN_i (v % 10)) ?_
      refine x_iadd C dX10_showsDigits_26 (q := 27) rfl (z := nI (48 + (v % 10))) (nI_add 48 (v % 10)) ?_
      refine x_callV C (roW := []) (roR := []) (c_X10_shows l D cy mo mr cols lc smp mk rs nse npa nbo tn ik ky j0 j1 j2 j3 (n9 + (dgE (v / 10) 1 17 0 + 1)) (dgF (v / 10) (dgE (v / 10) 1 17 0) sh9 n9 (dgE (v / 10) 1 17 0 + 1)) (48 + (v % 10)) (by first | assumption | omega | (simp only []; omega))) (cwV 1 C.2.2.2.2.1 gX10_showsDigits_X10_shows rfl rfl rfl (by decide +kernel) (by rw [hR]; exact ⟨Nat.le_of_ble_eq_true rfl, Nat.le_of_ble_eq_true rfl⟩)) [0, 1] [] rfl (by decide) rfl (by decide) xro_nil (List.mem_of_getElem? (i := 0) rfl) (ci := 9) rfl xT_bl (fun _ _ _ _ _ _ _ => trivial) rfl rfl dX10_showsDigits_27 rfl rfl (Nat.le_of_ble_eq_true rfl) (q := 30) rfl (k' := 0) rfl (n' := 0) rfl (by rw [hR]; exact ⟨Nat.le_of_ble_eq_true rfl, Nat.le_of_ble_eq_true rfl⟩) (fun v4 w4 hp4 => ?_)
      obtain ⟨rfl, rfl⟩ := hp4
      refine x_ws (ws' := [(mo, .inr (9, [.int (nI cols), .int (nI lc), .int (nI smp), .int (ky), .ref (mr 0), .ref (mr 1), .ref (mr 2), .ref (mr 3), .ref (mr 4), .ref (mr 5), .ref (mr 6), .ref (mr 7), .ref (mr 8), .ref (mr 9), .int (nI mk), .int (nI rs), .ref (mr 10), .ref (mr 11), .ref (mr 12), .ref (mr 13), .ref (mr 14), .ref (mr 15), .ref (mr 16), .ref (mr 17), .ref (mr 18), .ref (mr 19), .ref (mr 20), .int (nI nse), .int (nI npa), .int (nI nbo), .ref (mr 21), .int (nI tn), .ref (mr 22), .int (nI ik), .int (j0), .int (j1), .ref (mr 23), .int (j2), .ref (mr 24), .ref (mr 25), .int (j3), .ref (mr 26), .int (nI ((n9 + (dgE (v / 10) 1 17 0 + 1)) + 1)), .ref (mr 27), .ref (mr 28), .ref (mr 29), .ref (mr 30)])), (mr 26, .inl (cy 1, 24, .inl (fun k => nI ((va_up (dgF (v / 10) (dgE (v / 10) 1 17 0) sh9 n9 (dgE (v / 10) 1 17 0 + 1)) (n9 + (dgE (v / 10) 1 17 0 + 1)) (48 + (v % 10))) k))))]) rfl ?_
      refine x_vret C hA hQ hr dX10_showsDigits_30 (Nat.le_of_ble_eq_true rfl) ?_
      exact ⟨rfl, by rw [dg_ten (by omega) (by omega), hdt]; rfl⟩

set_option maxHeartbeats 600000 in
set_option maxRecDepth 100000 in
/-- digits are shown -/
theorem c_X10_showsDigits_5 (l : Launch) (D : va_G) (cy : Nat → ClassId) (mo : Nat) (mr : Nat → Nat) (cols : Nat) (lc : Nat) (smp : Nat) (mk : Nat) (rs : Nat) (nse : Nat) (npa : Nat) (nbo : Nat) (tn : Nat) (ik : Nat) (ky : Int32) (j0 : Int32) (j1 : Int32) (j2 : Int32) (j3 : Int32) (n9 : Nat) (sh9 : Nat → Nat) (v : Nat) (hn9 : n9 + 6 ≤ 24) (hv : v < 1000000) : xMet l D cy xT yX10_showsDigits wsX10_showsDigits ({ frames := 7, cells := 0, slots := 0, locals := 700 } : Room) [.ref mo, .long (lN v)] [(mo, .inr (9, [.int (nI cols), .int (nI lc), .int (nI smp), .int (ky), .ref (mr 0), .ref (mr 1), .ref (mr 2), .ref (mr 3), .ref (mr 4), .ref (mr 5), .ref (mr 6), .ref (mr 7), .ref (mr 8), .ref (mr 9), .int (nI mk), .int (nI rs), .ref (mr 10), .ref (mr 11), .ref (mr 12), .ref (mr 13), .ref (mr 14), .ref (mr 15), .ref (mr 16), .ref (mr 17), .ref (mr 18), .ref (mr 19), .ref (mr 20), .int (nI nse), .int (nI npa), .int (nI nbo), .ref (mr 21), .int (nI tn), .ref (mr 22), .int (nI ik), .int (j0), .int (j1), .ref (mr 23), .int (j2), .ref (mr 24), .ref (mr 25), .int (j3), .ref (mr 26), .int (nI n9), .ref (mr 27), .ref (mr 28), .ref (mr 29), .ref (mr 30)])), (mr 26, .inl (cy 1, 24, .inl (fun k => nI (sh9 k))))] [] (fun (v9 : Option Value) (w9 : va_W) => (v9 = none ∧ w9 = [(mo, .inr (9, [.int (nI cols), .int (nI lc), .int (nI smp), .int (ky), .ref (mr 0), .ref (mr 1), .ref (mr 2), .ref (mr 3), .ref (mr 4), .ref (mr 5), .ref (mr 6), .ref (mr 7), .ref (mr 8), .ref (mr 9), .int (nI mk), .int (nI rs), .ref (mr 10), .ref (mr 11), .ref (mr 12), .ref (mr 13), .ref (mr 14), .ref (mr 15), .ref (mr 16), .ref (mr 17), .ref (mr 18), .ref (mr 19), .ref (mr 20), .int (nI nse), .int (nI npa), .int (nI nbo), .ref (mr 21), .int (nI tn), .ref (mr 22), .int (nI ik), .int (j0), .int (j1), .ref (mr 23), .int (j2), .ref (mr 24), .ref (mr 25), .int (j3), .ref (mr 26), .int (nI (n9 + (dgE v 1 17 0 + 1))), .ref (mr 27), .ref (mr 28), .ref (mr 29), .ref (mr 30)])), (mr 26, .inl (cy 1, 24, .inl (fun k => nI ((dgF v (dgE v 1 17 0) sh9 n9 (dgE v 1 17 0 + 1)) k))))])) := by
  refine xMet_of (cc := cX10_showsDigits) (maxL := 3) (ret := none) (by decide) rfl (Nat.le_of_ble_eq_true rfl) (fun p e s m args below meth c A R Q hA hR hQ C hr hnm hro hX => ?_)
  have hw0 : Jvm.Cond.constantLong RX10 328 (9) ∈ wsX10_showsDigits := by decide +kernel
  have hw1 : Jvm.Cond.constantLong RX10 247 (10) ∈ wsX10_showsDigits := by decide +kernel
  refine x_L (L' := [(0, .ref mo), (1, .long (lN v))]) [0, 1] rfl ?_
  refine x_lload_n C dX10_showsDigits_0 (q := 1) rfl rfl 1 rfl ?_
  refine x_ldc2 C (v := lN 9) hw0 dX10_showsDigits_1 (q := 4) rfl ?_
  refine x_lcmp_le C (tgt := 17) dX10_showsDigits_4 dX10_showsDigits_5 (by decide) (q := 8) rfl (a := ((v : Nat) : Int)) (b := 9) (pk_lT (by omega)) rfl (fun h1 => ?_) (fun h1 => ?_)
  · first
    | (exfalso; omega)
    |
      refine x_aload_n C dX10_showsDigits_17 (q := 18) rfl rfl 0 rfl ?_
      refine x_bipush C dX10_showsDigits_18 (q := 20) rfl (v := nI 48) (by decide) ?_
      refine x_lload_n C dX10_showsDigits_20 (q := 21) rfl rfl 1 rfl ?_
      refine x_ldc2 C (v := lN 10) hw1 dX10_showsDigits_21 (q := 24) rfl ?_
      refine x_lrem C dX10_showsDigits_24 (q := 25) rfl (xl_ne0 (b := 10) rfl (by omega)) (z := lN (v % 10)) (pk_lRem (by omega) (by omega) (by omega)) ?_
      refine x_l2i C dX10_showsDigits_25 (q := 26) rfl (v := nI (v % 10)) (lN_i (v % 10)) ?_
      refine x_iadd C dX10_showsDigits_26 (q := 27) rfl (z := nI (48 + (v % 10))) (nI_add 48 (v % 10)) ?_
      refine x_callV C (roW := []) (roR := []) (c_X10_shows l D cy mo mr cols lc smp mk rs nse npa nbo tn ik ky j0 j1 j2 j3 n9 sh9 (48 + (v % 10)) (by first | assumption | omega | (simp only []; omega))) (cwV 1 C.2.2.2.2.1 gX10_showsDigits_X10_shows rfl rfl rfl (by decide +kernel) (by rw [hR]; exact ⟨Nat.le_of_ble_eq_true rfl, Nat.le_of_ble_eq_true rfl⟩)) [0, 1] [] rfl (by decide) rfl (by decide) xro_nil (List.mem_of_getElem? (i := 0) rfl) (ci := 9) rfl xT_bl (fun _ _ _ _ _ _ _ => trivial) rfl rfl dX10_showsDigits_27 rfl rfl (Nat.le_of_ble_eq_true rfl) (q := 30) rfl (k' := 0) rfl (n' := 0) rfl (by rw [hR]; exact ⟨Nat.le_of_ble_eq_true rfl, Nat.le_of_ble_eq_true rfl⟩) (fun v2 w2 hp2 => ?_)
      obtain ⟨rfl, rfl⟩ := hp2
      refine x_ws (ws' := [(mo, .inr (9, [.int (nI cols), .int (nI lc), .int (nI smp), .int (ky), .ref (mr 0), .ref (mr 1), .ref (mr 2), .ref (mr 3), .ref (mr 4), .ref (mr 5), .ref (mr 6), .ref (mr 7), .ref (mr 8), .ref (mr 9), .int (nI mk), .int (nI rs), .ref (mr 10), .ref (mr 11), .ref (mr 12), .ref (mr 13), .ref (mr 14), .ref (mr 15), .ref (mr 16), .ref (mr 17), .ref (mr 18), .ref (mr 19), .ref (mr 20), .int (nI nse), .int (nI npa), .int (nI nbo), .ref (mr 21), .int (nI tn), .ref (mr 22), .int (nI ik), .int (j0), .int (j1), .ref (mr 23), .int (j2), .ref (mr 24), .ref (mr 25), .int (j3), .ref (mr 26), .int (nI (n9 + 1)), .ref (mr 27), .ref (mr 28), .ref (mr 29), .ref (mr 30)])), (mr 26, .inl (cy 1, 24, .inl (fun k => nI ((va_up sh9 n9 (48 + (v % 10))) k))))]) rfl ?_
      refine x_vret C hA hQ hr dX10_showsDigits_30 (Nat.le_of_ble_eq_true rfl) ?_
      exact ⟨rfl, by rw [dgE_1 (by omega), dg_one (by omega), dgE_1 (by omega)]⟩
  · first
    | (exfalso; omega)
    |
      have hdt := dgE_10 (v := v) (by omega) (by omega)
      have hdl := dgE_lt (v := v / 10) (wd := 1) (m := 4) (by show _ < 100000; omega) (by decide) 17 0 (by decide)
      refine x_aload_n C dX10_showsDigits_8 (q := 9) rfl rfl 0 rfl ?_
      refine x_lload_n C dX10_showsDigits_9 (q := 10) rfl rfl 1 rfl ?_
      refine x_ldc2 C (v := lN 10) hw1 dX10_showsDigits_10 (q := 13) rfl ?_
      refine x_ldiv C dX10_showsDigits_13 (q := 14) rfl (xl_ne0 (b := 10) rfl (by omega)) (z := lN (v / 10)) (pk_lDiv (by omega) (by omega) (by omega)) ?_
      refine x_callV C (roW := []) (roR := []) (c_X10_showsDigits_4 l D cy mo mr cols lc smp mk rs nse npa nbo tn ik ky j0 j1 j2 j3 n9 sh9 (v / 10) (by first | assumption | omega | (simp only []; omega)) (by first | assumption | omega | (simp only []; omega))) (cwV 1 C.2.2.2.2.1 gX10_showsDigits_X10_showsDigits rfl rfl rfl (by decide +kernel) (by rw [hR]; exact ⟨Nat.le_of_ble_eq_true rfl, Nat.le_of_ble_eq_true rfl⟩)) [0, 1] [] rfl (by decide) rfl (by decide) xro_nil (List.mem_of_getElem? (i := 0) rfl) (ci := 9) rfl xT_bl (fun _ _ _ _ _ _ _ => trivial) rfl rfl dX10_showsDigits_14 rfl rfl (Nat.le_of_ble_eq_true rfl) (q := 17) rfl (k' := 0) rfl (n' := 0) rfl (by rw [hR]; exact ⟨Nat.le_of_ble_eq_true rfl, Nat.le_of_ble_eq_true rfl⟩) (fun v3 w3 hp3 => ?_)
      obtain ⟨rfl, rfl⟩ := hp3
      refine x_ws (ws' := [(mo, .inr (9, [.int (nI cols), .int (nI lc), .int (nI smp), .int (ky), .ref (mr 0), .ref (mr 1), .ref (mr 2), .ref (mr 3), .ref (mr 4), .ref (mr 5), .ref (mr 6), .ref (mr 7), .ref (mr 8), .ref (mr 9), .int (nI mk), .int (nI rs), .ref (mr 10), .ref (mr 11), .ref (mr 12), .ref (mr 13), .ref (mr 14), .ref (mr 15), .ref (mr 16), .ref (mr 17), .ref (mr 18), .ref (mr 19), .ref (mr 20), .int (nI nse), .int (nI npa), .int (nI nbo), .ref (mr 21), .int (nI tn), .ref (mr 22), .int (nI ik), .int (j0), .int (j1), .ref (mr 23), .int (j2), .ref (mr 24), .ref (mr 25), .int (j3), .ref (mr 26), .int (nI (n9 + (dgE (v / 10) 1 17 0 + 1))), .ref (mr 27), .ref (mr 28), .ref (mr 29), .ref (mr 30)])), (mr 26, .inl (cy 1, 24, .inl (fun k => nI ((dgF (v / 10) (dgE (v / 10) 1 17 0) sh9 n9 (dgE (v / 10) 1 17 0 + 1)) k))))]) rfl ?_
      refine x_aload_n C dX10_showsDigits_17 (q := 18) rfl rfl 0 rfl ?_
      refine x_bipush C dX10_showsDigits_18 (q := 20) rfl (v := nI 48) (by decide) ?_
      refine x_lload_n C dX10_showsDigits_20 (q := 21) rfl rfl 1 rfl ?_
      refine x_ldc2 C (v := lN 10) hw1 dX10_showsDigits_21 (q := 24) rfl ?_
      refine x_lrem C dX10_showsDigits_24 (q := 25) rfl (xl_ne0 (b := 10) rfl (by omega)) (z := lN (v % 10)) (pk_lRem (by omega) (by omega) (by omega)) ?_
      refine x_l2i C dX10_showsDigits_25 (q := 26) rfl (v := nI (v % 10)) (lN_i (v % 10)) ?_
      refine x_iadd C dX10_showsDigits_26 (q := 27) rfl (z := nI (48 + (v % 10))) (nI_add 48 (v % 10)) ?_
      refine x_callV C (roW := []) (roR := []) (c_X10_shows l D cy mo mr cols lc smp mk rs nse npa nbo tn ik ky j0 j1 j2 j3 (n9 + (dgE (v / 10) 1 17 0 + 1)) (dgF (v / 10) (dgE (v / 10) 1 17 0) sh9 n9 (dgE (v / 10) 1 17 0 + 1)) (48 + (v % 10)) (by first | assumption | omega | (simp only []; omega))) (cwV 1 C.2.2.2.2.1 gX10_showsDigits_X10_shows rfl rfl rfl (by decide +kernel) (by rw [hR]; exact ⟨Nat.le_of_ble_eq_true rfl, Nat.le_of_ble_eq_true rfl⟩)) [0, 1] [] rfl (by decide) rfl (by decide) xro_nil (List.mem_of_getElem? (i := 0) rfl) (ci := 9) rfl xT_bl (fun _ _ _ _ _ _ _ => trivial) rfl rfl dX10_showsDigits_27 rfl rfl (Nat.le_of_ble_eq_true rfl) (q := 30) rfl (k' := 0) rfl (n' := 0) rfl (by rw [hR]; exact ⟨Nat.le_of_ble_eq_true rfl, Nat.le_of_ble_eq_true rfl⟩) (fun v4 w4 hp4 => ?_)
      obtain ⟨rfl, rfl⟩ := hp4
      refine x_ws (ws' := [(mo, .inr (9, [.int (nI cols), .int (nI lc), .int (nI smp), .int (ky), .ref (mr 0), .ref (mr 1), .ref (mr 2), .ref (mr 3), .ref (mr 4), .ref (mr 5), .ref (mr 6), .ref (mr 7), .ref (mr 8), .ref (mr 9), .int (nI mk), .int (nI rs), .ref (mr 10), .ref (mr 11), .ref (mr 12), .ref (mr 13), .ref (mr 14), .ref (mr 15), .ref (mr 16), .ref (mr 17), .ref (mr 18), .ref (mr 19), .ref (mr 20), .int (nI nse), .int (nI npa), .int (nI nbo), .ref (mr 21), .int (nI tn), .ref (mr 22), .int (nI ik), .int (j0), .int (j1), .ref (mr 23), .int (j2), .ref (mr 24), .ref (mr 25), .int (j3), .ref (mr 26), .int (nI ((n9 + (dgE (v / 10) 1 17 0 + 1)) + 1)), .ref (mr 27), .ref (mr 28), .ref (mr 29), .ref (mr 30)])), (mr 26, .inl (cy 1, 24, .inl (fun k => nI ((va_up (dgF (v / 10) (dgE (v / 10) 1 17 0) sh9 n9 (dgE (v / 10) 1 17 0 + 1)) (n9 + (dgE (v / 10) 1 17 0 + 1)) (48 + (v % 10))) k))))]) rfl ?_
      refine x_vret C hA hQ hr dX10_showsDigits_30 (Nat.le_of_ble_eq_true rfl) ?_
      exact ⟨rfl, by rw [dg_ten (by omega) (by omega), hdt]; rfl⟩

set_option maxHeartbeats 600000 in
set_option maxRecDepth 100000 in
/-- digits are shown -/
theorem c_X10_showsDigits_6 (l : Launch) (D : va_G) (cy : Nat → ClassId) (mo : Nat) (mr : Nat → Nat) (cols : Nat) (lc : Nat) (smp : Nat) (mk : Nat) (rs : Nat) (nse : Nat) (npa : Nat) (nbo : Nat) (tn : Nat) (ik : Nat) (ky : Int32) (j0 : Int32) (j1 : Int32) (j2 : Int32) (j3 : Int32) (n9 : Nat) (sh9 : Nat → Nat) (v : Nat) (hn9 : n9 + 7 ≤ 24) (hv : v < 10000000) : xMet l D cy xT yX10_showsDigits wsX10_showsDigits ({ frames := 8, cells := 0, slots := 0, locals := 800 } : Room) [.ref mo, .long (lN v)] [(mo, .inr (9, [.int (nI cols), .int (nI lc), .int (nI smp), .int (ky), .ref (mr 0), .ref (mr 1), .ref (mr 2), .ref (mr 3), .ref (mr 4), .ref (mr 5), .ref (mr 6), .ref (mr 7), .ref (mr 8), .ref (mr 9), .int (nI mk), .int (nI rs), .ref (mr 10), .ref (mr 11), .ref (mr 12), .ref (mr 13), .ref (mr 14), .ref (mr 15), .ref (mr 16), .ref (mr 17), .ref (mr 18), .ref (mr 19), .ref (mr 20), .int (nI nse), .int (nI npa), .int (nI nbo), .ref (mr 21), .int (nI tn), .ref (mr 22), .int (nI ik), .int (j0), .int (j1), .ref (mr 23), .int (j2), .ref (mr 24), .ref (mr 25), .int (j3), .ref (mr 26), .int (nI n9), .ref (mr 27), .ref (mr 28), .ref (mr 29), .ref (mr 30)])), (mr 26, .inl (cy 1, 24, .inl (fun k => nI (sh9 k))))] [] (fun (v9 : Option Value) (w9 : va_W) => (v9 = none ∧ w9 = [(mo, .inr (9, [.int (nI cols), .int (nI lc), .int (nI smp), .int (ky), .ref (mr 0), .ref (mr 1), .ref (mr 2), .ref (mr 3), .ref (mr 4), .ref (mr 5), .ref (mr 6), .ref (mr 7), .ref (mr 8), .ref (mr 9), .int (nI mk), .int (nI rs), .ref (mr 10), .ref (mr 11), .ref (mr 12), .ref (mr 13), .ref (mr 14), .ref (mr 15), .ref (mr 16), .ref (mr 17), .ref (mr 18), .ref (mr 19), .ref (mr 20), .int (nI nse), .int (nI npa), .int (nI nbo), .ref (mr 21), .int (nI tn), .ref (mr 22), .int (nI ik), .int (j0), .int (j1), .ref (mr 23), .int (j2), .ref (mr 24), .ref (mr 25), .int (j3), .ref (mr 26), .int (nI (n9 + (dgE v 1 17 0 + 1))), .ref (mr 27), .ref (mr 28), .ref (mr 29), .ref (mr 30)])), (mr 26, .inl (cy 1, 24, .inl (fun k => nI ((dgF v (dgE v 1 17 0) sh9 n9 (dgE v 1 17 0 + 1)) k))))])) := by
  refine xMet_of (cc := cX10_showsDigits) (maxL := 3) (ret := none) (by decide) rfl (Nat.le_of_ble_eq_true rfl) (fun p e s m args below meth c A R Q hA hR hQ C hr hnm hro hX => ?_)
  have hw0 : Jvm.Cond.constantLong RX10 328 (9) ∈ wsX10_showsDigits := by decide +kernel
  have hw1 : Jvm.Cond.constantLong RX10 247 (10) ∈ wsX10_showsDigits := by decide +kernel
  refine x_L (L' := [(0, .ref mo), (1, .long (lN v))]) [0, 1] rfl ?_
  refine x_lload_n C dX10_showsDigits_0 (q := 1) rfl rfl 1 rfl ?_
  refine x_ldc2 C (v := lN 9) hw0 dX10_showsDigits_1 (q := 4) rfl ?_
  refine x_lcmp_le C (tgt := 17) dX10_showsDigits_4 dX10_showsDigits_5 (by decide) (q := 8) rfl (a := ((v : Nat) : Int)) (b := 9) (pk_lT (by omega)) rfl (fun h1 => ?_) (fun h1 => ?_)
  · first
    | (exfalso; omega)
    |
      refine x_aload_n C dX10_showsDigits_17 (q := 18) rfl rfl 0 rfl ?_
      refine x_bipush C dX10_showsDigits_18 (q := 20) rfl (v := nI 48) (by decide) ?_
      refine x_lload_n C dX10_showsDigits_20 (q := 21) rfl rfl 1 rfl ?_
      refine x_ldc2 C (v := lN 10) hw1 dX10_showsDigits_21 (q := 24) rfl ?_
      refine x_lrem C dX10_showsDigits_24 (q := 25) rfl (xl_ne0 (b := 10) rfl (by omega)) (z := lN (v % 10)) (pk_lRem (by omega) (by omega) (by omega)) ?_
      refine x_l2i C dX10_showsDigits_25 (q := 26) rfl (v := nI (v % 10)) (lN_i (v % 10)) ?_
      refine x_iadd C dX10_showsDigits_26 (q := 27) rfl (z := nI (48 + (v % 10))) (nI_add 48 (v % 10)) ?_
      refine x_callV C (roW := []) (roR := []) (c_X10_shows l D cy mo mr cols lc smp mk rs nse npa nbo tn ik ky j0 j1 j2 j3 n9 sh9 (48 + (v % 10)) (by first | assumption | omega | (simp only []; omega))) (cwV 1 C.2.2.2.2.1 gX10_showsDigits_X10_shows rfl rfl rfl (by decide +kernel) (by rw [hR]; exact ⟨Nat.le_of_ble_eq_true rfl, Nat.le_of_ble_eq_true rfl⟩)) [0, 1] [] rfl (by decide) rfl (by decide) xro_nil (List.mem_of_getElem? (i := 0) rfl) (ci := 9) rfl xT_bl (fun _ _ _ _ _ _ _ => trivial) rfl rfl dX10_showsDigits_27 rfl rfl (Nat.le_of_ble_eq_true rfl) (q := 30) rfl (k' := 0) rfl (n' := 0) rfl (by rw [hR]; exact ⟨Nat.le_of_ble_eq_true rfl, Nat.le_of_ble_eq_true rfl⟩) (fun v2 w2 hp2 => ?_)
      obtain ⟨rfl, rfl⟩ := hp2
      refine x_ws (ws' := [(mo, .inr (9, [.int (nI cols), .int (nI lc), .int (nI smp), .int (ky), .ref (mr 0), .ref (mr 1), .ref (mr 2), .ref (mr 3), .ref (mr 4), .ref (mr 5), .ref (mr 6), .ref (mr 7), .ref (mr 8), .ref (mr 9), .int (nI mk), .int (nI rs), .ref (mr 10), .ref (mr 11), .ref (mr 12), .ref (mr 13), .ref (mr 14), .ref (mr 15), .ref (mr 16), .ref (mr 17), .ref (mr 18), .ref (mr 19), .ref (mr 20), .int (nI nse), .int (nI npa), .int (nI nbo), .ref (mr 21), .int (nI tn), .ref (mr 22), .int (nI ik), .int (j0), .int (j1), .ref (mr 23), .int (j2), .ref (mr 24), .ref (mr 25), .int (j3), .ref (mr 26), .int (nI (n9 + 1)), .ref (mr 27), .ref (mr 28), .ref (mr 29), .ref (mr 30)])), (mr 26, .inl (cy 1, 24, .inl (fun k => nI ((va_up sh9 n9 (48 + (v % 10))) k))))]) rfl ?_
      refine x_vret C hA hQ hr dX10_showsDigits_30 (Nat.le_of_ble_eq_true rfl) ?_
      exact ⟨rfl, by rw [dgE_1 (by omega), dg_one (by omega), dgE_1 (by omega)]⟩
  · first
    | (exfalso; omega)
    |
      have hdt := dgE_10 (v := v) (by omega) (by omega)
      have hdl := dgE_lt (v := v / 10) (wd := 1) (m := 5) (by show _ < 1000000; omega) (by decide) 17 0 (by decide)
      refine x_aload_n C dX10_showsDigits_8 (q := 9) rfl rfl 0 rfl ?_
      refine x_lload_n C dX10_showsDigits_9 (q := 10) rfl rfl 1 rfl ?_
      refine x_ldc2 C (v := lN 10) hw1 dX10_showsDigits_10 (q := 13) rfl ?_
      refine x_ldiv C dX10_showsDigits_13 (q := 14) rfl (xl_ne0 (b := 10) rfl (by omega)) (z := lN (v / 10)) (pk_lDiv (by omega) (by omega) (by omega)) ?_
      refine x_callV C (roW := []) (roR := []) (c_X10_showsDigits_5 l D cy mo mr cols lc smp mk rs nse npa nbo tn ik ky j0 j1 j2 j3 n9 sh9 (v / 10) (by first | assumption | omega | (simp only []; omega)) (by first | assumption | omega | (simp only []; omega))) (cwV 1 C.2.2.2.2.1 gX10_showsDigits_X10_showsDigits rfl rfl rfl (by decide +kernel) (by rw [hR]; exact ⟨Nat.le_of_ble_eq_true rfl, Nat.le_of_ble_eq_true rfl⟩)) [0, 1] [] rfl (by decide) rfl (by decide) xro_nil (List.mem_of_getElem? (i := 0) rfl) (ci := 9) rfl xT_bl (fun _ _ _ _ _ _ _ => trivial) rfl rfl dX10_showsDigits_14 rfl rfl (Nat.le_of_ble_eq_true rfl) (q := 17) rfl (k' := 0) rfl (n' := 0) rfl (by rw [hR]; exact ⟨Nat.le_of_ble_eq_true rfl, Nat.le_of_ble_eq_true rfl⟩) (fun v3 w3 hp3 => ?_)
      obtain ⟨rfl, rfl⟩ := hp3
      refine x_ws (ws' := [(mo, .inr (9, [.int (nI cols), .int (nI lc), .int (nI smp), .int (ky), .ref (mr 0), .ref (mr 1), .ref (mr 2), .ref (mr 3), .ref (mr 4), .ref (mr 5), .ref (mr 6), .ref (mr 7), .ref (mr 8), .ref (mr 9), .int (nI mk), .int (nI rs), .ref (mr 10), .ref (mr 11), .ref (mr 12), .ref (mr 13), .ref (mr 14), .ref (mr 15), .ref (mr 16), .ref (mr 17), .ref (mr 18), .ref (mr 19), .ref (mr 20), .int (nI nse), .int (nI npa), .int (nI nbo), .ref (mr 21), .int (nI tn), .ref (mr 22), .int (nI ik), .int (j0), .int (j1), .ref (mr 23), .int (j2), .ref (mr 24), .ref (mr 25), .int (j3), .ref (mr 26), .int (nI (n9 + (dgE (v / 10) 1 17 0 + 1))), .ref (mr 27), .ref (mr 28), .ref (mr 29), .ref (mr 30)])), (mr 26, .inl (cy 1, 24, .inl (fun k => nI ((dgF (v / 10) (dgE (v / 10) 1 17 0) sh9 n9 (dgE (v / 10) 1 17 0 + 1)) k))))]) rfl ?_
      refine x_aload_n C dX10_showsDigits_17 (q := 18) rfl rfl 0 rfl ?_
      refine x_bipush C dX10_showsDigits_18 (q := 20) rfl (v := nI 48) (by decide) ?_
      refine x_lload_n C dX10_showsDigits_20 (q := 21) rfl rfl 1 rfl ?_
      refine x_ldc2 C (v := lN 10) hw1 dX10_showsDigits_21 (q := 24) rfl ?_
      refine x_lrem C dX10_showsDigits_24 (q := 25) rfl (xl_ne0 (b := 10) rfl (by omega)) (z := lN (v % 10)) (pk_lRem (by omega) (by omega) (by omega)) ?_
      refine x_l2i C dX10_showsDigits_25 (q := 26) rfl (v := nI (v % 10)) (lN_i (v % 10)) ?_
      refine x_iadd C dX10_showsDigits_26 (q := 27) rfl (z := nI (48 + (v % 10))) (nI_add 48 (v % 10)) ?_
      refine x_callV C (roW := []) (roR := []) (c_X10_shows l D cy mo mr cols lc smp mk rs nse npa nbo tn ik ky j0 j1 j2 j3 (n9 + (dgE (v / 10) 1 17 0 + 1)) (dgF (v / 10) (dgE (v / 10) 1 17 0) sh9 n9 (dgE (v / 10) 1 17 0 + 1)) (48 + (v % 10)) (by first | assumption | omega | (simp only []; omega))) (cwV 1 C.2.2.2.2.1 gX10_showsDigits_X10_shows rfl rfl rfl (by decide +kernel) (by rw [hR]; exact ⟨Nat.le_of_ble_eq_true rfl, Nat.le_of_ble_eq_true rfl⟩)) [0, 1] [] rfl (by decide) rfl (by decide) xro_nil (List.mem_of_getElem? (i := 0) rfl) (ci := 9) rfl xT_bl (fun _ _ _ _ _ _ _ => trivial) rfl rfl dX10_showsDigits_27 rfl rfl (Nat.le_of_ble_eq_true rfl) (q := 30) rfl (k' := 0) rfl (n' := 0) rfl (by rw [hR]; exact ⟨Nat.le_of_ble_eq_true rfl, Nat.le_of_ble_eq_true rfl⟩) (fun v4 w4 hp4 => ?_)
      obtain ⟨rfl, rfl⟩ := hp4
      refine x_ws (ws' := [(mo, .inr (9, [.int (nI cols), .int (nI lc), .int (nI smp), .int (ky), .ref (mr 0), .ref (mr 1), .ref (mr 2), .ref (mr 3), .ref (mr 4), .ref (mr 5), .ref (mr 6), .ref (mr 7), .ref (mr 8), .ref (mr 9), .int (nI mk), .int (nI rs), .ref (mr 10), .ref (mr 11), .ref (mr 12), .ref (mr 13), .ref (mr 14), .ref (mr 15), .ref (mr 16), .ref (mr 17), .ref (mr 18), .ref (mr 19), .ref (mr 20), .int (nI nse), .int (nI npa), .int (nI nbo), .ref (mr 21), .int (nI tn), .ref (mr 22), .int (nI ik), .int (j0), .int (j1), .ref (mr 23), .int (j2), .ref (mr 24), .ref (mr 25), .int (j3), .ref (mr 26), .int (nI ((n9 + (dgE (v / 10) 1 17 0 + 1)) + 1)), .ref (mr 27), .ref (mr 28), .ref (mr 29), .ref (mr 30)])), (mr 26, .inl (cy 1, 24, .inl (fun k => nI ((va_up (dgF (v / 10) (dgE (v / 10) 1 17 0) sh9 n9 (dgE (v / 10) 1 17 0 + 1)) (n9 + (dgE (v / 10) 1 17 0 + 1)) (48 + (v % 10))) k))))]) rfl ?_
      refine x_vret C hA hQ hr dX10_showsDigits_30 (Nat.le_of_ble_eq_true rfl) ?_
      exact ⟨rfl, by rw [dg_ten (by omega) (by omega), hdt]; rfl⟩

set_option maxHeartbeats 600000 in
set_option maxRecDepth 100000 in
/-- digits are shown -/
theorem c_X10_showsDigits_7 (l : Launch) (D : va_G) (cy : Nat → ClassId) (mo : Nat) (mr : Nat → Nat) (cols : Nat) (lc : Nat) (smp : Nat) (mk : Nat) (rs : Nat) (nse : Nat) (npa : Nat) (nbo : Nat) (tn : Nat) (ik : Nat) (ky : Int32) (j0 : Int32) (j1 : Int32) (j2 : Int32) (j3 : Int32) (n9 : Nat) (sh9 : Nat → Nat) (v : Nat) (hn9 : n9 + 8 ≤ 24) (hv : v < 100000000) : xMet l D cy xT yX10_showsDigits wsX10_showsDigits ({ frames := 9, cells := 0, slots := 0, locals := 900 } : Room) [.ref mo, .long (lN v)] [(mo, .inr (9, [.int (nI cols), .int (nI lc), .int (nI smp), .int (ky), .ref (mr 0), .ref (mr 1), .ref (mr 2), .ref (mr 3), .ref (mr 4), .ref (mr 5), .ref (mr 6), .ref (mr 7), .ref (mr 8), .ref (mr 9), .int (nI mk), .int (nI rs), .ref (mr 10), .ref (mr 11), .ref (mr 12), .ref (mr 13), .ref (mr 14), .ref (mr 15), .ref (mr 16), .ref (mr 17), .ref (mr 18), .ref (mr 19), .ref (mr 20), .int (nI nse), .int (nI npa), .int (nI nbo), .ref (mr 21), .int (nI tn), .ref (mr 22), .int (nI ik), .int (j0), .int (j1), .ref (mr 23), .int (j2), .ref (mr 24), .ref (mr 25), .int (j3), .ref (mr 26), .int (nI n9), .ref (mr 27), .ref (mr 28), .ref (mr 29), .ref (mr 30)])), (mr 26, .inl (cy 1, 24, .inl (fun k => nI (sh9 k))))] [] (fun (v9 : Option Value) (w9 : va_W) => (v9 = none ∧ w9 = [(mo, .inr (9, [.int (nI cols), .int (nI lc), .int (nI smp), .int (ky), .ref (mr 0), .ref (mr 1), .ref (mr 2), .ref (mr 3), .ref (mr 4), .ref (mr 5), .ref (mr 6), .ref (mr 7), .ref (mr 8), .ref (mr 9), .int (nI mk), .int (nI rs), .ref (mr 10), .ref (mr 11), .ref (mr 12), .ref (mr 13), .ref (mr 14), .ref (mr 15), .ref (mr 16), .ref (mr 17), .ref (mr 18), .ref (mr 19), .ref (mr 20), .int (nI nse), .int (nI npa), .int (nI nbo), .ref (mr 21), .int (nI tn), .ref (mr 22), .int (nI ik), .int (j0), .int (j1), .ref (mr 23), .int (j2), .ref (mr 24), .ref (mr 25), .int (j3), .ref (mr 26), .int (nI (n9 + (dgE v 1 17 0 + 1))), .ref (mr 27), .ref (mr 28), .ref (mr 29), .ref (mr 30)])), (mr 26, .inl (cy 1, 24, .inl (fun k => nI ((dgF v (dgE v 1 17 0) sh9 n9 (dgE v 1 17 0 + 1)) k))))])) := by
  refine xMet_of (cc := cX10_showsDigits) (maxL := 3) (ret := none) (by decide) rfl (Nat.le_of_ble_eq_true rfl) (fun p e s m args below meth c A R Q hA hR hQ C hr hnm hro hX => ?_)
  have hw0 : Jvm.Cond.constantLong RX10 328 (9) ∈ wsX10_showsDigits := by decide +kernel
  have hw1 : Jvm.Cond.constantLong RX10 247 (10) ∈ wsX10_showsDigits := by decide +kernel
  refine x_L (L' := [(0, .ref mo), (1, .long (lN v))]) [0, 1] rfl ?_
  refine x_lload_n C dX10_showsDigits_0 (q := 1) rfl rfl 1 rfl ?_
  refine x_ldc2 C (v := lN 9) hw0 dX10_showsDigits_1 (q := 4) rfl ?_
  refine x_lcmp_le C (tgt := 17) dX10_showsDigits_4 dX10_showsDigits_5 (by decide) (q := 8) rfl (a := ((v : Nat) : Int)) (b := 9) (pk_lT (by omega)) rfl (fun h1 => ?_) (fun h1 => ?_)
  · first
    | (exfalso; omega)
    |
      refine x_aload_n C dX10_showsDigits_17 (q := 18) rfl rfl 0 rfl ?_
      refine x_bipush C dX10_showsDigits_18 (q := 20) rfl (v := nI 48) (by decide) ?_
      refine x_lload_n C dX10_showsDigits_20 (q := 21) rfl rfl 1 rfl ?_
      refine x_ldc2 C (v := lN 10) hw1 dX10_showsDigits_21 (q := 24) rfl ?_
      refine x_lrem C dX10_showsDigits_24 (q := 25) rfl (xl_ne0 (b := 10) rfl (by omega)) (z := lN (v % 10)) (pk_lRem (by omega) (by omega) (by omega)) ?_
      refine x_l2i C dX10_showsDigits_25 (q := 26) rfl (v := nI (v % 10)) (lN_i (v % 10)) ?_
      refine x_iadd C dX10_showsDigits_26 (q := 27) rfl (z := nI (48 + (v % 10))) (nI_add 48 (v % 10)) ?_
      refine x_callV C (roW := []) (roR := []) (c_X10_shows l D cy mo mr cols lc smp mk rs nse npa nbo tn ik ky j0 j1 j2 j3 n9 sh9 (48 + (v % 10)) (by first | assumption | omega | (simp only []; omega))) (cwV 1 C.2.2.2.2.1 gX10_showsDigits_X10_shows rfl rfl rfl (by decide +kernel) (by rw [hR]; exact ⟨Nat.le_of_ble_eq_true rfl, Nat.le_of_ble_eq_true rfl⟩)) [0, 1] [] rfl (by decide) rfl (by decide) xro_nil (List.mem_of_getElem? (i := 0) rfl) (ci := 9) rfl xT_bl (fun _ _ _ _ _ _ _ => trivial) rfl rfl dX10_showsDigits_27 rfl rfl (Nat.le_of_ble_eq_true rfl) (q := 30) rfl (k' := 0) rfl (n' := 0) rfl (by rw [hR]; exact ⟨Nat.le_of_ble_eq_true rfl, Nat.le_of_ble_eq_true rfl⟩) (fun v2 w2 hp2 => ?_)
      obtain ⟨rfl, rfl⟩ := hp2
      refine x_ws (ws' := [(mo, .inr (9, [.int (nI cols), .int (nI lc), .int (nI smp), .int (ky), .ref (mr 0), .ref (mr 1), .ref (mr 2), .ref (mr 3), .ref (mr 4), .ref (mr 5), .ref (mr 6), .ref (mr 7), .ref (mr 8), .ref (mr 9), .int (nI mk), .int (nI rs), .ref (mr 10), .ref (mr 11), .ref (mr 12), .ref (mr 13), .ref (mr 14), .ref (mr 15), .ref (mr 16), .ref (mr 17), .ref (mr 18), .ref (mr 19), .ref (mr 20), .int (nI nse), .int (nI npa), .int (nI nbo), .ref (mr 21), .int (nI tn), .ref (mr 22), .int (nI ik), .int (j0), .int (j1), .ref (mr 23), .int (j2), .ref (mr 24), .ref (mr 25), .int (j3), .ref (mr 26), .int (nI (n9 + 1)), .ref (mr 27), .ref (mr 28), .ref (mr 29), .ref (mr 30)])), (mr 26, .inl (cy 1, 24, .inl (fun k => nI ((va_up sh9 n9 (48 + (v % 10))) k))))]) rfl ?_
      refine x_vret C hA hQ hr dX10_showsDigits_30 (Nat.le_of_ble_eq_true rfl) ?_
      exact ⟨rfl, by rw [dgE_1 (by omega), dg_one (by omega), dgE_1 (by omega)]⟩
  · first
    | (exfalso; omega)
    |
      have hdt := dgE_10 (v := v) (by omega) (by omega)
      have hdl := dgE_lt (v := v / 10) (wd := 1) (m := 6) (by show _ < 10000000; omega) (by decide) 17 0 (by decide)
      refine x_aload_n C dX10_showsDigits_8 (q := 9) rfl rfl 0 rfl ?_
      refine x_lload_n C dX10_showsDigits_9 (q := 10) rfl rfl 1 rfl ?_
      refine x_ldc2 C (v := lN 10) hw1 dX10_showsDigits_10 (q := 13) rfl ?_
      refine x_ldiv C dX10_showsDigits_13 (q := 14) rfl (xl_ne0 (b := 10) rfl (by omega)) (z := lN (v / 10)) (pk_lDiv (by omega) (by omega) (by omega)) ?_
      refine x_callV C (roW := []) (roR := []) (c_X10_showsDigits_6 l D cy mo mr cols lc smp mk rs nse npa nbo tn ik ky j0 j1 j2 j3 n9 sh9 (v / 10) (by first | assumption | omega | (simp only []; omega)) (by first | assumption | omega | (simp only []; omega))) (cwV 1 C.2.2.2.2.1 gX10_showsDigits_X10_showsDigits rfl rfl rfl (by decide +kernel) (by rw [hR]; exact ⟨Nat.le_of_ble_eq_true rfl, Nat.le_of_ble_eq_true rfl⟩)) [0, 1] [] rfl (by decide) rfl (by decide) xro_nil (List.mem_of_getElem? (i := 0) rfl) (ci := 9) rfl xT_bl (fun _ _ _ _ _ _ _ => trivial) rfl rfl dX10_showsDigits_14 rfl rfl (Nat.le_of_ble_eq_true rfl) (q := 17) rfl (k' := 0) rfl (n' := 0) rfl (by rw [hR]; exact ⟨Nat.le_of_ble_eq_true rfl, Nat.le_of_ble_eq_true rfl⟩) (fun v3 w3 hp3 => ?_)
      obtain ⟨rfl, rfl⟩ := hp3
      refine x_ws (ws' := [(mo, .inr (9, [.int (nI cols), .int (nI lc), .int (nI smp), .int (ky), .ref (mr 0), .ref (mr 1), .ref (mr 2), .ref (mr 3), .ref (mr 4), .ref (mr 5), .ref (mr 6), .ref (mr 7), .ref (mr 8), .ref (mr 9), .int (nI mk), .int (nI rs), .ref (mr 10), .ref (mr 11), .ref (mr 12), .ref (mr 13), .ref (mr 14), .ref (mr 15), .ref (mr 16), .ref (mr 17), .ref (mr 18), .ref (mr 19), .ref (mr 20), .int (nI nse), .int (nI npa), .int (nI nbo), .ref (mr 21), .int (nI tn), .ref (mr 22), .int (nI ik), .int (j0), .int (j1), .ref (mr 23), .int (j2), .ref (mr 24), .ref (mr 25), .int (j3), .ref (mr 26), .int (nI (n9 + (dgE (v / 10) 1 17 0 + 1))), .ref (mr 27), .ref (mr 28), .ref (mr 29), .ref (mr 30)])), (mr 26, .inl (cy 1, 24, .inl (fun k => nI ((dgF (v / 10) (dgE (v / 10) 1 17 0) sh9 n9 (dgE (v / 10) 1 17 0 + 1)) k))))]) rfl ?_
      refine x_aload_n C dX10_showsDigits_17 (q := 18) rfl rfl 0 rfl ?_
      refine x_bipush C dX10_showsDigits_18 (q := 20) rfl (v := nI 48) (by decide) ?_
      refine x_lload_n C dX10_showsDigits_20 (q := 21) rfl rfl 1 rfl ?_
      refine x_ldc2 C (v := lN 10) hw1 dX10_showsDigits_21 (q := 24) rfl ?_
      refine x_lrem C dX10_showsDigits_24 (q := 25) rfl (xl_ne0 (b := 10) rfl (by omega)) (z := lN (v % 10)) (pk_lRem (by omega) (by omega) (by omega)) ?_
      refine x_l2i C dX10_showsDigits_25 (q := 26) rfl (v := nI (v % 10)) (lN_i (v % 10)) ?_
      refine x_iadd C dX10_showsDigits_26 (q := 27) rfl (z := nI (48 + (v % 10))) (nI_add 48 (v % 10)) ?_
      refine x_callV C (roW := []) (roR := []) (c_X10_shows l D cy mo mr cols lc smp mk rs nse npa nbo tn ik ky j0 j1 j2 j3 (n9 + (dgE (v / 10) 1 17 0 + 1)) (dgF (v / 10) (dgE (v / 10) 1 17 0) sh9 n9 (dgE (v / 10) 1 17 0 + 1)) (48 + (v % 10)) (by first | assumption | omega | (simp only []; omega))) (cwV 1 C.2.2.2.2.1 gX10_showsDigits_X10_shows rfl rfl rfl (by decide +kernel) (by rw [hR]; exact ⟨Nat.le_of_ble_eq_true rfl, Nat.le_of_ble_eq_true rfl⟩)) [0, 1] [] rfl (by decide) rfl (by decide) xro_nil (List.mem_of_getElem? (i := 0) rfl) (ci := 9) rfl xT_bl (fun _ _ _ _ _ _ _ => trivial) rfl rfl dX10_showsDigits_27 rfl rfl (Nat.le_of_ble_eq_true rfl) (q := 30) rfl (k' := 0) rfl (n' := 0) rfl (by rw [hR]; exact ⟨Nat.le_of_ble_eq_true rfl, Nat.le_of_ble_eq_true rfl⟩) (fun v4 w4 hp4 => ?_)
      obtain ⟨rfl, rfl⟩ := hp4
      refine x_ws (ws' := [(mo, .inr (9, [.int (nI cols), .int (nI lc), .int (nI smp), .int (ky), .ref (mr 0), .ref (mr 1), .ref (mr 2), .ref (mr 3), .ref (mr 4), .ref (mr 5), .ref (mr 6), .ref (mr 7), .ref (mr 8), .ref (mr 9), .int (nI mk), .int (nI rs), .ref (mr 10), .ref (mr 11), .ref (mr 12), .ref (mr 13), .ref (mr 14), .ref (mr 15), .ref (mr 16), .ref (mr 17), .ref (mr 18), .ref (mr 19), .ref (mr 20), .int (nI nse), .int (nI npa), .int (nI nbo), .ref (mr 21), .int (nI tn), .ref (mr 22), .int (nI ik), .int (j0), .int (j1), .ref (mr 23), .int (j2), .ref (mr 24), .ref (mr 25), .int (j3), .ref (mr 26), .int (nI ((n9 + (dgE (v / 10) 1 17 0 + 1)) + 1)), .ref (mr 27), .ref (mr 28), .ref (mr 29), .ref (mr 30)])), (mr 26, .inl (cy 1, 24, .inl (fun k => nI ((va_up (dgF (v / 10) (dgE (v / 10) 1 17 0) sh9 n9 (dgE (v / 10) 1 17 0 + 1)) (n9 + (dgE (v / 10) 1 17 0 + 1)) (48 + (v % 10))) k))))]) rfl ?_
      refine x_vret C hA hQ hr dX10_showsDigits_30 (Nat.le_of_ble_eq_true rfl) ?_
      exact ⟨rfl, by rw [dg_ten (by omega) (by omega), hdt]; rfl⟩

set_option maxHeartbeats 600000 in
set_option maxRecDepth 100000 in
/-- digits are shown -/
theorem c_X10_showsDigits_8 (l : Launch) (D : va_G) (cy : Nat → ClassId) (mo : Nat) (mr : Nat → Nat) (cols : Nat) (lc : Nat) (smp : Nat) (mk : Nat) (rs : Nat) (nse : Nat) (npa : Nat) (nbo : Nat) (tn : Nat) (ik : Nat) (ky : Int32) (j0 : Int32) (j1 : Int32) (j2 : Int32) (j3 : Int32) (n9 : Nat) (sh9 : Nat → Nat) (v : Nat) (hn9 : n9 + 9 ≤ 24) (hv : v < 1000000000) : xMet l D cy xT yX10_showsDigits wsX10_showsDigits ({ frames := 10, cells := 0, slots := 0, locals := 1000 } : Room) [.ref mo, .long (lN v)] [(mo, .inr (9, [.int (nI cols), .int (nI lc), .int (nI smp), .int (ky), .ref (mr 0), .ref (mr 1), .ref (mr 2), .ref (mr 3), .ref (mr 4), .ref (mr 5), .ref (mr 6), .ref (mr 7), .ref (mr 8), .ref (mr 9), .int (nI mk), .int (nI rs), .ref (mr 10), .ref (mr 11), .ref (mr 12), .ref (mr 13), .ref (mr 14), .ref (mr 15), .ref (mr 16), .ref (mr 17), .ref (mr 18), .ref (mr 19), .ref (mr 20), .int (nI nse), .int (nI npa), .int (nI nbo), .ref (mr 21), .int (nI tn), .ref (mr 22), .int (nI ik), .int (j0), .int (j1), .ref (mr 23), .int (j2), .ref (mr 24), .ref (mr 25), .int (j3), .ref (mr 26), .int (nI n9), .ref (mr 27), .ref (mr 28), .ref (mr 29), .ref (mr 30)])), (mr 26, .inl (cy 1, 24, .inl (fun k => nI (sh9 k))))] [] (fun (v9 : Option Value) (w9 : va_W) => (v9 = none ∧ w9 = [(mo, .inr (9, [.int (nI cols), .int (nI lc), .int (nI smp), .int (ky), .ref (mr 0), .ref (mr 1), .ref (mr 2), .ref (mr 3), .ref (mr 4), .ref (mr 5), .ref (mr 6), .ref (mr 7), .ref (mr 8), .ref (mr 9), .int (nI mk), .int (nI rs), .ref (mr 10), .ref (mr 11), .ref (mr 12), .ref (mr 13), .ref (mr 14), .ref (mr 15), .ref (mr 16), .ref (mr 17), .ref (mr 18), .ref (mr 19), .ref (mr 20), .int (nI nse), .int (nI npa), .int (nI nbo), .ref (mr 21), .int (nI tn), .ref (mr 22), .int (nI ik), .int (j0), .int (j1), .ref (mr 23), .int (j2), .ref (mr 24), .ref (mr 25), .int (j3), .ref (mr 26), .int (nI (n9 + (dgE v 1 17 0 + 1))), .ref (mr 27), .ref (mr 28), .ref (mr 29), .ref (mr 30)])), (mr 26, .inl (cy 1, 24, .inl (fun k => nI ((dgF v (dgE v 1 17 0) sh9 n9 (dgE v 1 17 0 + 1)) k))))])) := by
  refine xMet_of (cc := cX10_showsDigits) (maxL := 3) (ret := none) (by decide) rfl (Nat.le_of_ble_eq_true rfl) (fun p e s m args below meth c A R Q hA hR hQ C hr hnm hro hX => ?_)
  have hw0 : Jvm.Cond.constantLong RX10 328 (9) ∈ wsX10_showsDigits := by decide +kernel
  have hw1 : Jvm.Cond.constantLong RX10 247 (10) ∈ wsX10_showsDigits := by decide +kernel
  refine x_L (L' := [(0, .ref mo), (1, .long (lN v))]) [0, 1] rfl ?_
  refine x_lload_n C dX10_showsDigits_0 (q := 1) rfl rfl 1 rfl ?_
  refine x_ldc2 C (v := lN 9) hw0 dX10_showsDigits_1 (q := 4) rfl ?_
  refine x_lcmp_le C (tgt := 17) dX10_showsDigits_4 dX10_showsDigits_5 (by decide) (q := 8) rfl (a := ((v : Nat) : Int)) (b := 9) (pk_lT (by omega)) rfl (fun h1 => ?_) (fun h1 => ?_)
  · first
    | (exfalso; omega)
    |
      refine x_aload_n C dX10_showsDigits_17 (q := 18) rfl rfl 0 rfl ?_
      refine x_bipush C dX10_showsDigits_18 (q := 20) rfl (v := nI 48) (by decide) ?_
      refine x_lload_n C dX10_showsDigits_20 (q := 21) rfl rfl 1 rfl ?_
      refine x_ldc2 C (v := lN 10) hw1 dX10_showsDigits_21 (q := 24) rfl ?_
      refine x_lrem C dX10_showsDigits_24 (q := 25) rfl (xl_ne0 (b := 10) rfl (by omega)) (z := lN (v % 10)) (pk_lRem (by omega) (by omega) (by omega)) ?_
      refine x_l2i C dX10_showsDigits_25 (q := 26) rfl (v := nI (v % 10)) (lN_i (v % 10)) ?_
      refine x_iadd C dX10_showsDigits_26 (q := 27) rfl (z := nI (48 + (v % 10))) (nI_add 48 (v % 10)) ?_
      refine x_callV C (roW := []) (roR := []) (c_X10_shows l D cy mo mr cols lc smp mk rs nse npa nbo tn ik ky j0 j1 j2 j3 n9 sh9 (48 + (v % 10)) (by first | assumption | omega | (simp only []; omega))) (cwV 1 C.2.2.2.2.1 gX10_showsDigits_X10_shows rfl rfl rfl (by decide +kernel) (by rw [hR]; exact ⟨Nat.le_of_ble_eq_true rfl, Nat.le_of_ble_eq_true rfl⟩)) [0, 1] [] rfl (by decide) rfl (by decide) xro_nil (List.mem_of_getElem? (i := 0) rfl) (ci := 9) rfl xT_bl (fun _ _ _ _ _ _ _ => trivial) rfl rfl dX10_showsDigits_27 rfl rfl (Nat.le_of_ble_eq_true rfl) (q := 30) rfl (k' := 0) rfl (n' := 0) rfl (by rw [hR]; exact ⟨Nat.le_of_ble_eq_true rfl, Nat.le_of_ble_eq_true rfl⟩) (fun v2 w2 hp2 => ?_)
      obtain ⟨rfl, rfl⟩ := hp2
      refine x_ws (ws' := [(mo, .inr (9, [.int (nI cols), .int (nI lc), .int (nI smp), .int (ky), .ref (mr 0), .ref (mr 1), .ref (mr 2), .ref (mr 3), .ref (mr 4), .ref (mr 5), .ref (mr 6), .ref (mr 7), .ref (mr 8), .ref (mr 9), .int (nI mk), .int (nI rs), .ref (mr 10), .ref (mr 11), .ref (mr 12), .ref (mr 13), .ref (mr 14), .ref (mr 15), .ref (mr 16), .ref (mr 17), .ref (mr 18), .ref (mr 19), .ref (mr 20), .int (nI nse), .int (nI npa), .int (nI nbo), .ref (mr 21), .int (nI tn), .ref (mr 22), .int (nI ik), .int (j0), .int (j1), .ref (mr 23), .int (j2), .ref (mr 24), .ref (mr 25), .int (j3), .ref (mr 26), .int (nI (n9 + 1)), .ref (mr 27), .ref (mr 28), .ref (mr 29), .ref (mr 30)])), (mr 26, .inl (cy 1, 24, .inl (fun k => nI ((va_up sh9 n9 (48 + (v % 10))) k))))]) rfl ?_
      refine x_vret C hA hQ hr dX10_showsDigits_30 (Nat.le_of_ble_eq_true rfl) ?_
      exact ⟨rfl, by rw [dgE_1 (by omega), dg_one (by omega), dgE_1 (by omega)]⟩
  · first
    | (exfalso; omega)
    |
      have hdt := dgE_10 (v := v) (by omega) (by omega)
      have hdl := dgE_lt (v := v / 10) (wd := 1) (m := 7) (by show _ < 100000000; omega) (by decide) 17 0 (by decide)
      refine x_aload_n C dX10_showsDigits_8 (q := 9) rfl rfl 0 rfl ?_
      refine x_lload_n C dX10_showsDigits_9 (q := 10) rfl rfl 1 rfl ?_
      refine x_ldc2 C (v := lN 10) hw1 dX10_showsDigits_10 (q := 13) rfl ?_
      refine x_ldiv C dX10_showsDigits_13 (q := 14) rfl (xl_ne0 (b := 10) rfl (by omega)) (z := lN (v / 10)) (pk_lDiv (by omega) (by omega) (by omega)) ?_
      refine x_callV C (roW := []) (roR := []) (c_X10_showsDigits_7 l D cy mo mr cols lc smp mk rs nse npa nbo tn ik ky j0 j1 j2 j3 n9 sh9 (v / 10) (by first | assumption | omega | (simp only []; omega)) (by first | assumption | omega | (simp only []; omega))) (cwV 1 C.2.2.2.2.1 gX10_showsDigits_X10_showsDigits rfl rfl rfl (by decide +kernel) (by rw [hR]; exact ⟨Nat.le_of_ble_eq_true rfl, Nat.le_of_ble_eq_true rfl⟩)) [0, 1] [] rfl (by decide) rfl (by decide) xro_nil (List.mem_of_getElem? (i := 0) rfl) (ci := 9) rfl xT_bl (fun _ _ _ _ _ _ _ => trivial) rfl rfl dX10_showsDigits_14 rfl rfl (Nat.le_of_ble_eq_true rfl) (q := 17) rfl (k' := 0) rfl (n' := 0) rfl (by rw [hR]; exact ⟨Nat.le_of_ble_eq_true rfl, Nat.le_of_ble_eq_true rfl⟩) (fun v3 w3 hp3 => ?_)
      obtain ⟨rfl, rfl⟩ := hp3
      refine x_ws (ws' := [(mo, .inr (9, [.int (nI cols), .int (nI lc), .int (nI smp), .int (ky), .ref (mr 0), .ref (mr 1), .ref (mr 2), .ref (mr 3), .ref (mr 4), .ref (mr 5), .ref (mr 6), .ref (mr 7), .ref (mr 8), .ref (mr 9), .int (nI mk), .int (nI rs), .ref (mr 10), .ref (mr 11), .ref (mr 12), .ref (mr 13), .ref (mr 14), .ref (mr 15), .ref (mr 16), .ref (mr 17), .ref (mr 18), .ref (mr 19), .ref (mr 20), .int (nI nse), .int (nI npa), .int (nI nbo), .ref (mr 21), .int (nI tn), .ref (mr 22), .int (nI ik), .int (j0), .int (j1), .ref (mr 23), .int (j2), .ref (mr 24), .ref (mr 25), .int (j3), .ref (mr 26), .int (nI (n9 + (dgE (v / 10) 1 17 0 + 1))), .ref (mr 27), .ref (mr 28), .ref (mr 29), .ref (mr 30)])), (mr 26, .inl (cy 1, 24, .inl (fun k => nI ((dgF (v / 10) (dgE (v / 10) 1 17 0) sh9 n9 (dgE (v / 10) 1 17 0 + 1)) k))))]) rfl ?_
      refine x_aload_n C dX10_showsDigits_17 (q := 18) rfl rfl 0 rfl ?_
      refine x_bipush C dX10_showsDigits_18 (q := 20) rfl (v := nI 48) (by decide) ?_
      refine x_lload_n C dX10_showsDigits_20 (q := 21) rfl rfl 1 rfl ?_
      refine x_ldc2 C (v := lN 10) hw1 dX10_showsDigits_21 (q := 24) rfl ?_
      refine x_lrem C dX10_showsDigits_24 (q := 25) rfl (xl_ne0 (b := 10) rfl (by omega)) (z := lN (v % 10)) (pk_lRem (by omega) (by omega) (by omega)) ?_
      refine x_l2i C dX10_showsDigits_25 (q := 26) rfl (v := nI (v % 10)) (lN_i (v % 10)) ?_
      refine x_iadd C dX10_showsDigits_26 (q := 27) rfl (z := nI (48 + (v % 10))) (nI_add 48 (v % 10)) ?_
      refine x_callV C (roW := []) (roR := []) (c_X10_shows l D cy mo mr cols lc smp mk rs nse npa nbo tn ik ky j0 j1 j2 j3 (n9 + (dgE (v / 10) 1 17 0 + 1)) (dgF (v / 10) (dgE (v / 10) 1 17 0) sh9 n9 (dgE (v / 10) 1 17 0 + 1)) (48 + (v % 10)) (by first | assumption | omega | (simp only []; omega))) (cwV 1 C.2.2.2.2.1 gX10_showsDigits_X10_shows rfl rfl rfl (by decide +kernel) (by rw [hR]; exact ⟨Nat.le_of_ble_eq_true rfl, Nat.le_of_ble_eq_true rfl⟩)) [0, 1] [] rfl (by decide) rfl (by decide) xro_nil (List.mem_of_getElem? (i := 0) rfl) (ci := 9) rfl xT_bl (fun _ _ _ _ _ _ _ => trivial) rfl rfl dX10_showsDigits_27 rfl rfl (Nat.le_of_ble_eq_true rfl) (q := 30) rfl (k' := 0) rfl (n' := 0) rfl (by rw [hR]; exact ⟨Nat.le_of_ble_eq_true rfl, Nat.le_of_ble_eq_true rfl⟩) (fun v4 w4 hp4 => ?_)
      obtain ⟨rfl, rfl⟩ := hp4
      refine x_ws (ws' := [(mo, .inr (9, [.int (nI cols), .int (nI lc), .int (nI smp), .int (ky), .ref (mr 0), .ref (mr 1), .ref (mr 2), .ref (mr 3), .ref (mr 4), .ref (mr 5), .ref (mr 6), .ref (mr 7), .ref (mr 8), .ref (mr 9), .int (nI mk), .int (nI rs), .ref (mr 10), .ref (mr 11), .ref (mr 12), .ref (mr 13), .ref (mr 14), .ref (mr 15), .ref (mr 16), .ref (mr 17), .ref (mr 18), .ref (mr 19), .ref (mr 20), .int (nI nse), .int (nI npa), .int (nI nbo), .ref (mr 21), .int (nI tn), .ref (mr 22), .int (nI ik), .int (j0), .int (j1), .ref (mr 23), .int (j2), .ref (mr 24), .ref (mr 25), .int (j3), .ref (mr 26), .int (nI ((n9 + (dgE (v / 10) 1 17 0 + 1)) + 1)), .ref (mr 27), .ref (mr 28), .ref (mr 29), .ref (mr 30)])), (mr 26, .inl (cy 1, 24, .inl (fun k => nI ((va_up (dgF (v / 10) (dgE (v / 10) 1 17 0) sh9 n9 (dgE (v / 10) 1 17 0 + 1)) (n9 + (dgE (v / 10) 1 17 0 + 1)) (48 + (v % 10))) k))))]) rfl ?_
      refine x_vret C hA hQ hr dX10_showsDigits_30 (Nat.le_of_ble_eq_true rfl) ?_
      exact ⟨rfl, by rw [dg_ten (by omega) (by omega), hdt]; rfl⟩

set_option maxHeartbeats 600000 in
set_option maxRecDepth 100000 in
/-- digits are shown -/
theorem c_X10_showsDigits_9 (l : Launch) (D : va_G) (cy : Nat → ClassId) (mo : Nat) (mr : Nat → Nat) (cols : Nat) (lc : Nat) (smp : Nat) (mk : Nat) (rs : Nat) (nse : Nat) (npa : Nat) (nbo : Nat) (tn : Nat) (ik : Nat) (ky : Int32) (j0 : Int32) (j1 : Int32) (j2 : Int32) (j3 : Int32) (n9 : Nat) (sh9 : Nat → Nat) (v : Nat) (hn9 : n9 + 10 ≤ 24) (hv : v < 10000000000) : xMet l D cy xT yX10_showsDigits wsX10_showsDigits ({ frames := 11, cells := 0, slots := 0, locals := 1100 } : Room) [.ref mo, .long (lN v)] [(mo, .inr (9, [.int (nI cols), .int (nI lc), .int (nI smp), .int (ky), .ref (mr 0), .ref (mr 1), .ref (mr 2), .ref (mr 3), .ref (mr 4), .ref (mr 5), .ref (mr 6), .ref (mr 7), .ref (mr 8), .ref (mr 9), .int (nI mk), .int (nI rs), .ref (mr 10), .ref (mr 11), .ref (mr 12), .ref (mr 13), .ref (mr 14), .ref (mr 15), .ref (mr 16), .ref (mr 17), .ref (mr 18), .ref (mr 19), .ref (mr 20), .int (nI nse), .int (nI npa), .int (nI nbo), .ref (mr 21), .int (nI tn), .ref (mr 22), .int (nI ik), .int (j0), .int (j1), .ref (mr 23), .int (j2), .ref (mr 24), .ref (mr 25), .int (j3), .ref (mr 26), .int (nI n9), .ref (mr 27), .ref (mr 28), .ref (mr 29), .ref (mr 30)])), (mr 26, .inl (cy 1, 24, .inl (fun k => nI (sh9 k))))] [] (fun (v9 : Option Value) (w9 : va_W) => (v9 = none ∧ w9 = [(mo, .inr (9, [.int (nI cols), .int (nI lc), .int (nI smp), .int (ky), .ref (mr 0), .ref (mr 1), .ref (mr 2), .ref (mr 3), .ref (mr 4), .ref (mr 5), .ref (mr 6), .ref (mr 7), .ref (mr 8), .ref (mr 9), .int (nI mk), .int (nI rs), .ref (mr 10), .ref (mr 11), .ref (mr 12), .ref (mr 13), .ref (mr 14), .ref (mr 15), .ref (mr 16), .ref (mr 17), .ref (mr 18), .ref (mr 19), .ref (mr 20), .int (nI nse), .int (nI npa), .int (nI nbo), .ref (mr 21), .int (nI tn), .ref (mr 22), .int (nI ik), .int (j0), .int (j1), .ref (mr 23), .int (j2), .ref (mr 24), .ref (mr 25), .int (j3), .ref (mr 26), .int (nI (n9 + (dgE v 1 17 0 + 1))), .ref (mr 27), .ref (mr 28), .ref (mr 29), .ref (mr 30)])), (mr 26, .inl (cy 1, 24, .inl (fun k => nI ((dgF v (dgE v 1 17 0) sh9 n9 (dgE v 1 17 0 + 1)) k))))])) := by
  refine xMet_of (cc := cX10_showsDigits) (maxL := 3) (ret := none) (by decide) rfl (Nat.le_of_ble_eq_true rfl) (fun p e s m args below meth c A R Q hA hR hQ C hr hnm hro hX => ?_)
  have hw0 : Jvm.Cond.constantLong RX10 328 (9) ∈ wsX10_showsDigits := by decide +kernel
  have hw1 : Jvm.Cond.constantLong RX10 247 (10) ∈ wsX10_showsDigits := by decide +kernel
  refine x_L (L' := [(0, .ref mo), (1, .long (lN v))]) [0, 1] rfl ?_
  refine x_lload_n C dX10_showsDigits_0 (q := 1) rfl rfl 1 rfl ?_
  refine x_ldc2 C (v := lN 9) hw0 dX10_showsDigits_1 (q := 4) rfl ?_
  refine x_lcmp_le C (tgt := 17) dX10_showsDigits_4 dX10_showsDigits_5 (by decide) (q := 8) rfl (a := ((v : Nat) : Int)) (b := 9) (pk_lT (by omega)) rfl (fun h1 => ?_) (fun h1 => ?_)
  · first
    | (exfalso; omega)
    |
      refine x_aload_n C dX10_showsDigits_17 (q := 18) rfl rfl 0 rfl ?_
      refine x_bipush C dX10_showsDigits_18 (q := 20) rfl (v := nI 48) (by decide) ?_
      refine x_lload_n C dX10_showsDigits_20 (q := 21) rfl rfl 1 rfl ?_
      refine x_ldc2 C (v := lN 10) hw1 dX10_showsDigits_21 (q := 24) rfl ?_
      refine x_lrem C dX10_showsDigits_24 (q := 25) rfl (xl_ne0 (b := 10) rfl (by omega)) (z := lN (v % 10)) (pk_lRem (by omega) (by omega) (by omega)) ?_
      refine x_l2i C dX10_showsDigits_25 (q := 26) rfl (v := nI (v % 10)) (lN_i (v % 10)) ?_
      refine x_iadd C dX10_showsDigits_26 (q := 27) rfl (z := nI (48 + (v % 10))) (nI_add 48 (v % 10)) ?_
      refine x_callV C (roW := []) (roR := []) (c_X10_shows l D cy mo mr cols lc smp mk rs nse npa nbo tn ik ky j0 j1 j2 j3 n9 sh9 (48 + (v % 10)) (by first | assumption | omega | (simp only []; omega))) (cwV 1 C.2.2.2.2.1 gX10_showsDigits_X10_shows rfl rfl rfl (by decide +kernel) (by rw [hR]; exact ⟨Nat.le_of_ble_eq_true rfl, Nat.le_of_ble_eq_true rfl⟩)) [0, 1] [] rfl (by decide) rfl (by decide) xro_nil (List.mem_of_getElem? (i := 0) rfl) (ci := 9) rfl xT_bl (fun _ _ _ _ _ _ _ => trivial) rfl rfl dX10_showsDigits_27 rfl rfl (Nat.le_of_ble_eq_true rfl) (q := 30) rfl (k' := 0) rfl (n' := 0) rfl (by rw [hR]; exact ⟨Nat.le_of_ble_eq_true rfl, Nat.le_of_ble_eq_true rfl⟩) (fun v2 w2 hp2 => ?_)
      obtain ⟨rfl, rfl⟩ := hp2
      refine x_ws (ws' := [(mo, .inr (9, [.int (nI cols), .int (nI lc), .int (nI smp), .int (ky), .ref (mr 0), .ref (mr 1), .ref (mr 2), .ref (mr 3), .ref (mr 4), .ref (mr 5), .ref (mr 6), .ref (mr 7), .ref (mr 8), .ref (mr 9), .int (nI mk), .int (nI rs), .ref (mr 10), .ref (mr 11), .ref (mr 12), .ref (mr 13), .ref (mr 14), .ref (mr 15), .ref (mr 16), .ref (mr 17), .ref (mr 18), .ref (mr 19), .ref (mr 20), .int (nI nse), .int (nI npa), .int (nI nbo), .ref (mr 21), .int (nI tn), .ref (mr 22), .int (nI ik), .int (j0), .int (j1), .ref (mr 23), .int (j2), .ref (mr 24), .ref (mr 25), .int (j3), .ref (mr 26), .int (nI (n9 + 1)), .ref (mr 27), .ref (mr 28), .ref (mr 29), .ref (mr 30)])), (mr 26, .inl (cy 1, 24, .inl (fun k => nI ((va_up sh9 n9 (48 + (v % 10))) k))))]) rfl ?_
      refine x_vret C hA hQ hr dX10_showsDigits_30 (Nat.le_of_ble_eq_true rfl) ?_
      exact ⟨rfl, by rw [dgE_1 (by omega), dg_one (by omega), dgE_1 (by omega)]⟩
  · first
    | (exfalso; omega)
    |
      have hdt := dgE_10 (v := v) (by omega) (by omega)
      have hdl := dgE_lt (v := v / 10) (wd := 1) (m := 8) (by show _ < 1000000000; omega) (by decide) 17 0 (by decide)
      refine x_aload_n C dX10_showsDigits_8 (q := 9) rfl rfl 0 rfl ?_
      refine x_lload_n C dX10_showsDigits_9 (q := 10) rfl rfl 1 rfl ?_
      refine x_ldc2 C (v := lN 10) hw1 dX10_showsDigits_10 (q := 13) rfl ?_
      refine x_ldiv C dX10_showsDigits_13 (q := 14) rfl (xl_ne0 (b := 10) rfl (by omega)) (z := lN (v / 10)) (pk_lDiv (by omega) (by omega) (by omega)) ?_
      refine x_callV C (roW := []) (roR := []) (c_X10_showsDigits_8 l D cy mo mr cols lc smp mk rs nse npa nbo tn ik ky j0 j1 j2 j3 n9 sh9 (v / 10) (by first | assumption | omega | (simp only []; omega)) (by first | assumption | omega | (simp only []; omega))) (cwV 1 C.2.2.2.2.1 gX10_showsDigits_X10_showsDigits rfl rfl rfl (by decide +kernel) (by rw [hR]; exact ⟨Nat.le_of_ble_eq_true rfl, Nat.le_of_ble_eq_true rfl⟩)) [0, 1] [] rfl (by decide) rfl (by decide) xro_nil (List.mem_of_getElem? (i := 0) rfl) (ci := 9) rfl xT_bl (fun _ _ _ _ _ _ _ => trivial) rfl rfl dX10_showsDigits_14 rfl rfl (Nat.le_of_ble_eq_true rfl) (q := 17) rfl (k' := 0) rfl (n' := 0) rfl (by rw [hR]; exact ⟨Nat.le_of_ble_eq_true rfl, Nat.le_of_ble_eq_true rfl⟩) (fun v3 w3 hp3 => ?_)
      obtain ⟨rfl, rfl⟩ := hp3
      refine x_ws (ws' := [(mo, .inr (9, [.int (nI cols), .int (nI lc), .int (nI smp), .int (ky), .ref (mr 0), .ref (mr 1), .ref (mr 2), .ref (mr 3), .ref (mr 4), .ref (mr 5), .ref (mr 6), .ref (mr 7), .ref (mr 8), .ref (mr 9), .int (nI mk), .int (nI rs), .ref (mr 10), .ref (mr 11), .ref (mr 12), .ref (mr 13), .ref (mr 14), .ref (mr 15), .ref (mr 16), .ref (mr 17), .ref (mr 18), .ref (mr 19), .ref (mr 20), .int (nI nse), .int (nI npa), .int (nI nbo), .ref (mr 21), .int (nI tn), .ref (mr 22), .int (nI ik), .int (j0), .int (j1), .ref (mr 23), .int (j2), .ref (mr 24), .ref (mr 25), .int (j3), .ref (mr 26), .int (nI (n9 + (dgE (v / 10) 1 17 0 + 1))), .ref (mr 27), .ref (mr 28), .ref (mr 29), .ref (mr 30)])), (mr 26, .inl (cy 1, 24, .inl (fun k => nI ((dgF (v / 10) (dgE (v / 10) 1 17 0) sh9 n9 (dgE (v / 10) 1 17 0 + 1)) k))))]) rfl ?_
      refine x_aload_n C dX10_showsDigits_17 (q := 18) rfl rfl 0 rfl ?_
      refine x_bipush C dX10_showsDigits_18 (q := 20) rfl (v := nI 48) (by decide) ?_
      refine x_lload_n C dX10_showsDigits_20 (q := 21) rfl rfl 1 rfl ?_
      refine x_ldc2 C (v := lN 10) hw1 dX10_showsDigits_21 (q := 24) rfl ?_
      refine x_lrem C dX10_showsDigits_24 (q := 25) rfl (xl_ne0 (b := 10) rfl (by omega)) (z := lN (v % 10)) (pk_lRem (by omega) (by omega) (by omega)) ?_
      refine x_l2i C dX10_showsDigits_25 (q := 26) rfl (v := nI (v % 10)) (lN_i (v % 10)) ?_
      refine x_iadd C dX10_showsDigits_26 (q := 27) rfl (z := nI (48 + (v % 10))) (nI_add 48 (v % 10)) ?_
      refine x_callV C (roW := []) (roR := []) (c_X10_shows l D cy mo mr cols lc smp mk rs nse npa nbo tn ik ky j0 j1 j2 j3 (n9 + (dgE (v / 10) 1 17 0 + 1)) (dgF (v / 10) (dgE (v / 10) 1 17 0) sh9 n9 (dgE (v / 10) 1 17 0 + 1)) (48 + (v % 10)) (by first | assumption | omega | (simp only []; omega))) (cwV 1 C.2.2.2.2.1 gX10_showsDigits_X10_shows rfl rfl rfl (by decide +kernel) (by rw [hR]; exact ⟨Nat.le_of_ble_eq_true rfl, Nat.le_of_ble_eq_true rfl⟩)) [0, 1] [] rfl (by decide) rfl (by decide) xro_nil (List.mem_of_getElem? (i := 0) rfl) (ci := 9) rfl xT_bl (fun _ _ _ _ _ _ _ => trivial) rfl rfl dX10_showsDigits_27 rfl rfl (Nat.le_of_ble_eq_true rfl) (q := 30) rfl (k' := 0) rfl (n' := 0) rfl (by rw [hR]; exact ⟨Nat.le_of_ble_eq_true rfl, Nat.le_of_ble_eq_true rfl⟩) (fun v4 w4 hp4 => ?_)
      obtain ⟨rfl, rfl⟩ := hp4
      refine x_ws (ws' := [(mo, .inr (9, [.int (nI cols), .int (nI lc), .int (nI smp), .int (ky), .ref (mr 0), .ref (mr 1), .ref (mr 2), .ref (mr 3), .ref (mr 4), .ref (mr 5), .ref (mr 6), .ref (mr 7), .ref (mr 8), .ref (mr 9), .int (nI mk), .int (nI rs), .ref (mr 10), .ref (mr 11), .ref (mr 12), .ref (mr 13), .ref (mr 14), .ref (mr 15), .ref (mr 16), .ref (mr 17), .ref (mr 18), .ref (mr 19), .ref (mr 20), .int (nI nse), .int (nI npa), .int (nI nbo), .ref (mr 21), .int (nI tn), .ref (mr 22), .int (nI ik), .int (j0), .int (j1), .ref (mr 23), .int (j2), .ref (mr 24), .ref (mr 25), .int (j3), .ref (mr 26), .int (nI ((n9 + (dgE (v / 10) 1 17 0 + 1)) + 1)), .ref (mr 27), .ref (mr 28), .ref (mr 29), .ref (mr 30)])), (mr 26, .inl (cy 1, 24, .inl (fun k => nI ((va_up (dgF (v / 10) (dgE (v / 10) 1 17 0) sh9 n9 (dgE (v / 10) 1 17 0 + 1)) (n9 + (dgE (v / 10) 1 17 0 + 1)) (48 + (v % 10))) k))))]) rfl ?_
      refine x_vret C hA hQ hr dX10_showsDigits_30 (Nat.le_of_ble_eq_true rfl) ?_
      exact ⟨rfl, by rw [dg_ten (by omega) (by omega), hdt]; rfl⟩

set_option maxHeartbeats 600000 in
set_option maxRecDepth 100000 in
/-- bytes are shown -/
theorem c_X10_showsBytes (l : Launch) (D : va_G) (cy : Nat → ClassId) (mo : Nat) (mr : Nat → Nat) (cols : Nat) (lc : Nat) (smp : Nat) (mk : Nat) (rs : Nat) (nse : Nat) (npa : Nat) (nbo : Nat) (tn : Nat) (ik : Nat) (ky : Int32) (j0 : Int32) (j1 : Int32) (j2 : Int32) (j3 : Int32) (n9 : Nat) (sh9 : Nat → Nat) (by9 : Nat → Nat) (fr : Nat) (mn : Nat) (b : Nat → Nat) (hby : ∀ k, by9 k < 128) (hn9 : n9 + mn ≤ 24) (hfr : fr + mn ≤ 1440) (hb : ∀ j, j < mn → by9 (fr + j) = b j) : xMet l D cy xT yX10_showsBytes wsX10_showsBytes ({ frames := 2, cells := 0, slots := 0, locals := 200 } : Room) [.ref mo, .int (nI fr), .int (nI mn)] [(mo, .inr (9, [.int (nI cols), .int (nI lc), .int (nI smp), .int (ky), .ref (mr 0), .ref (mr 1), .ref (mr 2), .ref (mr 3), .ref (mr 4), .ref (mr 5), .ref (mr 6), .ref (mr 7), .ref (mr 8), .ref (mr 9), .int (nI mk), .int (nI rs), .ref (mr 10), .ref (mr 11), .ref (mr 12), .ref (mr 13), .ref (mr 14), .ref (mr 15), .ref (mr 16), .ref (mr 17), .ref (mr 18), .ref (mr 19), .ref (mr 20), .int (nI nse), .int (nI npa), .int (nI nbo), .ref (mr 21), .int (nI tn), .ref (mr 22), .int (nI ik), .int (j0), .int (j1), .ref (mr 23), .int (j2), .ref (mr 24), .ref (mr 25), .int (j3), .ref (mr 26), .int (nI n9), .ref (mr 27), .ref (mr 28), .ref (mr 29), .ref (mr 30)])), (mr 26, .inl (cy 1, 24, .inl (fun k => nI (sh9 k)))), (mr 4, .inl (cy 1, 1440, .inl (fun k => nI (by9 k))))] [] (fun (v9 : Option Value) (w9 : va_W) => (v9 = none ∧ w9 = [(mo, .inr (9, [.int (nI cols), .int (nI lc), .int (nI smp), .int (ky), .ref (mr 0), .ref (mr 1), .ref (mr 2), .ref (mr 3), .ref (mr 4), .ref (mr 5), .ref (mr 6), .ref (mr 7), .ref (mr 8), .ref (mr 9), .int (nI mk), .int (nI rs), .ref (mr 10), .ref (mr 11), .ref (mr 12), .ref (mr 13), .ref (mr 14), .ref (mr 15), .ref (mr 16), .ref (mr 17), .ref (mr 18), .ref (mr 19), .ref (mr 20), .int (nI nse), .int (nI npa), .int (nI nbo), .ref (mr 21), .int (nI tn), .ref (mr 22), .int (nI ik), .int (j0), .int (j1), .ref (mr 23), .int (j2), .ref (mr 24), .ref (mr 25), .int (j3), .ref (mr 26), .int (nI (n9 + mn)), .ref (mr 27), .ref (mr 28), .ref (mr 29), .ref (mr 30)])), (mr 26, .inl (cy 1, 24, .inl (fun k => nI ((cpF b sh9 n9 mn) k)))), (mr 4, .inl (cy 1, 1440, .inl (fun k => nI (by9 k))))])) := by
  refine xMet_of (cc := cX10_showsBytes) (maxL := 4) (ret := none) (by decide) rfl (Nat.le_of_ble_eq_true rfl) (fun p e s m args below meth c A R Q hA hR hQ C hr hnm hro hX => ?_)
  have hw0 : ∀ w ∈ u_ws RX10 TX10 47, w ∈ wsX10_showsBytes := by decide +kernel
  have hw1 : Cond.fieldLink RX10 31 (TX10 8).1 (TX10 8).2.1 (TX10 8).2.2.1 ∈ wsX10_showsBytes := by decide +kernel
  refine x_L (L' := [(0, .ref mo), (1, .int (nI fr)), (2, .int (nI mn))]) [0, 1, 2] rfl ?_
  refine x_iload_n C dX10_showsBytes_0 (q := 1) rfl rfl 1 rfl ?_
  refine x_istore_n C (L' := [(3, .int (nI fr)), (0, .ref mo), (1, .int (nI fr)), (2, .int (nI mn))]) dX10_showsBytes_1 (q := 2) rfl rfl (by decide) rfl ?_
  have cut2 : ∀ (fuel : Nat) (i : Nat) (kq : Nat) (nq : Nat) (sq : Nat → Nat), (i ≤ mn) → (kq = fr + i) → (nq = n9 + i) → (sq = cpF b sh9 n9 i) → mn - i < fuel → xG p l e R s m args below meth c Q D A 4 [(mo, .inr (9, [.int (nI cols), .int (nI lc), .int (nI smp), .int (ky), .ref (mr 0), .ref (mr 1), .ref (mr 2), .ref (mr 3), .ref (mr 4), .ref (mr 5), .ref (mr 6), .ref (mr 7), .ref (mr 8), .ref (mr 9), .int (nI mk), .int (nI rs), .ref (mr 10), .ref (mr 11), .ref (mr 12), .ref (mr 13), .ref (mr 14), .ref (mr 15), .ref (mr 16), .ref (mr 17), .ref (mr 18), .ref (mr 19), .ref (mr 20), .int (nI nse), .int (nI npa), .int (nI nbo), .ref (mr 21), .int (nI tn), .ref (mr 22), .int (nI ik), .int (j0), .int (j1), .ref (mr 23), .int (j2), .ref (mr 24), .ref (mr 25), .int (j3), .ref (mr 26), .int (nI nq), .ref (mr 27), .ref (mr 28), .ref (mr 29), .ref (mr 30)])), (mr 26, .inl (cy 1, 24, .inl (fun k => nI (sq k)))), (mr 4, .inl (cy 1, 1440, .inl (fun k => nI (by9 k))))] 0 0 2 [(0, .ref mo), (1, .int (nI fr)), (2, .int (nI mn)), (3, .int (nI kq))] [] := by
    intro fuel
    induction fuel with
    | zero =>
      intro i kq nq sq hi hk hnq hsq hmu
      exact absurd hmu (Nat.not_lt_zero _)
    | succ fuel ih =>
      intro i kq nq sq hi hk hnq hsq hmu
      have ih2 := ih
      clear ih
      refine x_iload_n C dX10_showsBytes_2 (q := 3) rfl rfl 3 rfl ?_
      refine x_iload_n C dX10_showsBytes_3 (q := 4) rfl rfl 1 rfl ?_
      refine x_iload_n C dX10_showsBytes_4 (q := 5) rfl rfl 2 rfl ?_
      refine x_iadd C dX10_showsBytes_5 (q := 6) rfl (z := nI (fr + mn)) (nI_add fr mn) ?_
      refine x_icmp_ge C (tgt := 25) dX10_showsBytes_6 (by decide) (q := 9) rfl (a := ((kq : Nat) : Int)) (b := ((fr + mn : Nat) : Int)) (nI_toInt (by omega)) (nI_toInt (by omega)) (fun h1 => ?_) (fun h1 => ?_)
      · first
        | (exfalso; omega)
        |
          refine x_vret C hA hQ hr dX10_showsBytes_25 (Nat.le_of_ble_eq_true rfl) ?_
          have e9 : i = mn := by omega
          exact ⟨rfl, by rw [hnq, hsq, e9]⟩
      · first
        | (exfalso; omega)
        |
          refine x_aload_n C dX10_showsBytes_9 (q := 10) rfl rfl 0 rfl ?_
          refine x_aload_n C dX10_showsBytes_10 (q := 11) rfl rfl 0 rfl ?_
          refine x_get C (ci := 9) (v := .ref (mr 4)) hw0 0 rfl rfl 8 (by decide) hw1 rfl dX10_showsBytes_11 (q := 14) rfl ?_
          refine x_iload_n C dX10_showsBytes_14 (q := 15) rfl rfl 3 rfl ?_
          have hb2 := hby kq
          refine x_iald C (j := kq) (v := nI (by9 kq)) 2 rfl (nI_toInt (by omega)) (by omega) rfl dX10_showsBytes_15 (q := 16) rfl ?_
          refine x_callV C (roW := []) (roR := []) (c_X10_shows l D cy mo mr cols lc smp mk rs nse npa nbo tn ik ky j0 j1 j2 j3 nq sq (by9 kq) (by first | assumption | omega | (simp only []; omega))) (cwV 1 C.2.2.2.2.1 gX10_showsBytes_X10_shows rfl rfl rfl (by decide +kernel) (by rw [hR]; exact ⟨Nat.le_of_ble_eq_true rfl, Nat.le_of_ble_eq_true rfl⟩)) [0, 1] [] rfl (by decide) rfl (by decide) xro_nil (List.mem_of_getElem? (i := 0) rfl) (ci := 9) rfl xT_bl (fun _ _ _ _ _ _ _ => trivial) rfl rfl dX10_showsBytes_16 rfl rfl (Nat.le_of_ble_eq_true rfl) (q := 19) rfl (k' := 0) rfl (n' := 0) rfl (by rw [hR]; exact ⟨Nat.le_of_ble_eq_true rfl, Nat.le_of_ble_eq_true rfl⟩) (fun v3 w3 hp3 => ?_)
          obtain ⟨rfl, rfl⟩ := hp3
          refine x_ws (ws' := [(mo, .inr (9, [.int (nI cols), .int (nI lc), .int (nI smp), .int (ky), .ref (mr 0), .ref (mr 1), .ref (mr 2), .ref (mr 3), .ref (mr 4), .ref (mr 5), .ref (mr 6), .ref (mr 7), .ref (mr 8), .ref (mr 9), .int (nI mk), .int (nI rs), .ref (mr 10), .ref (mr 11), .ref (mr 12), .ref (mr 13), .ref (mr 14), .ref (mr 15), .ref (mr 16), .ref (mr 17), .ref (mr 18), .ref (mr 19), .ref (mr 20), .int (nI nse), .int (nI npa), .int (nI nbo), .ref (mr 21), .int (nI tn), .ref (mr 22), .int (nI ik), .int (j0), .int (j1), .ref (mr 23), .int (j2), .ref (mr 24), .ref (mr 25), .int (j3), .ref (mr 26), .int (nI (nq + 1)), .ref (mr 27), .ref (mr 28), .ref (mr 29), .ref (mr 30)])), (mr 26, .inl (cy 1, 24, .inl (fun k => nI ((va_up sq nq (by9 kq)) k)))), (mr 4, .inl (cy 1, 1440, .inl (fun k => nI (by9 k))))]) rfl ?_
          refine x_iinc C (L' := [(3, .int (nI (kq + 1))), (0, .ref mo), (1, .int (nI fr)), (2, .int (nI mn))]) dX10_showsBytes_19 (q := 22) rfl 3 rfl (v := nI (kq + 1)) (nI_add kq 1) (by decide) rfl ?_
          refine x_goto C (tgt := 2) dX10_showsBytes_22 (by decide) ?_
          refine x_L (L' := [(0, .ref mo), (1, .int (nI fr)), (2, .int (nI mn)), (3, .int (nI (kq + 1)))]) [1, 2, 3, 0] rfl ?_
          exact ih2 (i + 1) (kq + 1) (nq + 1) (va_up sq nq (by9 kq)) (by first | omega | assumption) (by first | omega | assumption) (by first | omega | assumption) (by rw [hsq, hnq, hk, hb i (by omega)]; rfl) (by omega)
  refine x_L (L' := [(0, .ref mo), (1, .int (nI fr)), (2, .int (nI mn)), (3, .int (nI fr))]) [1, 2, 3, 0] rfl ?_
  exact cut2 (mn - 0 + 1) 0 fr n9 sh9 (by first | omega | assumption) (by first | omega | assumption) (by first | omega | assumption) (by rfl) (by omega)


theorem cpF_dg2 {b sh : Nat → Nat} {n p : Nat} (h0 : dg1 b p) (h1 : dg1 b (p + 1)) : cpF (fun j => b (p + j)) sh n 2 = dgF (numD b p 2) 1 sh n 2 := by
  obtain ⟨a0, a1⟩ := h0
  obtain ⟨c0, c1⟩ := h1
  have e : numD b p 2 = (b p - 48) * 10 + (b (p + 1) - 48) := by
    show (0 * 10 + (b (p + 0) - 48)) * 10 + (b (p + 1) - 48) = _
    simp only [Nat.add_zero, Nat.zero_mul, Nat.zero_add]
  show va_up (va_up sh (n + 0) (b (p + 0))) (n + 1) (b (p + 1)) = va_up (va_up sh (n + 0) (48 + numD b p 2 / 10 % 10)) (n + 1) (48 + numD b p 2 / 1 % 10)
  have g0 : 48 + numD b p 2 / 10 % 10 = b p := by rw [e]; omega
  have g1 : 48 + numD b p 2 / 1 % 10 = b (p + 1) := by rw [e]; omega
  rw [g0, g1]
  first | done | rfl
theorem cpF_dg4 {b sh : Nat → Nat} {n p : Nat} (h0 : dg1 b p) (h1 : dg1 b (p + 1)) (h2 : dg1 b (p + 2)) (h3 : dg1 b (p + 3)) : cpF (fun j => b (p + j)) sh n 4 = dgF (numD b p 4) 3 sh n 4 := by
  obtain ⟨a0, a1⟩ := h0
  obtain ⟨c0, c1⟩ := h1
  obtain ⟨d0, d1⟩ := h2
  obtain ⟨f0, f1⟩ := h3
  have e : numD b p 4 = (((b p - 48) * 10 + (b (p + 1) - 48)) * 10 + (b (p + 2) - 48)) * 10 + (b (p + 3) - 48) := by
    show (((0 * 10 + (b (p + 0) - 48)) * 10 + (b (p + 1) - 48)) * 10 + (b (p + 2) - 48)) * 10 + (b (p + 3) - 48) = _
    simp only [Nat.add_zero, Nat.zero_mul, Nat.zero_add]
  show va_up (va_up (va_up (va_up sh (n + 0) (b (p + 0))) (n + 1) (b (p + 1))) (n + 2) (b (p + 2))) (n + 3) (b (p + 3)) = va_up (va_up (va_up (va_up sh (n + 0) (48 + numD b p 4 / 1000 % 10)) (n + 1) (48 + numD b p 4 / 100 % 10)) (n + 2) (48 + numD b p 4 / 10 % 10)) (n + 3) (48 + numD b p 4 / 1 % 10)
  have g0 : 48 + numD b p 4 / 1000 % 10 = b p := by rw [e]; omega
  have g1 : 48 + numD b p 4 / 100 % 10 = b (p + 1) := by rw [e]; omega
  have g2 : 48 + numD b p 4 / 10 % 10 = b (p + 2) := by rw [e]; omega
  have g3 : 48 + numD b p 4 / 1 % 10 = b (p + 3) := by rw [e]; omega
  rw [g0, g1, g2, g3]
  first | done | rfl
theorem dgE_w {v wd m : Nat} (hw : wd = m + 1) (hv : v < p10 (m + 1)) : ∀ f k, k ≤ m → m ≤ k + f → dgE v wd f k = m
  | 0, k, h1, h2 => by
    have : k = m := by omega
    rw [this]
    rfl
  | f + 1, k, h1, h2 => by
    show (if k + 1 < wd ∨ p10 k * 10 ≤ v then dgE v wd f (k + 1) else k) = m
    by_cases c : k = m
    · subst c
      have : p10 (k + 1) = p10 k * 10 := rfl
      rw [if_neg (by omega)]
    · rw [if_pos (by omega)]
      exact dgE_w hw hv f (k + 1) (by omega) (by omega)
