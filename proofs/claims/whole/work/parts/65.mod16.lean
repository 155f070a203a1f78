
theorem tyS_s {st tl : Nat → Nat} {ld : LD} {c z : Nat} (h : 1 ≤ st c) : tyS st tl ld c z = st c := if_neg (by omega)
/-- a row that has a value: where it stands among the values -/
theorem gaN_y {ld : LD} {lr : Nat → Nat} {c k : Nat} (h : ¬ dFm ld (lr k) c = 0) : gaN ld lr c (k + 1) = gaN ld lr c k + 1 := if_neg h
theorem gaN_n {ld : LD} {lr : Nat → Nat} {c k : Nat} (h : dFm ld (lr k) c = 0) : gaN ld lr c (k + 1) = gaN ld lr c k := if_pos h
theorem gaN_mono {ld : LD} {lr : Nat → Nat} {c a : Nat} : ∀ {b : Nat}, a ≤ b → gaN ld lr c a ≤ gaN ld lr c b
  | 0, h => by
    have : a = 0 := by omega
    rw [this]
    exact Nat.le_refl _
  | b + 1, h => by
    rcases Nat.lt_or_ge a (b + 1) with z | z
    · have h1 := gaN_mono (ld := ld) (lr := lr) (c := c) (a := a) (b := b) (by omega)
      have h2 : gaN ld lr c b ≤ gaN ld lr c (b + 1) := by
        show _ ≤ if dFm ld (lr b) c = 0 then gaN ld lr c b else gaN ld lr c b + 1
        split <;> omega
      omega
    · have : a = b + 1 := by omega
      rw [this]
      exact Nat.le_refl _
theorem gaF_at {ld : LD} {lr : Nat → Nat} {ty c : Nat} {g : Nat → Int64} {r : Nat} (h : ¬ dFm ld (lr r) c = 0) : ∀ {m : Nat}, r < m → gaF ld lr ty c g m (gaN ld lr c r) = vlS ld ty (lr r) c
  | 0, hm => absurd hm (Nat.not_lt_zero r)
  | m + 1, hm => by
    show (if dFm ld (lr m) c = 0 then gaF ld lr ty c g m else va_up (gaF ld lr ty c g m) (gaN ld lr c m) (vlS ld ty (lr m) c)) (gaN ld lr c r) = _
    by_cases e : r = m
    · subst e
      rw [if_neg h, va_up_eq]
    · have h1 := gaF_at (ty := ty) (g := g) h (m := m) (by omega)
      split
      · exact h1
      · have h2 := gaN_mono (ld := ld) (lr := lr) (c := c) (a := r + 1) (b := m) (by omega)
        rw [gaN_y h] at h2
        rw [va_up_ne' (by omega)]
        exact h1
theorem leS_1 (g : Nat → Int64) : leS g 1 = g 0 := by
  show (if g 0 < 9223372036854775807 then g 0 else 9223372036854775807) = g 0
  split
  · rfl
  · rename_i z
    have z2 : ¬ (g 0).toInt < (9223372036854775807 : Int64).toInt := fun q => z (Int64.lt_iff_toInt_lt.mpr q)
    have h0 : (9223372036854775807 : Int64).toInt = 9223372036854775807 := rfl
    have h1 := (g 0).toInt_lt
    exact Int64.toInt_inj.mp (by omega)
theorem grS_1 (g : Nat → Int64) : grS g 1 = g 0 := by
  show (if g 0 < -9223372036854775808 then -9223372036854775808 else g 0) = g 0
  split
  · rename_i z
    have z2 := Int64.lt_iff_toInt_lt.mp z
    have h0 : (-9223372036854775808 : Int64).toInt = -9223372036854775808 := rfl
    have h1 := (g 0).le_toInt
    omega
  · rfl
theorem leS_y {g : Nat → Int64} {n : Nat} (h : (g n).toInt < (leS g n).toInt) : leS g (n + 1) = g n := if_pos (Int64.lt_iff_toInt_lt.mpr h)
theorem leS_n {g : Nat → Int64} {n : Nat} (h : ¬ (g n).toInt < (leS g n).toInt) : leS g (n + 1) = leS g n := if_neg (fun z => h (Int64.lt_iff_toInt_lt.mp z))
theorem grS_y {g : Nat → Int64} {n : Nat} (h : (grS g n).toInt < (g n).toInt) : grS g (n + 1) = g n := if_neg (fun z => by have := Int64.lt_iff_toInt_lt.mp z; omega)
theorem grS_n {g : Nat → Int64} {n : Nat} (h : ¬ (grS g n).toInt < (g n).toInt) : grS g (n + 1) = grS g n := by
  show (if g n < grS g n then grS g n else g n) = _
  split
  · rfl
  · rename_i z
    have z2 : ¬ (g n).toInt < (grS g n).toInt := fun q => z (Int64.lt_iff_toInt_lt.mpr q)
    exact Int64.toInt_inj.mp (by omega)
theorem nwS_mono {g : Nat → Int64} {i j : Nat} (h : nwS g i j = 0) : ∀ {k : Nat}, j ≤ k → nwS g i k = 0
  | 0, hk => by
    have : j = 0 := by omega
    subst this
    exact h
  | k + 1, hk => by
    by_cases e : j = k + 1
    · rw [← e]; exact h
    · have := nwS_mono h (k := k) (by omega)
      unfold nwS
      split
      · rfl
      · exact this
theorem nwS_y {g : Nat → Int64} {i j : Nat} (h : (g j).toInt = (g i).toInt) : nwS g i (j + 1) = 0 := if_pos h
theorem nwS_n {g : Nat → Int64} {i j : Nat} (h : ¬ (g j).toInt = (g i).toInt) : nwS g i (j + 1) = nwS g i j := if_neg h
theorem smS_b {g : Nat → Int64} : ∀ n, n ≤ 24 → (∀ j, j < n → (g j).toInt.natAbs < 1000000000) → (smS g n).toInt.natAbs ≤ n * 1000000000
  | 0, _, _ => Nat.zero_le _
  | n + 1, hn, h => by
    have h1 := smS_b n (by omega) (fun j hj => h j (by omega))
    have h2 := h n (by omega)
    have e : (smS g (n + 1)).toInt = (smS g n).toInt + (g n).toInt := xl_addI rfl rfl (by omega) (by omega)
    rw [e]
    omega
theorem xl_abs2 {x : Int64} (h : x.toInt.natAbs < 4000000000000000000) : (if 0 < x then x else -x) = lN x.toInt.natAbs := by
  have h1 : (lN x.toInt.natAbs).toInt = (x.toInt.natAbs : Int) := pk_lT (by omega)
  refine Int64.toInt_inj.mp ?_
  rw [h1]
  split
  · rename_i z
    have := Int64.lt_iff_toInt_lt.mp z
    have h0 : (0 : Int64).toInt = 0 := rfl
    omega
  · rename_i z
    have z2 : ¬ (0 : Int64).toInt < x.toInt := fun q => z (Int64.lt_iff_toInt_lt.mpr q)
    have h0 : (0 : Int64).toInt = 0 := rfl
    rw [Int64.toInt_neg, Int.bmod_eq_of_le (by omega) (by omega)]
    omega
theorem gcd_step {x y : Nat} : Nat.gcd y (x % y) = Nat.gcd x y := by
  rw [Nat.gcd_comm y (x % y), ← Nat.gcd_rec, Nat.gcd_comm]

set_option maxHeartbeats 4000000 in
set_option maxRecDepth 100000 in
/-- hasValue -/
theorem c_X10_hasValue (l : Launch) (D : va_G) (cy : Nat → ClassId) (mo : Nat) (mr : Nat → Nat) (cols : Nat) (lc : Nat) (smp : Nat) (nse : Nat) (npa : Nat) (nbo : Nat) (tn : Nat) (ik : Nat) (ky : Int32) (j0 : Int32) (j1 : Int32) (j2 : Int32) (j3 : Int32) (j4 : Int32) (P : PS) (fn : Nat → Nat) (fo : Nat → Nat) (ex : Nat → Int64) (wo : Nat → Int64) (st9 : Nat → Nat) (lr9 : Nat → Nat) (rl9 : Nat → Int32) (fa9 : Nat → Int32) (ca9 : Nat → Int32) (dc9 : Nat → Int32) (ld : LD) (x : Int32) (y : Int32) (hml : MdL ld lc fn fo ex wo) (hfo4 : ∀ q, fo q ≤ 4) (hfn : ∀ q, fn q ≤ 61) (hlc : lc ≤ 24) (hF : InvF ld cols lc P) (hmp : MdP cols P st9 lr9 rl9 fa9 ca9 dc9) (hcols : cols ≤ 5) (hlr9 : ∀ k, lr9 k < 24) (hst9 : ∀ k, st9 k ≤ 4) : xMet l D cy xT yX10_hasValue wsX10_hasValue ({ frames := 4, cells := 0, slots := 0, locals := 500 } : Room) [.ref mo, .int (x), .int (y)] [(mo, .inr (9, [.int (nI cols), .int (nI lc), .int (nI smp), .int (ky), .ref (mr 0), .ref (mr 1), .ref (mr 2), .ref (mr 3), .ref (mr 4), .ref (mr 5), .ref (mr 6), .ref (mr 7), .ref (mr 8), .ref (mr 9), .int (nI (pMk P)), .int (nI (pRs P)), .ref (mr 10), .ref (mr 11), .ref (mr 12), .ref (mr 13), .ref (mr 14), .ref (mr 15), .ref (mr 16), .ref (mr 17), .ref (mr 18), .ref (mr 19), .ref (mr 20), .int (nI nse), .int (nI npa), .int (nI nbo), .ref (mr 21), .int (nI tn), .ref (mr 22), .int (nI ik), .int (j0), .int (j1), .ref (mr 23), .int (j2), .ref (mr 24), .ref (mr 25), .int (j3), .ref (mr 26), .int (j4), .ref (mr 27), .ref (mr 28), .ref (mr 29), .ref (mr 30)])), (mr 10, .inl (cy 1, 24, .inl (fun k => nI (lr9 k)))), (mr 3, .inl (cy 1, 5, .inl (fun k => nI (st9 k)))), (mr 6, .inl (cy 1, 24, .inl (fun k => nI (fn k)))), (mr 7, .inl (cy 1, 120, .inl (fun k => nI (fo k)))), (mr 8, .inl (cy 2, 120, .inr (.inl ex))), (mr 9, .inl (cy 2, 120, .inr (.inl wo)))] [] (fun (v9 : Option Value) (w9 : va_W) => (v9 = some (.int (nI 1)) ∧ w9 = [(mo, .inr (9, [.int (nI cols), .int (nI lc), .int (nI smp), .int (ky), .ref (mr 0), .ref (mr 1), .ref (mr 2), .ref (mr 3), .ref (mr 4), .ref (mr 5), .ref (mr 6), .ref (mr 7), .ref (mr 8), .ref (mr 9), .int (nI (pMk P)), .int (nI (pRs P)), .ref (mr 10), .ref (mr 11), .ref (mr 12), .ref (mr 13), .ref (mr 14), .ref (mr 15), .ref (mr 16), .ref (mr 17), .ref (mr 18), .ref (mr 19), .ref (mr 20), .int (nI nse), .int (nI npa), .int (nI nbo), .ref (mr 21), .int (nI tn), .ref (mr 22), .int (nI ik), .int (j0), .int (j1), .ref (mr 23), .int (j2), .ref (mr 24), .ref (mr 25), .int (j3), .ref (mr 26), .int (j4), .ref (mr 27), .ref (mr 28), .ref (mr 29), .ref (mr 30)])), (mr 10, .inl (cy 1, 24, .inl (fun k => nI (lr9 k)))), (mr 3, .inl (cy 1, 5, .inl (fun k => nI (st9 k)))), (mr 6, .inl (cy 1, 24, .inl (fun k => nI (fn k)))), (mr 7, .inl (cy 1, 120, .inl (fun k => nI (fo k)))), (mr 8, .inl (cy 2, 120, .inr (.inl ex))), (mr 9, .inl (cy 2, 120, .inr (.inl wo)))] ∧ hasV ld cols P x.toInt y.toInt) ∨ (v9 = some (.int (nI 0)) ∧ w9 = [(mo, .inr (9, [.int (nI cols), .int (nI lc), .int (nI smp), .int (ky), .ref (mr 0), .ref (mr 1), .ref (mr 2), .ref (mr 3), .ref (mr 4), .ref (mr 5), .ref (mr 6), .ref (mr 7), .ref (mr 8), .ref (mr 9), .int (nI (pMk P)), .int (nI (pRs P)), .ref (mr 10), .ref (mr 11), .ref (mr 12), .ref (mr 13), .ref (mr 14), .ref (mr 15), .ref (mr 16), .ref (mr 17), .ref (mr 18), .ref (mr 19), .ref (mr 20), .int (nI nse), .int (nI npa), .int (nI nbo), .ref (mr 21), .int (nI tn), .ref (mr 22), .int (nI ik), .int (j0), .int (j1), .ref (mr 23), .int (j2), .ref (mr 24), .ref (mr 25), .int (j3), .ref (mr 26), .int (j4), .ref (mr 27), .ref (mr 28), .ref (mr 29), .ref (mr 30)])), (mr 10, .inl (cy 1, 24, .inl (fun k => nI (lr9 k)))), (mr 3, .inl (cy 1, 5, .inl (fun k => nI (st9 k)))), (mr 6, .inl (cy 1, 24, .inl (fun k => nI (fn k)))), (mr 7, .inl (cy 1, 120, .inl (fun k => nI (fo k)))), (mr 8, .inl (cy 2, 120, .inr (.inl ex))), (mr 9, .inl (cy 2, 120, .inr (.inl wo)))] ∧ ¬ hasV ld cols P x.toInt y.toInt)) := by
  refine xMet_of (cc := cX10_hasValue) (maxL := 3) (ret := (some .boolean)) (by decide) rfl (Nat.le_of_ble_eq_true rfl) (fun p e s m args below meth c A R Q hA hR hQ C hr hnm hro hX => ?_)
  have hw0 : ∀ w ∈ u_ws RX10 TX10 47, w ∈ wsX10_hasValue := by decide +kernel
  have hw1 : Cond.fieldLink RX10 50 (TX10 16).1 (TX10 16).2.1 (TX10 16).2.2.1 ∈ wsX10_hasValue := by decide +kernel
  refine x_L (L' := [(0, .ref mo), (1, .int (x)), (2, .int (y))]) [0, 1, 2] rfl ?_
  have hIP := hF.1
  have hP1 := hIP.1
  have hP2 := hIP.2.1
  refine x_aload_n C dX10_hasValue_0 (q := 1) rfl rfl 0 rfl ?_
  refine x_iload_n C dX10_hasValue_1 (q := 2) rfl rfl 1 rfl ?_
  refine x_callV C (roW := []) (roR := []) (c_X10_isRow l D cy mo mr cols lc smp (pMk P) (pRs P) nse npa nbo tn ik ky j0 j1 j2 j3 j4 x (by first | assumption | omega | (simp only []; omega))) (cwV 1 C.2.2.2.2.1 gX10_hasValue_X10_isRow rfl rfl rfl (by decide +kernel) (by rw [hR]; exact ⟨Nat.le_of_ble_eq_true rfl, Nat.le_of_ble_eq_true rfl⟩)) [0] [] rfl (by decide) rfl (by decide) xro_nil (List.mem_of_getElem? (i := 0) rfl) (ci := 9) rfl xT_bl (fun _ _ _ _ _ _ _ => trivial) rfl rfl dX10_hasValue_2 rfl rfl (Nat.le_of_ble_eq_true rfl) (q := 5) rfl (k' := 0) rfl (n' := 0) rfl (by rw [hR]; exact ⟨Nat.le_of_ble_eq_true rfl, Nat.le_of_ble_eq_true rfl⟩) (fun v1 w1 hp1 => ?_)
  rcases hp1 with hp1 | hp1
  · skip
    obtain ⟨rfl, rfl, hc2, hc3⟩ := hp1
    refine x_ws (ws' := [(mo, .inr (9, [.int (nI cols), .int (nI lc), .int (nI smp), .int (ky), .ref (mr 0), .ref (mr 1), .ref (mr 2), .ref (mr 3), .ref (mr 4), .ref (mr 5), .ref (mr 6), .ref (mr 7), .ref (mr 8), .ref (mr 9), .int (nI (pMk P)), .int (nI (pRs P)), .ref (mr 10), .ref (mr 11), .ref (mr 12), .ref (mr 13), .ref (mr 14), .ref (mr 15), .ref (mr 16), .ref (mr 17), .ref (mr 18), .ref (mr 19), .ref (mr 20), .int (nI nse), .int (nI npa), .int (nI nbo), .ref (mr 21), .int (nI tn), .ref (mr 22), .int (nI ik), .int (j0), .int (j1), .ref (mr 23), .int (j2), .ref (mr 24), .ref (mr 25), .int (j3), .ref (mr 26), .int (j4), .ref (mr 27), .ref (mr 28), .ref (mr 29), .ref (mr 30)])), (mr 10, .inl (cy 1, 24, .inl (fun k => nI (lr9 k)))), (mr 3, .inl (cy 1, 5, .inl (fun k => nI (st9 k)))), (mr 6, .inl (cy 1, 24, .inl (fun k => nI (fn k)))), (mr 7, .inl (cy 1, 120, .inl (fun k => nI (fo k)))), (mr 8, .inl (cy 2, 120, .inr (.inl ex))), (mr 9, .inl (cy 2, 120, .inr (.inl wo)))]) rfl ?_
    refine x_if_eq C (tgt := 34) dX10_hasValue_5 (by decide) (q := 8) rfl (a := 1) rfl (fun h4 => (by omega : False).elim) (fun h4 => ?_)
    refine x_aload_n C dX10_hasValue_8 (q := 9) rfl rfl 0 rfl ?_
    refine x_iload_n C dX10_hasValue_9 (q := 10) rfl rfl 2 rfl ?_
    refine x_callV C (roW := []) (roR := []) (c_X10_isColumn l D cy mo mr cols lc smp (pMk P) (pRs P) nse npa nbo tn ik ky j0 j1 j2 j3 j4 y (by first | assumption | omega | (simp only []; omega))) (cwV 1 C.2.2.2.2.1 gX10_hasValue_X10_isColumn rfl rfl rfl (by decide +kernel) (by rw [hR]; exact ⟨Nat.le_of_ble_eq_true rfl, Nat.le_of_ble_eq_true rfl⟩)) [0] [] rfl (by decide) rfl (by decide) xro_nil (List.mem_of_getElem? (i := 0) rfl) (ci := 9) rfl xT_bl (fun _ _ _ _ _ _ _ => trivial) rfl rfl dX10_hasValue_10 rfl rfl (Nat.le_of_ble_eq_true rfl) (q := 13) rfl (k' := 0) rfl (n' := 0) rfl (by rw [hR]; exact ⟨Nat.le_of_ble_eq_true rfl, Nat.le_of_ble_eq_true rfl⟩) (fun v5 w5 hp5 => ?_)
    rcases hp5 with hp5 | hp5
    · skip
      obtain ⟨rfl, rfl, hc6, hc7⟩ := hp5
      refine x_ws (ws' := [(mo, .inr (9, [.int (nI cols), .int (nI lc), .int (nI smp), .int (ky), .ref (mr 0), .ref (mr 1), .ref (mr 2), .ref (mr 3), .ref (mr 4), .ref (mr 5), .ref (mr 6), .ref (mr 7), .ref (mr 8), .ref (mr 9), .int (nI (pMk P)), .int (nI (pRs P)), .ref (mr 10), .ref (mr 11), .ref (mr 12), .ref (mr 13), .ref (mr 14), .ref (mr 15), .ref (mr 16), .ref (mr 17), .ref (mr 18), .ref (mr 19), .ref (mr 20), .int (nI nse), .int (nI npa), .int (nI nbo), .ref (mr 21), .int (nI tn), .ref (mr 22), .int (nI ik), .int (j0), .int (j1), .ref (mr 23), .int (j2), .ref (mr 24), .ref (mr 25), .int (j3), .ref (mr 26), .int (j4), .ref (mr 27), .ref (mr 28), .ref (mr 29), .ref (mr 30)])), (mr 10, .inl (cy 1, 24, .inl (fun k => nI (lr9 k)))), (mr 3, .inl (cy 1, 5, .inl (fun k => nI (st9 k)))), (mr 6, .inl (cy 1, 24, .inl (fun k => nI (fn k)))), (mr 7, .inl (cy 1, 120, .inl (fun k => nI (fo k)))), (mr 8, .inl (cy 2, 120, .inr (.inl ex))), (mr 9, .inl (cy 2, 120, .inr (.inl wo)))]) rfl ?_
      refine x_if_eq C (tgt := 34) dX10_hasValue_13 (by decide) (q := 16) rfl (a := 1) rfl (fun h8 => (by omega : False).elim) (fun h8 => ?_)
      refine x_aload_n C dX10_hasValue_16 (q := 17) rfl rfl 0 rfl ?_
      refine x_aload_n C dX10_hasValue_17 (q := 18) rfl rfl 0 rfl ?_
      refine x_get C (ci := 9) (v := .ref (mr 10)) hw0 0 rfl rfl 16 (by decide) hw1 rfl dX10_hasValue_18 (q := 21) rfl ?_
      refine x_iload_n C dX10_hasValue_21 (q := 22) rfl rfl 1 rfl ?_
      have hlr := hmp.1.2.1 x.toInt.toNat (by omega)
      have hlv := hIP.2.2.1 x.toInt.toNat (by omega)
      have hl24 := hlr9 x.toInt.toNat
      have hb9 := hlr9 x.toInt.toNat
      refine x_iald C (j := x.toInt.toNat) (v := nI (lr9 x.toInt.toNat)) 1 rfl (by have h9 := (rfl : (x : Int32).toInt = x.toInt); omega) (by omega) rfl dX10_hasValue_22 (q := 23) rfl ?_
      refine x_iload_n C dX10_hasValue_23 (q := 24) rfl rfl 2 rfl ?_
      have hfor : fo (5 * (lr9 x.toInt.toNat) + y.toInt.toNat) = dFm ld (pLr P x.toInt.toNat) y.toInt.toNat := (by rw [hlr]; exact ((hml _ hlv.1).2.2 y.toInt.toNat (by omega) (by rw [hlv.2]; omega)).1)
      have hf49 := hfo4 (5 * (lr9 x.toInt.toNat) + y.toInt.toNat)
      refine x_st (st' := [.int (nI y.toInt.toNat), .int (nI (lr9 x.toInt.toNat)), .ref mo]) (congrArg (fun z9 => ([.int z9, .int (nI (lr9 x.toInt.toNat)), .ref mo] : List Value)) (xi_nat (by omega))) ?_
      refine x_callV C (roW := []) (roR := []) (c_X10_formOf l D cy mo mr cols lc smp (pMk P) (pRs P) nse npa nbo tn ik ky j0 j1 j2 j3 j4 fo (lr9 x.toInt.toNat) y.toInt.toNat (by first | assumption | omega | (simp only []; omega)) (by first | assumption | omega | (simp only []; omega))) (cwV 2 C.2.2.2.2.1 gX10_hasValue_X10_formOf rfl rfl rfl (by decide +kernel) (by rw [hR]; exact ⟨Nat.le_of_ble_eq_true rfl, Nat.le_of_ble_eq_true rfl⟩)) [0, 4] [] rfl (by decide) rfl (by decide) xro_nil (List.mem_of_getElem? (i := 0) rfl) (ci := 9) rfl xT_bl (fun _ _ _ _ _ _ _ => trivial) rfl rfl dX10_hasValue_24 rfl rfl (Nat.le_of_ble_eq_true rfl) (q := 27) rfl (k' := 0) rfl (n' := 0) rfl (by rw [hR]; exact ⟨Nat.le_of_ble_eq_true rfl, Nat.le_of_ble_eq_true rfl⟩) (fun v10 w10 hp10 => ?_)
      obtain ⟨rfl, rfl⟩ := hp10
      refine x_ws (ws' := [(mo, .inr (9, [.int (nI cols), .int (nI lc), .int (nI smp), .int (ky), .ref (mr 0), .ref (mr 1), .ref (mr 2), .ref (mr 3), .ref (mr 4), .ref (mr 5), .ref (mr 6), .ref (mr 7), .ref (mr 8), .ref (mr 9), .int (nI (pMk P)), .int (nI (pRs P)), .ref (mr 10), .ref (mr 11), .ref (mr 12), .ref (mr 13), .ref (mr 14), .ref (mr 15), .ref (mr 16), .ref (mr 17), .ref (mr 18), .ref (mr 19), .ref (mr 20), .int (nI nse), .int (nI npa), .int (nI nbo), .ref (mr 21), .int (nI tn), .ref (mr 22), .int (nI ik), .int (j0), .int (j1), .ref (mr 23), .int (j2), .ref (mr 24), .ref (mr 25), .int (j3), .ref (mr 26), .int (j4), .ref (mr 27), .ref (mr 28), .ref (mr 29), .ref (mr 30)])), (mr 10, .inl (cy 1, 24, .inl (fun k => nI (lr9 k)))), (mr 3, .inl (cy 1, 5, .inl (fun k => nI (st9 k)))), (mr 6, .inl (cy 1, 24, .inl (fun k => nI (fn k)))), (mr 7, .inl (cy 1, 120, .inl (fun k => nI (fo k)))), (mr 8, .inl (cy 2, 120, .inr (.inl ex))), (mr 9, .inl (cy 2, 120, .inr (.inl wo)))]) rfl ?_
      refine x_if_eq C (tgt := 34) dX10_hasValue_27 (by decide) (q := 30) rfl (a := ((fo (5 * (lr9 x.toInt.toNat) + y.toInt.toNat) : Nat) : Int)) (nI_toInt (by omega)) (fun h11 => ?_) (fun h11 => ?_)
      · first
        | (exfalso; omega)
        |
          refine x_iconst C dX10_hasValue_34 (q := 35) rfl (v := nI 0) (by decide) ?_
          refine x_zret C hA hQ hr (ty := .boolean) (by first | rfl | assumption | exact xz_nar _) dX10_hasValue_35 (Nat.le_of_ble_eq_true rfl) ?_
          first | exact Or.inl ⟨rfl, rfl, by omega, by omega, by omega, by omega, by omega⟩ | exact Or.inr ⟨rfl, rfl, fun z => by have z1 := z.1; have z2 := z.2.1; have z3 := z.2.2.1; have z4 := z.2.2.2.1; have z5 := z.2.2.2.2; omega⟩
      · first
        | (exfalso; omega)
        |
          refine x_iconst C dX10_hasValue_30 (q := 31) rfl (v := nI 1) (by decide) ?_
          refine x_goto C (tgt := 35) dX10_hasValue_31 (by decide) ?_
          refine x_zret C hA hQ hr (ty := .boolean) (by first | rfl | assumption | exact xz_nar _) dX10_hasValue_35 (Nat.le_of_ble_eq_true rfl) ?_
          first | exact Or.inl ⟨rfl, rfl, by omega, by omega, by omega, by omega, by omega⟩ | exact Or.inr ⟨rfl, rfl, fun z => by have z1 := z.1; have z2 := z.2.1; have z3 := z.2.2.1; have z4 := z.2.2.2.1; have z5 := z.2.2.2.2; omega⟩
    · skip
      obtain ⟨rfl, rfl, hc12⟩ := hp5
      refine x_ws (ws' := [(mo, .inr (9, [.int (nI cols), .int (nI lc), .int (nI smp), .int (ky), .ref (mr 0), .ref (mr 1), .ref (mr 2), .ref (mr 3), .ref (mr 4), .ref (mr 5), .ref (mr 6), .ref (mr 7), .ref (mr 8), .ref (mr 9), .int (nI (pMk P)), .int (nI (pRs P)), .ref (mr 10), .ref (mr 11), .ref (mr 12), .ref (mr 13), .ref (mr 14), .ref (mr 15), .ref (mr 16), .ref (mr 17), .ref (mr 18), .ref (mr 19), .ref (mr 20), .int (nI nse), .int (nI npa), .int (nI nbo), .ref (mr 21), .int (nI tn), .ref (mr 22), .int (nI ik), .int (j0), .int (j1), .ref (mr 23), .int (j2), .ref (mr 24), .ref (mr 25), .int (j3), .ref (mr 26), .int (j4), .ref (mr 27), .ref (mr 28), .ref (mr 29), .ref (mr 30)])), (mr 10, .inl (cy 1, 24, .inl (fun k => nI (lr9 k)))), (mr 3, .inl (cy 1, 5, .inl (fun k => nI (st9 k)))), (mr 6, .inl (cy 1, 24, .inl (fun k => nI (fn k)))), (mr 7, .inl (cy 1, 120, .inl (fun k => nI (fo k)))), (mr 8, .inl (cy 2, 120, .inr (.inl ex))), (mr 9, .inl (cy 2, 120, .inr (.inl wo)))]) rfl ?_
      refine x_if_eq C (tgt := 34) dX10_hasValue_13 (by decide) (q := 16) rfl (a := 0) rfl (fun h13 => ?_) (fun h13 => (by omega : False).elim)
      refine x_iconst C dX10_hasValue_34 (q := 35) rfl (v := nI 0) (by decide) ?_
      refine x_zret C hA hQ hr (ty := .boolean) (by first | rfl | assumption | exact xz_nar _) dX10_hasValue_35 (Nat.le_of_ble_eq_true rfl) ?_
      first | exact Or.inl ⟨rfl, rfl, by omega, by omega, by omega, by omega, by omega⟩ | exact Or.inr ⟨rfl, rfl, fun z => by have z1 := z.1; have z2 := z.2.1; have z3 := z.2.2.1; have z4 := z.2.2.2.1; have z5 := z.2.2.2.2; omega⟩
  · skip
    obtain ⟨rfl, rfl, hc14⟩ := hp1
    refine x_ws (ws' := [(mo, .inr (9, [.int (nI cols), .int (nI lc), .int (nI smp), .int (ky), .ref (mr 0), .ref (mr 1), .ref (mr 2), .ref (mr 3), .ref (mr 4), .ref (mr 5), .ref (mr 6), .ref (mr 7), .ref (mr 8), .ref (mr 9), .int (nI (pMk P)), .int (nI (pRs P)), .ref (mr 10), .ref (mr 11), .ref (mr 12), .ref (mr 13), .ref (mr 14), .ref (mr 15), .ref (mr 16), .ref (mr 17), .ref (mr 18), .ref (mr 19), .ref (mr 20), .int (nI nse), .int (nI npa), .int (nI nbo), .ref (mr 21), .int (nI tn), .ref (mr 22), .int (nI ik), .int (j0), .int (j1), .ref (mr 23), .int (j2), .ref (mr 24), .ref (mr 25), .int (j3), .ref (mr 26), .int (j4), .ref (mr 27), .ref (mr 28), .ref (mr 29), .ref (mr 30)])), (mr 10, .inl (cy 1, 24, .inl (fun k => nI (lr9 k)))), (mr 3, .inl (cy 1, 5, .inl (fun k => nI (st9 k)))), (mr 6, .inl (cy 1, 24, .inl (fun k => nI (fn k)))), (mr 7, .inl (cy 1, 120, .inl (fun k => nI (fo k)))), (mr 8, .inl (cy 2, 120, .inr (.inl ex))), (mr 9, .inl (cy 2, 120, .inr (.inl wo)))]) rfl ?_
    refine x_if_eq C (tgt := 34) dX10_hasValue_5 (by decide) (q := 8) rfl (a := 0) rfl (fun h15 => ?_) (fun h15 => (by omega : False).elim)
    refine x_iconst C dX10_hasValue_34 (q := 35) rfl (v := nI 0) (by decide) ?_
    refine x_zret C hA hQ hr (ty := .boolean) (by first | rfl | assumption | exact xz_nar _) dX10_hasValue_35 (Nat.le_of_ble_eq_true rfl) ?_
    first | exact Or.inl ⟨rfl, rfl, by omega, by omega, by omega, by omega, by omega⟩ | exact Or.inr ⟨rfl, rfl, fun z => by have z1 := z.1; have z2 := z.2.1; have z3 := z.2.2.1; have z4 := z.2.2.2.1; have z5 := z.2.2.2.2; omega⟩

set_option maxHeartbeats 4000000 in
set_option maxRecDepth 100000 in
/-- hasValue -/
theorem c_X10_hasValue_n (l : Launch) (D : va_G) (cy : Nat → ClassId) (mo : Nat) (mr : Nat → Nat) (cols : Nat) (lc : Nat) (smp : Nat) (nse : Nat) (npa : Nat) (nbo : Nat) (tn : Nat) (ik : Nat) (ky : Int32) (j0 : Int32) (j1 : Int32) (j2 : Int32) (j3 : Int32) (j4 : Int32) (P : PS) (fn : Nat → Nat) (fo : Nat → Nat) (ex : Nat → Int64) (wo : Nat → Int64) (st9 : Nat → Nat) (lr9 : Nat → Nat) (rl9 : Nat → Int32) (fa9 : Nat → Int32) (ca9 : Nat → Int32) (dc9 : Nat → Int32) (ld : LD) (r9 : Nat) (y : Int32) (hml : MdL ld lc fn fo ex wo) (hfo4 : ∀ q, fo q ≤ 4) (hfn : ∀ q, fn q ≤ 61) (hlc : lc ≤ 24) (hF : InvF ld cols lc P) (hmp : MdP cols P st9 lr9 rl9 fa9 ca9 dc9) (hcols : cols ≤ 5) (hlr9 : ∀ k, lr9 k < 24) (hst9 : ∀ k, st9 k ≤ 4) (hr9 : r9 < pRs P) (hy0 : 0 ≤ y.toInt) (hy1 : y.toInt < cols) : xMet l D cy xT yX10_hasValue wsX10_hasValue ({ frames := 4, cells := 0, slots := 0, locals := 500 } : Room) [.ref mo, .int (nI r9), .int (y)] [(mo, .inr (9, [.int (nI cols), .int (nI lc), .int (nI smp), .int (ky), .ref (mr 0), .ref (mr 1), .ref (mr 2), .ref (mr 3), .ref (mr 4), .ref (mr 5), .ref (mr 6), .ref (mr 7), .ref (mr 8), .ref (mr 9), .int (nI (pMk P)), .int (nI (pRs P)), .ref (mr 10), .ref (mr 11), .ref (mr 12), .ref (mr 13), .ref (mr 14), .ref (mr 15), .ref (mr 16), .ref (mr 17), .ref (mr 18), .ref (mr 19), .ref (mr 20), .int (nI nse), .int (nI npa), .int (nI nbo), .ref (mr 21), .int (nI tn), .ref (mr 22), .int (nI ik), .int (j0), .int (j1), .ref (mr 23), .int (j2), .ref (mr 24), .ref (mr 25), .int (j3), .ref (mr 26), .int (j4), .ref (mr 27), .ref (mr 28), .ref (mr 29), .ref (mr 30)])), (mr 10, .inl (cy 1, 24, .inl (fun k => nI (lr9 k)))), (mr 3, .inl (cy 1, 5, .inl (fun k => nI (st9 k)))), (mr 6, .inl (cy 1, 24, .inl (fun k => nI (fn k)))), (mr 7, .inl (cy 1, 120, .inl (fun k => nI (fo k)))), (mr 8, .inl (cy 2, 120, .inr (.inl ex))), (mr 9, .inl (cy 2, 120, .inr (.inl wo)))] [] (fun (v9 : Option Value) (w9 : va_W) => (v9 = some (.int (nI 1)) ∧ w9 = [(mo, .inr (9, [.int (nI cols), .int (nI lc), .int (nI smp), .int (ky), .ref (mr 0), .ref (mr 1), .ref (mr 2), .ref (mr 3), .ref (mr 4), .ref (mr 5), .ref (mr 6), .ref (mr 7), .ref (mr 8), .ref (mr 9), .int (nI (pMk P)), .int (nI (pRs P)), .ref (mr 10), .ref (mr 11), .ref (mr 12), .ref (mr 13), .ref (mr 14), .ref (mr 15), .ref (mr 16), .ref (mr 17), .ref (mr 18), .ref (mr 19), .ref (mr 20), .int (nI nse), .int (nI npa), .int (nI nbo), .ref (mr 21), .int (nI tn), .ref (mr 22), .int (nI ik), .int (j0), .int (j1), .ref (mr 23), .int (j2), .ref (mr 24), .ref (mr 25), .int (j3), .ref (mr 26), .int (j4), .ref (mr 27), .ref (mr 28), .ref (mr 29), .ref (mr 30)])), (mr 10, .inl (cy 1, 24, .inl (fun k => nI (lr9 k)))), (mr 3, .inl (cy 1, 5, .inl (fun k => nI (st9 k)))), (mr 6, .inl (cy 1, 24, .inl (fun k => nI (fn k)))), (mr 7, .inl (cy 1, 120, .inl (fun k => nI (fo k)))), (mr 8, .inl (cy 2, 120, .inr (.inl ex))), (mr 9, .inl (cy 2, 120, .inr (.inl wo)))] ∧ ¬ dFm ld (pLr P r9) y.toInt.toNat = 0) ∨ (v9 = some (.int (nI 0)) ∧ w9 = [(mo, .inr (9, [.int (nI cols), .int (nI lc), .int (nI smp), .int (ky), .ref (mr 0), .ref (mr 1), .ref (mr 2), .ref (mr 3), .ref (mr 4), .ref (mr 5), .ref (mr 6), .ref (mr 7), .ref (mr 8), .ref (mr 9), .int (nI (pMk P)), .int (nI (pRs P)), .ref (mr 10), .ref (mr 11), .ref (mr 12), .ref (mr 13), .ref (mr 14), .ref (mr 15), .ref (mr 16), .ref (mr 17), .ref (mr 18), .ref (mr 19), .ref (mr 20), .int (nI nse), .int (nI npa), .int (nI nbo), .ref (mr 21), .int (nI tn), .ref (mr 22), .int (nI ik), .int (j0), .int (j1), .ref (mr 23), .int (j2), .ref (mr 24), .ref (mr 25), .int (j3), .ref (mr 26), .int (j4), .ref (mr 27), .ref (mr 28), .ref (mr 29), .ref (mr 30)])), (mr 10, .inl (cy 1, 24, .inl (fun k => nI (lr9 k)))), (mr 3, .inl (cy 1, 5, .inl (fun k => nI (st9 k)))), (mr 6, .inl (cy 1, 24, .inl (fun k => nI (fn k)))), (mr 7, .inl (cy 1, 120, .inl (fun k => nI (fo k)))), (mr 8, .inl (cy 2, 120, .inr (.inl ex))), (mr 9, .inl (cy 2, 120, .inr (.inl wo)))] ∧ dFm ld (pLr P r9) y.toInt.toNat = 0)) := by
  refine xMet_of (cc := cX10_hasValue) (maxL := 3) (ret := (some .boolean)) (by decide) rfl (Nat.le_of_ble_eq_true rfl) (fun p e s m args below meth c A R Q hA hR hQ C hr hnm hro hX => ?_)
  have hw0 : ∀ w ∈ u_ws RX10 TX10 47, w ∈ wsX10_hasValue := by decide +kernel
  have hw1 : Cond.fieldLink RX10 50 (TX10 16).1 (TX10 16).2.1 (TX10 16).2.2.1 ∈ wsX10_hasValue := by decide +kernel
  refine x_L (L' := [(0, .ref mo), (1, .int (nI r9)), (2, .int (y))]) [0, 1, 2] rfl ?_
  have hIP := hF.1
  have hP1 := hIP.1
  have hP2 := hIP.2.1
  have hlr := hmp.1.2.1 r9 (by omega)
  have hlv := hIP.2.2.1 r9 (by omega)
  have hl24 := hlr9 r9
  have hfor : fo (5 * (lr9 r9) + y.toInt.toNat) = dFm ld (pLr P r9) y.toInt.toNat := (by rw [hlr]; exact ((hml _ hlv.1).2.2 y.toInt.toNat (by omega) (by rw [hlv.2]; omega)).1)
  have hf49 := hfo4 (5 * (lr9 r9) + y.toInt.toNat)
  refine x_aload_n C dX10_hasValue_0 (q := 1) rfl rfl 0 rfl ?_
  refine x_iload_n C dX10_hasValue_1 (q := 2) rfl rfl 1 rfl ?_
  refine x_callV C (roW := []) (roR := []) (c_X10_isRow l D cy mo mr cols lc smp (pMk P) (pRs P) nse npa nbo tn ik ky j0 j1 j2 j3 j4 (nI r9) (by first | assumption | omega | (simp only []; omega))) (cwV 1 C.2.2.2.2.1 gX10_hasValue_X10_isRow rfl rfl rfl (by decide +kernel) (by rw [hR]; exact ⟨Nat.le_of_ble_eq_true rfl, Nat.le_of_ble_eq_true rfl⟩)) [0] [] rfl (by decide) rfl (by decide) xro_nil (List.mem_of_getElem? (i := 0) rfl) (ci := 9) rfl xT_bl (fun _ _ _ _ _ _ _ => trivial) rfl rfl dX10_hasValue_2 rfl rfl (Nat.le_of_ble_eq_true rfl) (q := 5) rfl (k' := 0) rfl (n' := 0) rfl (by rw [hR]; exact ⟨Nat.le_of_ble_eq_true rfl, Nat.le_of_ble_eq_true rfl⟩) (fun v1 w1 hp1 => ?_)
  rcases hp1 with hp1 | hp1
  · skip
    obtain ⟨rfl, rfl, hc2, hc3⟩ := hp1
    refine x_ws (ws' := [(mo, .inr (9, [.int (nI cols), .int (nI lc), .int (nI smp), .int (ky), .ref (mr 0), .ref (mr 1), .ref (mr 2), .ref (mr 3), .ref (mr 4), .ref (mr 5), .ref (mr 6), .ref (mr 7), .ref (mr 8), .ref (mr 9), .int (nI (pMk P)), .int (nI (pRs P)), .ref (mr 10), .ref (mr 11), .ref (mr 12), .ref (mr 13), .ref (mr 14), .ref (mr 15), .ref (mr 16), .ref (mr 17), .ref (mr 18), .ref (mr 19), .ref (mr 20), .int (nI nse), .int (nI npa), .int (nI nbo), .ref (mr 21), .int (nI tn), .ref (mr 22), .int (nI ik), .int (j0), .int (j1), .ref (mr 23), .int (j2), .ref (mr 24), .ref (mr 25), .int (j3), .ref (mr 26), .int (j4), .ref (mr 27), .ref (mr 28), .ref (mr 29), .ref (mr 30)])), (mr 10, .inl (cy 1, 24, .inl (fun k => nI (lr9 k)))), (mr 3, .inl (cy 1, 5, .inl (fun k => nI (st9 k)))), (mr 6, .inl (cy 1, 24, .inl (fun k => nI (fn k)))), (mr 7, .inl (cy 1, 120, .inl (fun k => nI (fo k)))), (mr 8, .inl (cy 2, 120, .inr (.inl ex))), (mr 9, .inl (cy 2, 120, .inr (.inl wo)))]) rfl ?_
    have zr : (nI r9).toInt = (r9 : Int) := nI_toInt (by omega)
    refine x_if_eq C (tgt := 34) dX10_hasValue_5 (by decide) (q := 8) rfl (a := 1) rfl (fun h4 => (by omega : False).elim) (fun h4 => ?_)
    refine x_aload_n C dX10_hasValue_8 (q := 9) rfl rfl 0 rfl ?_
    refine x_iload_n C dX10_hasValue_9 (q := 10) rfl rfl 2 rfl ?_
    refine x_callV C (roW := []) (roR := []) (c_X10_isColumn l D cy mo mr cols lc smp (pMk P) (pRs P) nse npa nbo tn ik ky j0 j1 j2 j3 j4 y (by first | assumption | omega | (simp only []; omega))) (cwV 1 C.2.2.2.2.1 gX10_hasValue_X10_isColumn rfl rfl rfl (by decide +kernel) (by rw [hR]; exact ⟨Nat.le_of_ble_eq_true rfl, Nat.le_of_ble_eq_true rfl⟩)) [0] [] rfl (by decide) rfl (by decide) xro_nil (List.mem_of_getElem? (i := 0) rfl) (ci := 9) rfl xT_bl (fun _ _ _ _ _ _ _ => trivial) rfl rfl dX10_hasValue_10 rfl rfl (Nat.le_of_ble_eq_true rfl) (q := 13) rfl (k' := 0) rfl (n' := 0) rfl (by rw [hR]; exact ⟨Nat.le_of_ble_eq_true rfl, Nat.le_of_ble_eq_true rfl⟩) (fun v5 w5 hp5 => ?_)
    rcases hp5 with hp5 | hp5
    · skip
      obtain ⟨rfl, rfl, hc6, hc7⟩ := hp5
      refine x_ws (ws' := [(mo, .inr (9, [.int (nI cols), .int (nI lc), .int (nI smp), .int (ky), .ref (mr 0), .ref (mr 1), .ref (mr 2), .ref (mr 3), .ref (mr 4), .ref (mr 5), .ref (mr 6), .ref (mr 7), .ref (mr 8), .ref (mr 9), .int (nI (pMk P)), .int (nI (pRs P)), .ref (mr 10), .ref (mr 11), .ref (mr 12), .ref (mr 13), .ref (mr 14), .ref (mr 15), .ref (mr 16), .ref (mr 17), .ref (mr 18), .ref (mr 19), .ref (mr 20), .int (nI nse), .int (nI npa), .int (nI nbo), .ref (mr 21), .int (nI tn), .ref (mr 22), .int (nI ik), .int (j0), .int (j1), .ref (mr 23), .int (j2), .ref (mr 24), .ref (mr 25), .int (j3), .ref (mr 26), .int (j4), .ref (mr 27), .ref (mr 28), .ref (mr 29), .ref (mr 30)])), (mr 10, .inl (cy 1, 24, .inl (fun k => nI (lr9 k)))), (mr 3, .inl (cy 1, 5, .inl (fun k => nI (st9 k)))), (mr 6, .inl (cy 1, 24, .inl (fun k => nI (fn k)))), (mr 7, .inl (cy 1, 120, .inl (fun k => nI (fo k)))), (mr 8, .inl (cy 2, 120, .inr (.inl ex))), (mr 9, .inl (cy 2, 120, .inr (.inl wo)))]) rfl ?_
      refine x_if_eq C (tgt := 34) dX10_hasValue_13 (by decide) (q := 16) rfl (a := 1) rfl (fun h8 => (by omega : False).elim) (fun h8 => ?_)
      refine x_aload_n C dX10_hasValue_16 (q := 17) rfl rfl 0 rfl ?_
      refine x_aload_n C dX10_hasValue_17 (q := 18) rfl rfl 0 rfl ?_
      refine x_get C (ci := 9) (v := .ref (mr 10)) hw0 0 rfl rfl 16 (by decide) hw1 rfl dX10_hasValue_18 (q := 21) rfl ?_
      refine x_iload_n C dX10_hasValue_21 (q := 22) rfl rfl 1 rfl ?_
      have hb9 := hlr9 r9
      refine x_iald C (j := r9) (v := nI (lr9 r9)) 1 rfl (nI_toInt (by omega)) (by omega) rfl dX10_hasValue_22 (q := 23) rfl ?_
      refine x_iload_n C dX10_hasValue_23 (q := 24) rfl rfl 2 rfl ?_
      refine x_st (st' := [.int (nI y.toInt.toNat), .int (nI (lr9 r9)), .ref mo]) (congrArg (fun z9 => ([.int z9, .int (nI (lr9 r9)), .ref mo] : List Value)) (xi_nat (by omega))) ?_
      refine x_callV C (roW := []) (roR := []) (c_X10_formOf l D cy mo mr cols lc smp (pMk P) (pRs P) nse npa nbo tn ik ky j0 j1 j2 j3 j4 fo (lr9 r9) y.toInt.toNat (by first | assumption | omega | (simp only []; omega)) (by first | assumption | omega | (simp only []; omega))) (cwV 2 C.2.2.2.2.1 gX10_hasValue_X10_formOf rfl rfl rfl (by decide +kernel) (by rw [hR]; exact ⟨Nat.le_of_ble_eq_true rfl, Nat.le_of_ble_eq_true rfl⟩)) [0, 4] [] rfl (by decide) rfl (by decide) xro_nil (List.mem_of_getElem? (i := 0) rfl) (ci := 9) rfl xT_bl (fun _ _ _ _ _ _ _ => trivial) rfl rfl dX10_hasValue_24 rfl rfl (Nat.le_of_ble_eq_true rfl) (q := 27) rfl (k' := 0) rfl (n' := 0) rfl (by rw [hR]; exact ⟨Nat.le_of_ble_eq_true rfl, Nat.le_of_ble_eq_true rfl⟩) (fun v10 w10 hp10 => ?_)
      obtain ⟨rfl, rfl⟩ := hp10
      refine x_ws (ws' := [(mo, .inr (9, [.int (nI cols), .int (nI lc), .int (nI smp), .int (ky), .ref (mr 0), .ref (mr 1), .ref (mr 2), .ref (mr 3), .ref (mr 4), .ref (mr 5), .ref (mr 6), .ref (mr 7), .ref (mr 8), .ref (mr 9), .int (nI (pMk P)), .int (nI (pRs P)), .ref (mr 10), .ref (mr 11), .ref (mr 12), .ref (mr 13), .ref (mr 14), .ref (mr 15), .ref (mr 16), .ref (mr 17), .ref (mr 18), .ref (mr 19), .ref (mr 20), .int (nI nse), .int (nI npa), .int (nI nbo), .ref (mr 21), .int (nI tn), .ref (mr 22), .int (nI ik), .int (j0), .int (j1), .ref (mr 23), .int (j2), .ref (mr 24), .ref (mr 25), .int (j3), .ref (mr 26), .int (j4), .ref (mr 27), .ref (mr 28), .ref (mr 29), .ref (mr 30)])), (mr 10, .inl (cy 1, 24, .inl (fun k => nI (lr9 k)))), (mr 3, .inl (cy 1, 5, .inl (fun k => nI (st9 k)))), (mr 6, .inl (cy 1, 24, .inl (fun k => nI (fn k)))), (mr 7, .inl (cy 1, 120, .inl (fun k => nI (fo k)))), (mr 8, .inl (cy 2, 120, .inr (.inl ex))), (mr 9, .inl (cy 2, 120, .inr (.inl wo)))]) rfl ?_
      refine x_if_eq C (tgt := 34) dX10_hasValue_27 (by decide) (q := 30) rfl (a := ((fo (5 * (lr9 r9) + y.toInt.toNat) : Nat) : Int)) (nI_toInt (by omega)) (fun h11 => ?_) (fun h11 => ?_)
      · first
        | (exfalso; omega)
        |
          refine x_iconst C dX10_hasValue_34 (q := 35) rfl (v := nI 0) (by decide) ?_
          refine x_zret C hA hQ hr (ty := .boolean) (by first | rfl | assumption | exact xz_nar _) dX10_hasValue_35 (Nat.le_of_ble_eq_true rfl) ?_
          first | exact Or.inl ⟨rfl, rfl, by omega⟩ | exact Or.inr ⟨rfl, rfl, by omega⟩ | (exfalso; have zr : (nI r9).toInt = (r9 : Int) := nI_toInt (by omega); omega)
      · first
        | (exfalso; omega)
        |
          refine x_iconst C dX10_hasValue_30 (q := 31) rfl (v := nI 1) (by decide) ?_
          refine x_goto C (tgt := 35) dX10_hasValue_31 (by decide) ?_
          refine x_zret C hA hQ hr (ty := .boolean) (by first | rfl | assumption | exact xz_nar _) dX10_hasValue_35 (Nat.le_of_ble_eq_true rfl) ?_
          first | exact Or.inl ⟨rfl, rfl, by omega⟩ | exact Or.inr ⟨rfl, rfl, by omega⟩ | (exfalso; have zr : (nI r9).toInt = (r9 : Int) := nI_toInt (by omega); omega)
    · skip
      obtain ⟨rfl, rfl, hc12⟩ := hp5
      refine x_ws (ws' := [(mo, .inr (9, [.int (nI cols), .int (nI lc), .int (nI smp), .int (ky), .ref (mr 0), .ref (mr 1), .ref (mr 2), .ref (mr 3), .ref (mr 4), .ref (mr 5), .ref (mr 6), .ref (mr 7), .ref (mr 8), .ref (mr 9), .int (nI (pMk P)), .int (nI (pRs P)), .ref (mr 10), .ref (mr 11), .ref (mr 12), .ref (mr 13), .ref (mr 14), .ref (mr 15), .ref (mr 16), .ref (mr 17), .ref (mr 18), .ref (mr 19), .ref (mr 20), .int (nI nse), .int (nI npa), .int (nI nbo), .ref (mr 21), .int (nI tn), .ref (mr 22), .int (nI ik), .int (j0), .int (j1), .ref (mr 23), .int (j2), .ref (mr 24), .ref (mr 25), .int (j3), .ref (mr 26), .int (j4), .ref (mr 27), .ref (mr 28), .ref (mr 29), .ref (mr 30)])), (mr 10, .inl (cy 1, 24, .inl (fun k => nI (lr9 k)))), (mr 3, .inl (cy 1, 5, .inl (fun k => nI (st9 k)))), (mr 6, .inl (cy 1, 24, .inl (fun k => nI (fn k)))), (mr 7, .inl (cy 1, 120, .inl (fun k => nI (fo k)))), (mr 8, .inl (cy 2, 120, .inr (.inl ex))), (mr 9, .inl (cy 2, 120, .inr (.inl wo)))]) rfl ?_
      refine x_if_eq C (tgt := 34) dX10_hasValue_13 (by decide) (q := 16) rfl (a := 0) rfl (fun h13 => ?_) (fun h13 => (by omega : False).elim)
      refine x_iconst C dX10_hasValue_34 (q := 35) rfl (v := nI 0) (by decide) ?_
      refine x_zret C hA hQ hr (ty := .boolean) (by first | rfl | assumption | exact xz_nar _) dX10_hasValue_35 (Nat.le_of_ble_eq_true rfl) ?_
      first | exact Or.inl ⟨rfl, rfl, by omega⟩ | exact Or.inr ⟨rfl, rfl, by omega⟩ | (exfalso; have zr : (nI r9).toInt = (r9 : Int) := nI_toInt (by omega); omega)
  · skip
    obtain ⟨rfl, rfl, hc14⟩ := hp1
    refine x_ws (ws' := [(mo, .inr (9, [.int (nI cols), .int (nI lc), .int (nI smp), .int (ky), .ref (mr 0), .ref (mr 1), .ref (mr 2), .ref (mr 3), .ref (mr 4), .ref (mr 5), .ref (mr 6), .ref (mr 7), .ref (mr 8), .ref (mr 9), .int (nI (pMk P)), .int (nI (pRs P)), .ref (mr 10), .ref (mr 11), .ref (mr 12), .ref (mr 13), .ref (mr 14), .ref (mr 15), .ref (mr 16), .ref (mr 17), .ref (mr 18), .ref (mr 19), .ref (mr 20), .int (nI nse), .int (nI npa), .int (nI nbo), .ref (mr 21), .int (nI tn), .ref (mr 22), .int (nI ik), .int (j0), .int (j1), .ref (mr 23), .int (j2), .ref (mr 24), .ref (mr 25), .int (j3), .ref (mr 26), .int (j4), .ref (mr 27), .ref (mr 28), .ref (mr 29), .ref (mr 30)])), (mr 10, .inl (cy 1, 24, .inl (fun k => nI (lr9 k)))), (mr 3, .inl (cy 1, 5, .inl (fun k => nI (st9 k)))), (mr 6, .inl (cy 1, 24, .inl (fun k => nI (fn k)))), (mr 7, .inl (cy 1, 120, .inl (fun k => nI (fo k)))), (mr 8, .inl (cy 2, 120, .inr (.inl ex))), (mr 9, .inl (cy 2, 120, .inr (.inl wo)))]) rfl ?_
    have zr : (nI r9).toInt = (r9 : Int) := nI_toInt (by omega)
    refine x_if_eq C (tgt := 34) dX10_hasValue_5 (by decide) (q := 8) rfl (a := 0) rfl (fun h15 => ?_) (fun h15 => (by omega : False).elim)
    refine x_iconst C dX10_hasValue_34 (q := 35) rfl (v := nI 0) (by decide) ?_
    refine x_zret C hA hQ hr (ty := .boolean) (by first | rfl | assumption | exact xz_nar _) dX10_hasValue_35 (Nat.le_of_ble_eq_true rfl) ?_
    first | exact Or.inl ⟨rfl, rfl, by omega⟩ | exact Or.inr ⟨rfl, rfl, by omega⟩ | (exfalso; have zr : (nI r9).toInt = (r9 : Int) := nI_toInt (by omega); omega)

set_option maxHeartbeats 4000000 in
set_option maxRecDepth 100000 in
/-- its -/
theorem c_X10_its (l : Launch) (D : va_G) (cy : Nat → ClassId) (mo : Nat) (mr : Nat → Nat) (cols : Nat) (lc : Nat) (smp : Nat) (nse : Nat) (npa : Nat) (nbo : Nat) (tn : Nat) (ik : Nat) (ky : Int32) (j0 : Int32) (j1 : Int32) (j2 : Int32) (j3 : Int32) (j4 : Int32) (P : PS) (fn : Nat → Nat) (fo : Nat → Nat) (ex : Nat → Int64) (wo : Nat → Int64) (st9 : Nat → Nat) (lr9 : Nat → Nat) (rl9 : Nat → Int32) (fa9 : Nat → Int32) (ca9 : Nat → Int32) (dc9 : Nat → Int32) (ld : LD) (r9 : Nat) (y : Int32) (hml : MdL ld lc fn fo ex wo) (hfo4 : ∀ q, fo q ≤ 4) (hfn : ∀ q, fn q ≤ 61) (hlc : lc ≤ 24) (hF : InvF ld cols lc P) (hmp : MdP cols P st9 lr9 rl9 fa9 ca9 dc9) (hcols : cols ≤ 5) (hlr9 : ∀ k, lr9 k < 24) (hst9 : ∀ k, st9 k ≤ 4) (hr9 : r9 < pRs P) (hy0 : 0 ≤ y.toInt) (hy1 : y.toInt < cols) (hne : ¬ dFm ld (pLr P r9) y.toInt.toNat = 0) : xMet l D cy xT yX10_its wsX10_its ({ frames := 3, cells := 0, slots := 0, locals := 400 } : Room) [.ref mo, .int (nI r9), .int (y)] [(mo, .inr (9, [.int (nI cols), .int (nI lc), .int (nI smp), .int (ky), .ref (mr 0), .ref (mr 1), .ref (mr 2), .ref (mr 3), .ref (mr 4), .ref (mr 5), .ref (mr 6), .ref (mr 7), .ref (mr 8), .ref (mr 9), .int (nI (pMk P)), .int (nI (pRs P)), .ref (mr 10), .ref (mr 11), .ref (mr 12), .ref (mr 13), .ref (mr 14), .ref (mr 15), .ref (mr 16), .ref (mr 17), .ref (mr 18), .ref (mr 19), .ref (mr 20), .int (nI nse), .int (nI npa), .int (nI nbo), .ref (mr 21), .int (nI tn), .ref (mr 22), .int (nI ik), .int (j0), .int (j1), .ref (mr 23), .int (j2), .ref (mr 24), .ref (mr 25), .int (j3), .ref (mr 26), .int (j4), .ref (mr 27), .ref (mr 28), .ref (mr 29), .ref (mr 30)])), (mr 10, .inl (cy 1, 24, .inl (fun k => nI (lr9 k)))), (mr 3, .inl (cy 1, 5, .inl (fun k => nI (st9 k)))), (mr 6, .inl (cy 1, 24, .inl (fun k => nI (fn k)))), (mr 7, .inl (cy 1, 120, .inl (fun k => nI (fo k)))), (mr 8, .inl (cy 2, 120, .inr (.inl ex))), (mr 9, .inl (cy 2, 120, .inr (.inl wo)))] [] (fun (v9 : Option Value) (w9 : va_W) => (v9 = some (.long (vlS ld (pSt P y.toInt.toNat) (pLr P r9) y.toInt.toNat)) ∧ w9 = [(mo, .inr (9, [.int (nI cols), .int (nI lc), .int (nI smp), .int (ky), .ref (mr 0), .ref (mr 1), .ref (mr 2), .ref (mr 3), .ref (mr 4), .ref (mr 5), .ref (mr 6), .ref (mr 7), .ref (mr 8), .ref (mr 9), .int (nI (pMk P)), .int (nI (pRs P)), .ref (mr 10), .ref (mr 11), .ref (mr 12), .ref (mr 13), .ref (mr 14), .ref (mr 15), .ref (mr 16), .ref (mr 17), .ref (mr 18), .ref (mr 19), .ref (mr 20), .int (nI nse), .int (nI npa), .int (nI nbo), .ref (mr 21), .int (nI tn), .ref (mr 22), .int (nI ik), .int (j0), .int (j1), .ref (mr 23), .int (j2), .ref (mr 24), .ref (mr 25), .int (j3), .ref (mr 26), .int (j4), .ref (mr 27), .ref (mr 28), .ref (mr 29), .ref (mr 30)])), (mr 10, .inl (cy 1, 24, .inl (fun k => nI (lr9 k)))), (mr 3, .inl (cy 1, 5, .inl (fun k => nI (st9 k)))), (mr 6, .inl (cy 1, 24, .inl (fun k => nI (fn k)))), (mr 7, .inl (cy 1, 120, .inl (fun k => nI (fo k)))), (mr 8, .inl (cy 2, 120, .inr (.inl ex))), (mr 9, .inl (cy 2, 120, .inr (.inl wo)))])) := by
  refine xMet_of (cc := cX10_its) (maxL := 3) (ret := (some .long)) (by decide) rfl (Nat.le_of_ble_eq_true rfl) (fun p e s m args below meth c A R Q hA hR hQ C hr hnm hro hX => ?_)
  have hw0 : ∀ w ∈ u_ws RX10 TX10 47, w ∈ wsX10_its := by decide +kernel
  have hw1 : Cond.fieldLink RX10 50 (TX10 16).1 (TX10 16).2.1 (TX10 16).2.2.1 ∈ wsX10_its := by decide +kernel
  have hw2 : Cond.fieldLink RX10 28 (TX10 7).1 (TX10 7).2.1 (TX10 7).2.2.1 ∈ wsX10_its := by decide +kernel
  refine x_L (L' := [(0, .ref mo), (1, .int (nI r9)), (2, .int (y))]) [0, 1, 2] rfl ?_
  have hIP := hF.1
  have hP1 := hIP.1
  have hP2 := hIP.2.1
  have hlr := hmp.1.2.1 r9 (by omega)
  have hlv := hIP.2.2.1 r9 (by omega)
  have hl24 := hlr9 r9
  have hse := hmp.1.1 y.toInt.toNat (by omega)
  have hs1 := hF.2.1 (by omega) y.toInt.toNat (by omega)
  have hcan := hF.2.2.1 r9 hr9 y.toInt.toNat (by omega)
  refine x_aload_n C dX10_its_0 (q := 1) rfl rfl 0 rfl ?_
  refine x_aload_n C dX10_its_1 (q := 2) rfl rfl 0 rfl ?_
  refine x_get C (ci := 9) (v := .ref (mr 10)) hw0 0 rfl rfl 16 (by decide) hw1 rfl dX10_its_2 (q := 5) rfl ?_
  refine x_iload_n C dX10_its_5 (q := 6) rfl rfl 1 rfl ?_
  have hb1 := hlr9 r9
  refine x_iald C (j := r9) (v := nI (lr9 r9)) 1 rfl (nI_toInt (by omega)) (by omega) rfl dX10_its_6 (q := 7) rfl ?_
  refine x_iload_n C dX10_its_7 (q := 8) rfl rfl 2 rfl ?_
  refine x_aload_n C dX10_its_8 (q := 9) rfl rfl 0 rfl ?_
  refine x_get C (ci := 9) (v := .ref (mr 3)) hw0 0 rfl rfl 7 (by decide) hw2 rfl dX10_its_9 (q := 12) rfl ?_
  refine x_iload_n C dX10_its_12 (q := 13) rfl rfl 2 rfl ?_
  have hb2 := hst9 y.toInt.toNat
  refine x_iald C (j := y.toInt.toNat) (v := nI (st9 y.toInt.toNat)) 2 rfl (by have h9 := (rfl : (y : Int32).toInt = y.toInt); omega) (by omega) rfl dX10_its_13 (q := 14) rfl ?_
  refine x_st (st' := [.int (nI (st9 y.toInt.toNat)), .int (nI y.toInt.toNat), .int (nI (lr9 r9)), .ref mo]) (congrArg (fun z9 => ([.int (nI (st9 y.toInt.toNat)), .int z9, .int (nI (lr9 r9)), .ref mo] : List Value)) (xi_nat (by omega))) ?_
  refine x_callV C (roW := []) (roR := []) (c_X10_valueOf l D cy mo mr cols lc smp (pMk P) (pRs P) nse npa nbo tn ik ky j0 j1 j2 j3 j4 fn fo ex wo ld (lr9 r9) y.toInt.toNat (st9 y.toInt.toNat) (by assumption) (by rw [hlr]; exact hlv.1) (by first | assumption | omega | (simp only []; omega)) (by first | assumption | omega | (simp only []; omega)) (by rw [hlr, hlv.2]; omega) (by first | assumption | omega | (simp only []; omega)) (by rw [hlr, hse]; exact hcan) (by rw [hlr]; exact hne)) (cwV 3 C.2.2.2.2.1 gX10_its_X10_valueOf rfl rfl rfl (by decide +kernel) (by rw [hR]; exact ⟨Nat.le_of_ble_eq_true rfl, Nat.le_of_ble_eq_true rfl⟩)) [0, 5, 6] [] rfl (by decide) rfl (by decide) xro_nil (List.mem_of_getElem? (i := 0) rfl) (ci := 9) rfl xT_bl (fun _ _ _ _ _ _ _ => trivial) rfl rfl dX10_its_14 rfl rfl (Nat.le_of_ble_eq_true rfl) (q := 17) rfl (k' := 0) rfl (n' := 0) rfl (by rw [hR]; exact ⟨Nat.le_of_ble_eq_true rfl, Nat.le_of_ble_eq_true rfl⟩) (fun v3 w3 hp3 => ?_)
  obtain ⟨rfl, rfl⟩ := hp3
  refine x_ws (ws' := [(mo, .inr (9, [.int (nI cols), .int (nI lc), .int (nI smp), .int (ky), .ref (mr 0), .ref (mr 1), .ref (mr 2), .ref (mr 3), .ref (mr 4), .ref (mr 5), .ref (mr 6), .ref (mr 7), .ref (mr 8), .ref (mr 9), .int (nI (pMk P)), .int (nI (pRs P)), .ref (mr 10), .ref (mr 11), .ref (mr 12), .ref (mr 13), .ref (mr 14), .ref (mr 15), .ref (mr 16), .ref (mr 17), .ref (mr 18), .ref (mr 19), .ref (mr 20), .int (nI nse), .int (nI npa), .int (nI nbo), .ref (mr 21), .int (nI tn), .ref (mr 22), .int (nI ik), .int (j0), .int (j1), .ref (mr 23), .int (j2), .ref (mr 24), .ref (mr 25), .int (j3), .ref (mr 26), .int (j4), .ref (mr 27), .ref (mr 28), .ref (mr 29), .ref (mr 30)])), (mr 10, .inl (cy 1, 24, .inl (fun k => nI (lr9 k)))), (mr 3, .inl (cy 1, 5, .inl (fun k => nI (st9 k)))), (mr 6, .inl (cy 1, 24, .inl (fun k => nI (fn k)))), (mr 7, .inl (cy 1, 120, .inl (fun k => nI (fo k)))), (mr 8, .inl (cy 2, 120, .inr (.inl ex))), (mr 9, .inl (cy 2, 120, .inr (.inl wo)))]) rfl ?_
  refine x_lret C hA hQ hr dX10_its_17 (Nat.le_of_ble_eq_true rfl) ?_
  refine ⟨?_, rfl⟩
  rw [hlr, hse]
  rfl

set_option maxHeartbeats 4000000 in
set_option maxRecDepth 100000 in
/-- value -/
theorem c_X10_value (l : Launch) (D : va_G) (cy : Nat → ClassId) (mo : Nat) (mr : Nat → Nat) (cols : Nat) (lc : Nat) (smp : Nat) (nse : Nat) (npa : Nat) (nbo : Nat) (tn : Nat) (ik : Nat) (ky : Int32) (j0 : Int32) (j1 : Int32) (j2 : Int32) (j3 : Int32) (j4 : Int32) (P : PS) (fn : Nat → Nat) (fo : Nat → Nat) (ex : Nat → Int64) (wo : Nat → Int64) (st9 : Nat → Nat) (lr9 : Nat → Nat) (rl9 : Nat → Int32) (fa9 : Nat → Int32) (ca9 : Nat → Int32) (dc9 : Nat → Int32) (ld : LD) (tl9 : Nat → Nat) (x : Int32) (y : Int32) (hml : MdL ld lc fn fo ex wo) (hfo4 : ∀ q, fo q ≤ 4) (hfn : ∀ q, fn q ≤ 61) (hlc : lc ≤ 24) (hF : InvF ld cols lc P) (hmp : MdP cols P st9 lr9 rl9 fa9 ca9 dc9) (hcols : cols ≤ 5) (hlr9 : ∀ k, lr9 k < 24) (hst9 : ∀ k, st9 k ≤ 4) : xMet l D cy xT yX10_value wsX10_value ({ frames := 5, cells := 0, slots := 0, locals := 700 } : Room) [.ref mo, .int (x), .int (y)] [(mo, .inr (9, [.int (nI cols), .int (nI lc), .int (nI smp), .int (ky), .ref (mr 0), .ref (mr 1), .ref (mr 2), .ref (mr 3), .ref (mr 4), .ref (mr 5), .ref (mr 6), .ref (mr 7), .ref (mr 8), .ref (mr 9), .int (nI (pMk P)), .int (nI (pRs P)), .ref (mr 10), .ref (mr 11), .ref (mr 12), .ref (mr 13), .ref (mr 14), .ref (mr 15), .ref (mr 16), .ref (mr 17), .ref (mr 18), .ref (mr 19), .ref (mr 20), .int (nI nse), .int (nI npa), .int (nI nbo), .ref (mr 21), .int (nI tn), .ref (mr 22), .int (nI ik), .int (j0), .int (j1), .ref (mr 23), .int (j2), .ref (mr 24), .ref (mr 25), .int (j3), .ref (mr 26), .int (j4), .ref (mr 27), .ref (mr 28), .ref (mr 29), .ref (mr 30)])), (mr 10, .inl (cy 1, 24, .inl (fun k => nI (lr9 k)))), (mr 3, .inl (cy 1, 5, .inl (fun k => nI (st9 k)))), (mr 6, .inl (cy 1, 24, .inl (fun k => nI (fn k)))), (mr 7, .inl (cy 1, 120, .inl (fun k => nI (fo k)))), (mr 8, .inl (cy 2, 120, .inr (.inl ex))), (mr 9, .inl (cy 2, 120, .inr (.inl wo)))] [] (fun (v9 : Option Value) (w9 : va_W) => (v9 = some (.long (vaA ld cols tl9 (min smp lc) P x.toInt y.toInt)) ∧ w9 = [(mo, .inr (9, [.int (nI cols), .int (nI lc), .int (nI smp), .int (ky), .ref (mr 0), .ref (mr 1), .ref (mr 2), .ref (mr 3), .ref (mr 4), .ref (mr 5), .ref (mr 6), .ref (mr 7), .ref (mr 8), .ref (mr 9), .int (nI (pMk P)), .int (nI (pRs P)), .ref (mr 10), .ref (mr 11), .ref (mr 12), .ref (mr 13), .ref (mr 14), .ref (mr 15), .ref (mr 16), .ref (mr 17), .ref (mr 18), .ref (mr 19), .ref (mr 20), .int (nI nse), .int (nI npa), .int (nI nbo), .ref (mr 21), .int (nI tn), .ref (mr 22), .int (nI ik), .int (j0), .int (j1), .ref (mr 23), .int (j2), .ref (mr 24), .ref (mr 25), .int (j3), .ref (mr 26), .int (j4), .ref (mr 27), .ref (mr 28), .ref (mr 29), .ref (mr 30)])), (mr 10, .inl (cy 1, 24, .inl (fun k => nI (lr9 k)))), (mr 3, .inl (cy 1, 5, .inl (fun k => nI (st9 k)))), (mr 6, .inl (cy 1, 24, .inl (fun k => nI (fn k)))), (mr 7, .inl (cy 1, 120, .inl (fun k => nI (fo k)))), (mr 8, .inl (cy 2, 120, .inr (.inl ex))), (mr 9, .inl (cy 2, 120, .inr (.inl wo)))])) := by
  refine xMet_of (cc := cX10_value) (maxL := 3) (ret := (some .long)) (by decide) rfl (Nat.le_of_ble_eq_true rfl) (fun p e s m args below meth c A R Q hA hR hQ C hr hnm hro hX => ?_)
  have hw0 : Jvm.Cond.constantLong RX10 245 (-9223372036854775808) ∈ wsX10_value := by decide +kernel
  refine x_L (L' := [(0, .ref mo), (1, .int (x)), (2, .int (y))]) [0, 1, 2] rfl ?_
  have hIP := hF.1
  have hP1 := hIP.1
  have hP2 := hIP.2.1
  refine x_aload_n C dX10_value_0 (q := 1) rfl rfl 0 rfl ?_
  refine x_iload_n C dX10_value_1 (q := 2) rfl rfl 1 rfl ?_
  refine x_iload_n C dX10_value_2 (q := 3) rfl rfl 2 rfl ?_
  refine x_callV C (roW := []) (roR := []) (c_X10_hasValue l D cy mo mr cols lc smp nse npa nbo tn ik ky j0 j1 j2 j3 j4 P fn fo ex wo st9 lr9 rl9 fa9 ca9 dc9 ld x y (by assumption) (by assumption) (by assumption) (by first | assumption | omega | (simp only []; omega)) (by assumption) (by assumption) (by first | assumption | omega | (simp only []; omega)) (by assumption) (by assumption)) (cwV 2 C.2.2.2.2.1 gX10_value_X10_hasValue rfl rfl rfl (by decide +kernel) (by rw [hR]; exact ⟨Nat.le_of_ble_eq_true rfl, Nat.le_of_ble_eq_true rfl⟩)) [0, 1, 2, 3, 4, 5, 6] [] rfl (by decide) rfl (by decide) xro_nil (List.mem_of_getElem? (i := 0) rfl) (ci := 9) rfl xT_bl (fun _ _ _ _ _ _ _ => trivial) rfl rfl dX10_value_3 rfl rfl (Nat.le_of_ble_eq_true rfl) (q := 6) rfl (k' := 0) rfl (n' := 0) rfl (by rw [hR]; exact ⟨Nat.le_of_ble_eq_true rfl, Nat.le_of_ble_eq_true rfl⟩) (fun v1 w1 hp1 => ?_)
  rcases hp1 with hp1 | hp1
  · skip
    obtain ⟨rfl, rfl, hc2⟩ := hp1
    refine x_ws (ws' := [(mo, .inr (9, [.int (nI cols), .int (nI lc), .int (nI smp), .int (ky), .ref (mr 0), .ref (mr 1), .ref (mr 2), .ref (mr 3), .ref (mr 4), .ref (mr 5), .ref (mr 6), .ref (mr 7), .ref (mr 8), .ref (mr 9), .int (nI (pMk P)), .int (nI (pRs P)), .ref (mr 10), .ref (mr 11), .ref (mr 12), .ref (mr 13), .ref (mr 14), .ref (mr 15), .ref (mr 16), .ref (mr 17), .ref (mr 18), .ref (mr 19), .ref (mr 20), .int (nI nse), .int (nI npa), .int (nI nbo), .ref (mr 21), .int (nI tn), .ref (mr 22), .int (nI ik), .int (j0), .int (j1), .ref (mr 23), .int (j2), .ref (mr 24), .ref (mr 25), .int (j3), .ref (mr 26), .int (j4), .ref (mr 27), .ref (mr 28), .ref (mr 29), .ref (mr 30)])), (mr 10, .inl (cy 1, 24, .inl (fun k => nI (lr9 k)))), (mr 3, .inl (cy 1, 5, .inl (fun k => nI (st9 k)))), (mr 6, .inl (cy 1, 24, .inl (fun k => nI (fn k)))), (mr 7, .inl (cy 1, 120, .inl (fun k => nI (fo k)))), (mr 8, .inl (cy 2, 120, .inr (.inl ex))), (mr 9, .inl (cy 2, 120, .inr (.inl wo)))]) rfl ?_
    have hhv := hc2
    obtain ⟨hv0, hv1, hv2, hv3, hv4⟩ := hhv
    have hhv : hasV ld cols P x.toInt y.toInt := ⟨hv0, hv1, hv2, hv3, hv4⟩
    refine x_if_eq C (tgt := 18) dX10_value_6 (by decide) (q := 9) rfl (a := 1) rfl (fun h3 => (by omega : False).elim) (fun h3 => ?_)
    refine x_aload_n C dX10_value_9 (q := 10) rfl rfl 0 rfl ?_
    refine x_iload_n C dX10_value_10 (q := 11) rfl rfl 1 rfl ?_
    refine x_iload_n C dX10_value_11 (q := 12) rfl rfl 2 rfl ?_
    refine x_st (st' := [.int (y), .int (nI x.toInt.toNat), .ref mo]) (congrArg (fun z9 => ([.int (y), .int z9, .ref mo] : List Value)) (xi_nat (by omega))) ?_
    refine x_callV C (roW := []) (roR := []) (c_X10_its l D cy mo mr cols lc smp nse npa nbo tn ik ky j0 j1 j2 j3 j4 P fn fo ex wo st9 lr9 rl9 fa9 ca9 dc9 ld x.toInt.toNat y (by assumption) (by assumption) (by assumption) (by first | assumption | omega | (simp only []; omega)) (by assumption) (by assumption) (by first | assumption | omega | (simp only []; omega)) (by assumption) (by assumption) (by first | assumption | omega | (simp only []; omega)) (by first | assumption | omega | (simp only []; omega)) (by first | assumption | omega | (simp only []; omega)) (by exact hv4)) (cwV 2 C.2.2.2.2.1 gX10_value_X10_its rfl rfl rfl (by decide +kernel) (by rw [hR]; exact ⟨Nat.le_of_ble_eq_true rfl, Nat.le_of_ble_eq_true rfl⟩)) [0, 1, 2, 3, 4, 5, 6] [] rfl (by decide) rfl (by decide) xro_nil (List.mem_of_getElem? (i := 0) rfl) (ci := 9) rfl xT_bl (fun _ _ _ _ _ _ _ => trivial) rfl rfl dX10_value_12 rfl rfl (Nat.le_of_ble_eq_true rfl) (q := 15) rfl (k' := 0) rfl (n' := 0) rfl (by rw [hR]; exact ⟨Nat.le_of_ble_eq_true rfl, Nat.le_of_ble_eq_true rfl⟩) (fun v4 w4 hp4 => ?_)
    obtain ⟨rfl, rfl⟩ := hp4
    refine x_ws (ws' := [(mo, .inr (9, [.int (nI cols), .int (nI lc), .int (nI smp), .int (ky), .ref (mr 0), .ref (mr 1), .ref (mr 2), .ref (mr 3), .ref (mr 4), .ref (mr 5), .ref (mr 6), .ref (mr 7), .ref (mr 8), .ref (mr 9), .int (nI (pMk P)), .int (nI (pRs P)), .ref (mr 10), .ref (mr 11), .ref (mr 12), .ref (mr 13), .ref (mr 14), .ref (mr 15), .ref (mr 16), .ref (mr 17), .ref (mr 18), .ref (mr 19), .ref (mr 20), .int (nI nse), .int (nI npa), .int (nI nbo), .ref (mr 21), .int (nI tn), .ref (mr 22), .int (nI ik), .int (j0), .int (j1), .ref (mr 23), .int (j2), .ref (mr 24), .ref (mr 25), .int (j3), .ref (mr 26), .int (j4), .ref (mr 27), .ref (mr 28), .ref (mr 29), .ref (mr 30)])), (mr 10, .inl (cy 1, 24, .inl (fun k => nI (lr9 k)))), (mr 3, .inl (cy 1, 5, .inl (fun k => nI (st9 k)))), (mr 6, .inl (cy 1, 24, .inl (fun k => nI (fn k)))), (mr 7, .inl (cy 1, 120, .inl (fun k => nI (fo k)))), (mr 8, .inl (cy 2, 120, .inr (.inl ex))), (mr 9, .inl (cy 2, 120, .inr (.inl wo)))]) rfl ?_
    refine x_goto C (tgt := 21) dX10_value_15 (by decide) ?_
    refine x_lret C hA hQ hr dX10_value_21 (Nat.le_of_ble_eq_true rfl) ?_
    refine ⟨?_, rfl⟩
    unfold vaA
    rw [if_pos hhv, tyS_s (hF.2.1 (by omega) _ (by omega))]
  · skip
    obtain ⟨rfl, rfl, hc5⟩ := hp1
    refine x_ws (ws' := [(mo, .inr (9, [.int (nI cols), .int (nI lc), .int (nI smp), .int (ky), .ref (mr 0), .ref (mr 1), .ref (mr 2), .ref (mr 3), .ref (mr 4), .ref (mr 5), .ref (mr 6), .ref (mr 7), .ref (mr 8), .ref (mr 9), .int (nI (pMk P)), .int (nI (pRs P)), .ref (mr 10), .ref (mr 11), .ref (mr 12), .ref (mr 13), .ref (mr 14), .ref (mr 15), .ref (mr 16), .ref (mr 17), .ref (mr 18), .ref (mr 19), .ref (mr 20), .int (nI nse), .int (nI npa), .int (nI nbo), .ref (mr 21), .int (nI tn), .ref (mr 22), .int (nI ik), .int (j0), .int (j1), .ref (mr 23), .int (j2), .ref (mr 24), .ref (mr 25), .int (j3), .ref (mr 26), .int (j4), .ref (mr 27), .ref (mr 28), .ref (mr 29), .ref (mr 30)])), (mr 10, .inl (cy 1, 24, .inl (fun k => nI (lr9 k)))), (mr 3, .inl (cy 1, 5, .inl (fun k => nI (st9 k)))), (mr 6, .inl (cy 1, 24, .inl (fun k => nI (fn k)))), (mr 7, .inl (cy 1, 120, .inl (fun k => nI (fo k)))), (mr 8, .inl (cy 2, 120, .inr (.inl ex))), (mr 9, .inl (cy 2, 120, .inr (.inl wo)))]) rfl ?_
    have hhv := hc5
    refine x_if_eq C (tgt := 18) dX10_value_6 (by decide) (q := 9) rfl (a := 0) rfl (fun h6 => ?_) (fun h6 => (by omega : False).elim)
    refine x_ldc2 C (v := (-9223372036854775808)) hw0 dX10_value_18 (q := 21) rfl ?_
    refine x_lret C hA hQ hr dX10_value_21 (Nat.le_of_ble_eq_true rfl) ?_
    refine ⟨?_, rfl⟩
    unfold vaA
    rw [if_neg hhv]

set_option maxHeartbeats 4000000 in
set_option maxRecDepth 100000 in
/-- taken -/
theorem c_X10_taken (l : Launch) (D : va_G) (cy : Nat → ClassId) (mo : Nat) (mr : Nat → Nat) (cols : Nat) (lc : Nat) (smp : Nat) (nse : Nat) (npa : Nat) (nbo : Nat) (tn : Nat) (ik : Nat) (ky : Int32) (j0 : Int32) (j1 : Int32) (j2 : Int32) (j3 : Int32) (j4 : Int32) (P : PS) (fn : Nat → Nat) (fo : Nat → Nat) (ex : Nat → Int64) (wo : Nat → Int64) (st9 : Nat → Nat) (lr9 : Nat → Nat) (rl9 : Nat → Int32) (fa9 : Nat → Int32) (ca9 : Nat → Int32) (dc9 : Nat → Int32) (ld : LD) (tl9 : Nat → Nat) (x : Int32) (y : Int32) (z : Int32) (hml : MdL ld lc fn fo ex wo) (hfo4 : ∀ q, fo q ≤ 4) (hfn : ∀ q, fn q ≤ 61) (hlc : lc ≤ 24) (hF : InvF ld cols lc P) (hmp : MdP cols P st9 lr9 rl9 fa9 ca9 dc9) (hcols : cols ≤ 5) (hlr9 : ∀ k, lr9 k < 24) (hst9 : ∀ k, st9 k ≤ 4) : xMet l D cy xT yX10_taken wsX10_taken ({ frames := 5, cells := 0, slots := 0, locals := 700 } : Room) [.ref mo, .int (x), .int (y), .int (z)] [(mo, .inr (9, [.int (nI cols), .int (nI lc), .int (nI smp), .int (ky), .ref (mr 0), .ref (mr 1), .ref (mr 2), .ref (mr 3), .ref (mr 4), .ref (mr 5), .ref (mr 6), .ref (mr 7), .ref (mr 8), .ref (mr 9), .int (nI (pMk P)), .int (nI (pRs P)), .ref (mr 10), .ref (mr 11), .ref (mr 12), .ref (mr 13), .ref (mr 14), .ref (mr 15), .ref (mr 16), .ref (mr 17), .ref (mr 18), .ref (mr 19), .ref (mr 20), .int (nI nse), .int (nI npa), .int (nI nbo), .ref (mr 21), .int (nI tn), .ref (mr 22), .int (nI ik), .int (j0), .int (j1), .ref (mr 23), .int (j2), .ref (mr 24), .ref (mr 25), .int (j3), .ref (mr 26), .int (j4), .ref (mr 27), .ref (mr 28), .ref (mr 29), .ref (mr 30)])), (mr 10, .inl (cy 1, 24, .inl (fun k => nI (lr9 k)))), (mr 3, .inl (cy 1, 5, .inl (fun k => nI (st9 k)))), (mr 6, .inl (cy 1, 24, .inl (fun k => nI (fn k)))), (mr 7, .inl (cy 1, 120, .inl (fun k => nI (fo k)))), (mr 8, .inl (cy 2, 120, .inr (.inl ex))), (mr 9, .inl (cy 2, 120, .inr (.inl wo)))] [] (fun (v9 : Option Value) (w9 : va_W) => (v9 = some (.int (takA ld cols tl9 (min smp lc) P x.toInt y.toInt z.toInt)) ∧ w9 = [(mo, .inr (9, [.int (nI cols), .int (nI lc), .int (nI smp), .int (ky), .ref (mr 0), .ref (mr 1), .ref (mr 2), .ref (mr 3), .ref (mr 4), .ref (mr 5), .ref (mr 6), .ref (mr 7), .ref (mr 8), .ref (mr 9), .int (nI (pMk P)), .int (nI (pRs P)), .ref (mr 10), .ref (mr 11), .ref (mr 12), .ref (mr 13), .ref (mr 14), .ref (mr 15), .ref (mr 16), .ref (mr 17), .ref (mr 18), .ref (mr 19), .ref (mr 20), .int (nI nse), .int (nI npa), .int (nI nbo), .ref (mr 21), .int (nI tn), .ref (mr 22), .int (nI ik), .int (j0), .int (j1), .ref (mr 23), .int (j2), .ref (mr 24), .ref (mr 25), .int (j3), .ref (mr 26), .int (j4), .ref (mr 27), .ref (mr 28), .ref (mr 29), .ref (mr 30)])), (mr 10, .inl (cy 1, 24, .inl (fun k => nI (lr9 k)))), (mr 3, .inl (cy 1, 5, .inl (fun k => nI (st9 k)))), (mr 6, .inl (cy 1, 24, .inl (fun k => nI (fn k)))), (mr 7, .inl (cy 1, 120, .inl (fun k => nI (fo k)))), (mr 8, .inl (cy 2, 120, .inr (.inl ex))), (mr 9, .inl (cy 2, 120, .inr (.inl wo)))])) := by
  refine xMet_of (cc := cX10_taken) (maxL := 5) (ret := (some .int)) (by decide) rfl (Nat.le_of_ble_eq_true rfl) (fun p e s m args below meth c A R Q hA hR hQ C hr hnm hro hX => ?_)
  have hw0 : Jvm.Cond.constantLong RX10 282 (4) ∈ wsX10_taken := by decide +kernel
  have hw1 : ∀ w ∈ u_ws RX10 TX10 47, w ∈ wsX10_taken := by decide +kernel
  have hw2 : Cond.fieldLink RX10 28 (TX10 7).1 (TX10 7).2.1 (TX10 7).2.2.1 ∈ wsX10_taken := by decide +kernel
  refine x_L (L' := [(0, .ref mo), (1, .int (x)), (2, .int (y)), (3, .int (z))]) [0, 1, 2, 3] rfl ?_
  have hIP := hF.1
  have hP1 := hIP.1
  have hP2 := hIP.2.1
  refine x_iload_n C dX10_taken_0 (q := 1) rfl rfl 3 rfl ?_
  refine x_i2l C dX10_taken_1 (q := 2) rfl (v := z.toInt64) (rfl) ?_
  refine x_lconst C dX10_taken_2 (q := 3) rfl (v := lN 0) rfl ?_
  refine x_ldc2 C (v := lN 4) hw0 dX10_taken_3 (q := 6) rfl ?_
  refine x_callS C (roW := []) (roR := []) (c_X10_in l D cy z.toInt64 (lN 0) (lN 4) z.toInt 0 4 (xl_wide rfl) rfl rfl) (cwS 3 C.2.2.2.2.1 gX10_taken_X10_in rfl rfl rfl (by decide +kernel) (by rw [hR]; exact ⟨Nat.le_of_ble_eq_true rfl, Nat.le_of_ble_eq_true rfl⟩)) [] [] rfl (by decide) rfl (by decide) xro_nil xT_bl (fun _ _ _ _ _ _ _ => trivial) rfl rfl dX10_taken_6 rfl rfl (Nat.le_of_ble_eq_true rfl) (q := 9) rfl (k' := 0) rfl (n' := 0) rfl (by rw [hR]; exact ⟨Nat.le_of_ble_eq_true rfl, Nat.le_of_ble_eq_true rfl⟩) (fun v1 w1 hp1 => ?_)
  rcases hp1 with hp1 | hp1
  · skip
    obtain ⟨rfl, rfl, hc2, hc3⟩ := hp1
    refine x_ws (ws' := [(mo, .inr (9, [.int (nI cols), .int (nI lc), .int (nI smp), .int (ky), .ref (mr 0), .ref (mr 1), .ref (mr 2), .ref (mr 3), .ref (mr 4), .ref (mr 5), .ref (mr 6), .ref (mr 7), .ref (mr 8), .ref (mr 9), .int (nI (pMk P)), .int (nI (pRs P)), .ref (mr 10), .ref (mr 11), .ref (mr 12), .ref (mr 13), .ref (mr 14), .ref (mr 15), .ref (mr 16), .ref (mr 17), .ref (mr 18), .ref (mr 19), .ref (mr 20), .int (nI nse), .int (nI npa), .int (nI nbo), .ref (mr 21), .int (nI tn), .ref (mr 22), .int (nI ik), .int (j0), .int (j1), .ref (mr 23), .int (j2), .ref (mr 24), .ref (mr 25), .int (j3), .ref (mr 26), .int (j4), .ref (mr 27), .ref (mr 28), .ref (mr 29), .ref (mr 30)])), (mr 10, .inl (cy 1, 24, .inl (fun k => nI (lr9 k)))), (mr 3, .inl (cy 1, 5, .inl (fun k => nI (st9 k)))), (mr 6, .inl (cy 1, 24, .inl (fun k => nI (fn k)))), (mr 7, .inl (cy 1, 120, .inl (fun k => nI (fo k)))), (mr 8, .inl (cy 2, 120, .inr (.inl ex))), (mr 9, .inl (cy 2, 120, .inr (.inl wo)))]) (List.append_nil _) ?_
    refine x_if_ne C (tgt := 15) dX10_taken_9 (by decide) (q := 12) rfl (a := 1) rfl (fun h4 => ?_) (fun h4 => (by omega : False).elim)
    refine x_aload_n C dX10_taken_15 (q := 16) rfl rfl 0 rfl ?_
    refine x_iload_n C dX10_taken_16 (q := 17) rfl rfl 1 rfl ?_
    refine x_iload_n C dX10_taken_17 (q := 18) rfl rfl 2 rfl ?_
    refine x_callV C (roW := []) (roR := []) (c_X10_hasValue l D cy mo mr cols lc smp nse npa nbo tn ik ky j0 j1 j2 j3 j4 P fn fo ex wo st9 lr9 rl9 fa9 ca9 dc9 ld x y (by assumption) (by assumption) (by assumption) (by first | assumption | omega | (simp only []; omega)) (by assumption) (by assumption) (by first | assumption | omega | (simp only []; omega)) (by assumption) (by assumption)) (cwV 2 C.2.2.2.2.1 gX10_taken_X10_hasValue rfl rfl rfl (by decide +kernel) (by rw [hR]; exact ⟨Nat.le_of_ble_eq_true rfl, Nat.le_of_ble_eq_true rfl⟩)) [0, 1, 2, 3, 4, 5, 6] [] rfl (by decide) rfl (by decide) xro_nil (List.mem_of_getElem? (i := 0) rfl) (ci := 9) rfl xT_bl (fun _ _ _ _ _ _ _ => trivial) rfl rfl dX10_taken_18 rfl rfl (Nat.le_of_ble_eq_true rfl) (q := 21) rfl (k' := 0) rfl (n' := 0) rfl (by rw [hR]; exact ⟨Nat.le_of_ble_eq_true rfl, Nat.le_of_ble_eq_true rfl⟩) (fun v5 w5 hp5 => ?_)
    rcases hp5 with hp5 | hp5
    · skip
      obtain ⟨rfl, rfl, hc6⟩ := hp5
      refine x_ws (ws' := [(mo, .inr (9, [.int (nI cols), .int (nI lc), .int (nI smp), .int (ky), .ref (mr 0), .ref (mr 1), .ref (mr 2), .ref (mr 3), .ref (mr 4), .ref (mr 5), .ref (mr 6), .ref (mr 7), .ref (mr 8), .ref (mr 9), .int (nI (pMk P)), .int (nI (pRs P)), .ref (mr 10), .ref (mr 11), .ref (mr 12), .ref (mr 13), .ref (mr 14), .ref (mr 15), .ref (mr 16), .ref (mr 17), .ref (mr 18), .ref (mr 19), .ref (mr 20), .int (nI nse), .int (nI npa), .int (nI nbo), .ref (mr 21), .int (nI tn), .ref (mr 22), .int (nI ik), .int (j0), .int (j1), .ref (mr 23), .int (j2), .ref (mr 24), .ref (mr 25), .int (j3), .ref (mr 26), .int (j4), .ref (mr 27), .ref (mr 28), .ref (mr 29), .ref (mr 30)])), (mr 10, .inl (cy 1, 24, .inl (fun k => nI (lr9 k)))), (mr 3, .inl (cy 1, 5, .inl (fun k => nI (st9 k)))), (mr 6, .inl (cy 1, 24, .inl (fun k => nI (fn k)))), (mr 7, .inl (cy 1, 120, .inl (fun k => nI (fo k)))), (mr 8, .inl (cy 2, 120, .inr (.inl ex))), (mr 9, .inl (cy 2, 120, .inr (.inl wo)))]) rfl ?_
      have hhv := hc6
      obtain ⟨hv0, hv1, hv2, hv3, hv4⟩ := hhv
      have hhv : hasV ld cols P x.toInt y.toInt := ⟨hv0, hv1, hv2, hv3, hv4⟩
      refine x_if_ne C (tgt := 27) dX10_taken_21 (by decide) (q := 24) rfl (a := 1) rfl (fun h7 => ?_) (fun h7 => (by omega : False).elim)
      refine x_aload_n C dX10_taken_27 (q := 28) rfl rfl 0 rfl ?_
      refine x_get C (ci := 9) (v := .ref (mr 3)) hw1 0 rfl rfl 7 (by decide) hw2 rfl dX10_taken_28 (q := 31) rfl ?_
      refine x_iload_n C dX10_taken_31 (q := 32) rfl rfl 2 rfl ?_
      have hb8 := hst9 y.toInt.toNat
      refine x_iald C (j := y.toInt.toNat) (v := nI (st9 y.toInt.toNat)) 2 rfl (by have h9 := (rfl : (y : Int32).toInt = y.toInt); omega) (by omega) rfl dX10_taken_32 (q := 33) rfl ?_
      refine x_istore C (L' := [(4, .int (nI (st9 y.toInt.toNat))), (0, .ref mo), (1, .int (x)), (2, .int (y)), (3, .int (z))]) dX10_taken_33 (q := 35) rfl (by decide) rfl ?_
      refine x_iload C dX10_taken_35 (q := 37) rfl 0 rfl ?_
      refine x_iload_n C dX10_taken_37 (q := 38) rfl rfl 4 rfl ?_
      refine x_icmp_eq C (tgt := 51) dX10_taken_38 (by decide) (q := 41) rfl (a := ((st9 y.toInt.toNat : Nat) : Int)) (b := z.toInt) (nI_toInt (by omega)) rfl (fun h9 => ?_) (fun h9 => ?_)
      · first
        | (exfalso; omega)
        |
          refine x_iload C dX10_taken_51 (q := 53) rfl 0 rfl ?_
          refine x_goto C (tgt := 58) dX10_taken_53 (by decide) ?_
          refine x_iret C hA hQ hr dX10_taken_58 (Nat.le_of_ble_eq_true rfl) ?_
          refine ⟨?_, rfl⟩
          unfold takA
          rw [if_neg (by omega), if_neg (fun q => q hhv), tyS_s (hF.2.1 (by omega) _ (by omega)), ← hmp.1.1 _ (by omega)]
          first | rw [if_pos (by omega)] | rw [if_neg (by omega)]
      · first
        | (exfalso; omega)
        |
          refine x_iload_n C dX10_taken_41 (q := 42) rfl rfl 4 rfl ?_
          refine x_if_ne C (tgt := 56) dX10_taken_42 (by decide) (q := 45) rfl (a := z.toInt) rfl (fun h10 => ?_) (fun h10 => ?_)
          · first
            | (exfalso; omega)
            |
              refine x_bipush C dX10_taken_56 (q := 58) rfl (v := (-12)) (by decide) ?_
              refine x_iret C hA hQ hr dX10_taken_58 (Nat.le_of_ble_eq_true rfl) ?_
              refine ⟨?_, rfl⟩
              unfold takA
              rw [if_neg (by omega), if_neg (fun q => q hhv), tyS_s (hF.2.1 (by omega) _ (by omega)), ← hmp.1.1 _ (by omega)]
              first | rw [if_pos (by omega)] | rw [if_neg (by omega)]
          · first
            | (exfalso; omega)
            |
              refine x_iload C dX10_taken_45 (q := 47) rfl 0 rfl ?_
              refine x_iconst C dX10_taken_47 (q := 48) rfl (v := nI 4) (by decide) ?_
              refine x_icmp_eq C (tgt := 56) dX10_taken_48 (by decide) (q := 51) rfl (a := ((st9 y.toInt.toNat : Nat) : Int)) (b := 4) (nI_toInt (by omega)) rfl (fun h11 => ?_) (fun h11 => ?_)
              · first
                | (exfalso; omega)
                |
                  refine x_bipush C dX10_taken_56 (q := 58) rfl (v := (-12)) (by decide) ?_
                  refine x_iret C hA hQ hr dX10_taken_58 (Nat.le_of_ble_eq_true rfl) ?_
                  refine ⟨?_, rfl⟩
                  unfold takA
                  rw [if_neg (by omega), if_neg (fun q => q hhv), tyS_s (hF.2.1 (by omega) _ (by omega)), ← hmp.1.1 _ (by omega)]
                  first | rw [if_pos (by omega)] | rw [if_neg (by omega)]
              · first
                | (exfalso; omega)
                |
                  refine x_iload C dX10_taken_51 (q := 53) rfl 0 rfl ?_
                  refine x_goto C (tgt := 58) dX10_taken_53 (by decide) ?_
                  refine x_iret C hA hQ hr dX10_taken_58 (Nat.le_of_ble_eq_true rfl) ?_
                  refine ⟨?_, rfl⟩
                  unfold takA
                  rw [if_neg (by omega), if_neg (fun q => q hhv), tyS_s (hF.2.1 (by omega) _ (by omega)), ← hmp.1.1 _ (by omega)]
                  first | rw [if_pos (by omega)] | rw [if_neg (by omega)]
    · skip
      obtain ⟨rfl, rfl, hc12⟩ := hp5
      refine x_ws (ws' := [(mo, .inr (9, [.int (nI cols), .int (nI lc), .int (nI smp), .int (ky), .ref (mr 0), .ref (mr 1), .ref (mr 2), .ref (mr 3), .ref (mr 4), .ref (mr 5), .ref (mr 6), .ref (mr 7), .ref (mr 8), .ref (mr 9), .int (nI (pMk P)), .int (nI (pRs P)), .ref (mr 10), .ref (mr 11), .ref (mr 12), .ref (mr 13), .ref (mr 14), .ref (mr 15), .ref (mr 16), .ref (mr 17), .ref (mr 18), .ref (mr 19), .ref (mr 20), .int (nI nse), .int (nI npa), .int (nI nbo), .ref (mr 21), .int (nI tn), .ref (mr 22), .int (nI ik), .int (j0), .int (j1), .ref (mr 23), .int (j2), .ref (mr 24), .ref (mr 25), .int (j3), .ref (mr 26), .int (j4), .ref (mr 27), .ref (mr 28), .ref (mr 29), .ref (mr 30)])), (mr 10, .inl (cy 1, 24, .inl (fun k => nI (lr9 k)))), (mr 3, .inl (cy 1, 5, .inl (fun k => nI (st9 k)))), (mr 6, .inl (cy 1, 24, .inl (fun k => nI (fn k)))), (mr 7, .inl (cy 1, 120, .inl (fun k => nI (fo k)))), (mr 8, .inl (cy 2, 120, .inr (.inl ex))), (mr 9, .inl (cy 2, 120, .inr (.inl wo)))]) rfl ?_
      have hhv := hc12
      refine x_if_ne C (tgt := 27) dX10_taken_21 (by decide) (q := 24) rfl (a := 0) rfl (fun h13 => (by omega : False).elim) (fun h13 => ?_)
      refine x_bipush C dX10_taken_24 (q := 26) rfl (v := (-11)) (by decide) ?_
      refine x_iret C hA hQ hr dX10_taken_26 (Nat.le_of_ble_eq_true rfl) ?_
      refine ⟨?_, rfl⟩
      unfold takA
      rw [if_neg (by omega), if_pos hhv]
  · skip
    obtain ⟨rfl, rfl, hc14⟩ := hp1
    refine x_ws (ws' := [(mo, .inr (9, [.int (nI cols), .int (nI lc), .int (nI smp), .int (ky), .ref (mr 0), .ref (mr 1), .ref (mr 2), .ref (mr 3), .ref (mr 4), .ref (mr 5), .ref (mr 6), .ref (mr 7), .ref (mr 8), .ref (mr 9), .int (nI (pMk P)), .int (nI (pRs P)), .ref (mr 10), .ref (mr 11), .ref (mr 12), .ref (mr 13), .ref (mr 14), .ref (mr 15), .ref (mr 16), .ref (mr 17), .ref (mr 18), .ref (mr 19), .ref (mr 20), .int (nI nse), .int (nI npa), .int (nI nbo), .ref (mr 21), .int (nI tn), .ref (mr 22), .int (nI ik), .int (j0), .int (j1), .ref (mr 23), .int (j2), .ref (mr 24), .ref (mr 25), .int (j3), .ref (mr 26), .int (j4), .ref (mr 27), .ref (mr 28), .ref (mr 29), .ref (mr 30)])), (mr 10, .inl (cy 1, 24, .inl (fun k => nI (lr9 k)))), (mr 3, .inl (cy 1, 5, .inl (fun k => nI (st9 k)))), (mr 6, .inl (cy 1, 24, .inl (fun k => nI (fn k)))), (mr 7, .inl (cy 1, 120, .inl (fun k => nI (fo k)))), (mr 8, .inl (cy 2, 120, .inr (.inl ex))), (mr 9, .inl (cy 2, 120, .inr (.inl wo)))]) (List.append_nil _) ?_
    refine x_if_ne C (tgt := 15) dX10_taken_9 (by decide) (q := 12) rfl (a := 0) rfl (fun h15 => (by omega : False).elim) (fun h15 => ?_)
    refine x_bipush C dX10_taken_12 (q := 14) rfl (v := (-2)) (by decide) ?_
    refine x_iret C hA hQ hr dX10_taken_14 (Nat.le_of_ble_eq_true rfl) ?_
    refine ⟨?_, rfl⟩
    unfold takA
    rw [if_pos (by omega)]

set_option maxHeartbeats 4000000 in
set_option maxRecDepth 100000 in
/-- havers -/
theorem c_X10_havers (l : Launch) (D : va_G) (cy : Nat → ClassId) (mo : Nat) (mr : Nat → Nat) (cols : Nat) (lc : Nat) (smp : Nat) (nse : Nat) (npa : Nat) (nbo : Nat) (tn : Nat) (ik : Nat) (ky : Int32) (j0 : Int32) (j1 : Int32) (j2 : Int32) (j3 : Int32) (j4 : Int32) (P : PS) (fn : Nat → Nat) (fo : Nat → Nat) (ex : Nat → Int64) (wo : Nat → Int64) (st9 : Nat → Nat) (lr9 : Nat → Nat) (rl9 : Nat → Int32) (fa9 : Nat → Int32) (ca9 : Nat → Int32) (dc9 : Nat → Int32) (ld : LD) (y : Int32) (hml : MdL ld lc fn fo ex wo) (hfo4 : ∀ q, fo q ≤ 4) (hfn : ∀ q, fn q ≤ 61) (hlc : lc ≤ 24) (hF : InvF ld cols lc P) (hmp : MdP cols P st9 lr9 rl9 fa9 ca9 dc9) (hcols : cols ≤ 5) (hlr9 : ∀ k, lr9 k < 24) (hst9 : ∀ k, st9 k ≤ 4) (hy0 : 0 ≤ y.toInt) (hy1 : y.toInt < cols) : xMet l D cy xT yX10_havers wsX10_havers ({ frames := 5, cells := 0, slots := 0, locals := 600 } : Room) [.ref mo, .int (y)] [(mo, .inr (9, [.int (nI cols), .int (nI lc), .int (nI smp), .int (ky), .ref (mr 0), .ref (mr 1), .ref (mr 2), .ref (mr 3), .ref (mr 4), .ref (mr 5), .ref (mr 6), .ref (mr 7), .ref (mr 8), .ref (mr 9), .int (nI (pMk P)), .int (nI (pRs P)), .ref (mr 10), .ref (mr 11), .ref (mr 12), .ref (mr 13), .ref (mr 14), .ref (mr 15), .ref (mr 16), .ref (mr 17), .ref (mr 18), .ref (mr 19), .ref (mr 20), .int (nI nse), .int (nI npa), .int (nI nbo), .ref (mr 21), .int (nI tn), .ref (mr 22), .int (nI ik), .int (j0), .int (j1), .ref (mr 23), .int (j2), .ref (mr 24), .ref (mr 25), .int (j3), .ref (mr 26), .int (j4), .ref (mr 27), .ref (mr 28), .ref (mr 29), .ref (mr 30)])), (mr 10, .inl (cy 1, 24, .inl (fun k => nI (lr9 k)))), (mr 3, .inl (cy 1, 5, .inl (fun k => nI (st9 k)))), (mr 6, .inl (cy 1, 24, .inl (fun k => nI (fn k)))), (mr 7, .inl (cy 1, 120, .inl (fun k => nI (fo k)))), (mr 8, .inl (cy 2, 120, .inr (.inl ex))), (mr 9, .inl (cy 2, 120, .inr (.inl wo)))] [] (fun (v9 : Option Value) (w9 : va_W) => (v9 = some (.int (nI (gaN ld (pLr P) y.toInt.toNat (pRs P)))) ∧ w9 = [(mo, .inr (9, [.int (nI cols), .int (nI lc), .int (nI smp), .int (ky), .ref (mr 0), .ref (mr 1), .ref (mr 2), .ref (mr 3), .ref (mr 4), .ref (mr 5), .ref (mr 6), .ref (mr 7), .ref (mr 8), .ref (mr 9), .int (nI (pMk P)), .int (nI (pRs P)), .ref (mr 10), .ref (mr 11), .ref (mr 12), .ref (mr 13), .ref (mr 14), .ref (mr 15), .ref (mr 16), .ref (mr 17), .ref (mr 18), .ref (mr 19), .ref (mr 20), .int (nI nse), .int (nI npa), .int (nI nbo), .ref (mr 21), .int (nI tn), .ref (mr 22), .int (nI ik), .int (j0), .int (j1), .ref (mr 23), .int (j2), .ref (mr 24), .ref (mr 25), .int (j3), .ref (mr 26), .int (j4), .ref (mr 27), .ref (mr 28), .ref (mr 29), .ref (mr 30)])), (mr 10, .inl (cy 1, 24, .inl (fun k => nI (lr9 k)))), (mr 3, .inl (cy 1, 5, .inl (fun k => nI (st9 k)))), (mr 6, .inl (cy 1, 24, .inl (fun k => nI (fn k)))), (mr 7, .inl (cy 1, 120, .inl (fun k => nI (fo k)))), (mr 8, .inl (cy 2, 120, .inr (.inl ex))), (mr 9, .inl (cy 2, 120, .inr (.inl wo)))])) := by
  refine xMet_of (cc := cX10_havers) (maxL := 4) (ret := (some .int)) (by decide) rfl (Nat.le_of_ble_eq_true rfl) (fun p e s m args below meth c A R Q hA hR hQ C hr hnm hro hX => ?_)
  have hw0 : ∀ w ∈ u_ws RX10 TX10 47, w ∈ wsX10_havers := by decide +kernel
  have hw1 : Cond.fieldLink RX10 128 (TX10 15).1 (TX10 15).2.1 (TX10 15).2.2.1 ∈ wsX10_havers := by decide +kernel
  refine x_L (L' := [(0, .ref mo), (1, .int (y))]) [0, 1] rfl ?_
  have hIP := hF.1
  have hP1 := hIP.1
  have hP2 := hIP.2.1
  refine x_iconst C dX10_havers_0 (q := 1) rfl (v := nI 0) (by decide) ?_
  refine x_istore_n C (L' := [(2, .int (nI 0)), (0, .ref mo), (1, .int (y))]) dX10_havers_1 (q := 2) rfl rfl (by decide) rfl ?_
  refine x_iconst C dX10_havers_2 (q := 3) rfl (v := nI 0) (by decide) ?_
  refine x_istore_n C (L' := [(3, .int (nI 0)), (2, .int (nI 0)), (0, .ref mo), (1, .int (y))]) dX10_havers_3 (q := 4) rfl rfl (by decide) rfl ?_
  have cut4 : ∀ (fuel : Nat) (r : Nat) (cn : Nat), (r ≤ pRs P) → (cn = gaN ld (pLr P) y.toInt.toNat r) → pRs P - r < fuel → xG p l e R s m args below meth c Q D A 4 [(mo, .inr (9, [.int (nI cols), .int (nI lc), .int (nI smp), .int (ky), .ref (mr 0), .ref (mr 1), .ref (mr 2), .ref (mr 3), .ref (mr 4), .ref (mr 5), .ref (mr 6), .ref (mr 7), .ref (mr 8), .ref (mr 9), .int (nI (pMk P)), .int (nI (pRs P)), .ref (mr 10), .ref (mr 11), .ref (mr 12), .ref (mr 13), .ref (mr 14), .ref (mr 15), .ref (mr 16), .ref (mr 17), .ref (mr 18), .ref (mr 19), .ref (mr 20), .int (nI nse), .int (nI npa), .int (nI nbo), .ref (mr 21), .int (nI tn), .ref (mr 22), .int (nI ik), .int (j0), .int (j1), .ref (mr 23), .int (j2), .ref (mr 24), .ref (mr 25), .int (j3), .ref (mr 26), .int (j4), .ref (mr 27), .ref (mr 28), .ref (mr 29), .ref (mr 30)])), (mr 10, .inl (cy 1, 24, .inl (fun k => nI (lr9 k)))), (mr 3, .inl (cy 1, 5, .inl (fun k => nI (st9 k)))), (mr 6, .inl (cy 1, 24, .inl (fun k => nI (fn k)))), (mr 7, .inl (cy 1, 120, .inl (fun k => nI (fo k)))), (mr 8, .inl (cy 2, 120, .inr (.inl ex))), (mr 9, .inl (cy 2, 120, .inr (.inl wo)))] 0 0 4 [(0, .ref mo), (1, .int (y)), (2, .int (nI cn)), (3, .int (nI r))] [] := by
    intro fuel
    induction fuel with
    | zero =>
      intro r cn hrr hcn hmu
      exact absurd hmu (Nat.not_lt_zero _)
    | succ fuel ih =>
      intro r cn hrr hcn hmu
      have hg9 := gaN_le ld (pLr P) (y.toInt.toNat) r
      have ih4 := ih
      clear ih
      refine x_iload_n C dX10_havers_4 (q := 5) rfl rfl 3 rfl ?_
      refine x_aload_n C dX10_havers_5 (q := 6) rfl rfl 0 rfl ?_
      refine x_get C (ci := 9) (v := .int (nI (pRs P))) hw0 0 rfl rfl 15 (by decide) hw1 rfl dX10_havers_6 (q := 9) rfl ?_
      refine x_icmp_ge C (tgt := 35) dX10_havers_9 (by decide) (q := 12) rfl (a := ((r : Nat) : Int)) (b := ((pRs P : Nat) : Int)) (nI_toInt (by omega)) (nI_toInt (by omega)) (fun h1 => ?_) (fun h1 => ?_)
      · first
        | (exfalso; omega)
        |
          refine x_iload_n C dX10_havers_35 (q := 36) rfl rfl 2 rfl ?_
          refine x_iret C hA hQ hr dX10_havers_36 (Nat.le_of_ble_eq_true rfl) ?_
          have e9 : r = pRs P := by omega
          exact ⟨by rw [hcn, e9], rfl⟩
      · first
        | (exfalso; omega)
        |
          refine x_iload_n C dX10_havers_12 (q := 13) rfl rfl 2 rfl ?_
          refine x_aload_n C dX10_havers_13 (q := 14) rfl rfl 0 rfl ?_
          refine x_iload_n C dX10_havers_14 (q := 15) rfl rfl 3 rfl ?_
          refine x_iload_n C dX10_havers_15 (q := 16) rfl rfl 1 rfl ?_
          refine x_callV C (roW := []) (roR := []) (c_X10_hasValue_n l D cy mo mr cols lc smp nse npa nbo tn ik ky j0 j1 j2 j3 j4 P fn fo ex wo st9 lr9 rl9 fa9 ca9 dc9 ld r y (by assumption) (by assumption) (by assumption) (by first | assumption | omega | (simp only []; omega)) (by assumption) (by assumption) (by first | assumption | omega | (simp only []; omega)) (by assumption) (by assumption) (by first | assumption | omega | (simp only []; omega)) (by first | assumption | omega | (simp only []; omega)) (by first | assumption | omega | (simp only []; omega))) (cwV 2 C.2.2.2.2.1 gX10_havers_X10_hasValue rfl rfl rfl (by decide +kernel) (by rw [hR]; exact ⟨Nat.le_of_ble_eq_true rfl, Nat.le_of_ble_eq_true rfl⟩)) [0, 1, 2, 3, 4, 5, 6] [] rfl (by decide) rfl (by decide) xro_nil (List.mem_of_getElem? (i := 0) rfl) (ci := 9) rfl xT_bl (fun _ _ _ _ _ _ _ => trivial) rfl rfl dX10_havers_16 rfl rfl (Nat.le_of_ble_eq_true rfl) (q := 19) rfl (k' := 0) rfl (n' := 0) rfl (by rw [hR]; exact ⟨Nat.le_of_ble_eq_true rfl, Nat.le_of_ble_eq_true rfl⟩) (fun v2 w2 hp2 => ?_)
          rcases hp2 with hp2 | hp2
          · skip
            obtain ⟨rfl, rfl, hc3⟩ := hp2
            refine x_ws (ws' := [(mo, .inr (9, [.int (nI cols), .int (nI lc), .int (nI smp), .int (ky), .ref (mr 0), .ref (mr 1), .ref (mr 2), .ref (mr 3), .ref (mr 4), .ref (mr 5), .ref (mr 6), .ref (mr 7), .ref (mr 8), .ref (mr 9), .int (nI (pMk P)), .int (nI (pRs P)), .ref (mr 10), .ref (mr 11), .ref (mr 12), .ref (mr 13), .ref (mr 14), .ref (mr 15), .ref (mr 16), .ref (mr 17), .ref (mr 18), .ref (mr 19), .ref (mr 20), .int (nI nse), .int (nI npa), .int (nI nbo), .ref (mr 21), .int (nI tn), .ref (mr 22), .int (nI ik), .int (j0), .int (j1), .ref (mr 23), .int (j2), .ref (mr 24), .ref (mr 25), .int (j3), .ref (mr 26), .int (j4), .ref (mr 27), .ref (mr 28), .ref (mr 29), .ref (mr 30)])), (mr 10, .inl (cy 1, 24, .inl (fun k => nI (lr9 k)))), (mr 3, .inl (cy 1, 5, .inl (fun k => nI (st9 k)))), (mr 6, .inl (cy 1, 24, .inl (fun k => nI (fn k)))), (mr 7, .inl (cy 1, 120, .inl (fun k => nI (fo k)))), (mr 8, .inl (cy 2, 120, .inr (.inl ex))), (mr 9, .inl (cy 2, 120, .inr (.inl wo)))]) rfl ?_
            refine x_if_eq C (tgt := 26) dX10_havers_19 (by decide) (q := 22) rfl (a := 1) rfl (fun h4 => (by omega : False).elim) (fun h4 => ?_)
            refine x_iconst C dX10_havers_22 (q := 23) rfl (v := nI 1) (by decide) ?_
            refine x_goto C (tgt := 27) dX10_havers_23 (by decide) ?_
            refine x_iadd C dX10_havers_27 (q := 28) rfl (z := nI (cn + 1)) (nI_add cn 1) ?_
            refine x_istore_n C (L' := [(2, .int (nI (cn + 1))), (0, .ref mo), (1, .int (y)), (3, .int (nI r))]) dX10_havers_28 (q := 29) rfl rfl (by decide) rfl ?_
            refine x_iinc C (L' := [(3, .int (nI (r + 1))), (2, .int (nI (cn + 1))), (0, .ref mo), (1, .int (y))]) dX10_havers_29 (q := 32) rfl 3 rfl (v := nI (r + 1)) (nI_add r 1) (by decide) rfl ?_
            refine x_goto C (tgt := 4) dX10_havers_32 (by decide) ?_
            refine x_L (L' := [(0, .ref mo), (1, .int (y)), (2, .int (nI (cn + 1))), (3, .int (nI (r + 1)))]) [2, 3, 1, 0] rfl ?_
            exact ih4 (r + 1) (cn + 1) (by first | omega | assumption) (by first | (rw [gaN_y (by assumption)]; omega) | (rw [gaN_n (by assumption)]; omega)) (by omega)
          · skip
            obtain ⟨rfl, rfl, hc5⟩ := hp2
            refine x_ws (ws' := [(mo, .inr (9, [.int (nI cols), .int (nI lc), .int (nI smp), .int (ky), .ref (mr 0), .ref (mr 1), .ref (mr 2), .ref (mr 3), .ref (mr 4), .ref (mr 5), .ref (mr 6), .ref (mr 7), .ref (mr 8), .ref (mr 9), .int (nI (pMk P)), .int (nI (pRs P)), .ref (mr 10), .ref (mr 11), .ref (mr 12), .ref (mr 13), .ref (mr 14), .ref (mr 15), .ref (mr 16), .ref (mr 17), .ref (mr 18), .ref (mr 19), .ref (mr 20), .int (nI nse), .int (nI npa), .int (nI nbo), .ref (mr 21), .int (nI tn), .ref (mr 22), .int (nI ik), .int (j0), .int (j1), .ref (mr 23), .int (j2), .ref (mr 24), .ref (mr 25), .int (j3), .ref (mr 26), .int (j4), .ref (mr 27), .ref (mr 28), .ref (mr 29), .ref (mr 30)])), (mr 10, .inl (cy 1, 24, .inl (fun k => nI (lr9 k)))), (mr 3, .inl (cy 1, 5, .inl (fun k => nI (st9 k)))), (mr 6, .inl (cy 1, 24, .inl (fun k => nI (fn k)))), (mr 7, .inl (cy 1, 120, .inl (fun k => nI (fo k)))), (mr 8, .inl (cy 2, 120, .inr (.inl ex))), (mr 9, .inl (cy 2, 120, .inr (.inl wo)))]) rfl ?_
            refine x_if_eq C (tgt := 26) dX10_havers_19 (by decide) (q := 22) rfl (a := 0) rfl (fun h6 => ?_) (fun h6 => (by omega : False).elim)
            refine x_iconst C dX10_havers_26 (q := 27) rfl (v := nI 0) (by decide) ?_
            refine x_iadd C dX10_havers_27 (q := 28) rfl (z := nI (cn + 0)) (nI_add cn 0) ?_
            refine x_istore_n C (L' := [(2, .int (nI (cn + 0))), (0, .ref mo), (1, .int (y)), (3, .int (nI r))]) dX10_havers_28 (q := 29) rfl rfl (by decide) rfl ?_
            refine x_iinc C (L' := [(3, .int (nI (r + 1))), (2, .int (nI (cn + 0))), (0, .ref mo), (1, .int (y))]) dX10_havers_29 (q := 32) rfl 3 rfl (v := nI (r + 1)) (nI_add r 1) (by decide) rfl ?_
            refine x_goto C (tgt := 4) dX10_havers_32 (by decide) ?_
            refine x_L (L' := [(0, .ref mo), (1, .int (y)), (2, .int (nI (cn + 0))), (3, .int (nI (r + 1)))]) [2, 3, 1, 0] rfl ?_
            exact ih4 (r + 1) (cn + 0) (by first | omega | assumption) (by first | (rw [gaN_y (by assumption)]; omega) | (rw [gaN_n (by assumption)]; omega)) (by omega)
  refine x_L (L' := [(0, .ref mo), (1, .int (y)), (2, .int (nI 0)), (3, .int (nI 0))]) [2, 3, 1, 0] rfl ?_
  exact cut4 (pRs P - 0 + 1) 0 0 (by first | omega | assumption) (by rfl) (by omega)

set_option maxHeartbeats 4000000 in
set_option maxRecDepth 100000 in
/-- edge -/
theorem c_X10_edge_1 (l : Launch) (D : va_G) (cy : Nat → ClassId) (mo : Nat) (mr : Nat → Nat) (cols : Nat) (lc : Nat) (smp : Nat) (nse : Nat) (npa : Nat) (nbo : Nat) (tn : Nat) (ik : Nat) (ky : Int32) (j0 : Int32) (j1 : Int32) (j2 : Int32) (j3 : Int32) (j4 : Int32) (P : PS) (fn : Nat → Nat) (fo : Nat → Nat) (ex : Nat → Int64) (wo : Nat → Int64) (st9 : Nat → Nat) (lr9 : Nat → Nat) (rl9 : Nat → Int32) (fa9 : Nat → Int32) (ca9 : Nat → Int32) (dc9 : Nat → Int32) (ld : LD) (y : Int32) (ga : Nat → Int64) (hml : MdL ld lc fn fo ex wo) (hfo4 : ∀ q, fo q ≤ 4) (hfn : ∀ q, fn q ≤ 61) (hlc : lc ≤ 24) (hF : InvF ld cols lc P) (hmp : MdP cols P st9 lr9 rl9 fa9 ca9 dc9) (hcols : cols ≤ 5) (hlr9 : ∀ k, lr9 k < 24) (hst9 : ∀ k, st9 k ≤ 4) (hy0 : 0 ≤ y.toInt) (hy1 : y.toInt < cols) : xMet l D cy xT yX10_edge wsX10_edge ({ frames := 5, cells := 0, slots := 0, locals := 700 } : Room) [.ref mo, .int (y), .int (nI 1)] [(mo, .inr (9, [.int (nI cols), .int (nI lc), .int (nI smp), .int (ky), .ref (mr 0), .ref (mr 1), .ref (mr 2), .ref (mr 3), .ref (mr 4), .ref (mr 5), .ref (mr 6), .ref (mr 7), .ref (mr 8), .ref (mr 9), .int (nI (pMk P)), .int (nI (pRs P)), .ref (mr 10), .ref (mr 11), .ref (mr 12), .ref (mr 13), .ref (mr 14), .ref (mr 15), .ref (mr 16), .ref (mr 17), .ref (mr 18), .ref (mr 19), .ref (mr 20), .int (nI nse), .int (nI npa), .int (nI nbo), .ref (mr 21), .int (nI tn), .ref (mr 22), .int (nI ik), .int (j0), .int (j1), .ref (mr 23), .int (j2), .ref (mr 24), .ref (mr 25), .int (j3), .ref (mr 26), .int (j4), .ref (mr 27), .ref (mr 28), .ref (mr 29), .ref (mr 30)])), (mr 10, .inl (cy 1, 24, .inl (fun k => nI (lr9 k)))), (mr 3, .inl (cy 1, 5, .inl (fun k => nI (st9 k)))), (mr 6, .inl (cy 1, 24, .inl (fun k => nI (fn k)))), (mr 7, .inl (cy 1, 120, .inl (fun k => nI (fo k)))), (mr 8, .inl (cy 2, 120, .inr (.inl ex))), (mr 9, .inl (cy 2, 120, .inr (.inl wo)))] [] (fun (v9 : Option Value) (w9 : va_W) => (v9 = some (.long (if gaN ld (pLr P) y.toInt.toNat (pRs P) = 0 then (-9223372036854775808) else leS (gaF ld (pLr P) (pSt P y.toInt.toNat) y.toInt.toNat ga (pRs P)) (gaN ld (pLr P) y.toInt.toNat (pRs P)))) ∧ w9 = [(mo, .inr (9, [.int (nI cols), .int (nI lc), .int (nI smp), .int (ky), .ref (mr 0), .ref (mr 1), .ref (mr 2), .ref (mr 3), .ref (mr 4), .ref (mr 5), .ref (mr 6), .ref (mr 7), .ref (mr 8), .ref (mr 9), .int (nI (pMk P)), .int (nI (pRs P)), .ref (mr 10), .ref (mr 11), .ref (mr 12), .ref (mr 13), .ref (mr 14), .ref (mr 15), .ref (mr 16), .ref (mr 17), .ref (mr 18), .ref (mr 19), .ref (mr 20), .int (nI nse), .int (nI npa), .int (nI nbo), .ref (mr 21), .int (nI tn), .ref (mr 22), .int (nI ik), .int (j0), .int (j1), .ref (mr 23), .int (j2), .ref (mr 24), .ref (mr 25), .int (j3), .ref (mr 26), .int (j4), .ref (mr 27), .ref (mr 28), .ref (mr 29), .ref (mr 30)])), (mr 10, .inl (cy 1, 24, .inl (fun k => nI (lr9 k)))), (mr 3, .inl (cy 1, 5, .inl (fun k => nI (st9 k)))), (mr 6, .inl (cy 1, 24, .inl (fun k => nI (fn k)))), (mr 7, .inl (cy 1, 120, .inl (fun k => nI (fo k)))), (mr 8, .inl (cy 2, 120, .inr (.inl ex))), (mr 9, .inl (cy 2, 120, .inr (.inl wo)))])) := by
  refine xMet_of (cc := cX10_edge) (maxL := 7) (ret := (some .long)) (by decide) rfl (Nat.le_of_ble_eq_true rfl) (fun p e s m args below meth c A R Q hA hR hQ C hr hnm hro hX => ?_)
  have hw0 : Jvm.Cond.constantLong RX10 245 (-9223372036854775808) ∈ wsX10_edge := by decide +kernel
  have hw1 : ∀ w ∈ u_ws RX10 TX10 47, w ∈ wsX10_edge := by decide +kernel
  have hw2 : Cond.fieldLink RX10 128 (TX10 15).1 (TX10 15).2.1 (TX10 15).2.2.1 ∈ wsX10_edge := by decide +kernel
  refine x_L (L' := [(0, .ref mo), (1, .int (y)), (2, .int (nI 1))]) [0, 1, 2] rfl ?_
  have hIP := hF.1
  have hP1 := hIP.1
  have hP2 := hIP.2.1
  refine x_ldc2 C (v := (-9223372036854775808)) hw0 dX10_edge_0 (q := 3) rfl ?_
  refine x_lstore_n C (L' := [(3, .long ((-9223372036854775808))), (0, .ref mo), (1, .int (y)), (2, .int (nI 1))]) dX10_edge_3 (q := 4) rfl rfl (by decide) rfl ?_
  refine x_iconst C dX10_edge_4 (q := 5) rfl (v := nI 0) (by decide) ?_
  refine x_istore C (L' := [(5, .int (nI 0)), (3, .long ((-9223372036854775808))), (0, .ref mo), (1, .int (y)), (2, .int (nI 1))]) dX10_edge_5 (q := 7) rfl (by decide) rfl ?_
  refine x_iconst C dX10_edge_7 (q := 8) rfl (v := nI 0) (by decide) ?_
  refine x_istore C (L' := [(6, .int (nI 0)), (5, .int (nI 0)), (3, .long ((-9223372036854775808))), (0, .ref mo), (1, .int (y)), (2, .int (nI 1))]) dX10_edge_8 (q := 10) rfl (by decide) rfl ?_
  have cut10 : ∀ (fuel : Nat) (r : Nat) (v : Int64) (fl : Nat), (r ≤ pRs P) → ((gaN ld (pLr P) y.toInt.toNat r = 0 ∧ fl = 0 ∧ v = -9223372036854775808) ∨ (0 < gaN ld (pLr P) y.toInt.toNat r ∧ fl = 1 ∧ v = leS (gaF ld (pLr P) (pSt P y.toInt.toNat) y.toInt.toNat ga (pRs P)) (gaN ld (pLr P) y.toInt.toNat r))) → pRs P - r < fuel → xG p l e R s m args below meth c Q D A 7 [(mo, .inr (9, [.int (nI cols), .int (nI lc), .int (nI smp), .int (ky), .ref (mr 0), .ref (mr 1), .ref (mr 2), .ref (mr 3), .ref (mr 4), .ref (mr 5), .ref (mr 6), .ref (mr 7), .ref (mr 8), .ref (mr 9), .int (nI (pMk P)), .int (nI (pRs P)), .ref (mr 10), .ref (mr 11), .ref (mr 12), .ref (mr 13), .ref (mr 14), .ref (mr 15), .ref (mr 16), .ref (mr 17), .ref (mr 18), .ref (mr 19), .ref (mr 20), .int (nI nse), .int (nI npa), .int (nI nbo), .ref (mr 21), .int (nI tn), .ref (mr 22), .int (nI ik), .int (j0), .int (j1), .ref (mr 23), .int (j2), .ref (mr 24), .ref (mr 25), .int (j3), .ref (mr 26), .int (j4), .ref (mr 27), .ref (mr 28), .ref (mr 29), .ref (mr 30)])), (mr 10, .inl (cy 1, 24, .inl (fun k => nI (lr9 k)))), (mr 3, .inl (cy 1, 5, .inl (fun k => nI (st9 k)))), (mr 6, .inl (cy 1, 24, .inl (fun k => nI (fn k)))), (mr 7, .inl (cy 1, 120, .inl (fun k => nI (fo k)))), (mr 8, .inl (cy 2, 120, .inr (.inl ex))), (mr 9, .inl (cy 2, 120, .inr (.inl wo)))] 0 0 10 [(0, .ref mo), (1, .int (y)), (2, .int (nI 1)), (3, .long (v)), (5, .int (nI fl)), (6, .int (nI r))] [] := by
    intro fuel
    induction fuel with
    | zero =>
      intro r v fl hrr hvv hmu
      exact absurd hmu (Nat.not_lt_zero _)
    | succ fuel ih =>
      intro r v fl hrr hvv hmu
      have hg9 := gaN_le ld (pLr P) (y.toInt.toNat) r
      have ih10 := ih
      clear ih
      refine x_iload C dX10_edge_10 (q := 12) rfl 5 rfl ?_
      refine x_aload_n C dX10_edge_12 (q := 13) rfl rfl 0 rfl ?_
      refine x_get C (ci := 9) (v := .int (nI (pRs P))) hw1 0 rfl rfl 15 (by decide) hw2 rfl dX10_edge_13 (q := 16) rfl ?_
      refine x_icmp_ge C (tgt := 82) dX10_edge_16 (by decide) (q := 19) rfl (a := ((r : Nat) : Int)) (b := ((pRs P : Nat) : Int)) (nI_toInt (by omega)) (nI_toInt (by omega)) (fun h1 => ?_) (fun h1 => ?_)
      · first
        | (exfalso; omega)
        |
          refine x_lload_n C dX10_edge_82 (q := 83) rfl rfl 3 rfl ?_
          refine x_lret C hA hQ hr dX10_edge_83 (Nat.le_of_ble_eq_true rfl) ?_
          have e9 : r = pRs P := by omega
          rw [e9] at hvv
          refine ⟨?_, rfl⟩
          rcases hvv with ⟨g0, _, g2⟩ | ⟨g0, _, g2⟩
          · rw [if_pos g0, g2]
          · rw [if_neg (by omega), g2]
      · first
        | (exfalso; omega)
        |
          refine x_aload_n C dX10_edge_19 (q := 20) rfl rfl 0 rfl ?_
          refine x_iload C dX10_edge_20 (q := 22) rfl 5 rfl ?_
          refine x_iload_n C dX10_edge_22 (q := 23) rfl rfl 1 rfl ?_
          refine x_callV C (roW := []) (roR := []) (c_X10_hasValue_n l D cy mo mr cols lc smp nse npa nbo tn ik ky j0 j1 j2 j3 j4 P fn fo ex wo st9 lr9 rl9 fa9 ca9 dc9 ld r y (by assumption) (by assumption) (by assumption) (by first | assumption | omega | (simp only []; omega)) (by assumption) (by assumption) (by first | assumption | omega | (simp only []; omega)) (by assumption) (by assumption) (by first | assumption | omega | (simp only []; omega)) (by first | assumption | omega | (simp only []; omega)) (by first | assumption | omega | (simp only []; omega))) (cwV 2 C.2.2.2.2.1 gX10_edge_X10_hasValue rfl rfl rfl (by decide +kernel) (by rw [hR]; exact ⟨Nat.le_of_ble_eq_true rfl, Nat.le_of_ble_eq_true rfl⟩)) [0, 1, 2, 3, 4, 5, 6] [] rfl (by decide) rfl (by decide) xro_nil (List.mem_of_getElem? (i := 0) rfl) (ci := 9) rfl xT_bl (fun _ _ _ _ _ _ _ => trivial) rfl rfl dX10_edge_23 rfl rfl (Nat.le_of_ble_eq_true rfl) (q := 26) rfl (k' := 0) rfl (n' := 0) rfl (by rw [hR]; exact ⟨Nat.le_of_ble_eq_true rfl, Nat.le_of_ble_eq_true rfl⟩) (fun v2 w2 hp2 => ?_)
          rcases hp2 with hp2 | hp2
          · skip
            obtain ⟨rfl, rfl, hc3⟩ := hp2
            refine x_ws (ws' := [(mo, .inr (9, [.int (nI cols), .int (nI lc), .int (nI smp), .int (ky), .ref (mr 0), .ref (mr 1), .ref (mr 2), .ref (mr 3), .ref (mr 4), .ref (mr 5), .ref (mr 6), .ref (mr 7), .ref (mr 8), .ref (mr 9), .int (nI (pMk P)), .int (nI (pRs P)), .ref (mr 10), .ref (mr 11), .ref (mr 12), .ref (mr 13), .ref (mr 14), .ref (mr 15), .ref (mr 16), .ref (mr 17), .ref (mr 18), .ref (mr 19), .ref (mr 20), .int (nI nse), .int (nI npa), .int (nI nbo), .ref (mr 21), .int (nI tn), .ref (mr 22), .int (nI ik), .int (j0), .int (j1), .ref (mr 23), .int (j2), .ref (mr 24), .ref (mr 25), .int (j3), .ref (mr 26), .int (j4), .ref (mr 27), .ref (mr 28), .ref (mr 29), .ref (mr 30)])), (mr 10, .inl (cy 1, 24, .inl (fun k => nI (lr9 k)))), (mr 3, .inl (cy 1, 5, .inl (fun k => nI (st9 k)))), (mr 6, .inl (cy 1, 24, .inl (fun k => nI (fn k)))), (mr 7, .inl (cy 1, 120, .inl (fun k => nI (fo k)))), (mr 8, .inl (cy 2, 120, .inr (.inl ex))), (mr 9, .inl (cy 2, 120, .inr (.inl wo)))]) rfl ?_
            refine x_if_eq C (tgt := 76) dX10_edge_26 (by decide) (q := 29) rfl (a := 1) rfl (fun h4 => (by omega : False).elim) (fun h4 => ?_)
            refine x_iload C dX10_edge_29 (q := 31) rfl 4 rfl ?_
            refine x_if_eq C (tgt := 65) dX10_edge_31 (by decide) (q := 34) rfl (a := ((fl : Nat) : Int)) (nI_toInt (by omega)) (fun h5 => ?_) (fun h5 => ?_)
            · first
              | (exfalso; omega)
              |
                refine x_aload_n C dX10_edge_65 (q := 66) rfl rfl 0 rfl ?_
                refine x_iload C dX10_edge_66 (q := 68) rfl 5 rfl ?_
                refine x_iload_n C dX10_edge_68 (q := 69) rfl rfl 1 rfl ?_
                refine x_callV C (roW := []) (roR := []) (c_X10_its l D cy mo mr cols lc smp nse npa nbo tn ik ky j0 j1 j2 j3 j4 P fn fo ex wo st9 lr9 rl9 fa9 ca9 dc9 ld r y (by assumption) (by assumption) (by assumption) (by first | assumption | omega | (simp only []; omega)) (by assumption) (by assumption) (by first | assumption | omega | (simp only []; omega)) (by assumption) (by assumption) (by first | assumption | omega | (simp only []; omega)) (by first | assumption | omega | (simp only []; omega)) (by first | assumption | omega | (simp only []; omega)) (by first | assumption | omega | (simp only []; omega))) (cwV 2 C.2.2.2.2.1 gX10_edge_X10_its rfl rfl rfl (by decide +kernel) (by rw [hR]; exact ⟨Nat.le_of_ble_eq_true rfl, Nat.le_of_ble_eq_true rfl⟩)) [0, 1, 2, 3, 4, 5, 6] [] rfl (by decide) rfl (by decide) xro_nil (List.mem_of_getElem? (i := 0) rfl) (ci := 9) rfl xT_bl (fun _ _ _ _ _ _ _ => trivial) rfl rfl dX10_edge_69 rfl rfl (Nat.le_of_ble_eq_true rfl) (q := 72) rfl (k' := 0) rfl (n' := 0) rfl (by rw [hR]; exact ⟨Nat.le_of_ble_eq_true rfl, Nat.le_of_ble_eq_true rfl⟩) (fun v6 w6 hp6 => ?_)
                obtain ⟨rfl, rfl⟩ := hp6
                refine x_ws (ws' := [(mo, .inr (9, [.int (nI cols), .int (nI lc), .int (nI smp), .int (ky), .ref (mr 0), .ref (mr 1), .ref (mr 2), .ref (mr 3), .ref (mr 4), .ref (mr 5), .ref (mr 6), .ref (mr 7), .ref (mr 8), .ref (mr 9), .int (nI (pMk P)), .int (nI (pRs P)), .ref (mr 10), .ref (mr 11), .ref (mr 12), .ref (mr 13), .ref (mr 14), .ref (mr 15), .ref (mr 16), .ref (mr 17), .ref (mr 18), .ref (mr 19), .ref (mr 20), .int (nI nse), .int (nI npa), .int (nI nbo), .ref (mr 21), .int (nI tn), .ref (mr 22), .int (nI ik), .int (j0), .int (j1), .ref (mr 23), .int (j2), .ref (mr 24), .ref (mr 25), .int (j3), .ref (mr 26), .int (j4), .ref (mr 27), .ref (mr 28), .ref (mr 29), .ref (mr 30)])), (mr 10, .inl (cy 1, 24, .inl (fun k => nI (lr9 k)))), (mr 3, .inl (cy 1, 5, .inl (fun k => nI (st9 k)))), (mr 6, .inl (cy 1, 24, .inl (fun k => nI (fn k)))), (mr 7, .inl (cy 1, 120, .inl (fun k => nI (fo k)))), (mr 8, .inl (cy 2, 120, .inr (.inl ex))), (mr 9, .inl (cy 2, 120, .inr (.inl wo)))]) rfl ?_
                refine x_lstore_n C (L' := [(3, .long (vlS ld (pSt P y.toInt.toNat) (pLr P r) y.toInt.toNat)), (0, .ref mo), (1, .int (y)), (2, .int (nI 1)), (5, .int (nI fl)), (6, .int (nI r))]) dX10_edge_72 (q := 73) rfl rfl (by decide) rfl ?_
                refine x_iconst C dX10_edge_73 (q := 74) rfl (v := nI 1) (by decide) ?_
                refine x_istore C (L' := [(5, .int (nI 1)), (3, .long (vlS ld (pSt P y.toInt.toNat) (pLr P r) y.toInt.toNat)), (0, .ref mo), (1, .int (y)), (2, .int (nI 1)), (6, .int (nI r))]) dX10_edge_74 (q := 76) rfl (by decide) rfl ?_
                refine x_iinc C (L' := [(6, .int (nI (r + 1))), (5, .int (nI 1)), (3, .long (vlS ld (pSt P y.toInt.toNat) (pLr P r) y.toInt.toNat)), (0, .ref mo), (1, .int (y)), (2, .int (nI 1))]) dX10_edge_76 (q := 79) rfl 5 rfl (v := nI (r + 1)) (nI_add r 1) (by decide) rfl ?_
                refine x_goto C (tgt := 10) dX10_edge_79 (by decide) ?_
                refine x_L (L' := [(0, .ref mo), (1, .int (y)), (2, .int (nI 1)), (3, .long (vlS ld (pSt P y.toInt.toNat) (pLr P r) y.toInt.toNat)), (5, .int (nI 1)), (6, .int (nI (r + 1)))]) [3, 4, 5, 2, 1, 0] rfl ?_
                exact ih10 (r + 1) (vlS ld (pSt P y.toInt.toNat) (pLr P r) y.toInt.toNat) 1 (by first | omega | assumption) (by first | (rw [gaN_n (by assumption)]; exact hvv) | (have e9 : (gaF ld (pLr P) (pSt P y.toInt.toNat) y.toInt.toNat ga (pRs P)) (gaN ld (pLr P) y.toInt.toNat r) = _ := gaF_at (ld := ld) (lr := pLr P) (ty := pSt P y.toInt.toNat) (c := y.toInt.toNat) (g := ga) (r := r) (by assumption) (m := pRs P) (by omega); rw [gaN_y (by assumption)]; rcases hvv with ⟨g0, g1, g2⟩ | ⟨g0, g1, g2⟩; (first | omega | (refine Or.inr ⟨by omega, by first | rfl | omega, ?_⟩; rw [g0, leS_1]; rw [g0] at e9; exact e9.symm)); (first | omega | (refine Or.inr ⟨by omega, by first | rfl | omega, ?_⟩; have g3 := congrArg Int64.toInt g2; first | (rw [leS_y (by rw [e9]; omega)]; exact e9.symm) | (rw [leS_n (by rw [e9]; omega)]; exact g2))))) (by omega)
            · first
              | (exfalso; omega)
              |
                refine x_iload_n C dX10_edge_34 (q := 35) rfl rfl 2 rfl ?_
                refine x_if_eq C (tgt := 53) dX10_edge_35 (by decide) (q := 38) rfl (a := 1) rfl (fun h7 => (by omega : False).elim) (fun h7 => ?_)
                refine x_aload_n C dX10_edge_38 (q := 39) rfl rfl 0 rfl ?_
                refine x_iload C dX10_edge_39 (q := 41) rfl 5 rfl ?_
                refine x_iload_n C dX10_edge_41 (q := 42) rfl rfl 1 rfl ?_
                refine x_callV C (roW := []) (roR := []) (c_X10_its l D cy mo mr cols lc smp nse npa nbo tn ik ky j0 j1 j2 j3 j4 P fn fo ex wo st9 lr9 rl9 fa9 ca9 dc9 ld r y (by assumption) (by assumption) (by assumption) (by first | assumption | omega | (simp only []; omega)) (by assumption) (by assumption) (by first | assumption | omega | (simp only []; omega)) (by assumption) (by assumption) (by first | assumption | omega | (simp only []; omega)) (by first | assumption | omega | (simp only []; omega)) (by first | assumption | omega | (simp only []; omega)) (by first | assumption | omega | (simp only []; omega))) (cwV 2 C.2.2.2.2.1 gX10_edge_X10_its rfl rfl rfl (by decide +kernel) (by rw [hR]; exact ⟨Nat.le_of_ble_eq_true rfl, Nat.le_of_ble_eq_true rfl⟩)) [0, 1, 2, 3, 4, 5, 6] [] rfl (by decide) rfl (by decide) xro_nil (List.mem_of_getElem? (i := 0) rfl) (ci := 9) rfl xT_bl (fun _ _ _ _ _ _ _ => trivial) rfl rfl dX10_edge_42 rfl rfl (Nat.le_of_ble_eq_true rfl) (q := 45) rfl (k' := 0) rfl (n' := 0) rfl (by rw [hR]; exact ⟨Nat.le_of_ble_eq_true rfl, Nat.le_of_ble_eq_true rfl⟩) (fun v8 w8 hp8 => ?_)
                obtain ⟨rfl, rfl⟩ := hp8
                refine x_ws (ws' := [(mo, .inr (9, [.int (nI cols), .int (nI lc), .int (nI smp), .int (ky), .ref (mr 0), .ref (mr 1), .ref (mr 2), .ref (mr 3), .ref (mr 4), .ref (mr 5), .ref (mr 6), .ref (mr 7), .ref (mr 8), .ref (mr 9), .int (nI (pMk P)), .int (nI (pRs P)), .ref (mr 10), .ref (mr 11), .ref (mr 12), .ref (mr 13), .ref (mr 14), .ref (mr 15), .ref (mr 16), .ref (mr 17), .ref (mr 18), .ref (mr 19), .ref (mr 20), .int (nI nse), .int (nI npa), .int (nI nbo), .ref (mr 21), .int (nI tn), .ref (mr 22), .int (nI ik), .int (j0), .int (j1), .ref (mr 23), .int (j2), .ref (mr 24), .ref (mr 25), .int (j3), .ref (mr 26), .int (j4), .ref (mr 27), .ref (mr 28), .ref (mr 29), .ref (mr 30)])), (mr 10, .inl (cy 1, 24, .inl (fun k => nI (lr9 k)))), (mr 3, .inl (cy 1, 5, .inl (fun k => nI (st9 k)))), (mr 6, .inl (cy 1, 24, .inl (fun k => nI (fn k)))), (mr 7, .inl (cy 1, 120, .inl (fun k => nI (fo k)))), (mr 8, .inl (cy 2, 120, .inr (.inl ex))), (mr 9, .inl (cy 2, 120, .inr (.inl wo)))]) rfl ?_
                refine x_lload_n C dX10_edge_45 (q := 46) rfl rfl 3 rfl ?_
                refine x_lcmp_ge C (tgt := 76) dX10_edge_46 dX10_edge_47 (by decide) (q := 50) rfl (a := (vlS ld (pSt P y.toInt.toNat) (pLr P r) y.toInt.toNat).toInt) (b := v.toInt) rfl rfl (fun h9 => ?_) (fun h9 => ?_)
                · first
                  | (exfalso; omega)
                  |
                    refine x_iinc C (L' := [(6, .int (nI (r + 1))), (0, .ref mo), (1, .int (y)), (2, .int (nI 1)), (3, .long (v)), (5, .int (nI fl))]) dX10_edge_76 (q := 79) rfl 5 rfl (v := nI (r + 1)) (nI_add r 1) (by decide) rfl ?_
                    refine x_goto C (tgt := 10) dX10_edge_79 (by decide) ?_
                    refine x_L (L' := [(0, .ref mo), (1, .int (y)), (2, .int (nI 1)), (3, .long (v)), (5, .int (nI fl)), (6, .int (nI (r + 1)))]) [1, 2, 3, 4, 5, 0] rfl ?_
                    exact ih10 (r + 1) v fl (by first | omega | assumption) (by first | (rw [gaN_n (by assumption)]; exact hvv) | (have e9 : (gaF ld (pLr P) (pSt P y.toInt.toNat) y.toInt.toNat ga (pRs P)) (gaN ld (pLr P) y.toInt.toNat r) = _ := gaF_at (ld := ld) (lr := pLr P) (ty := pSt P y.toInt.toNat) (c := y.toInt.toNat) (g := ga) (r := r) (by assumption) (m := pRs P) (by omega); rw [gaN_y (by assumption)]; rcases hvv with ⟨g0, g1, g2⟩ | ⟨g0, g1, g2⟩; (first | omega | (refine Or.inr ⟨by omega, by first | rfl | omega, ?_⟩; rw [g0, leS_1]; rw [g0] at e9; exact e9.symm)); (first | omega | (refine Or.inr ⟨by omega, by first | rfl | omega, ?_⟩; have g3 := congrArg Int64.toInt g2; first | (rw [leS_y (by rw [e9]; omega)]; exact e9.symm) | (rw [leS_n (by rw [e9]; omega)]; exact g2))))) (by omega)
                · first
                  | (exfalso; omega)
                  |
                    refine x_goto C (tgt := 65) dX10_edge_50 (by decide) ?_
                    refine x_aload_n C dX10_edge_65 (q := 66) rfl rfl 0 rfl ?_
                    refine x_iload C dX10_edge_66 (q := 68) rfl 5 rfl ?_
                    refine x_iload_n C dX10_edge_68 (q := 69) rfl rfl 1 rfl ?_
                    refine x_callV C (roW := []) (roR := []) (c_X10_its l D cy mo mr cols lc smp nse npa nbo tn ik ky j0 j1 j2 j3 j4 P fn fo ex wo st9 lr9 rl9 fa9 ca9 dc9 ld r y (by assumption) (by assumption) (by assumption) (by first | assumption | omega | (simp only []; omega)) (by assumption) (by assumption) (by first | assumption | omega | (simp only []; omega)) (by assumption) (by assumption) (by first | assumption | omega | (simp only []; omega)) (by first | assumption | omega | (simp only []; omega)) (by first | assumption | omega | (simp only []; omega)) (by first | assumption | omega | (simp only []; omega))) (cwV 2 C.2.2.2.2.1 gX10_edge_X10_its rfl rfl rfl (by decide +kernel) (by rw [hR]; exact ⟨Nat.le_of_ble_eq_true rfl, Nat.le_of_ble_eq_true rfl⟩)) [0, 1, 2, 3, 4, 5, 6] [] rfl (by decide) rfl (by decide) xro_nil (List.mem_of_getElem? (i := 0) rfl) (ci := 9) rfl xT_bl (fun _ _ _ _ _ _ _ => trivial) rfl rfl dX10_edge_69 rfl rfl (Nat.le_of_ble_eq_true rfl) (q := 72) rfl (k' := 0) rfl (n' := 0) rfl (by rw [hR]; exact ⟨Nat.le_of_ble_eq_true rfl, Nat.le_of_ble_eq_true rfl⟩) (fun v10 w10 hp10 => ?_)
                    obtain ⟨rfl, rfl⟩ := hp10
                    refine x_ws (ws' := [(mo, .inr (9, [.int (nI cols), .int (nI lc), .int (nI smp), .int (ky), .ref (mr 0), .ref (mr 1), .ref (mr 2), .ref (mr 3), .ref (mr 4), .ref (mr 5), .ref (mr 6), .ref (mr 7), .ref (mr 8), .ref (mr 9), .int (nI (pMk P)), .int (nI (pRs P)), .ref (mr 10), .ref (mr 11), .ref (mr 12), .ref (mr 13), .ref (mr 14), .ref (mr 15), .ref (mr 16), .ref (mr 17), .ref (mr 18), .ref (mr 19), .ref (mr 20), .int (nI nse), .int (nI npa), .int (nI nbo), .ref (mr 21), .int (nI tn), .ref (mr 22), .int (nI ik), .int (j0), .int (j1), .ref (mr 23), .int (j2), .ref (mr 24), .ref (mr 25), .int (j3), .ref (mr 26), .int (j4), .ref (mr 27), .ref (mr 28), .ref (mr 29), .ref (mr 30)])), (mr 10, .inl (cy 1, 24, .inl (fun k => nI (lr9 k)))), (mr 3, .inl (cy 1, 5, .inl (fun k => nI (st9 k)))), (mr 6, .inl (cy 1, 24, .inl (fun k => nI (fn k)))), (mr 7, .inl (cy 1, 120, .inl (fun k => nI (fo k)))), (mr 8, .inl (cy 2, 120, .inr (.inl ex))), (mr 9, .inl (cy 2, 120, .inr (.inl wo)))]) rfl ?_
                    refine x_lstore_n C (L' := [(3, .long (vlS ld (pSt P y.toInt.toNat) (pLr P r) y.toInt.toNat)), (0, .ref mo), (1, .int (y)), (2, .int (nI 1)), (5, .int (nI fl)), (6, .int (nI r))]) dX10_edge_72 (q := 73) rfl rfl (by decide) rfl ?_
                    refine x_iconst C dX10_edge_73 (q := 74) rfl (v := nI 1) (by decide) ?_
                    refine x_istore C (L' := [(5, .int (nI 1)), (3, .long (vlS ld (pSt P y.toInt.toNat) (pLr P r) y.toInt.toNat)), (0, .ref mo), (1, .int (y)), (2, .int (nI 1)), (6, .int (nI r))]) dX10_edge_74 (q := 76) rfl (by decide) rfl ?_
                    refine x_iinc C (L' := [(6, .int (nI (r + 1))), (5, .int (nI 1)), (3, .long (vlS ld (pSt P y.toInt.toNat) (pLr P r) y.toInt.toNat)), (0, .ref mo), (1, .int (y)), (2, .int (nI 1))]) dX10_edge_76 (q := 79) rfl 5 rfl (v := nI (r + 1)) (nI_add r 1) (by decide) rfl ?_
                    refine x_goto C (tgt := 10) dX10_edge_79 (by decide) ?_
                    refine x_L (L' := [(0, .ref mo), (1, .int (y)), (2, .int (nI 1)), (3, .long (vlS ld (pSt P y.toInt.toNat) (pLr P r) y.toInt.toNat)), (5, .int (nI 1)), (6, .int (nI (r + 1)))]) [3, 4, 5, 2, 1, 0] rfl ?_
                    exact ih10 (r + 1) (vlS ld (pSt P y.toInt.toNat) (pLr P r) y.toInt.toNat) 1 (by first | omega | assumption) (by first | (rw [gaN_n (by assumption)]; exact hvv) | (have e9 : (gaF ld (pLr P) (pSt P y.toInt.toNat) y.toInt.toNat ga (pRs P)) (gaN ld (pLr P) y.toInt.toNat r) = _ := gaF_at (ld := ld) (lr := pLr P) (ty := pSt P y.toInt.toNat) (c := y.toInt.toNat) (g := ga) (r := r) (by assumption) (m := pRs P) (by omega); rw [gaN_y (by assumption)]; rcases hvv with ⟨g0, g1, g2⟩ | ⟨g0, g1, g2⟩; (first | omega | (refine Or.inr ⟨by omega, by first | rfl | omega, ?_⟩; rw [g0, leS_1]; rw [g0] at e9; exact e9.symm)); (first | omega | (refine Or.inr ⟨by omega, by first | rfl | omega, ?_⟩; have g3 := congrArg Int64.toInt g2; first | (rw [leS_y (by rw [e9]; omega)]; exact e9.symm) | (rw [leS_n (by rw [e9]; omega)]; exact g2))))) (by omega)
          · skip
            obtain ⟨rfl, rfl, hc11⟩ := hp2
            refine x_ws (ws' := [(mo, .inr (9, [.int (nI cols), .int (nI lc), .int (nI smp), .int (ky), .ref (mr 0), .ref (mr 1), .ref (mr 2), .ref (mr 3), .ref (mr 4), .ref (mr 5), .ref (mr 6), .ref (mr 7), .ref (mr 8), .ref (mr 9), .int (nI (pMk P)), .int (nI (pRs P)), .ref (mr 10), .ref (mr 11), .ref (mr 12), .ref (mr 13), .ref (mr 14), .ref (mr 15), .ref (mr 16), .ref (mr 17), .ref (mr 18), .ref (mr 19), .ref (mr 20), .int (nI nse), .int (nI npa), .int (nI nbo), .ref (mr 21), .int (nI tn), .ref (mr 22), .int (nI ik), .int (j0), .int (j1), .ref (mr 23), .int (j2), .ref (mr 24), .ref (mr 25), .int (j3), .ref (mr 26), .int (j4), .ref (mr 27), .ref (mr 28), .ref (mr 29), .ref (mr 30)])), (mr 10, .inl (cy 1, 24, .inl (fun k => nI (lr9 k)))), (mr 3, .inl (cy 1, 5, .inl (fun k => nI (st9 k)))), (mr 6, .inl (cy 1, 24, .inl (fun k => nI (fn k)))), (mr 7, .inl (cy 1, 120, .inl (fun k => nI (fo k)))), (mr 8, .inl (cy 2, 120, .inr (.inl ex))), (mr 9, .inl (cy 2, 120, .inr (.inl wo)))]) rfl ?_
            refine x_if_eq C (tgt := 76) dX10_edge_26 (by decide) (q := 29) rfl (a := 0) rfl (fun h12 => ?_) (fun h12 => (by omega : False).elim)
            refine x_iinc C (L' := [(6, .int (nI (r + 1))), (0, .ref mo), (1, .int (y)), (2, .int (nI 1)), (3, .long (v)), (5, .int (nI fl))]) dX10_edge_76 (q := 79) rfl 5 rfl (v := nI (r + 1)) (nI_add r 1) (by decide) rfl ?_
            refine x_goto C (tgt := 10) dX10_edge_79 (by decide) ?_
            refine x_L (L' := [(0, .ref mo), (1, .int (y)), (2, .int (nI 1)), (3, .long (v)), (5, .int (nI fl)), (6, .int (nI (r + 1)))]) [1, 2, 3, 4, 5, 0] rfl ?_
            exact ih10 (r + 1) v fl (by first | omega | assumption) (by first | (rw [gaN_n (by assumption)]; exact hvv) | (have e9 : (gaF ld (pLr P) (pSt P y.toInt.toNat) y.toInt.toNat ga (pRs P)) (gaN ld (pLr P) y.toInt.toNat r) = _ := gaF_at (ld := ld) (lr := pLr P) (ty := pSt P y.toInt.toNat) (c := y.toInt.toNat) (g := ga) (r := r) (by assumption) (m := pRs P) (by omega); rw [gaN_y (by assumption)]; rcases hvv with ⟨g0, g1, g2⟩ | ⟨g0, g1, g2⟩; (first | omega | (refine Or.inr ⟨by omega, by first | rfl | omega, ?_⟩; rw [g0, leS_1]; rw [g0] at e9; exact e9.symm)); (first | omega | (refine Or.inr ⟨by omega, by first | rfl | omega, ?_⟩; have g3 := congrArg Int64.toInt g2; first | (rw [leS_y (by rw [e9]; omega)]; exact e9.symm) | (rw [leS_n (by rw [e9]; omega)]; exact g2))))) (by omega)
  refine x_L (L' := [(0, .ref mo), (1, .int (y)), (2, .int (nI 1)), (3, .long (-9223372036854775808)), (5, .int (nI 0)), (6, .int (nI 0))]) [3, 4, 5, 2, 1, 0] rfl ?_
  exact cut10 (pRs P - 0 + 1) 0 (-9223372036854775808) 0 (by first | omega | assumption) (by exact Or.inl ⟨rfl, rfl, rfl⟩) (by omega)

set_option maxHeartbeats 4000000 in
set_option maxRecDepth 100000 in
/-- edge -/
theorem c_X10_edge_0 (l : Launch) (D : va_G) (cy : Nat → ClassId) (mo : Nat) (mr : Nat → Nat) (cols : Nat) (lc : Nat) (smp : Nat) (nse : Nat) (npa : Nat) (nbo : Nat) (tn : Nat) (ik : Nat) (ky : Int32) (j0 : Int32) (j1 : Int32) (j2 : Int32) (j3 : Int32) (j4 : Int32) (P : PS) (fn : Nat → Nat) (fo : Nat → Nat) (ex : Nat → Int64) (wo : Nat → Int64) (st9 : Nat → Nat) (lr9 : Nat → Nat) (rl9 : Nat → Int32) (fa9 : Nat → Int32) (ca9 : Nat → Int32) (dc9 : Nat → Int32) (ld : LD) (y : Int32) (ga : Nat → Int64) (hml : MdL ld lc fn fo ex wo) (hfo4 : ∀ q, fo q ≤ 4) (hfn : ∀ q, fn q ≤ 61) (hlc : lc ≤ 24) (hF : InvF ld cols lc P) (hmp : MdP cols P st9 lr9 rl9 fa9 ca9 dc9) (hcols : cols ≤ 5) (hlr9 : ∀ k, lr9 k < 24) (hst9 : ∀ k, st9 k ≤ 4) (hy0 : 0 ≤ y.toInt) (hy1 : y.toInt < cols) : xMet l D cy xT yX10_edge wsX10_edge ({ frames := 5, cells := 0, slots := 0, locals := 700 } : Room) [.ref mo, .int (y), .int (nI 0)] [(mo, .inr (9, [.int (nI cols), .int (nI lc), .int (nI smp), .int (ky), .ref (mr 0), .ref (mr 1), .ref (mr 2), .ref (mr 3), .ref (mr 4), .ref (mr 5), .ref (mr 6), .ref (mr 7), .ref (mr 8), .ref (mr 9), .int (nI (pMk P)), .int (nI (pRs P)), .ref (mr 10), .ref (mr 11), .ref (mr 12), .ref (mr 13), .ref (mr 14), .ref (mr 15), .ref (mr 16), .ref (mr 17), .ref (mr 18), .ref (mr 19), .ref (mr 20), .int (nI nse), .int (nI npa), .int (nI nbo), .ref (mr 21), .int (nI tn), .ref (mr 22), .int (nI ik), .int (j0), .int (j1), .ref (mr 23), .int (j2), .ref (mr 24), .ref (mr 25), .int (j3), .ref (mr 26), .int (j4), .ref (mr 27), .ref (mr 28), .ref (mr 29), .ref (mr 30)])), (mr 10, .inl (cy 1, 24, .inl (fun k => nI (lr9 k)))), (mr 3, .inl (cy 1, 5, .inl (fun k => nI (st9 k)))), (mr 6, .inl (cy 1, 24, .inl (fun k => nI (fn k)))), (mr 7, .inl (cy 1, 120, .inl (fun k => nI (fo k)))), (mr 8, .inl (cy 2, 120, .inr (.inl ex))), (mr 9, .inl (cy 2, 120, .inr (.inl wo)))] [] (fun (v9 : Option Value) (w9 : va_W) => (v9 = some (.long (if gaN ld (pLr P) y.toInt.toNat (pRs P) = 0 then (-9223372036854775808) else grS (gaF ld (pLr P) (pSt P y.toInt.toNat) y.toInt.toNat ga (pRs P)) (gaN ld (pLr P) y.toInt.toNat (pRs P)))) ∧ w9 = [(mo, .inr (9, [.int (nI cols), .int (nI lc), .int (nI smp), .int (ky), .ref (mr 0), .ref (mr 1), .ref (mr 2), .ref (mr 3), .ref (mr 4), .ref (mr 5), .ref (mr 6), .ref (mr 7), .ref (mr 8), .ref (mr 9), .int (nI (pMk P)), .int (nI (pRs P)), .ref (mr 10), .ref (mr 11), .ref (mr 12), .ref (mr 13), .ref (mr 14), .ref (mr 15), .ref (mr 16), .ref (mr 17), .ref (mr 18), .ref (mr 19), .ref (mr 20), .int (nI nse), .int (nI npa), .int (nI nbo), .ref (mr 21), .int (nI tn), .ref (mr 22), .int (nI ik), .int (j0), .int (j1), .ref (mr 23), .int (j2), .ref (mr 24), .ref (mr 25), .int (j3), .ref (mr 26), .int (j4), .ref (mr 27), .ref (mr 28), .ref (mr 29), .ref (mr 30)])), (mr 10, .inl (cy 1, 24, .inl (fun k => nI (lr9 k)))), (mr 3, .inl (cy 1, 5, .inl (fun k => nI (st9 k)))), (mr 6, .inl (cy 1, 24, .inl (fun k => nI (fn k)))), (mr 7, .inl (cy 1, 120, .inl (fun k => nI (fo k)))), (mr 8, .inl (cy 2, 120, .inr (.inl ex))), (mr 9, .inl (cy 2, 120, .inr (.inl wo)))])) := by
  refine xMet_of (cc := cX10_edge) (maxL := 7) (ret := (some .long)) (by decide) rfl (Nat.le_of_ble_eq_true rfl) (fun p e s m args below meth c A R Q hA hR hQ C hr hnm hro hX => ?_)
  have hw0 : Jvm.Cond.constantLong RX10 245 (-9223372036854775808) ∈ wsX10_edge := by decide +kernel
  have hw1 : ∀ w ∈ u_ws RX10 TX10 47, w ∈ wsX10_edge := by decide +kernel
  have hw2 : Cond.fieldLink RX10 128 (TX10 15).1 (TX10 15).2.1 (TX10 15).2.2.1 ∈ wsX10_edge := by decide +kernel
  refine x_L (L' := [(0, .ref mo), (1, .int (y)), (2, .int (nI 0))]) [0, 1, 2] rfl ?_
  have hIP := hF.1
  have hP1 := hIP.1
  have hP2 := hIP.2.1
  refine x_ldc2 C (v := (-9223372036854775808)) hw0 dX10_edge_0 (q := 3) rfl ?_
  refine x_lstore_n C (L' := [(3, .long ((-9223372036854775808))), (0, .ref mo), (1, .int (y)), (2, .int (nI 0))]) dX10_edge_3 (q := 4) rfl rfl (by decide) rfl ?_
  refine x_iconst C dX10_edge_4 (q := 5) rfl (v := nI 0) (by decide) ?_
  refine x_istore C (L' := [(5, .int (nI 0)), (3, .long ((-9223372036854775808))), (0, .ref mo), (1, .int (y)), (2, .int (nI 0))]) dX10_edge_5 (q := 7) rfl (by decide) rfl ?_
  refine x_iconst C dX10_edge_7 (q := 8) rfl (v := nI 0) (by decide) ?_
  refine x_istore C (L' := [(6, .int (nI 0)), (5, .int (nI 0)), (3, .long ((-9223372036854775808))), (0, .ref mo), (1, .int (y)), (2, .int (nI 0))]) dX10_edge_8 (q := 10) rfl (by decide) rfl ?_
  have cut10 : ∀ (fuel : Nat) (r : Nat) (v : Int64) (fl : Nat), (r ≤ pRs P) → ((gaN ld (pLr P) y.toInt.toNat r = 0 ∧ fl = 0 ∧ v = -9223372036854775808) ∨ (0 < gaN ld (pLr P) y.toInt.toNat r ∧ fl = 1 ∧ v = grS (gaF ld (pLr P) (pSt P y.toInt.toNat) y.toInt.toNat ga (pRs P)) (gaN ld (pLr P) y.toInt.toNat r))) → pRs P - r < fuel → xG p l e R s m args below meth c Q D A 7 [(mo, .inr (9, [.int (nI cols), .int (nI lc), .int (nI smp), .int (ky), .ref (mr 0), .ref (mr 1), .ref (mr 2), .ref (mr 3), .ref (mr 4), .ref (mr 5), .ref (mr 6), .ref (mr 7), .ref (mr 8), .ref (mr 9), .int (nI (pMk P)), .int (nI (pRs P)), .ref (mr 10), .ref (mr 11), .ref (mr 12), .ref (mr 13), .ref (mr 14), .ref (mr 15), .ref (mr 16), .ref (mr 17), .ref (mr 18), .ref (mr 19), .ref (mr 20), .int (nI nse), .int (nI npa), .int (nI nbo), .ref (mr 21), .int (nI tn), .ref (mr 22), .int (nI ik), .int (j0), .int (j1), .ref (mr 23), .int (j2), .ref (mr 24), .ref (mr 25), .int (j3), .ref (mr 26), .int (j4), .ref (mr 27), .ref (mr 28), .ref (mr 29), .ref (mr 30)])), (mr 10, .inl (cy 1, 24, .inl (fun k => nI (lr9 k)))), (mr 3, .inl (cy 1, 5, .inl (fun k => nI (st9 k)))), (mr 6, .inl (cy 1, 24, .inl (fun k => nI (fn k)))), (mr 7, .inl (cy 1, 120, .inl (fun k => nI (fo k)))), (mr 8, .inl (cy 2, 120, .inr (.inl ex))), (mr 9, .inl (cy 2, 120, .inr (.inl wo)))] 0 0 10 [(0, .ref mo), (1, .int (y)), (2, .int (nI 0)), (3, .long (v)), (5, .int (nI fl)), (6, .int (nI r))] [] := by
    intro fuel
    induction fuel with
    | zero =>
      intro r v fl hrr hvv hmu
      exact absurd hmu (Nat.not_lt_zero _)
    | succ fuel ih =>
      intro r v fl hrr hvv hmu
      have hg9 := gaN_le ld (pLr P) (y.toInt.toNat) r
      have ih10 := ih
      clear ih
      refine x_iload C dX10_edge_10 (q := 12) rfl 5 rfl ?_
      refine x_aload_n C dX10_edge_12 (q := 13) rfl rfl 0 rfl ?_
      refine x_get C (ci := 9) (v := .int (nI (pRs P))) hw1 0 rfl rfl 15 (by decide) hw2 rfl dX10_edge_13 (q := 16) rfl ?_
      refine x_icmp_ge C (tgt := 82) dX10_edge_16 (by decide) (q := 19) rfl (a := ((r : Nat) : Int)) (b := ((pRs P : Nat) : Int)) (nI_toInt (by omega)) (nI_toInt (by omega)) (fun h1 => ?_) (fun h1 => ?_)
      · first
        | (exfalso; omega)
        |
          refine x_lload_n C dX10_edge_82 (q := 83) rfl rfl 3 rfl ?_
          refine x_lret C hA hQ hr dX10_edge_83 (Nat.le_of_ble_eq_true rfl) ?_
          have e9 : r = pRs P := by omega
          rw [e9] at hvv
          refine ⟨?_, rfl⟩
          rcases hvv with ⟨g0, _, g2⟩ | ⟨g0, _, g2⟩
          · rw [if_pos g0, g2]
          · rw [if_neg (by omega), g2]
      · first
        | (exfalso; omega)
        |
          refine x_aload_n C dX10_edge_19 (q := 20) rfl rfl 0 rfl ?_
          refine x_iload C dX10_edge_20 (q := 22) rfl 5 rfl ?_
          refine x_iload_n C dX10_edge_22 (q := 23) rfl rfl 1 rfl ?_
          refine x_callV C (roW := []) (roR := []) (c_X10_hasValue_n l D cy mo mr cols lc smp nse npa nbo tn ik ky j0 j1 j2 j3 j4 P fn fo ex wo st9 lr9 rl9 fa9 ca9 dc9 ld r y (by assumption) (by assumption) (by assumption) (by first | assumption | omega | (simp only []; omega)) (by assumption) (by assumption) (by first | assumption | omega | (simp only []; omega)) (by assumption) (by assumption) (by first | assumption | omega | (simp only []; omega)) (by first | assumption | omega | (simp only []; omega)) (by first | assumption | omega | (simp only []; omega))) (cwV 2 C.2.2.2.2.1 gX10_edge_X10_hasValue rfl rfl rfl (by decide +kernel) (by rw [hR]; exact ⟨Nat.le_of_ble_eq_true rfl, Nat.le_of_ble_eq_true rfl⟩)) [0, 1, 2, 3, 4, 5, 6] [] rfl (by decide) rfl (by decide) xro_nil (List.mem_of_getElem? (i := 0) rfl) (ci := 9) rfl xT_bl (fun _ _ _ _ _ _ _ => trivial) rfl rfl dX10_edge_23 rfl rfl (Nat.le_of_ble_eq_true rfl) (q := 26) rfl (k' := 0) rfl (n' := 0) rfl (by rw [hR]; exact ⟨Nat.le_of_ble_eq_true rfl, Nat.le_of_ble_eq_true rfl⟩) (fun v2 w2 hp2 => ?_)
          rcases hp2 with hp2 | hp2
          · skip
            obtain ⟨rfl, rfl, hc3⟩ := hp2
            refine x_ws (ws' := [(mo, .inr (9, [.int (nI cols), .int (nI lc), .int (nI smp), .int (ky), .ref (mr 0), .ref (mr 1), .ref (mr 2), .ref (mr 3), .ref (mr 4), .ref (mr 5), .ref (mr 6), .ref (mr 7), .ref (mr 8), .ref (mr 9), .int (nI (pMk P)), .int (nI (pRs P)), .ref (mr 10), .ref (mr 11), .ref (mr 12), .ref (mr 13), .ref (mr 14), .ref (mr 15), .ref (mr 16), .ref (mr 17), .ref (mr 18), .ref (mr 19), .ref (mr 20), .int (nI nse), .int (nI npa), .int (nI nbo), .ref (mr 21), .int (nI tn), .ref (mr 22), .int (nI ik), .int (j0), .int (j1), .ref (mr 23), .int (j2), .ref (mr 24), .ref (mr 25), .int (j3), .ref (mr 26), .int (j4), .ref (mr 27), .ref (mr 28), .ref (mr 29), .ref (mr 30)])), (mr 10, .inl (cy 1, 24, .inl (fun k => nI (lr9 k)))), (mr 3, .inl (cy 1, 5, .inl (fun k => nI (st9 k)))), (mr 6, .inl (cy 1, 24, .inl (fun k => nI (fn k)))), (mr 7, .inl (cy 1, 120, .inl (fun k => nI (fo k)))), (mr 8, .inl (cy 2, 120, .inr (.inl ex))), (mr 9, .inl (cy 2, 120, .inr (.inl wo)))]) rfl ?_
            refine x_if_eq C (tgt := 76) dX10_edge_26 (by decide) (q := 29) rfl (a := 1) rfl (fun h4 => (by omega : False).elim) (fun h4 => ?_)
            refine x_iload C dX10_edge_29 (q := 31) rfl 4 rfl ?_
            refine x_if_eq C (tgt := 65) dX10_edge_31 (by decide) (q := 34) rfl (a := ((fl : Nat) : Int)) (nI_toInt (by omega)) (fun h5 => ?_) (fun h5 => ?_)
            · first
              | (exfalso; omega)
              |
                refine x_aload_n C dX10_edge_65 (q := 66) rfl rfl 0 rfl ?_
                refine x_iload C dX10_edge_66 (q := 68) rfl 5 rfl ?_
                refine x_iload_n C dX10_edge_68 (q := 69) rfl rfl 1 rfl ?_
                refine x_callV C (roW := []) (roR := []) (c_X10_its l D cy mo mr cols lc smp nse npa nbo tn ik ky j0 j1 j2 j3 j4 P fn fo ex wo st9 lr9 rl9 fa9 ca9 dc9 ld r y (by assumption) (by assumption) (by assumption) (by first | assumption | omega | (simp only []; omega)) (by assumption) (by assumption) (by first | assumption | omega | (simp only []; omega)) (by assumption) (by assumption) (by first | assumption | omega | (simp only []; omega)) (by first | assumption | omega | (simp only []; omega)) (by first | assumption | omega | (simp only []; omega)) (by first | assumption | omega | (simp only []; omega))) (cwV 2 C.2.2.2.2.1 gX10_edge_X10_its rfl rfl rfl (by decide +kernel) (by rw [hR]; exact ⟨Nat.le_of_ble_eq_true rfl, Nat.le_of_ble_eq_true rfl⟩)) [0, 1, 2, 3, 4, 5, 6] [] rfl (by decide) rfl (by decide) xro_nil (List.mem_of_getElem? (i := 0) rfl) (ci := 9) rfl xT_bl (fun _ _ _ _ _ _ _ => trivial) rfl rfl dX10_edge_69 rfl rfl (Nat.le_of_ble_eq_true rfl) (q := 72) rfl (k' := 0) rfl (n' := 0) rfl (by rw [hR]; exact ⟨Nat.le_of_ble_eq_true rfl, Nat.le_of_ble_eq_true rfl⟩) (fun v6 w6 hp6 => ?_)
                obtain ⟨rfl, rfl⟩ := hp6
                refine x_ws (ws' := [(mo, .inr (9, [.int (nI cols), .int (nI lc), .int (nI smp), .int (ky), .ref (mr 0), .ref (mr 1), .ref (mr 2), .ref (mr 3), .ref (mr 4), .ref (mr 5), .ref (mr 6), .ref (mr 7), .ref (mr 8), .ref (mr 9), .int (nI (pMk P)), .int (nI (pRs P)), .ref (mr 10), .ref (mr 11), .ref (mr 12), .ref (mr 13), .ref (mr 14), .ref (mr 15), .ref (mr 16), .ref (mr 17), .ref (mr 18), .ref (mr 19), .ref (mr 20), .int (nI nse), .int (nI npa), .int (nI nbo), .ref (mr 21), .int (nI tn), .ref (mr 22), .int (nI ik), .int (j0), .int (j1), .ref (mr 23), .int (j2), .ref (mr 24), .ref (mr 25), .int (j3), .ref (mr 26), .int (j4), .ref (mr 27), .ref (mr 28), .ref (mr 29), .ref (mr 30)])), (mr 10, .inl (cy 1, 24, .inl (fun k => nI (lr9 k)))), (mr 3, .inl (cy 1, 5, .inl (fun k => nI (st9 k)))), (mr 6, .inl (cy 1, 24, .inl (fun k => nI (fn k)))), (mr 7, .inl (cy 1, 120, .inl (fun k => nI (fo k)))), (mr 8, .inl (cy 2, 120, .inr (.inl ex))), (mr 9, .inl (cy 2, 120, .inr (.inl wo)))]) rfl ?_
                refine x_lstore_n C (L' := [(3, .long (vlS ld (pSt P y.toInt.toNat) (pLr P r) y.toInt.toNat)), (0, .ref mo), (1, .int (y)), (2, .int (nI 0)), (5, .int (nI fl)), (6, .int (nI r))]) dX10_edge_72 (q := 73) rfl rfl (by decide) rfl ?_
                refine x_iconst C dX10_edge_73 (q := 74) rfl (v := nI 1) (by decide) ?_
                refine x_istore C (L' := [(5, .int (nI 1)), (3, .long (vlS ld (pSt P y.toInt.toNat) (pLr P r) y.toInt.toNat)), (0, .ref mo), (1, .int (y)), (2, .int (nI 0)), (6, .int (nI r))]) dX10_edge_74 (q := 76) rfl (by decide) rfl ?_
                refine x_iinc C (L' := [(6, .int (nI (r + 1))), (5, .int (nI 1)), (3, .long (vlS ld (pSt P y.toInt.toNat) (pLr P r) y.toInt.toNat)), (0, .ref mo), (1, .int (y)), (2, .int (nI 0))]) dX10_edge_76 (q := 79) rfl 5 rfl (v := nI (r + 1)) (nI_add r 1) (by decide) rfl ?_
                refine x_goto C (tgt := 10) dX10_edge_79 (by decide) ?_
                refine x_L (L' := [(0, .ref mo), (1, .int (y)), (2, .int (nI 0)), (3, .long (vlS ld (pSt P y.toInt.toNat) (pLr P r) y.toInt.toNat)), (5, .int (nI 1)), (6, .int (nI (r + 1)))]) [3, 4, 5, 2, 1, 0] rfl ?_
                exact ih10 (r + 1) (vlS ld (pSt P y.toInt.toNat) (pLr P r) y.toInt.toNat) 1 (by first | omega | assumption) (by first | (rw [gaN_n (by assumption)]; exact hvv) | (have e9 : (gaF ld (pLr P) (pSt P y.toInt.toNat) y.toInt.toNat ga (pRs P)) (gaN ld (pLr P) y.toInt.toNat r) = _ := gaF_at (ld := ld) (lr := pLr P) (ty := pSt P y.toInt.toNat) (c := y.toInt.toNat) (g := ga) (r := r) (by assumption) (m := pRs P) (by omega); rw [gaN_y (by assumption)]; rcases hvv with ⟨g0, g1, g2⟩ | ⟨g0, g1, g2⟩; (first | omega | (refine Or.inr ⟨by omega, by first | rfl | omega, ?_⟩; rw [g0, grS_1]; rw [g0] at e9; exact e9.symm)); (first | omega | (refine Or.inr ⟨by omega, by first | rfl | omega, ?_⟩; have g3 := congrArg Int64.toInt g2; first | (rw [grS_y (by rw [e9]; omega)]; exact e9.symm) | (rw [grS_n (by rw [e9]; omega)]; exact g2))))) (by omega)
            · first
              | (exfalso; omega)
              |
                refine x_iload_n C dX10_edge_34 (q := 35) rfl rfl 2 rfl ?_
                refine x_if_eq C (tgt := 53) dX10_edge_35 (by decide) (q := 38) rfl (a := 0) rfl (fun h7 => ?_) (fun h7 => (by omega : False).elim)
                refine x_aload_n C dX10_edge_53 (q := 54) rfl rfl 0 rfl ?_
                refine x_iload C dX10_edge_54 (q := 56) rfl 5 rfl ?_
                refine x_iload_n C dX10_edge_56 (q := 57) rfl rfl 1 rfl ?_
                refine x_callV C (roW := []) (roR := []) (c_X10_its l D cy mo mr cols lc smp nse npa nbo tn ik ky j0 j1 j2 j3 j4 P fn fo ex wo st9 lr9 rl9 fa9 ca9 dc9 ld r y (by assumption) (by assumption) (by assumption) (by first | assumption | omega | (simp only []; omega)) (by assumption) (by assumption) (by first | assumption | omega | (simp only []; omega)) (by assumption) (by assumption) (by first | assumption | omega | (simp only []; omega)) (by first | assumption | omega | (simp only []; omega)) (by first | assumption | omega | (simp only []; omega)) (by first | assumption | omega | (simp only []; omega))) (cwV 2 C.2.2.2.2.1 gX10_edge_X10_its rfl rfl rfl (by decide +kernel) (by rw [hR]; exact ⟨Nat.le_of_ble_eq_true rfl, Nat.le_of_ble_eq_true rfl⟩)) [0, 1, 2, 3, 4, 5, 6] [] rfl (by decide) rfl (by decide) xro_nil (List.mem_of_getElem? (i := 0) rfl) (ci := 9) rfl xT_bl (fun _ _ _ _ _ _ _ => trivial) rfl rfl dX10_edge_57 rfl rfl (Nat.le_of_ble_eq_true rfl) (q := 60) rfl (k' := 0) rfl (n' := 0) rfl (by rw [hR]; exact ⟨Nat.le_of_ble_eq_true rfl, Nat.le_of_ble_eq_true rfl⟩) (fun v8 w8 hp8 => ?_)
                obtain ⟨rfl, rfl⟩ := hp8
                refine x_ws (ws' := [(mo, .inr (9, [.int (nI cols), .int (nI lc), .int (nI smp), .int (ky), .ref (mr 0), .ref (mr 1), .ref (mr 2), .ref (mr 3), .ref (mr 4), .ref (mr 5), .ref (mr 6), .ref (mr 7), .ref (mr 8), .ref (mr 9), .int (nI (pMk P)), .int (nI (pRs P)), .ref (mr 10), .ref (mr 11), .ref (mr 12), .ref (mr 13), .ref (mr 14), .ref (mr 15), .ref (mr 16), .ref (mr 17), .ref (mr 18), .ref (mr 19), .ref (mr 20), .int (nI nse), .int (nI npa), .int (nI nbo), .ref (mr 21), .int (nI tn), .ref (mr 22), .int (nI ik), .int (j0), .int (j1), .ref (mr 23), .int (j2), .ref (mr 24), .ref (mr 25), .int (j3), .ref (mr 26), .int (j4), .ref (mr 27), .ref (mr 28), .ref (mr 29), .ref (mr 30)])), (mr 10, .inl (cy 1, 24, .inl (fun k => nI (lr9 k)))), (mr 3, .inl (cy 1, 5, .inl (fun k => nI (st9 k)))), (mr 6, .inl (cy 1, 24, .inl (fun k => nI (fn k)))), (mr 7, .inl (cy 1, 120, .inl (fun k => nI (fo k)))), (mr 8, .inl (cy 2, 120, .inr (.inl ex))), (mr 9, .inl (cy 2, 120, .inr (.inl wo)))]) rfl ?_
                refine x_lload_n C dX10_edge_60 (q := 61) rfl rfl 3 rfl ?_
                refine x_lcmp_le C (tgt := 76) dX10_edge_61 dX10_edge_62 (by decide) (q := 65) rfl (a := (vlS ld (pSt P y.toInt.toNat) (pLr P r) y.toInt.toNat).toInt) (b := v.toInt) rfl rfl (fun h9 => ?_) (fun h9 => ?_)
                · first
                  | (exfalso; omega)
                  |
                    refine x_iinc C (L' := [(6, .int (nI (r + 1))), (0, .ref mo), (1, .int (y)), (2, .int (nI 0)), (3, .long (v)), (5, .int (nI fl))]) dX10_edge_76 (q := 79) rfl 5 rfl (v := nI (r + 1)) (nI_add r 1) (by decide) rfl ?_
                    refine x_goto C (tgt := 10) dX10_edge_79 (by decide) ?_
                    refine x_L (L' := [(0, .ref mo), (1, .int (y)), (2, .int (nI 0)), (3, .long (v)), (5, .int (nI fl)), (6, .int (nI (r + 1)))]) [1, 2, 3, 4, 5, 0] rfl ?_
                    exact ih10 (r + 1) v fl (by first | omega | assumption) (by first | (rw [gaN_n (by assumption)]; exact hvv) | (have e9 : (gaF ld (pLr P) (pSt P y.toInt.toNat) y.toInt.toNat ga (pRs P)) (gaN ld (pLr P) y.toInt.toNat r) = _ := gaF_at (ld := ld) (lr := pLr P) (ty := pSt P y.toInt.toNat) (c := y.toInt.toNat) (g := ga) (r := r) (by assumption) (m := pRs P) (by omega); rw [gaN_y (by assumption)]; rcases hvv with ⟨g0, g1, g2⟩ | ⟨g0, g1, g2⟩; (first | omega | (refine Or.inr ⟨by omega, by first | rfl | omega, ?_⟩; rw [g0, grS_1]; rw [g0] at e9; exact e9.symm)); (first | omega | (refine Or.inr ⟨by omega, by first | rfl | omega, ?_⟩; have g3 := congrArg Int64.toInt g2; first | (rw [grS_y (by rw [e9]; omega)]; exact e9.symm) | (rw [grS_n (by rw [e9]; omega)]; exact g2))))) (by omega)
                · first
                  | (exfalso; omega)
                  |
                    refine x_aload_n C dX10_edge_65 (q := 66) rfl rfl 0 rfl ?_
                    refine x_iload C dX10_edge_66 (q := 68) rfl 5 rfl ?_
                    refine x_iload_n C dX10_edge_68 (q := 69) rfl rfl 1 rfl ?_
                    refine x_callV C (roW := []) (roR := []) (c_X10_its l D cy mo mr cols lc smp nse npa nbo tn ik ky j0 j1 j2 j3 j4 P fn fo ex wo st9 lr9 rl9 fa9 ca9 dc9 ld r y (by assumption) (by assumption) (by assumption) (by first | assumption | omega | (simp only []; omega)) (by assumption) (by assumption) (by first | assumption | omega | (simp only []; omega)) (by assumption) (by assumption) (by first | assumption | omega | (simp only []; omega)) (by first | assumption | omega | (simp only []; omega)) (by first | assumption | omega | (simp only []; omega)) (by first | assumption | omega | (simp only []; omega))) (cwV 2 C.2.2.2.2.1 gX10_edge_X10_its rfl rfl rfl (by decide +kernel) (by rw [hR]; exact ⟨Nat.le_of_ble_eq_true rfl, Nat.le_of_ble_eq_true rfl⟩)) [0, 1, 2, 3, 4, 5, 6] [] rfl (by decide) rfl (by decide) xro_nil (List.mem_of_getElem? (i := 0) rfl) (ci := 9) rfl xT_bl (fun _ _ _ _ _ _ _ => trivial) rfl rfl dX10_edge_69 rfl rfl (Nat.le_of_ble_eq_true rfl) (q := 72) rfl (k' := 0) rfl (n' := 0) rfl (by rw [hR]; exact ⟨Nat.le_of_ble_eq_true rfl, Nat.le_of_ble_eq_true rfl⟩) (fun v10 w10 hp10 => ?_)
                    obtain ⟨rfl, rfl⟩ := hp10
                    refine x_ws (ws' := [(mo, .inr (9, [.int (nI cols), .int (nI lc), .int (nI smp), .int (ky), .ref (mr 0), .ref (mr 1), .ref (mr 2), .ref (mr 3), .ref (mr 4), .ref (mr 5), .ref (mr 6), .ref (mr 7), .ref (mr 8), .ref (mr 9), .int (nI (pMk P)), .int (nI (pRs P)), .ref (mr 10), .ref (mr 11), .ref (mr 12), .ref (mr 13), .ref (mr 14), .ref (mr 15), .ref (mr 16), .ref (mr 17), .ref (mr 18), .ref (mr 19), .ref (mr 20), .int (nI nse), .int (nI npa), .int (nI nbo), .ref (mr 21), .int (nI tn), .ref (mr 22), .int (nI ik), .int (j0), .int (j1), .ref (mr 23), .int (j2), .ref (mr 24), .ref (mr 25), .int (j3), .ref (mr 26), .int (j4), .ref (mr 27), .ref (mr 28), .ref (mr 29), .ref (mr 30)])), (mr 10, .inl (cy 1, 24, .inl (fun k => nI (lr9 k)))), (mr 3, .inl (cy 1, 5, .inl (fun k => nI (st9 k)))), (mr 6, .inl (cy 1, 24, .inl (fun k => nI (fn k)))), (mr 7, .inl (cy 1, 120, .inl (fun k => nI (fo k)))), (mr 8, .inl (cy 2, 120, .inr (.inl ex))), (mr 9, .inl (cy 2, 120, .inr (.inl wo)))]) rfl ?_
                    refine x_lstore_n C (L' := [(3, .long (vlS ld (pSt P y.toInt.toNat) (pLr P r) y.toInt.toNat)), (0, .ref mo), (1, .int (y)), (2, .int (nI 0)), (5, .int (nI fl)), (6, .int (nI r))]) dX10_edge_72 (q := 73) rfl rfl (by decide) rfl ?_
                    refine x_iconst C dX10_edge_73 (q := 74) rfl (v := nI 1) (by decide) ?_
                    refine x_istore C (L' := [(5, .int (nI 1)), (3, .long (vlS ld (pSt P y.toInt.toNat) (pLr P r) y.toInt.toNat)), (0, .ref mo), (1, .int (y)), (2, .int (nI 0)), (6, .int (nI r))]) dX10_edge_74 (q := 76) rfl (by decide) rfl ?_
                    refine x_iinc C (L' := [(6, .int (nI (r + 1))), (5, .int (nI 1)), (3, .long (vlS ld (pSt P y.toInt.toNat) (pLr P r) y.toInt.toNat)), (0, .ref mo), (1, .int (y)), (2, .int (nI 0))]) dX10_edge_76 (q := 79) rfl 5 rfl (v := nI (r + 1)) (nI_add r 1) (by decide) rfl ?_
                    refine x_goto C (tgt := 10) dX10_edge_79 (by decide) ?_
                    refine x_L (L' := [(0, .ref mo), (1, .int (y)), (2, .int (nI 0)), (3, .long (vlS ld (pSt P y.toInt.toNat) (pLr P r) y.toInt.toNat)), (5, .int (nI 1)), (6, .int (nI (r + 1)))]) [3, 4, 5, 2, 1, 0] rfl ?_
                    exact ih10 (r + 1) (vlS ld (pSt P y.toInt.toNat) (pLr P r) y.toInt.toNat) 1 (by first | omega | assumption) (by first | (rw [gaN_n (by assumption)]; exact hvv) | (have e9 : (gaF ld (pLr P) (pSt P y.toInt.toNat) y.toInt.toNat ga (pRs P)) (gaN ld (pLr P) y.toInt.toNat r) = _ := gaF_at (ld := ld) (lr := pLr P) (ty := pSt P y.toInt.toNat) (c := y.toInt.toNat) (g := ga) (r := r) (by assumption) (m := pRs P) (by omega); rw [gaN_y (by assumption)]; rcases hvv with ⟨g0, g1, g2⟩ | ⟨g0, g1, g2⟩; (first | omega | (refine Or.inr ⟨by omega, by first | rfl | omega, ?_⟩; rw [g0, grS_1]; rw [g0] at e9; exact e9.symm)); (first | omega | (refine Or.inr ⟨by omega, by first | rfl | omega, ?_⟩; have g3 := congrArg Int64.toInt g2; first | (rw [grS_y (by rw [e9]; omega)]; exact e9.symm) | (rw [grS_n (by rw [e9]; omega)]; exact g2))))) (by omega)
          · skip
            obtain ⟨rfl, rfl, hc11⟩ := hp2
            refine x_ws (ws' := [(mo, .inr (9, [.int (nI cols), .int (nI lc), .int (nI smp), .int (ky), .ref (mr 0), .ref (mr 1), .ref (mr 2), .ref (mr 3), .ref (mr 4), .ref (mr 5), .ref (mr 6), .ref (mr 7), .ref (mr 8), .ref (mr 9), .int (nI (pMk P)), .int (nI (pRs P)), .ref (mr 10), .ref (mr 11), .ref (mr 12), .ref (mr 13), .ref (mr 14), .ref (mr 15), .ref (mr 16), .ref (mr 17), .ref (mr 18), .ref (mr 19), .ref (mr 20), .int (nI nse), .int (nI npa), .int (nI nbo), .ref (mr 21), .int (nI tn), .ref (mr 22), .int (nI ik), .int (j0), .int (j1), .ref (mr 23), .int (j2), .ref (mr 24), .ref (mr 25), .int (j3), .ref (mr 26), .int (j4), .ref (mr 27), .ref (mr 28), .ref (mr 29), .ref (mr 30)])), (mr 10, .inl (cy 1, 24, .inl (fun k => nI (lr9 k)))), (mr 3, .inl (cy 1, 5, .inl (fun k => nI (st9 k)))), (mr 6, .inl (cy 1, 24, .inl (fun k => nI (fn k)))), (mr 7, .inl (cy 1, 120, .inl (fun k => nI (fo k)))), (mr 8, .inl (cy 2, 120, .inr (.inl ex))), (mr 9, .inl (cy 2, 120, .inr (.inl wo)))]) rfl ?_
            refine x_if_eq C (tgt := 76) dX10_edge_26 (by decide) (q := 29) rfl (a := 0) rfl (fun h12 => ?_) (fun h12 => (by omega : False).elim)
            refine x_iinc C (L' := [(6, .int (nI (r + 1))), (0, .ref mo), (1, .int (y)), (2, .int (nI 0)), (3, .long (v)), (5, .int (nI fl))]) dX10_edge_76 (q := 79) rfl 5 rfl (v := nI (r + 1)) (nI_add r 1) (by decide) rfl ?_
            refine x_goto C (tgt := 10) dX10_edge_79 (by decide) ?_
            refine x_L (L' := [(0, .ref mo), (1, .int (y)), (2, .int (nI 0)), (3, .long (v)), (5, .int (nI fl)), (6, .int (nI (r + 1)))]) [1, 2, 3, 4, 5, 0] rfl ?_
            exact ih10 (r + 1) v fl (by first | omega | assumption) (by first | (rw [gaN_n (by assumption)]; exact hvv) | (have e9 : (gaF ld (pLr P) (pSt P y.toInt.toNat) y.toInt.toNat ga (pRs P)) (gaN ld (pLr P) y.toInt.toNat r) = _ := gaF_at (ld := ld) (lr := pLr P) (ty := pSt P y.toInt.toNat) (c := y.toInt.toNat) (g := ga) (r := r) (by assumption) (m := pRs P) (by omega); rw [gaN_y (by assumption)]; rcases hvv with ⟨g0, g1, g2⟩ | ⟨g0, g1, g2⟩; (first | omega | (refine Or.inr ⟨by omega, by first | rfl | omega, ?_⟩; rw [g0, grS_1]; rw [g0] at e9; exact e9.symm)); (first | omega | (refine Or.inr ⟨by omega, by first | rfl | omega, ?_⟩; have g3 := congrArg Int64.toInt g2; first | (rw [grS_y (by rw [e9]; omega)]; exact e9.symm) | (rw [grS_n (by rw [e9]; omega)]; exact g2))))) (by omega)
  refine x_L (L' := [(0, .ref mo), (1, .int (y)), (2, .int (nI 0)), (3, .long (-9223372036854775808)), (5, .int (nI 0)), (6, .int (nI 0))]) [3, 4, 5, 2, 1, 0] rfl ?_
  exact cut10 (pRs P - 0 + 1) 0 (-9223372036854775808) 0 (by first | omega | assumption) (by exact Or.inl ⟨rfl, rfl, rfl⟩) (by omega)

set_option maxHeartbeats 4000000 in
set_option maxRecDepth 100000 in
/-- unlike -/
theorem c_X10_unlike (l : Launch) (D : va_G) (cy : Nat → ClassId) (mo : Nat) (mr : Nat → Nat) (cols : Nat) (lc : Nat) (smp : Nat) (nse : Nat) (npa : Nat) (nbo : Nat) (tn : Nat) (ik : Nat) (ky : Int32) (j0 : Int32) (j1 : Int32) (j2 : Int32) (j3 : Int32) (j4 : Int32) (P : PS) (fn : Nat → Nat) (fo : Nat → Nat) (ex : Nat → Int64) (wo : Nat → Int64) (st9 : Nat → Nat) (lr9 : Nat → Nat) (rl9 : Nat → Int32) (fa9 : Nat → Int32) (ca9 : Nat → Int32) (dc9 : Nat → Int32) (ld : LD) (y : Int32) (ga : Nat → Int64) (hml : MdL ld lc fn fo ex wo) (hfo4 : ∀ q, fo q ≤ 4) (hfn : ∀ q, fn q ≤ 61) (hlc : lc ≤ 24) (hF : InvF ld cols lc P) (hmp : MdP cols P st9 lr9 rl9 fa9 ca9 dc9) (hcols : cols ≤ 5) (hlr9 : ∀ k, lr9 k < 24) (hst9 : ∀ k, st9 k ≤ 4) (hy0 : 0 ≤ y.toInt) (hy1 : y.toInt < cols) : xMet l D cy xT yX10_unlike wsX10_unlike ({ frames := 5, cells := 0, slots := 0, locals := 700 } : Room) [.ref mo, .int (y)] [(mo, .inr (9, [.int (nI cols), .int (nI lc), .int (nI smp), .int (ky), .ref (mr 0), .ref (mr 1), .ref (mr 2), .ref (mr 3), .ref (mr 4), .ref (mr 5), .ref (mr 6), .ref (mr 7), .ref (mr 8), .ref (mr 9), .int (nI (pMk P)), .int (nI (pRs P)), .ref (mr 10), .ref (mr 11), .ref (mr 12), .ref (mr 13), .ref (mr 14), .ref (mr 15), .ref (mr 16), .ref (mr 17), .ref (mr 18), .ref (mr 19), .ref (mr 20), .int (nI nse), .int (nI npa), .int (nI nbo), .ref (mr 21), .int (nI tn), .ref (mr 22), .int (nI ik), .int (j0), .int (j1), .ref (mr 23), .int (j2), .ref (mr 24), .ref (mr 25), .int (j3), .ref (mr 26), .int (j4), .ref (mr 27), .ref (mr 28), .ref (mr 29), .ref (mr 30)])), (mr 10, .inl (cy 1, 24, .inl (fun k => nI (lr9 k)))), (mr 3, .inl (cy 1, 5, .inl (fun k => nI (st9 k)))), (mr 6, .inl (cy 1, 24, .inl (fun k => nI (fn k)))), (mr 7, .inl (cy 1, 120, .inl (fun k => nI (fo k)))), (mr 8, .inl (cy 2, 120, .inr (.inl ex))), (mr 9, .inl (cy 2, 120, .inr (.inl wo)))] [] (fun (v9 : Option Value) (w9 : va_W) => (v9 = some (.int (nI (ukS (gaF ld (pLr P) (pSt P y.toInt.toNat) y.toInt.toNat ga (pRs P)) (gaN ld (pLr P) y.toInt.toNat (pRs P))))) ∧ w9 = [(mo, .inr (9, [.int (nI cols), .int (nI lc), .int (nI smp), .int (ky), .ref (mr 0), .ref (mr 1), .ref (mr 2), .ref (mr 3), .ref (mr 4), .ref (mr 5), .ref (mr 6), .ref (mr 7), .ref (mr 8), .ref (mr 9), .int (nI (pMk P)), .int (nI (pRs P)), .ref (mr 10), .ref (mr 11), .ref (mr 12), .ref (mr 13), .ref (mr 14), .ref (mr 15), .ref (mr 16), .ref (mr 17), .ref (mr 18), .ref (mr 19), .ref (mr 20), .int (nI nse), .int (nI npa), .int (nI nbo), .ref (mr 21), .int (nI tn), .ref (mr 22), .int (nI ik), .int (j0), .int (j1), .ref (mr 23), .int (j2), .ref (mr 24), .ref (mr 25), .int (j3), .ref (mr 26), .int (j4), .ref (mr 27), .ref (mr 28), .ref (mr 29), .ref (mr 30)])), (mr 10, .inl (cy 1, 24, .inl (fun k => nI (lr9 k)))), (mr 3, .inl (cy 1, 5, .inl (fun k => nI (st9 k)))), (mr 6, .inl (cy 1, 24, .inl (fun k => nI (fn k)))), (mr 7, .inl (cy 1, 120, .inl (fun k => nI (fo k)))), (mr 8, .inl (cy 2, 120, .inr (.inl ex))), (mr 9, .inl (cy 2, 120, .inr (.inl wo)))])) := by
  refine xMet_of (cc := cX10_unlike) (maxL := 6) (ret := (some .int)) (by decide) rfl (Nat.le_of_ble_eq_true rfl) (fun p e s m args below meth c A R Q hA hR hQ C hr hnm hro hX => ?_)
  have hw0 : ∀ w ∈ u_ws RX10 TX10 47, w ∈ wsX10_unlike := by decide +kernel
  have hw1 : Cond.fieldLink RX10 128 (TX10 15).1 (TX10 15).2.1 (TX10 15).2.2.1 ∈ wsX10_unlike := by decide +kernel
  refine x_L (L' := [(0, .ref mo), (1, .int (y))]) [0, 1] rfl ?_
  have hIP := hF.1
  have hP1 := hIP.1
  have hP2 := hIP.2.1
  refine x_iconst C dX10_unlike_0 (q := 1) rfl (v := nI 0) (by decide) ?_
  refine x_istore_n C (L' := [(2, .int (nI 0)), (0, .ref mo), (1, .int (y))]) dX10_unlike_1 (q := 2) rfl rfl (by decide) rfl ?_
  refine x_iconst C dX10_unlike_2 (q := 3) rfl (v := nI 0) (by decide) ?_
  refine x_istore_n C (L' := [(3, .int (nI 0)), (2, .int (nI 0)), (0, .ref mo), (1, .int (y))]) dX10_unlike_3 (q := 4) rfl rfl (by decide) rfl ?_
  have cut4 : ∀ (fuel : Nat) (r : Nat) (cn : Nat), (r ≤ pRs P) → (cn = ukS (gaF ld (pLr P) (pSt P y.toInt.toNat) y.toInt.toNat ga (pRs P)) (gaN ld (pLr P) y.toInt.toNat r)) → pRs P - r < fuel → xG p l e R s m args below meth c Q D A 6 [(mo, .inr (9, [.int (nI cols), .int (nI lc), .int (nI smp), .int (ky), .ref (mr 0), .ref (mr 1), .ref (mr 2), .ref (mr 3), .ref (mr 4), .ref (mr 5), .ref (mr 6), .ref (mr 7), .ref (mr 8), .ref (mr 9), .int (nI (pMk P)), .int (nI (pRs P)), .ref (mr 10), .ref (mr 11), .ref (mr 12), .ref (mr 13), .ref (mr 14), .ref (mr 15), .ref (mr 16), .ref (mr 17), .ref (mr 18), .ref (mr 19), .ref (mr 20), .int (nI nse), .int (nI npa), .int (nI nbo), .ref (mr 21), .int (nI tn), .ref (mr 22), .int (nI ik), .int (j0), .int (j1), .ref (mr 23), .int (j2), .ref (mr 24), .ref (mr 25), .int (j3), .ref (mr 26), .int (j4), .ref (mr 27), .ref (mr 28), .ref (mr 29), .ref (mr 30)])), (mr 10, .inl (cy 1, 24, .inl (fun k => nI (lr9 k)))), (mr 3, .inl (cy 1, 5, .inl (fun k => nI (st9 k)))), (mr 6, .inl (cy 1, 24, .inl (fun k => nI (fn k)))), (mr 7, .inl (cy 1, 120, .inl (fun k => nI (fo k)))), (mr 8, .inl (cy 2, 120, .inr (.inl ex))), (mr 9, .inl (cy 2, 120, .inr (.inl wo)))] 0 0 4 [(0, .ref mo), (1, .int (y)), (2, .int (nI cn)), (3, .int (nI r))] [] := by
    intro fuel
    induction fuel with
    | zero =>
      intro r cn hrr hcn hmu
      exact absurd hmu (Nat.not_lt_zero _)
    | succ fuel ih =>
      intro r cn hrr hcn hmu
      have hg9 := gaN_le ld (pLr P) (y.toInt.toNat) r
      have hu9 := ukS_le (gaF ld (pLr P) (pSt P y.toInt.toNat) y.toInt.toNat ga (pRs P)) (gaN ld (pLr P) y.toInt.toNat r)
      have ih4 := ih
      clear ih
      refine x_iload_n C dX10_unlike_4 (q := 5) rfl rfl 3 rfl ?_
      refine x_aload_n C dX10_unlike_5 (q := 6) rfl rfl 0 rfl ?_
      refine x_get C (ci := 9) (v := .int (nI (pRs P))) hw0 0 rfl rfl 15 (by decide) hw1 rfl dX10_unlike_6 (q := 9) rfl ?_
      refine x_icmp_ge C (tgt := 93) dX10_unlike_9 (by decide) (q := 12) rfl (a := ((r : Nat) : Int)) (b := ((pRs P : Nat) : Int)) (nI_toInt (by omega)) (nI_toInt (by omega)) (fun h1 => ?_) (fun h1 => ?_)
      · first
        | (exfalso; omega)
        |
          refine x_iload_n C dX10_unlike_93 (q := 94) rfl rfl 2 rfl ?_
          refine x_iret C hA hQ hr dX10_unlike_94 (Nat.le_of_ble_eq_true rfl) ?_
          have e9 : r = pRs P := by omega
          exact ⟨by rw [hcn, e9], rfl⟩
      · first
        | (exfalso; omega)
        |
          refine x_aload_n C dX10_unlike_12 (q := 13) rfl rfl 0 rfl ?_
          refine x_iload_n C dX10_unlike_13 (q := 14) rfl rfl 3 rfl ?_
          refine x_iload_n C dX10_unlike_14 (q := 15) rfl rfl 1 rfl ?_
          refine x_callV C (roW := []) (roR := []) (c_X10_hasValue_n l D cy mo mr cols lc smp nse npa nbo tn ik ky j0 j1 j2 j3 j4 P fn fo ex wo st9 lr9 rl9 fa9 ca9 dc9 ld r y (by assumption) (by assumption) (by assumption) (by first | assumption | omega | (simp only []; omega)) (by assumption) (by assumption) (by first | assumption | omega | (simp only []; omega)) (by assumption) (by assumption) (by first | assumption | omega | (simp only []; omega)) (by first | assumption | omega | (simp only []; omega)) (by first | assumption | omega | (simp only []; omega))) (cwV 2 C.2.2.2.2.1 gX10_unlike_X10_hasValue rfl rfl rfl (by decide +kernel) (by rw [hR]; exact ⟨Nat.le_of_ble_eq_true rfl, Nat.le_of_ble_eq_true rfl⟩)) [0, 1, 2, 3, 4, 5, 6] [] rfl (by decide) rfl (by decide) xro_nil (List.mem_of_getElem? (i := 0) rfl) (ci := 9) rfl xT_bl (fun _ _ _ _ _ _ _ => trivial) rfl rfl dX10_unlike_15 rfl rfl (Nat.le_of_ble_eq_true rfl) (q := 18) rfl (k' := 0) rfl (n' := 0) rfl (by rw [hR]; exact ⟨Nat.le_of_ble_eq_true rfl, Nat.le_of_ble_eq_true rfl⟩) (fun v2 w2 hp2 => ?_)
          rcases hp2 with hp2 | hp2
          · skip
            obtain ⟨rfl, rfl, hc3⟩ := hp2
            refine x_ws (ws' := [(mo, .inr (9, [.int (nI cols), .int (nI lc), .int (nI smp), .int (ky), .ref (mr 0), .ref (mr 1), .ref (mr 2), .ref (mr 3), .ref (mr 4), .ref (mr 5), .ref (mr 6), .ref (mr 7), .ref (mr 8), .ref (mr 9), .int (nI (pMk P)), .int (nI (pRs P)), .ref (mr 10), .ref (mr 11), .ref (mr 12), .ref (mr 13), .ref (mr 14), .ref (mr 15), .ref (mr 16), .ref (mr 17), .ref (mr 18), .ref (mr 19), .ref (mr 20), .int (nI nse), .int (nI npa), .int (nI nbo), .ref (mr 21), .int (nI tn), .ref (mr 22), .int (nI ik), .int (j0), .int (j1), .ref (mr 23), .int (j2), .ref (mr 24), .ref (mr 25), .int (j3), .ref (mr 26), .int (j4), .ref (mr 27), .ref (mr 28), .ref (mr 29), .ref (mr 30)])), (mr 10, .inl (cy 1, 24, .inl (fun k => nI (lr9 k)))), (mr 3, .inl (cy 1, 5, .inl (fun k => nI (st9 k)))), (mr 6, .inl (cy 1, 24, .inl (fun k => nI (fn k)))), (mr 7, .inl (cy 1, 120, .inl (fun k => nI (fo k)))), (mr 8, .inl (cy 2, 120, .inr (.inl ex))), (mr 9, .inl (cy 2, 120, .inr (.inl wo)))]) rfl ?_
            refine x_istore C (L' := [(4, .int (nI 1)), (0, .ref mo), (1, .int (y)), (2, .int (nI cn)), (3, .int (nI r))]) dX10_unlike_18 (q := 20) rfl (by decide) rfl ?_
            have cut74 : ∀ (w : Nat), (w ≤ 1) → (¬ dFm ld (pLr P r) y.toInt.toNat = 0 → w = nwS (gaF ld (pLr P) (pSt P y.toInt.toNat) y.toInt.toNat ga (pRs P)) (gaN ld (pLr P) y.toInt.toNat r) (gaN ld (pLr P) y.toInt.toNat r)) → (dFm ld (pLr P r) y.toInt.toNat = 0 → w = 0) → xG p l e R s m args below meth c Q D A 6 [(mo, .inr (9, [.int (nI cols), .int (nI lc), .int (nI smp), .int (ky), .ref (mr 0), .ref (mr 1), .ref (mr 2), .ref (mr 3), .ref (mr 4), .ref (mr 5), .ref (mr 6), .ref (mr 7), .ref (mr 8), .ref (mr 9), .int (nI (pMk P)), .int (nI (pRs P)), .ref (mr 10), .ref (mr 11), .ref (mr 12), .ref (mr 13), .ref (mr 14), .ref (mr 15), .ref (mr 16), .ref (mr 17), .ref (mr 18), .ref (mr 19), .ref (mr 20), .int (nI nse), .int (nI npa), .int (nI nbo), .ref (mr 21), .int (nI tn), .ref (mr 22), .int (nI ik), .int (j0), .int (j1), .ref (mr 23), .int (j2), .ref (mr 24), .ref (mr 25), .int (j3), .ref (mr 26), .int (j4), .ref (mr 27), .ref (mr 28), .ref (mr 29), .ref (mr 30)])), (mr 10, .inl (cy 1, 24, .inl (fun k => nI (lr9 k)))), (mr 3, .inl (cy 1, 5, .inl (fun k => nI (st9 k)))), (mr 6, .inl (cy 1, 24, .inl (fun k => nI (fn k)))), (mr 7, .inl (cy 1, 120, .inl (fun k => nI (fo k)))), (mr 8, .inl (cy 2, 120, .inr (.inl ex))), (mr 9, .inl (cy 2, 120, .inr (.inl wo)))] 0 0 74 [(0, .ref mo), (1, .int (y)), (2, .int (nI cn)), (3, .int (nI r)), (4, .int (nI w))] [] := by
              intro w hw1 hwr hw0
              refine x_iload_n C dX10_unlike_74 (q := 75) rfl rfl 2 rfl ?_
              refine x_iload C dX10_unlike_75 (q := 77) rfl 4 rfl ?_
              refine x_if_eq C (tgt := 84) dX10_unlike_77 (by decide) (q := 80) rfl (a := ((w : Nat) : Int)) (nI_toInt (by omega)) (fun h4 => ?_) (fun h4 => ?_)
              · first
                | (exfalso; omega)
                |
                  refine x_iconst C dX10_unlike_84 (q := 85) rfl (v := nI 0) (by decide) ?_
                  refine x_iadd C dX10_unlike_85 (q := 86) rfl (z := nI (cn + 0)) (nI_add cn 0) ?_
                  refine x_istore_n C (L' := [(2, .int (nI (cn + 0))), (0, .ref mo), (1, .int (y)), (3, .int (nI r)), (4, .int (nI w))]) dX10_unlike_86 (q := 87) rfl rfl (by decide) rfl ?_
                  refine x_iinc C (L' := [(3, .int (nI (r + 1))), (2, .int (nI (cn + 0))), (0, .ref mo), (1, .int (y)), (4, .int (nI w))]) dX10_unlike_87 (q := 90) rfl 3 rfl (v := nI (r + 1)) (nI_add r 1) (by decide) rfl ?_
                  refine x_goto C (tgt := 4) dX10_unlike_90 (by decide) ?_
                  refine x_L (L' := [(0, .ref mo), (1, .int (y)), (2, .int (nI (cn + 0))), (3, .int (nI (r + 1)))]) [2, 3, 1, 0] rfl ?_
                  exact ih4 (r + 1) (cn + 0) (by first | omega | assumption) (by by_cases e9 : dFm ld (pLr P r) y.toInt.toNat = 0; (rw [gaN_n e9]; omega); (rw [gaN_y e9]; show _ = if nwS (gaF ld (pLr P) (pSt P y.toInt.toNat) y.toInt.toNat ga (pRs P)) (gaN ld (pLr P) y.toInt.toNat r) (gaN ld (pLr P) y.toInt.toNat r) = 0 then _ else _; first | (rw [if_pos (by omega)]; omega) | (rw [if_neg (by omega)]; omega))) (by omega)
              · first
                | (exfalso; omega)
                |
                  refine x_iconst C dX10_unlike_80 (q := 81) rfl (v := nI 1) (by decide) ?_
                  refine x_goto C (tgt := 85) dX10_unlike_81 (by decide) ?_
                  refine x_iadd C dX10_unlike_85 (q := 86) rfl (z := nI (cn + 1)) (nI_add cn 1) ?_
                  refine x_istore_n C (L' := [(2, .int (nI (cn + 1))), (0, .ref mo), (1, .int (y)), (3, .int (nI r)), (4, .int (nI w))]) dX10_unlike_86 (q := 87) rfl rfl (by decide) rfl ?_
                  refine x_iinc C (L' := [(3, .int (nI (r + 1))), (2, .int (nI (cn + 1))), (0, .ref mo), (1, .int (y)), (4, .int (nI w))]) dX10_unlike_87 (q := 90) rfl 3 rfl (v := nI (r + 1)) (nI_add r 1) (by decide) rfl ?_
                  refine x_goto C (tgt := 4) dX10_unlike_90 (by decide) ?_
                  refine x_L (L' := [(0, .ref mo), (1, .int (y)), (2, .int (nI (cn + 1))), (3, .int (nI (r + 1)))]) [2, 3, 1, 0] rfl ?_
                  exact ih4 (r + 1) (cn + 1) (by first | omega | assumption) (by by_cases e9 : dFm ld (pLr P r) y.toInt.toNat = 0; (rw [gaN_n e9]; omega); (rw [gaN_y e9]; show _ = if nwS (gaF ld (pLr P) (pSt P y.toInt.toNat) y.toInt.toNat ga (pRs P)) (gaN ld (pLr P) y.toInt.toNat r) (gaN ld (pLr P) y.toInt.toNat r) = 0 then _ else _; first | (rw [if_pos (by omega)]; omega) | (rw [if_neg (by omega)]; omega))) (by omega)
            refine x_iconst C dX10_unlike_20 (q := 21) rfl (v := nI 0) (by decide) ?_
            refine x_istore C (L' := [(5, .int (nI 0)), (4, .int (nI 1)), (0, .ref mo), (1, .int (y)), (2, .int (nI cn)), (3, .int (nI r))]) dX10_unlike_21 (q := 23) rfl (by decide) rfl ?_
            have cut23 : ∀ (fuel : Nat) (w : Nat) (q : Nat), (q ≤ r) → (w ≤ 1) → (w = 1 ↔ (¬ dFm ld (pLr P r) y.toInt.toNat = 0 ∧ nwS (gaF ld (pLr P) (pSt P y.toInt.toNat) y.toInt.toNat ga (pRs P)) (gaN ld (pLr P) y.toInt.toNat r) (gaN ld (pLr P) y.toInt.toNat q) = 1)) → r - q < fuel → xG p l e R s m args below meth c Q D A 6 [(mo, .inr (9, [.int (nI cols), .int (nI lc), .int (nI smp), .int (ky), .ref (mr 0), .ref (mr 1), .ref (mr 2), .ref (mr 3), .ref (mr 4), .ref (mr 5), .ref (mr 6), .ref (mr 7), .ref (mr 8), .ref (mr 9), .int (nI (pMk P)), .int (nI (pRs P)), .ref (mr 10), .ref (mr 11), .ref (mr 12), .ref (mr 13), .ref (mr 14), .ref (mr 15), .ref (mr 16), .ref (mr 17), .ref (mr 18), .ref (mr 19), .ref (mr 20), .int (nI nse), .int (nI npa), .int (nI nbo), .ref (mr 21), .int (nI tn), .ref (mr 22), .int (nI ik), .int (j0), .int (j1), .ref (mr 23), .int (j2), .ref (mr 24), .ref (mr 25), .int (j3), .ref (mr 26), .int (j4), .ref (mr 27), .ref (mr 28), .ref (mr 29), .ref (mr 30)])), (mr 10, .inl (cy 1, 24, .inl (fun k => nI (lr9 k)))), (mr 3, .inl (cy 1, 5, .inl (fun k => nI (st9 k)))), (mr 6, .inl (cy 1, 24, .inl (fun k => nI (fn k)))), (mr 7, .inl (cy 1, 120, .inl (fun k => nI (fo k)))), (mr 8, .inl (cy 2, 120, .inr (.inl ex))), (mr 9, .inl (cy 2, 120, .inr (.inl wo)))] 0 0 23 [(0, .ref mo), (1, .int (y)), (2, .int (nI cn)), (3, .int (nI r)), (4, .int (nI w)), (5, .int (nI q))] [] := by
              intro fuel
              induction fuel with
              | zero =>
                intro w q hq hw1 hww hmu
                exact absurd hmu (Nat.not_lt_zero _)
              | succ fuel ih =>
                intro w q hq hw1 hww hmu
                have hwn := nwS_le (gaF ld (pLr P) (pSt P y.toInt.toNat) y.toInt.toNat ga (pRs P)) (gaN ld (pLr P) y.toInt.toNat r) (gaN ld (pLr P) y.toInt.toNat q)
                have ih23 := ih
                clear ih
                refine x_iload C dX10_unlike_23 (q := 25) rfl 5 rfl ?_
                refine x_iload_n C dX10_unlike_25 (q := 26) rfl rfl 3 rfl ?_
                refine x_icmp_ge C (tgt := 74) dX10_unlike_26 (by decide) (q := 29) rfl (a := ((q : Nat) : Int)) (b := ((r : Nat) : Int)) (nI_toInt (by omega)) (nI_toInt (by omega)) (fun h5 => ?_) (fun h5 => ?_)
                · first
                  | (exfalso; omega)
                  |
                    refine x_L (L' := [(0, .ref mo), (1, .int (y)), (2, .int (nI cn)), (3, .int (nI r)), (4, .int (nI w))]) [0, 1, 2, 3, 4] rfl ?_
                    exact cut74 w (by first | omega | assumption) (by intro e9; by_cases e8 : w = 1; (have e7 : q = r := (by omega); have e6 := (hww.mp e8).2; rw [e7] at e6; omega); (have e7 : nwS (gaF ld (pLr P) (pSt P y.toInt.toNat) y.toInt.toNat ga (pRs P)) (gaN ld (pLr P) y.toInt.toNat r) (gaN ld (pLr P) y.toInt.toNat q) = 0 := (by have z := hww.mpr; (by_cases y9 : nwS (gaF ld (pLr P) (pSt P y.toInt.toNat) y.toInt.toNat ga (pRs P)) (gaN ld (pLr P) y.toInt.toNat r) (gaN ld (pLr P) y.toInt.toNat q) = 1; exact absurd (z ⟨e9, y9⟩) e8; omega)); have e6 := nwS_mono e7 (k := gaN ld (pLr P) y.toInt.toNat r) (gaN_mono (by omega)); omega)) (by intro e9; by_cases e8 : w = 1; exact absurd e9 (hww.mp e8).1; omega)
                · first
                  | (exfalso; omega)
                  |
                    refine x_iload C dX10_unlike_29 (q := 31) rfl 4 rfl ?_
                    refine x_if_eq C (tgt := 74) dX10_unlike_31 (by decide) (q := 34) rfl (a := ((w : Nat) : Int)) (nI_toInt (by omega)) (fun h6 => ?_) (fun h6 => ?_)
                    · first
                      | (exfalso; omega)
                      |
                        refine x_L (L' := [(0, .ref mo), (1, .int (y)), (2, .int (nI cn)), (3, .int (nI r)), (4, .int (nI w))]) [0, 1, 2, 3, 4] rfl ?_
                        exact cut74 w (by first | omega | assumption) (by intro e9; by_cases e8 : w = 1; (have e7 : q = r := (by omega); have e6 := (hww.mp e8).2; rw [e7] at e6; omega); (have e7 : nwS (gaF ld (pLr P) (pSt P y.toInt.toNat) y.toInt.toNat ga (pRs P)) (gaN ld (pLr P) y.toInt.toNat r) (gaN ld (pLr P) y.toInt.toNat q) = 0 := (by have z := hww.mpr; (by_cases y9 : nwS (gaF ld (pLr P) (pSt P y.toInt.toNat) y.toInt.toNat ga (pRs P)) (gaN ld (pLr P) y.toInt.toNat r) (gaN ld (pLr P) y.toInt.toNat q) = 1; exact absurd (z ⟨e9, y9⟩) e8; omega)); have e6 := nwS_mono e7 (k := gaN ld (pLr P) y.toInt.toNat r) (gaN_mono (by omega)); omega)) (by intro e9; by_cases e8 : w = 1; exact absurd e9 (hww.mp e8).1; omega)
                    · first
                      | (exfalso; omega)
                      |
                        refine x_aload_n C dX10_unlike_34 (q := 35) rfl rfl 0 rfl ?_
                        refine x_iload C dX10_unlike_35 (q := 37) rfl 5 rfl ?_
                        refine x_iload_n C dX10_unlike_37 (q := 38) rfl rfl 1 rfl ?_
                        refine x_callV C (roW := []) (roR := []) (c_X10_hasValue_n l D cy mo mr cols lc smp nse npa nbo tn ik ky j0 j1 j2 j3 j4 P fn fo ex wo st9 lr9 rl9 fa9 ca9 dc9 ld q y (by assumption) (by assumption) (by assumption) (by first | assumption | omega | (simp only []; omega)) (by assumption) (by assumption) (by first | assumption | omega | (simp only []; omega)) (by assumption) (by assumption) (by first | assumption | omega | (simp only []; omega)) (by first | assumption | omega | (simp only []; omega)) (by first | assumption | omega | (simp only []; omega))) (cwV 2 C.2.2.2.2.1 gX10_unlike_X10_hasValue rfl rfl rfl (by decide +kernel) (by rw [hR]; exact ⟨Nat.le_of_ble_eq_true rfl, Nat.le_of_ble_eq_true rfl⟩)) [0, 1, 2, 3, 4, 5, 6] [] rfl (by decide) rfl (by decide) xro_nil (List.mem_of_getElem? (i := 0) rfl) (ci := 9) rfl xT_bl (fun _ _ _ _ _ _ _ => trivial) rfl rfl dX10_unlike_38 rfl rfl (Nat.le_of_ble_eq_true rfl) (q := 41) rfl (k' := 0) rfl (n' := 0) rfl (by rw [hR]; exact ⟨Nat.le_of_ble_eq_true rfl, Nat.le_of_ble_eq_true rfl⟩) (fun v7 w7 hp7 => ?_)
                        rcases hp7 with hp7 | hp7
                        · skip
                          obtain ⟨rfl, rfl, hc8⟩ := hp7
                          refine x_ws (ws' := [(mo, .inr (9, [.int (nI cols), .int (nI lc), .int (nI smp), .int (ky), .ref (mr 0), .ref (mr 1), .ref (mr 2), .ref (mr 3), .ref (mr 4), .ref (mr 5), .ref (mr 6), .ref (mr 7), .ref (mr 8), .ref (mr 9), .int (nI (pMk P)), .int (nI (pRs P)), .ref (mr 10), .ref (mr 11), .ref (mr 12), .ref (mr 13), .ref (mr 14), .ref (mr 15), .ref (mr 16), .ref (mr 17), .ref (mr 18), .ref (mr 19), .ref (mr 20), .int (nI nse), .int (nI npa), .int (nI nbo), .ref (mr 21), .int (nI tn), .ref (mr 22), .int (nI ik), .int (j0), .int (j1), .ref (mr 23), .int (j2), .ref (mr 24), .ref (mr 25), .int (j3), .ref (mr 26), .int (j4), .ref (mr 27), .ref (mr 28), .ref (mr 29), .ref (mr 30)])), (mr 10, .inl (cy 1, 24, .inl (fun k => nI (lr9 k)))), (mr 3, .inl (cy 1, 5, .inl (fun k => nI (st9 k)))), (mr 6, .inl (cy 1, 24, .inl (fun k => nI (fn k)))), (mr 7, .inl (cy 1, 120, .inl (fun k => nI (fo k)))), (mr 8, .inl (cy 2, 120, .inr (.inl ex))), (mr 9, .inl (cy 2, 120, .inr (.inl wo)))]) rfl ?_
                          refine x_if_eq C (tgt := 61) dX10_unlike_41 (by decide) (q := 44) rfl (a := 1) rfl (fun h9 => (by omega : False).elim) (fun h9 => ?_)
                          refine x_aload_n C dX10_unlike_44 (q := 45) rfl rfl 0 rfl ?_
                          refine x_iload C dX10_unlike_45 (q := 47) rfl 5 rfl ?_
                          refine x_iload_n C dX10_unlike_47 (q := 48) rfl rfl 1 rfl ?_
                          refine x_callV C (roW := []) (roR := []) (c_X10_its l D cy mo mr cols lc smp nse npa nbo tn ik ky j0 j1 j2 j3 j4 P fn fo ex wo st9 lr9 rl9 fa9 ca9 dc9 ld q y (by assumption) (by assumption) (by assumption) (by first | assumption | omega | (simp only []; omega)) (by assumption) (by assumption) (by first | assumption | omega | (simp only []; omega)) (by assumption) (by assumption) (by first | assumption | omega | (simp only []; omega)) (by first | assumption | omega | (simp only []; omega)) (by first | assumption | omega | (simp only []; omega)) (by first | assumption | omega | (simp only []; omega))) (cwV 2 C.2.2.2.2.1 gX10_unlike_X10_its rfl rfl rfl (by decide +kernel) (by rw [hR]; exact ⟨Nat.le_of_ble_eq_true rfl, Nat.le_of_ble_eq_true rfl⟩)) [0, 1, 2, 3, 4, 5, 6] [] rfl (by decide) rfl (by decide) xro_nil (List.mem_of_getElem? (i := 0) rfl) (ci := 9) rfl xT_bl (fun _ _ _ _ _ _ _ => trivial) rfl rfl dX10_unlike_48 rfl rfl (Nat.le_of_ble_eq_true rfl) (q := 51) rfl (k' := 0) rfl (n' := 0) rfl (by rw [hR]; exact ⟨Nat.le_of_ble_eq_true rfl, Nat.le_of_ble_eq_true rfl⟩) (fun v10 w10 hp10 => ?_)
                          obtain ⟨rfl, rfl⟩ := hp10
                          refine x_ws (ws' := [(mo, .inr (9, [.int (nI cols), .int (nI lc), .int (nI smp), .int (ky), .ref (mr 0), .ref (mr 1), .ref (mr 2), .ref (mr 3), .ref (mr 4), .ref (mr 5), .ref (mr 6), .ref (mr 7), .ref (mr 8), .ref (mr 9), .int (nI (pMk P)), .int (nI (pRs P)), .ref (mr 10), .ref (mr 11), .ref (mr 12), .ref (mr 13), .ref (mr 14), .ref (mr 15), .ref (mr 16), .ref (mr 17), .ref (mr 18), .ref (mr 19), .ref (mr 20), .int (nI nse), .int (nI npa), .int (nI nbo), .ref (mr 21), .int (nI tn), .ref (mr 22), .int (nI ik), .int (j0), .int (j1), .ref (mr 23), .int (j2), .ref (mr 24), .ref (mr 25), .int (j3), .ref (mr 26), .int (j4), .ref (mr 27), .ref (mr 28), .ref (mr 29), .ref (mr 30)])), (mr 10, .inl (cy 1, 24, .inl (fun k => nI (lr9 k)))), (mr 3, .inl (cy 1, 5, .inl (fun k => nI (st9 k)))), (mr 6, .inl (cy 1, 24, .inl (fun k => nI (fn k)))), (mr 7, .inl (cy 1, 120, .inl (fun k => nI (fo k)))), (mr 8, .inl (cy 2, 120, .inr (.inl ex))), (mr 9, .inl (cy 2, 120, .inr (.inl wo)))]) rfl ?_
                          refine x_aload_n C dX10_unlike_51 (q := 52) rfl rfl 0 rfl ?_
                          refine x_iload_n C dX10_unlike_52 (q := 53) rfl rfl 3 rfl ?_
                          refine x_iload_n C dX10_unlike_53 (q := 54) rfl rfl 1 rfl ?_
                          refine x_callV C (roW := []) (roR := []) (c_X10_its l D cy mo mr cols lc smp nse npa nbo tn ik ky j0 j1 j2 j3 j4 P fn fo ex wo st9 lr9 rl9 fa9 ca9 dc9 ld r y (by assumption) (by assumption) (by assumption) (by first | assumption | omega | (simp only []; omega)) (by assumption) (by assumption) (by first | assumption | omega | (simp only []; omega)) (by assumption) (by assumption) (by first | assumption | omega | (simp only []; omega)) (by first | assumption | omega | (simp only []; omega)) (by first | assumption | omega | (simp only []; omega)) (by exact (hww.mp (by omega)).1)) (cwV 2 C.2.2.2.2.1 gX10_unlike_X10_its rfl rfl rfl (by decide +kernel) (by rw [hR]; exact ⟨Nat.le_of_ble_eq_true rfl, Nat.le_of_ble_eq_true rfl⟩)) [0, 1, 2, 3, 4, 5, 6] [] rfl (by decide) rfl (by decide) xro_nil (List.mem_of_getElem? (i := 0) rfl) (ci := 9) rfl xT_bl (fun _ _ _ _ _ _ _ => trivial) rfl rfl dX10_unlike_54 rfl rfl (Nat.le_of_ble_eq_true rfl) (q := 57) rfl (k' := 0) rfl (n' := 0) rfl (by rw [hR]; exact ⟨Nat.le_of_ble_eq_true rfl, Nat.le_of_ble_eq_true rfl⟩) (fun v11 w11 hp11 => ?_)
                          obtain ⟨rfl, rfl⟩ := hp11
                          refine x_ws (ws' := [(mo, .inr (9, [.int (nI cols), .int (nI lc), .int (nI smp), .int (ky), .ref (mr 0), .ref (mr 1), .ref (mr 2), .ref (mr 3), .ref (mr 4), .ref (mr 5), .ref (mr 6), .ref (mr 7), .ref (mr 8), .ref (mr 9), .int (nI (pMk P)), .int (nI (pRs P)), .ref (mr 10), .ref (mr 11), .ref (mr 12), .ref (mr 13), .ref (mr 14), .ref (mr 15), .ref (mr 16), .ref (mr 17), .ref (mr 18), .ref (mr 19), .ref (mr 20), .int (nI nse), .int (nI npa), .int (nI nbo), .ref (mr 21), .int (nI tn), .ref (mr 22), .int (nI ik), .int (j0), .int (j1), .ref (mr 23), .int (j2), .ref (mr 24), .ref (mr 25), .int (j3), .ref (mr 26), .int (j4), .ref (mr 27), .ref (mr 28), .ref (mr 29), .ref (mr 30)])), (mr 10, .inl (cy 1, 24, .inl (fun k => nI (lr9 k)))), (mr 3, .inl (cy 1, 5, .inl (fun k => nI (st9 k)))), (mr 6, .inl (cy 1, 24, .inl (fun k => nI (fn k)))), (mr 7, .inl (cy 1, 120, .inl (fun k => nI (fo k)))), (mr 8, .inl (cy 2, 120, .inr (.inl ex))), (mr 9, .inl (cy 2, 120, .inr (.inl wo)))]) rfl ?_
                          refine x_lcmp_eq C (tgt := 65) dX10_unlike_57 dX10_unlike_58 (by decide) (q := 61) rfl (a := (vlS ld (pSt P y.toInt.toNat) (pLr P q) y.toInt.toNat).toInt) (b := (vlS ld (pSt P y.toInt.toNat) (pLr P r) y.toInt.toNat).toInt) rfl rfl (fun h12 => ?_) (fun h12 => ?_)
                          · first
                            | (exfalso; omega)
                            |
                              refine x_iconst C dX10_unlike_65 (q := 66) rfl (v := nI 0) (by decide) ?_
                              refine x_istore C (L' := [(4, .int (nI 0)), (0, .ref mo), (1, .int (y)), (2, .int (nI cn)), (3, .int (nI r)), (5, .int (nI q))]) dX10_unlike_66 (q := 68) rfl (by decide) rfl ?_
                              refine x_iinc C (L' := [(5, .int (nI (q + 1))), (4, .int (nI 0)), (0, .ref mo), (1, .int (y)), (2, .int (nI cn)), (3, .int (nI r))]) dX10_unlike_68 (q := 71) rfl 5 rfl (v := nI (q + 1)) (nI_add q 1) (by decide) rfl ?_
                              refine x_goto C (tgt := 23) dX10_unlike_71 (by decide) ?_
                              refine x_L (L' := [(0, .ref mo), (1, .int (y)), (2, .int (nI cn)), (3, .int (nI r)), (4, .int (nI 0)), (5, .int (nI (q + 1)))]) [2, 3, 4, 5, 1, 0] rfl ?_
                              exact ih23 0 (q + 1) (by first | omega | assumption) (by first | omega | assumption) (by have hr1 := hww.mp (by omega); first | (rw [gaN_n (by assumption)]; exact ⟨fun _ => hr1, fun _ => rfl⟩) | (have e8 := gaF_at (ld := ld) (lr := pLr P) (ty := pSt P y.toInt.toNat) (c := y.toInt.toNat) (g := ga) (r := q) (by assumption) (m := pRs P) (by omega); have e7 := gaF_at (ld := ld) (lr := pLr P) (ty := pSt P y.toInt.toNat) (c := y.toInt.toNat) (g := ga) (r := r) hr1.1 (m := pRs P) (by omega); rw [gaN_y (by assumption)]; first | (rw [nwS_n (by rw [e8, e7]; assumption)]; exact ⟨fun _ => hr1, fun _ => rfl⟩) | (rw [nwS_y (by rw [e8, e7]; first | assumption | omega)]; exact ⟨fun z => absurd z (by decide), fun z => absurd z.2 (by decide)⟩))) (by omega)
                          · first
                            | (exfalso; omega)
                            |
                              refine x_iconst C dX10_unlike_61 (q := 62) rfl (v := nI 1) (by decide) ?_
                              refine x_goto C (tgt := 66) dX10_unlike_62 (by decide) ?_
                              refine x_istore C (L' := [(4, .int (nI 1)), (0, .ref mo), (1, .int (y)), (2, .int (nI cn)), (3, .int (nI r)), (5, .int (nI q))]) dX10_unlike_66 (q := 68) rfl (by decide) rfl ?_
                              refine x_iinc C (L' := [(5, .int (nI (q + 1))), (4, .int (nI 1)), (0, .ref mo), (1, .int (y)), (2, .int (nI cn)), (3, .int (nI r))]) dX10_unlike_68 (q := 71) rfl 5 rfl (v := nI (q + 1)) (nI_add q 1) (by decide) rfl ?_
                              refine x_goto C (tgt := 23) dX10_unlike_71 (by decide) ?_
                              refine x_L (L' := [(0, .ref mo), (1, .int (y)), (2, .int (nI cn)), (3, .int (nI r)), (4, .int (nI 1)), (5, .int (nI (q + 1)))]) [2, 3, 4, 5, 1, 0] rfl ?_
                              exact ih23 1 (q + 1) (by first | omega | assumption) (by first | omega | assumption) (by have hr1 := hww.mp (by omega); first | (rw [gaN_n (by assumption)]; exact ⟨fun _ => hr1, fun _ => rfl⟩) | (have e8 := gaF_at (ld := ld) (lr := pLr P) (ty := pSt P y.toInt.toNat) (c := y.toInt.toNat) (g := ga) (r := q) (by assumption) (m := pRs P) (by omega); have e7 := gaF_at (ld := ld) (lr := pLr P) (ty := pSt P y.toInt.toNat) (c := y.toInt.toNat) (g := ga) (r := r) hr1.1 (m := pRs P) (by omega); rw [gaN_y (by assumption)]; first | (rw [nwS_n (by rw [e8, e7]; assumption)]; exact ⟨fun _ => hr1, fun _ => rfl⟩) | (rw [nwS_y (by rw [e8, e7]; first | assumption | omega)]; exact ⟨fun z => absurd z (by decide), fun z => absurd z.2 (by decide)⟩))) (by omega)
                        · skip
                          obtain ⟨rfl, rfl, hc13⟩ := hp7
                          refine x_ws (ws' := [(mo, .inr (9, [.int (nI cols), .int (nI lc), .int (nI smp), .int (ky), .ref (mr 0), .ref (mr 1), .ref (mr 2), .ref (mr 3), .ref (mr 4), .ref (mr 5), .ref (mr 6), .ref (mr 7), .ref (mr 8), .ref (mr 9), .int (nI (pMk P)), .int (nI (pRs P)), .ref (mr 10), .ref (mr 11), .ref (mr 12), .ref (mr 13), .ref (mr 14), .ref (mr 15), .ref (mr 16), .ref (mr 17), .ref (mr 18), .ref (mr 19), .ref (mr 20), .int (nI nse), .int (nI npa), .int (nI nbo), .ref (mr 21), .int (nI tn), .ref (mr 22), .int (nI ik), .int (j0), .int (j1), .ref (mr 23), .int (j2), .ref (mr 24), .ref (mr 25), .int (j3), .ref (mr 26), .int (j4), .ref (mr 27), .ref (mr 28), .ref (mr 29), .ref (mr 30)])), (mr 10, .inl (cy 1, 24, .inl (fun k => nI (lr9 k)))), (mr 3, .inl (cy 1, 5, .inl (fun k => nI (st9 k)))), (mr 6, .inl (cy 1, 24, .inl (fun k => nI (fn k)))), (mr 7, .inl (cy 1, 120, .inl (fun k => nI (fo k)))), (mr 8, .inl (cy 2, 120, .inr (.inl ex))), (mr 9, .inl (cy 2, 120, .inr (.inl wo)))]) rfl ?_
                          refine x_if_eq C (tgt := 61) dX10_unlike_41 (by decide) (q := 44) rfl (a := 0) rfl (fun h14 => ?_) (fun h14 => (by omega : False).elim)
                          refine x_iconst C dX10_unlike_61 (q := 62) rfl (v := nI 1) (by decide) ?_
                          refine x_goto C (tgt := 66) dX10_unlike_62 (by decide) ?_
                          refine x_istore C (L' := [(4, .int (nI 1)), (0, .ref mo), (1, .int (y)), (2, .int (nI cn)), (3, .int (nI r)), (5, .int (nI q))]) dX10_unlike_66 (q := 68) rfl (by decide) rfl ?_
                          refine x_iinc C (L' := [(5, .int (nI (q + 1))), (4, .int (nI 1)), (0, .ref mo), (1, .int (y)), (2, .int (nI cn)), (3, .int (nI r))]) dX10_unlike_68 (q := 71) rfl 5 rfl (v := nI (q + 1)) (nI_add q 1) (by decide) rfl ?_
                          refine x_goto C (tgt := 23) dX10_unlike_71 (by decide) ?_
                          refine x_L (L' := [(0, .ref mo), (1, .int (y)), (2, .int (nI cn)), (3, .int (nI r)), (4, .int (nI 1)), (5, .int (nI (q + 1)))]) [2, 3, 4, 5, 1, 0] rfl ?_
                          exact ih23 1 (q + 1) (by first | omega | assumption) (by first | omega | assumption) (by have hr1 := hww.mp (by omega); first | (rw [gaN_n (by assumption)]; exact ⟨fun _ => hr1, fun _ => rfl⟩) | (have e8 := gaF_at (ld := ld) (lr := pLr P) (ty := pSt P y.toInt.toNat) (c := y.toInt.toNat) (g := ga) (r := q) (by assumption) (m := pRs P) (by omega); have e7 := gaF_at (ld := ld) (lr := pLr P) (ty := pSt P y.toInt.toNat) (c := y.toInt.toNat) (g := ga) (r := r) hr1.1 (m := pRs P) (by omega); rw [gaN_y (by assumption)]; first | (rw [nwS_n (by rw [e8, e7]; assumption)]; exact ⟨fun _ => hr1, fun _ => rfl⟩) | (rw [nwS_y (by rw [e8, e7]; first | assumption | omega)]; exact ⟨fun z => absurd z (by decide), fun z => absurd z.2 (by decide)⟩))) (by omega)
            refine x_L (L' := [(0, .ref mo), (1, .int (y)), (2, .int (nI cn)), (3, .int (nI r)), (4, .int (nI 1)), (5, .int (nI 0))]) [2, 3, 4, 5, 1, 0] rfl ?_
            exact cut23 (r - 0 + 1) 1 0 (by first | omega | assumption) (by first | omega | assumption) (by first | (refine ⟨fun _ => ⟨by assumption, rfl⟩, fun _ => rfl⟩) | (refine ⟨fun z => absurd z (by decide), fun z => absurd (by assumption) z.1⟩)) (by omega)
          · skip
            obtain ⟨rfl, rfl, hc15⟩ := hp2
            refine x_ws (ws' := [(mo, .inr (9, [.int (nI cols), .int (nI lc), .int (nI smp), .int (ky), .ref (mr 0), .ref (mr 1), .ref (mr 2), .ref (mr 3), .ref (mr 4), .ref (mr 5), .ref (mr 6), .ref (mr 7), .ref (mr 8), .ref (mr 9), .int (nI (pMk P)), .int (nI (pRs P)), .ref (mr 10), .ref (mr 11), .ref (mr 12), .ref (mr 13), .ref (mr 14), .ref (mr 15), .ref (mr 16), .ref (mr 17), .ref (mr 18), .ref (mr 19), .ref (mr 20), .int (nI nse), .int (nI npa), .int (nI nbo), .ref (mr 21), .int (nI tn), .ref (mr 22), .int (nI ik), .int (j0), .int (j1), .ref (mr 23), .int (j2), .ref (mr 24), .ref (mr 25), .int (j3), .ref (mr 26), .int (j4), .ref (mr 27), .ref (mr 28), .ref (mr 29), .ref (mr 30)])), (mr 10, .inl (cy 1, 24, .inl (fun k => nI (lr9 k)))), (mr 3, .inl (cy 1, 5, .inl (fun k => nI (st9 k)))), (mr 6, .inl (cy 1, 24, .inl (fun k => nI (fn k)))), (mr 7, .inl (cy 1, 120, .inl (fun k => nI (fo k)))), (mr 8, .inl (cy 2, 120, .inr (.inl ex))), (mr 9, .inl (cy 2, 120, .inr (.inl wo)))]) rfl ?_
            refine x_istore C (L' := [(4, .int (nI 0)), (0, .ref mo), (1, .int (y)), (2, .int (nI cn)), (3, .int (nI r))]) dX10_unlike_18 (q := 20) rfl (by decide) rfl ?_
            have cut74 : ∀ (w : Nat), (w ≤ 1) → (¬ dFm ld (pLr P r) y.toInt.toNat = 0 → w = nwS (gaF ld (pLr P) (pSt P y.toInt.toNat) y.toInt.toNat ga (pRs P)) (gaN ld (pLr P) y.toInt.toNat r) (gaN ld (pLr P) y.toInt.toNat r)) → (dFm ld (pLr P r) y.toInt.toNat = 0 → w = 0) → xG p l e R s m args below meth c Q D A 6 [(mo, .inr (9, [.int (nI cols), .int (nI lc), .int (nI smp), .int (ky), .ref (mr 0), .ref (mr 1), .ref (mr 2), .ref (mr 3), .ref (mr 4), .ref (mr 5), .ref (mr 6), .ref (mr 7), .ref (mr 8), .ref (mr 9), .int (nI (pMk P)), .int (nI (pRs P)), .ref (mr 10), .ref (mr 11), .ref (mr 12), .ref (mr 13), .ref (mr 14), .ref (mr 15), .ref (mr 16), .ref (mr 17), .ref (mr 18), .ref (mr 19), .ref (mr 20), .int (nI nse), .int (nI npa), .int (nI nbo), .ref (mr 21), .int (nI tn), .ref (mr 22), .int (nI ik), .int (j0), .int (j1), .ref (mr 23), .int (j2), .ref (mr 24), .ref (mr 25), .int (j3), .ref (mr 26), .int (j4), .ref (mr 27), .ref (mr 28), .ref (mr 29), .ref (mr 30)])), (mr 10, .inl (cy 1, 24, .inl (fun k => nI (lr9 k)))), (mr 3, .inl (cy 1, 5, .inl (fun k => nI (st9 k)))), (mr 6, .inl (cy 1, 24, .inl (fun k => nI (fn k)))), (mr 7, .inl (cy 1, 120, .inl (fun k => nI (fo k)))), (mr 8, .inl (cy 2, 120, .inr (.inl ex))), (mr 9, .inl (cy 2, 120, .inr (.inl wo)))] 0 0 74 [(0, .ref mo), (1, .int (y)), (2, .int (nI cn)), (3, .int (nI r)), (4, .int (nI w))] [] := by
              intro w hw1 hwr hw0
              refine x_iload_n C dX10_unlike_74 (q := 75) rfl rfl 2 rfl ?_
              refine x_iload C dX10_unlike_75 (q := 77) rfl 4 rfl ?_
              refine x_if_eq C (tgt := 84) dX10_unlike_77 (by decide) (q := 80) rfl (a := ((w : Nat) : Int)) (nI_toInt (by omega)) (fun h16 => ?_) (fun h16 => ?_)
              · first
                | (exfalso; omega)
                |
                  refine x_iconst C dX10_unlike_84 (q := 85) rfl (v := nI 0) (by decide) ?_
                  refine x_iadd C dX10_unlike_85 (q := 86) rfl (z := nI (cn + 0)) (nI_add cn 0) ?_
                  refine x_istore_n C (L' := [(2, .int (nI (cn + 0))), (0, .ref mo), (1, .int (y)), (3, .int (nI r)), (4, .int (nI w))]) dX10_unlike_86 (q := 87) rfl rfl (by decide) rfl ?_
                  refine x_iinc C (L' := [(3, .int (nI (r + 1))), (2, .int (nI (cn + 0))), (0, .ref mo), (1, .int (y)), (4, .int (nI w))]) dX10_unlike_87 (q := 90) rfl 3 rfl (v := nI (r + 1)) (nI_add r 1) (by decide) rfl ?_
                  refine x_goto C (tgt := 4) dX10_unlike_90 (by decide) ?_
                  refine x_L (L' := [(0, .ref mo), (1, .int (y)), (2, .int (nI (cn + 0))), (3, .int (nI (r + 1)))]) [2, 3, 1, 0] rfl ?_
                  exact ih4 (r + 1) (cn + 0) (by first | omega | assumption) (by by_cases e9 : dFm ld (pLr P r) y.toInt.toNat = 0; (rw [gaN_n e9]; omega); (rw [gaN_y e9]; show _ = if nwS (gaF ld (pLr P) (pSt P y.toInt.toNat) y.toInt.toNat ga (pRs P)) (gaN ld (pLr P) y.toInt.toNat r) (gaN ld (pLr P) y.toInt.toNat r) = 0 then _ else _; first | (rw [if_pos (by omega)]; omega) | (rw [if_neg (by omega)]; omega))) (by omega)
              · first
                | (exfalso; omega)
                |
                  refine x_iconst C dX10_unlike_80 (q := 81) rfl (v := nI 1) (by decide) ?_
                  refine x_goto C (tgt := 85) dX10_unlike_81 (by decide) ?_
                  refine x_iadd C dX10_unlike_85 (q := 86) rfl (z := nI (cn + 1)) (nI_add cn 1) ?_
                  refine x_istore_n C (L' := [(2, .int (nI (cn + 1))), (0, .ref mo), (1, .int (y)), (3, .int (nI r)), (4, .int (nI w))]) dX10_unlike_86 (q := 87) rfl rfl (by decide) rfl ?_
                  refine x_iinc C (L' := [(3, .int (nI (r + 1))), (2, .int (nI (cn + 1))), (0, .ref mo), (1, .int (y)), (4, .int (nI w))]) dX10_unlike_87 (q := 90) rfl 3 rfl (v := nI (r + 1)) (nI_add r 1) (by decide) rfl ?_
                  refine x_goto C (tgt := 4) dX10_unlike_90 (by decide) ?_
                  refine x_L (L' := [(0, .ref mo), (1, .int (y)), (2, .int (nI (cn + 1))), (3, .int (nI (r + 1)))]) [2, 3, 1, 0] rfl ?_
                  exact ih4 (r + 1) (cn + 1) (by first | omega | assumption) (by by_cases e9 : dFm ld (pLr P r) y.toInt.toNat = 0; (rw [gaN_n e9]; omega); (rw [gaN_y e9]; show _ = if nwS (gaF ld (pLr P) (pSt P y.toInt.toNat) y.toInt.toNat ga (pRs P)) (gaN ld (pLr P) y.toInt.toNat r) (gaN ld (pLr P) y.toInt.toNat r) = 0 then _ else _; first | (rw [if_pos (by omega)]; omega) | (rw [if_neg (by omega)]; omega))) (by omega)
            refine x_iconst C dX10_unlike_20 (q := 21) rfl (v := nI 0) (by decide) ?_
            refine x_istore C (L' := [(5, .int (nI 0)), (4, .int (nI 0)), (0, .ref mo), (1, .int (y)), (2, .int (nI cn)), (3, .int (nI r))]) dX10_unlike_21 (q := 23) rfl (by decide) rfl ?_
            have cut23 : ∀ (fuel : Nat) (w : Nat) (q : Nat), (q ≤ r) → (w ≤ 1) → (w = 1 ↔ (¬ dFm ld (pLr P r) y.toInt.toNat = 0 ∧ nwS (gaF ld (pLr P) (pSt P y.toInt.toNat) y.toInt.toNat ga (pRs P)) (gaN ld (pLr P) y.toInt.toNat r) (gaN ld (pLr P) y.toInt.toNat q) = 1)) → r - q < fuel → xG p l e R s m args below meth c Q D A 6 [(mo, .inr (9, [.int (nI cols), .int (nI lc), .int (nI smp), .int (ky), .ref (mr 0), .ref (mr 1), .ref (mr 2), .ref (mr 3), .ref (mr 4), .ref (mr 5), .ref (mr 6), .ref (mr 7), .ref (mr 8), .ref (mr 9), .int (nI (pMk P)), .int (nI (pRs P)), .ref (mr 10), .ref (mr 11), .ref (mr 12), .ref (mr 13), .ref (mr 14), .ref (mr 15), .ref (mr 16), .ref (mr 17), .ref (mr 18), .ref (mr 19), .ref (mr 20), .int (nI nse), .int (nI npa), .int (nI nbo), .ref (mr 21), .int (nI tn), .ref (mr 22), .int (nI ik), .int (j0), .int (j1), .ref (mr 23), .int (j2), .ref (mr 24), .ref (mr 25), .int (j3), .ref (mr 26), .int (j4), .ref (mr 27), .ref (mr 28), .ref (mr 29), .ref (mr 30)])), (mr 10, .inl (cy 1, 24, .inl (fun k => nI (lr9 k)))), (mr 3, .inl (cy 1, 5, .inl (fun k => nI (st9 k)))), (mr 6, .inl (cy 1, 24, .inl (fun k => nI (fn k)))), (mr 7, .inl (cy 1, 120, .inl (fun k => nI (fo k)))), (mr 8, .inl (cy 2, 120, .inr (.inl ex))), (mr 9, .inl (cy 2, 120, .inr (.inl wo)))] 0 0 23 [(0, .ref mo), (1, .int (y)), (2, .int (nI cn)), (3, .int (nI r)), (4, .int (nI w)), (5, .int (nI q))] [] := by
              intro fuel
              induction fuel with
              | zero =>
                intro w q hq hw1 hww hmu
                exact absurd hmu (Nat.not_lt_zero _)
              | succ fuel ih =>
                intro w q hq hw1 hww hmu
                have hwn := nwS_le (gaF ld (pLr P) (pSt P y.toInt.toNat) y.toInt.toNat ga (pRs P)) (gaN ld (pLr P) y.toInt.toNat r) (gaN ld (pLr P) y.toInt.toNat q)
                have ih23 := ih
                clear ih
                refine x_iload C dX10_unlike_23 (q := 25) rfl 5 rfl ?_
                refine x_iload_n C dX10_unlike_25 (q := 26) rfl rfl 3 rfl ?_
                refine x_icmp_ge C (tgt := 74) dX10_unlike_26 (by decide) (q := 29) rfl (a := ((q : Nat) : Int)) (b := ((r : Nat) : Int)) (nI_toInt (by omega)) (nI_toInt (by omega)) (fun h17 => ?_) (fun h17 => ?_)
                · first
                  | (exfalso; omega)
                  |
                    refine x_L (L' := [(0, .ref mo), (1, .int (y)), (2, .int (nI cn)), (3, .int (nI r)), (4, .int (nI w))]) [0, 1, 2, 3, 4] rfl ?_
                    exact cut74 w (by first | omega | assumption) (by intro e9; by_cases e8 : w = 1; (have e7 : q = r := (by omega); have e6 := (hww.mp e8).2; rw [e7] at e6; omega); (have e7 : nwS (gaF ld (pLr P) (pSt P y.toInt.toNat) y.toInt.toNat ga (pRs P)) (gaN ld (pLr P) y.toInt.toNat r) (gaN ld (pLr P) y.toInt.toNat q) = 0 := (by have z := hww.mpr; (by_cases y9 : nwS (gaF ld (pLr P) (pSt P y.toInt.toNat) y.toInt.toNat ga (pRs P)) (gaN ld (pLr P) y.toInt.toNat r) (gaN ld (pLr P) y.toInt.toNat q) = 1; exact absurd (z ⟨e9, y9⟩) e8; omega)); have e6 := nwS_mono e7 (k := gaN ld (pLr P) y.toInt.toNat r) (gaN_mono (by omega)); omega)) (by intro e9; by_cases e8 : w = 1; exact absurd e9 (hww.mp e8).1; omega)
                · first
                  | (exfalso; omega)
                  |
                    refine x_iload C dX10_unlike_29 (q := 31) rfl 4 rfl ?_
                    refine x_if_eq C (tgt := 74) dX10_unlike_31 (by decide) (q := 34) rfl (a := ((w : Nat) : Int)) (nI_toInt (by omega)) (fun h18 => ?_) (fun h18 => ?_)
                    · first
                      | (exfalso; omega)
                      |
                        refine x_L (L' := [(0, .ref mo), (1, .int (y)), (2, .int (nI cn)), (3, .int (nI r)), (4, .int (nI w))]) [0, 1, 2, 3, 4] rfl ?_
                        exact cut74 w (by first | omega | assumption) (by intro e9; by_cases e8 : w = 1; (have e7 : q = r := (by omega); have e6 := (hww.mp e8).2; rw [e7] at e6; omega); (have e7 : nwS (gaF ld (pLr P) (pSt P y.toInt.toNat) y.toInt.toNat ga (pRs P)) (gaN ld (pLr P) y.toInt.toNat r) (gaN ld (pLr P) y.toInt.toNat q) = 0 := (by have z := hww.mpr; (by_cases y9 : nwS (gaF ld (pLr P) (pSt P y.toInt.toNat) y.toInt.toNat ga (pRs P)) (gaN ld (pLr P) y.toInt.toNat r) (gaN ld (pLr P) y.toInt.toNat q) = 1; exact absurd (z ⟨e9, y9⟩) e8; omega)); have e6 := nwS_mono e7 (k := gaN ld (pLr P) y.toInt.toNat r) (gaN_mono (by omega)); omega)) (by intro e9; by_cases e8 : w = 1; exact absurd e9 (hww.mp e8).1; omega)
                    · first
                      | (exfalso; omega)
                      |
                        refine x_aload_n C dX10_unlike_34 (q := 35) rfl rfl 0 rfl ?_
                        refine x_iload C dX10_unlike_35 (q := 37) rfl 5 rfl ?_
                        refine x_iload_n C dX10_unlike_37 (q := 38) rfl rfl 1 rfl ?_
                        refine x_callV C (roW := []) (roR := []) (c_X10_hasValue_n l D cy mo mr cols lc smp nse npa nbo tn ik ky j0 j1 j2 j3 j4 P fn fo ex wo st9 lr9 rl9 fa9 ca9 dc9 ld q y (by assumption) (by assumption) (by assumption) (by first | assumption | omega | (simp only []; omega)) (by assumption) (by assumption) (by first | assumption | omega | (simp only []; omega)) (by assumption) (by assumption) (by first | assumption | omega | (simp only []; omega)) (by first | assumption | omega | (simp only []; omega)) (by first | assumption | omega | (simp only []; omega))) (cwV 2 C.2.2.2.2.1 gX10_unlike_X10_hasValue rfl rfl rfl (by decide +kernel) (by rw [hR]; exact ⟨Nat.le_of_ble_eq_true rfl, Nat.le_of_ble_eq_true rfl⟩)) [0, 1, 2, 3, 4, 5, 6] [] rfl (by decide) rfl (by decide) xro_nil (List.mem_of_getElem? (i := 0) rfl) (ci := 9) rfl xT_bl (fun _ _ _ _ _ _ _ => trivial) rfl rfl dX10_unlike_38 rfl rfl (Nat.le_of_ble_eq_true rfl) (q := 41) rfl (k' := 0) rfl (n' := 0) rfl (by rw [hR]; exact ⟨Nat.le_of_ble_eq_true rfl, Nat.le_of_ble_eq_true rfl⟩) (fun v19 w19 hp19 => ?_)
                        rcases hp19 with hp19 | hp19
                        · skip
                          obtain ⟨rfl, rfl, hc20⟩ := hp19
                          refine x_ws (ws' := [(mo, .inr (9, [.int (nI cols), .int (nI lc), .int (nI smp), .int (ky), .ref (mr 0), .ref (mr 1), .ref (mr 2), .ref (mr 3), .ref (mr 4), .ref (mr 5), .ref (mr 6), .ref (mr 7), .ref (mr 8), .ref (mr 9), .int (nI (pMk P)), .int (nI (pRs P)), .ref (mr 10), .ref (mr 11), .ref (mr 12), .ref (mr 13), .ref (mr 14), .ref (mr 15), .ref (mr 16), .ref (mr 17), .ref (mr 18), .ref (mr 19), .ref (mr 20), .int (nI nse), .int (nI npa), .int (nI nbo), .ref (mr 21), .int (nI tn), .ref (mr 22), .int (nI ik), .int (j0), .int (j1), .ref (mr 23), .int (j2), .ref (mr 24), .ref (mr 25), .int (j3), .ref (mr 26), .int (j4), .ref (mr 27), .ref (mr 28), .ref (mr 29), .ref (mr 30)])), (mr 10, .inl (cy 1, 24, .inl (fun k => nI (lr9 k)))), (mr 3, .inl (cy 1, 5, .inl (fun k => nI (st9 k)))), (mr 6, .inl (cy 1, 24, .inl (fun k => nI (fn k)))), (mr 7, .inl (cy 1, 120, .inl (fun k => nI (fo k)))), (mr 8, .inl (cy 2, 120, .inr (.inl ex))), (mr 9, .inl (cy 2, 120, .inr (.inl wo)))]) rfl ?_
                          refine x_if_eq C (tgt := 61) dX10_unlike_41 (by decide) (q := 44) rfl (a := 1) rfl (fun h21 => (by omega : False).elim) (fun h21 => ?_)
                          refine x_aload_n C dX10_unlike_44 (q := 45) rfl rfl 0 rfl ?_
                          refine x_iload C dX10_unlike_45 (q := 47) rfl 5 rfl ?_
                          refine x_iload_n C dX10_unlike_47 (q := 48) rfl rfl 1 rfl ?_
                          refine x_callV C (roW := []) (roR := []) (c_X10_its l D cy mo mr cols lc smp nse npa nbo tn ik ky j0 j1 j2 j3 j4 P fn fo ex wo st9 lr9 rl9 fa9 ca9 dc9 ld q y (by assumption) (by assumption) (by assumption) (by first | assumption | omega | (simp only []; omega)) (by assumption) (by assumption) (by first | assumption | omega | (simp only []; omega)) (by assumption) (by assumption) (by first | assumption | omega | (simp only []; omega)) (by first | assumption | omega | (simp only []; omega)) (by first | assumption | omega | (simp only []; omega)) (by first | assumption | omega | (simp only []; omega))) (cwV 2 C.2.2.2.2.1 gX10_unlike_X10_its rfl rfl rfl (by decide +kernel) (by rw [hR]; exact ⟨Nat.le_of_ble_eq_true rfl, Nat.le_of_ble_eq_true rfl⟩)) [0, 1, 2, 3, 4, 5, 6] [] rfl (by decide) rfl (by decide) xro_nil (List.mem_of_getElem? (i := 0) rfl) (ci := 9) rfl xT_bl (fun _ _ _ _ _ _ _ => trivial) rfl rfl dX10_unlike_48 rfl rfl (Nat.le_of_ble_eq_true rfl) (q := 51) rfl (k' := 0) rfl (n' := 0) rfl (by rw [hR]; exact ⟨Nat.le_of_ble_eq_true rfl, Nat.le_of_ble_eq_true rfl⟩) (fun v22 w22 hp22 => ?_)
                          obtain ⟨rfl, rfl⟩ := hp22
                          refine x_ws (ws' := [(mo, .inr (9, [.int (nI cols), .int (nI lc), .int (nI smp), .int (ky), .ref (mr 0), .ref (mr 1), .ref (mr 2), .ref (mr 3), .ref (mr 4), .ref (mr 5), .ref (mr 6), .ref (mr 7), .ref (mr 8), .ref (mr 9), .int (nI (pMk P)), .int (nI (pRs P)), .ref (mr 10), .ref (mr 11), .ref (mr 12), .ref (mr 13), .ref (mr 14), .ref (mr 15), .ref (mr 16), .ref (mr 17), .ref (mr 18), .ref (mr 19), .ref (mr 20), .int (nI nse), .int (nI npa), .int (nI nbo), .ref (mr 21), .int (nI tn), .ref (mr 22), .int (nI ik), .int (j0), .int (j1), .ref (mr 23), .int (j2), .ref (mr 24), .ref (mr 25), .int (j3), .ref (mr 26), .int (j4), .ref (mr 27), .ref (mr 28), .ref (mr 29), .ref (mr 30)])), (mr 10, .inl (cy 1, 24, .inl (fun k => nI (lr9 k)))), (mr 3, .inl (cy 1, 5, .inl (fun k => nI (st9 k)))), (mr 6, .inl (cy 1, 24, .inl (fun k => nI (fn k)))), (mr 7, .inl (cy 1, 120, .inl (fun k => nI (fo k)))), (mr 8, .inl (cy 2, 120, .inr (.inl ex))), (mr 9, .inl (cy 2, 120, .inr (.inl wo)))]) rfl ?_
                          refine x_aload_n C dX10_unlike_51 (q := 52) rfl rfl 0 rfl ?_
                          refine x_iload_n C dX10_unlike_52 (q := 53) rfl rfl 3 rfl ?_
                          refine x_iload_n C dX10_unlike_53 (q := 54) rfl rfl 1 rfl ?_
                          refine x_callV C (roW := []) (roR := []) (c_X10_its l D cy mo mr cols lc smp nse npa nbo tn ik ky j0 j1 j2 j3 j4 P fn fo ex wo st9 lr9 rl9 fa9 ca9 dc9 ld r y (by assumption) (by assumption) (by assumption) (by first | assumption | omega | (simp only []; omega)) (by assumption) (by assumption) (by first | assumption | omega | (simp only []; omega)) (by assumption) (by assumption) (by first | assumption | omega | (simp only []; omega)) (by first | assumption | omega | (simp only []; omega)) (by first | assumption | omega | (simp only []; omega)) (by exact (hww.mp (by omega)).1)) (cwV 2 C.2.2.2.2.1 gX10_unlike_X10_its rfl rfl rfl (by decide +kernel) (by rw [hR]; exact ⟨Nat.le_of_ble_eq_true rfl, Nat.le_of_ble_eq_true rfl⟩)) [0, 1, 2, 3, 4, 5, 6] [] rfl (by decide) rfl (by decide) xro_nil (List.mem_of_getElem? (i := 0) rfl) (ci := 9) rfl xT_bl (fun _ _ _ _ _ _ _ => trivial) rfl rfl dX10_unlike_54 rfl rfl (Nat.le_of_ble_eq_true rfl) (q := 57) rfl (k' := 0) rfl (n' := 0) rfl (by rw [hR]; exact ⟨Nat.le_of_ble_eq_true rfl, Nat.le_of_ble_eq_true rfl⟩) (fun v23 w23 hp23 => ?_)
                          obtain ⟨rfl, rfl⟩ := hp23
                          refine x_ws (ws' := [(mo, .inr (9, [.int (nI cols), .int (nI lc), .int (nI smp), .int (ky), .ref (mr 0), .ref (mr 1), .ref (mr 2), .ref (mr 3), .ref (mr 4), .ref (mr 5), .ref (mr 6), .ref (mr 7), .ref (mr 8), .ref (mr 9), .int (nI (pMk P)), .int (nI (pRs P)), .ref (mr 10), .ref (mr 11), .ref (mr 12), .ref (mr 13), .ref (mr 14), .ref (mr 15), .ref (mr 16), .ref (mr 17), .ref (mr 18), .ref (mr 19), .ref (mr 20), .int (nI nse), .int (nI npa), .int (nI nbo), .ref (mr 21), .int (nI tn), .ref (mr 22), .int (nI ik), .int (j0), .int (j1), .ref (mr 23), .int (j2), .ref (mr 24), .ref (mr 25), .int (j3), .ref (mr 26), .int (j4), .ref (mr 27), .ref (mr 28), .ref (mr 29), .ref (mr 30)])), (mr 10, .inl (cy 1, 24, .inl (fun k => nI (lr9 k)))), (mr 3, .inl (cy 1, 5, .inl (fun k => nI (st9 k)))), (mr 6, .inl (cy 1, 24, .inl (fun k => nI (fn k)))), (mr 7, .inl (cy 1, 120, .inl (fun k => nI (fo k)))), (mr 8, .inl (cy 2, 120, .inr (.inl ex))), (mr 9, .inl (cy 2, 120, .inr (.inl wo)))]) rfl ?_
                          refine x_lcmp_eq C (tgt := 65) dX10_unlike_57 dX10_unlike_58 (by decide) (q := 61) rfl (a := (vlS ld (pSt P y.toInt.toNat) (pLr P q) y.toInt.toNat).toInt) (b := (vlS ld (pSt P y.toInt.toNat) (pLr P r) y.toInt.toNat).toInt) rfl rfl (fun h24 => ?_) (fun h24 => ?_)
                          · first
                            | (exfalso; omega)
                            |
                              refine x_iconst C dX10_unlike_65 (q := 66) rfl (v := nI 0) (by decide) ?_
                              refine x_istore C (L' := [(4, .int (nI 0)), (0, .ref mo), (1, .int (y)), (2, .int (nI cn)), (3, .int (nI r)), (5, .int (nI q))]) dX10_unlike_66 (q := 68) rfl (by decide) rfl ?_
                              refine x_iinc C (L' := [(5, .int (nI (q + 1))), (4, .int (nI 0)), (0, .ref mo), (1, .int (y)), (2, .int (nI cn)), (3, .int (nI r))]) dX10_unlike_68 (q := 71) rfl 5 rfl (v := nI (q + 1)) (nI_add q 1) (by decide) rfl ?_
                              refine x_goto C (tgt := 23) dX10_unlike_71 (by decide) ?_
                              refine x_L (L' := [(0, .ref mo), (1, .int (y)), (2, .int (nI cn)), (3, .int (nI r)), (4, .int (nI 0)), (5, .int (nI (q + 1)))]) [2, 3, 4, 5, 1, 0] rfl ?_
                              exact ih23 0 (q + 1) (by first | omega | assumption) (by first | omega | assumption) (by have hr1 := hww.mp (by omega); first | (rw [gaN_n (by assumption)]; exact ⟨fun _ => hr1, fun _ => rfl⟩) | (have e8 := gaF_at (ld := ld) (lr := pLr P) (ty := pSt P y.toInt.toNat) (c := y.toInt.toNat) (g := ga) (r := q) (by assumption) (m := pRs P) (by omega); have e7 := gaF_at (ld := ld) (lr := pLr P) (ty := pSt P y.toInt.toNat) (c := y.toInt.toNat) (g := ga) (r := r) hr1.1 (m := pRs P) (by omega); rw [gaN_y (by assumption)]; first | (rw [nwS_n (by rw [e8, e7]; assumption)]; exact ⟨fun _ => hr1, fun _ => rfl⟩) | (rw [nwS_y (by rw [e8, e7]; first | assumption | omega)]; exact ⟨fun z => absurd z (by decide), fun z => absurd z.2 (by decide)⟩))) (by omega)
                          · first
                            | (exfalso; omega)
                            |
                              refine x_iconst C dX10_unlike_61 (q := 62) rfl (v := nI 1) (by decide) ?_
                              refine x_goto C (tgt := 66) dX10_unlike_62 (by decide) ?_
                              refine x_istore C (L' := [(4, .int (nI 1)), (0, .ref mo), (1, .int (y)), (2, .int (nI cn)), (3, .int (nI r)), (5, .int (nI q))]) dX10_unlike_66 (q := 68) rfl (by decide) rfl ?_
                              refine x_iinc C (L' := [(5, .int (nI (q + 1))), (4, .int (nI 1)), (0, .ref mo), (1, .int (y)), (2, .int (nI cn)), (3, .int (nI r))]) dX10_unlike_68 (q := 71) rfl 5 rfl (v := nI (q + 1)) (nI_add q 1) (by decide) rfl ?_
                              refine x_goto C (tgt := 23) dX10_unlike_71 (by decide) ?_
                              refine x_L (L' := [(0, .ref mo), (1, .int (y)), (2, .int (nI cn)), (3, .int (nI r)), (4, .int (nI 1)), (5, .int (nI (q + 1)))]) [2, 3, 4, 5, 1, 0] rfl ?_
                              exact ih23 1 (q + 1) (by first | omega | assumption) (by first | omega | assumption) (by have hr1 := hww.mp (by omega); first | (rw [gaN_n (by assumption)]; exact ⟨fun _ => hr1, fun _ => rfl⟩) | (have e8 := gaF_at (ld := ld) (lr := pLr P) (ty := pSt P y.toInt.toNat) (c := y.toInt.toNat) (g := ga) (r := q) (by assumption) (m := pRs P) (by omega); have e7 := gaF_at (ld := ld) (lr := pLr P) (ty := pSt P y.toInt.toNat) (c := y.toInt.toNat) (g := ga) (r := r) hr1.1 (m := pRs P) (by omega); rw [gaN_y (by assumption)]; first | (rw [nwS_n (by rw [e8, e7]; assumption)]; exact ⟨fun _ => hr1, fun _ => rfl⟩) | (rw [nwS_y (by rw [e8, e7]; first | assumption | omega)]; exact ⟨fun z => absurd z (by decide), fun z => absurd z.2 (by decide)⟩))) (by omega)
                        · skip
                          obtain ⟨rfl, rfl, hc25⟩ := hp19
                          refine x_ws (ws' := [(mo, .inr (9, [.int (nI cols), .int (nI lc), .int (nI smp), .int (ky), .ref (mr 0), .ref (mr 1), .ref (mr 2), .ref (mr 3), .ref (mr 4), .ref (mr 5), .ref (mr 6), .ref (mr 7), .ref (mr 8), .ref (mr 9), .int (nI (pMk P)), .int (nI (pRs P)), .ref (mr 10), .ref (mr 11), .ref (mr 12), .ref (mr 13), .ref (mr 14), .ref (mr 15), .ref (mr 16), .ref (mr 17), .ref (mr 18), .ref (mr 19), .ref (mr 20), .int (nI nse), .int (nI npa), .int (nI nbo), .ref (mr 21), .int (nI tn), .ref (mr 22), .int (nI ik), .int (j0), .int (j1), .ref (mr 23), .int (j2), .ref (mr 24), .ref (mr 25), .int (j3), .ref (mr 26), .int (j4), .ref (mr 27), .ref (mr 28), .ref (mr 29), .ref (mr 30)])), (mr 10, .inl (cy 1, 24, .inl (fun k => nI (lr9 k)))), (mr 3, .inl (cy 1, 5, .inl (fun k => nI (st9 k)))), (mr 6, .inl (cy 1, 24, .inl (fun k => nI (fn k)))), (mr 7, .inl (cy 1, 120, .inl (fun k => nI (fo k)))), (mr 8, .inl (cy 2, 120, .inr (.inl ex))), (mr 9, .inl (cy 2, 120, .inr (.inl wo)))]) rfl ?_
                          refine x_if_eq C (tgt := 61) dX10_unlike_41 (by decide) (q := 44) rfl (a := 0) rfl (fun h26 => ?_) (fun h26 => (by omega : False).elim)
                          refine x_iconst C dX10_unlike_61 (q := 62) rfl (v := nI 1) (by decide) ?_
                          refine x_goto C (tgt := 66) dX10_unlike_62 (by decide) ?_
                          refine x_istore C (L' := [(4, .int (nI 1)), (0, .ref mo), (1, .int (y)), (2, .int (nI cn)), (3, .int (nI r)), (5, .int (nI q))]) dX10_unlike_66 (q := 68) rfl (by decide) rfl ?_
                          refine x_iinc C (L' := [(5, .int (nI (q + 1))), (4, .int (nI 1)), (0, .ref mo), (1, .int (y)), (2, .int (nI cn)), (3, .int (nI r))]) dX10_unlike_68 (q := 71) rfl 5 rfl (v := nI (q + 1)) (nI_add q 1) (by decide) rfl ?_
                          refine x_goto C (tgt := 23) dX10_unlike_71 (by decide) ?_
                          refine x_L (L' := [(0, .ref mo), (1, .int (y)), (2, .int (nI cn)), (3, .int (nI r)), (4, .int (nI 1)), (5, .int (nI (q + 1)))]) [2, 3, 4, 5, 1, 0] rfl ?_
                          exact ih23 1 (q + 1) (by first | omega | assumption) (by first | omega | assumption) (by have hr1 := hww.mp (by omega); first | (rw [gaN_n (by assumption)]; exact ⟨fun _ => hr1, fun _ => rfl⟩) | (have e8 := gaF_at (ld := ld) (lr := pLr P) (ty := pSt P y.toInt.toNat) (c := y.toInt.toNat) (g := ga) (r := q) (by assumption) (m := pRs P) (by omega); have e7 := gaF_at (ld := ld) (lr := pLr P) (ty := pSt P y.toInt.toNat) (c := y.toInt.toNat) (g := ga) (r := r) hr1.1 (m := pRs P) (by omega); rw [gaN_y (by assumption)]; first | (rw [nwS_n (by rw [e8, e7]; assumption)]; exact ⟨fun _ => hr1, fun _ => rfl⟩) | (rw [nwS_y (by rw [e8, e7]; first | assumption | omega)]; exact ⟨fun z => absurd z (by decide), fun z => absurd z.2 (by decide)⟩))) (by omega)
            refine x_L (L' := [(0, .ref mo), (1, .int (y)), (2, .int (nI cn)), (3, .int (nI r)), (4, .int (nI 0)), (5, .int (nI 0))]) [2, 3, 4, 5, 1, 0] rfl ?_
            exact cut23 (r - 0 + 1) 0 0 (by first | omega | assumption) (by first | omega | assumption) (by first | (refine ⟨fun _ => ⟨by assumption, rfl⟩, fun _ => rfl⟩) | (refine ⟨fun z => absurd z (by decide), fun z => absurd (by assumption) z.1⟩)) (by omega)
  refine x_L (L' := [(0, .ref mo), (1, .int (y)), (2, .int (nI 0)), (3, .int (nI 0))]) [2, 3, 1, 0] rfl ?_
  exact cut4 (pRs P - 0 + 1) 0 0 (by first | omega | assumption) (by rfl) (by omega)
