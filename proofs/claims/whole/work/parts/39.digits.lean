
def p10 : Nat → Nat
  | 0 => 1
  | k + 1 => p10 k * 10
theorem p10_pos : ∀ k, 1 ≤ p10 k
  | 0 => Nat.le_refl 1
  | k + 1 => by
    have := p10_pos k
    unfold p10
    omega
theorem p10_mono {a : Nat} : ∀ {b : Nat}, a ≤ b → p10 a ≤ p10 b
  | 0, h => by
    have : a = 0 := by omega
    rw [this]
    exact Nat.le_refl _
  | b + 1, h => by
    rcases Nat.lt_or_ge a (b + 1) with z | z
    · have h1 := p10_mono (a := a) (b := b) (by omega)
      have h2 : p10 (b + 1) = p10 b * 10 := rfl
      omega
    · have : a = b + 1 := by omega
      rw [this]
      exact Nat.le_refl _
theorem p10_le {k : Nat} (h : k ≤ 17) : p10 k ≤ 100000000000000000 := p10_mono (b := 17) h
theorem p10_s {d : Nat} (h : 1 ≤ d) : p10 (d - 1) * 10 = p10 (d + 1 - 1) := by
  have : d + 1 - 1 = (d - 1) + 1 := by omega
  rw [this]
  rfl
/-- the digits a number is written with, but one -/
def dgE (v wd : Nat) : Nat → Nat → Nat
  | 0, k => k
  | f + 1, k => if k + 1 < wd ∨ p10 k * 10 ≤ v then dgE v wd f (k + 1) else k
theorem dgE_le (v wd : Nat) : ∀ f k, dgE v wd f k ≤ k + f
  | 0, k => Nat.le_refl k
  | f + 1, k => by
    have := dgE_le v wd f (k + 1)
    unfold dgE
    split <;> omega
theorem dgE_lt {v wd m : Nat} (hv : v < p10 (m + 1)) (hw : wd ≤ m + 1) : ∀ f k, k ≤ m → dgE v wd f k ≤ m
  | 0, k, h => h
  | f + 1, k, h => by
    unfold dgE
    split
    · rename_i z
      refine dgE_lt hv hw f (k + 1) ?_
      rcases z with z | z
      · omega
      · rcases Nat.lt_or_ge k m with y | y
        · exact y
        · have : k = m := by omega
          subst this
          exact absurd hv (Nat.not_lt.mpr z)
    · exact h
theorem dgE_go {v wd d : Nat} (h1 : 1 ≤ d) (h2 : d < 18) (h : d < wd ∨ p10 (d - 1) * 10 ≤ v) : dgE v wd (18 - d) (d - 1) = dgE v wd (18 - (d + 1)) (d + 1 - 1) := by
  have e1 : 18 - d = (18 - (d + 1)) + 1 := by omega
  have e2 : d + 1 - 1 = d - 1 + 1 := by omega
  rw [e1, e2]
  show (if d - 1 + 1 < wd ∨ p10 (d - 1) * 10 ≤ v then _ else _) = _
  rw [if_pos (by omega)]
theorem dgE_stop {v wd d : Nat} (h : 18 ≤ d ∨ (¬ d < wd ∧ ¬ p10 (d - 1) * 10 ≤ v)) (h1 : 1 ≤ d) : dgE v wd (18 - d) (d - 1) = d - 1 := by
  rcases Nat.lt_or_ge d 18 with z | z
  · have e1 : 18 - d = (18 - (d + 1)) + 1 := by omega
    rw [e1]
    show (if d - 1 + 1 < wd ∨ p10 (d - 1) * 10 ≤ v then _ else _) = _
    rw [if_neg (by omega)]
  · have e1 : 18 - d = 0 := by omega
    rw [e1]
    rfl
/-- digits laid behind n signs -/
def dgF (v e : Nat) (tx : Nat → Nat) (n : Nat) : Nat → (Nat → Nat)
  | 0 => tx
  | j + 1 => va_up (dgF v e tx n j) (n + j) (48 + v / p10 (e - j) % 10)
theorem p10_dn {e j u : Nat} (h : (j ≤ e ∧ u = p10 (e - j)) ∨ (j = e + 1 ∧ u = 0)) (h0 : 0 < u) : (j + 1 ≤ e ∧ u / 10 = p10 (e - (j + 1))) ∨ (j + 1 = e + 1 ∧ u / 10 = 0) := by
  rcases h with ⟨h1, h2⟩ | ⟨_, h2⟩
  · rcases Nat.lt_or_ge j e with z | z
    · have e1 : e - j = (e - (j + 1)) + 1 := by omega
      rw [e1] at h2
      refine Or.inl ⟨z, ?_⟩
      rw [h2]
      exact Nat.mul_div_cancel _ (by decide)
    · have e1 : e - j = 0 := by omega
      rw [e1] at h2
      refine Or.inr ⟨by omega, ?_⟩
      rw [h2]
      rfl
  · omega
theorem p10_u {e j u : Nat} (h : (j ≤ e ∧ u = p10 (e - j)) ∨ (j = e + 1 ∧ u = 0)) (h0 : 0 < u) : u = p10 (e - j) := by
  rcases h with h | h
  · exact h.2
  · omega
theorem dgF_lt {v e : Nat} {tx : Nat → Nat} {n : Nat} (h : ∀ k, tx k < 128) : ∀ j k, dgF v e tx n j k < 128
  | 0, k => h k
  | j + 1, k => by
    unfold dgF va_up
    split
    · omega
    · exact dgF_lt h j k
theorem va_up_lt {tx : Nat → Nat} {n v : Nat} (h : ∀ k, tx k < 128) (hv : v < 128) : ∀ k, va_up tx n v k < 128 := fun k => by
  unfold va_up
  split
  · exact hv
  · exact h k
theorem xl_abs {x : Int64} (h : x.toInt.natAbs < 1000000000) : (if 0 < x then x else -x) = lN x.toInt.natAbs := by
  have h1 : (lN x.toInt.natAbs).toInt = (x.toInt.natAbs : Int) := pk_lT (by omega)
  refine Int64.toInt_inj.mp ?_
  rw [h1]
  split
  · rename_i z
    have := Int64.lt_iff_toInt_lt.mp z
    have h0 : (0 : Int64).toInt = 0 := rfl
    omega
  · rename_i z
    have z2 : ¬ (0 : Int64).toInt < x.toInt := fun q => z (Int64.lt_iff_toInt_lt.mpr q)
    have h0 : (0 : Int64).toInt = 0 := rfl
    rw [Int64.toInt_neg, Int.bmod_eq_of_le (by omega) (by omega)]
    omega

set_option maxHeartbeats 4000000 in
set_option maxRecDepth 100000 in
/-- digits -/
theorem c_X6_addDigits (l : Launch) (D : va_G) (cy : Nat → ClassId) (o : Nat) (b : Nat) (n : Nat) (cap : Nat) (tx : Nat → Nat) (v : Nat) (wd : Nat) (hroom : n + (dgE v wd 17 0 + 1) ≤ cap) (hcap : cap ≤ 60) (hv : v < 1000000000000000000) (hwd : wd < 100) : xMet l D cy xT yX6_addDigits wsX6_addDigits ({ frames := 2, cells := 0, slots := 0, locals := 200 } : Room) [.ref o, .long (lN v), .int (nI wd)] [(o, .inr (5, [.ref b, .int (nI n)])), (b, .inl (cy 0, cap, .inl (fun k => nI (tx k))))] [] (fun (v9 : Option Value) (w9 : va_W) => (v9 = none ∧ w9 = [(o, .inr (5, [.ref b, .int (nI (n + (dgE v wd 17 0 + 1)))])), (b, .inl (cy 0, cap, .inl (fun k => nI ((dgF v (dgE v wd 17 0) tx n (dgE v wd 17 0 + 1)) k))))])) := by
  refine xMet_of (cc := cX6_addDigits) (maxL := 7) (ret := none) (by decide) rfl (Nat.le_of_ble_eq_true rfl) (fun p e s m args below meth c A R Q hA hR hQ C hr hnm hro hX => ?_)
  have hw0 : Jvm.Cond.constantLong RX6 23 (10) ∈ wsX6_addDigits := by decide +kernel
  refine x_L (L' := [(0, .ref o), (1, .long (lN v)), (3, .int (nI wd))]) [0, 1, 2] rfl ?_
  refine x_lconst C dX6_addDigits_0 (q := 1) rfl (v := lN 1) rfl ?_
  refine x_lstore C (L' := [(4, .long (lN 1)), (0, .ref o), (1, .long (lN v)), (3, .int (nI wd))]) dX6_addDigits_1 (q := 3) rfl (by decide) rfl ?_
  have cut47 : ∀ (fuel : Nat) (j : Nat) (u : Nat) (n2 : Nat) (tx2 : Nat → Nat), (j ≤ dgE v wd 17 0 + 1) → ((j ≤ dgE v wd 17 0 ∧ u = p10 (dgE v wd 17 0 - j)) ∨ (j = dgE v wd 17 0 + 1 ∧ u = 0)) → (n2 = n + j) → (tx2 = dgF v (dgE v wd 17 0) tx n j) → (u ≤ 100000000000000000) → dgE v wd 17 0 + 1 - j < fuel → xG p l e R s m args below meth c Q D A 7 [(o, .inr (5, [.ref b, .int (nI n2)])), (b, .inl (cy 0, cap, .inl (fun k => nI (tx2 k))))] 0 0 47 [(0, .ref o), (1, .long (lN v)), (3, .int (nI wd)), (4, .long (lN u))] [] := by
    intro fuel
    induction fuel with
    | zero =>
      intro j u n2 tx2 hj hu hn2 htx2 hu9 hmu
      exact absurd hmu (Nat.not_lt_zero _)
    | succ fuel ih =>
      intro j u n2 tx2 hj hu hn2 htx2 hu9 hmu
      have hpos := p10_pos (dgE v wd 17 0 - j)
      have hdv := Nat.div_le_self v u
      have ih47 := ih
      clear ih
      refine x_lload C dX6_addDigits_47 (q := 49) rfl 3 rfl ?_
      refine x_lconst C dX6_addDigits_49 (q := 50) rfl (v := lN 0) rfl ?_
      refine x_lcmp_le C (tgt := 81) dX6_addDigits_50 dX6_addDigits_51 (by decide) (q := 54) rfl (a := ((u : Nat) : Int)) (b := 0) (pk_lT (by omega)) rfl (fun h1 => ?_) (fun h1 => ?_)
      · first
        | (exfalso; omega)
        |
          refine x_vret C hA hQ hr dX6_addDigits_81 (Nat.le_of_ble_eq_true rfl) ?_
          have e9 : j = dgE v wd 17 0 + 1 := by omega
          exact ⟨rfl, by rw [htx2, hn2, e9]⟩
      · first
        | (exfalso; omega)
        |
          refine x_aload_n C dX6_addDigits_54 (q := 55) rfl rfl 0 rfl ?_
          refine x_bipush C dX6_addDigits_55 (q := 57) rfl (v := nI 48) (by decide) ?_
          refine x_lload_n C dX6_addDigits_57 (q := 58) rfl rfl 1 rfl ?_
          refine x_lload C dX6_addDigits_58 (q := 60) rfl 3 rfl ?_
          refine x_ldiv C dX6_addDigits_60 (q := 61) rfl (xl_ne0 (b := ((u : Nat) : Int)) (pk_lT (by omega)) (by omega)) (z := lN (v / u)) (pk_lDiv (by omega) (by omega) (by omega)) ?_
          refine x_ldc2 C (v := lN 10) hw0 dX6_addDigits_61 (q := 64) rfl ?_
          refine x_lrem C dX6_addDigits_64 (q := 65) rfl (xl_ne0 (b := 10) rfl (by omega)) (z := lN ((v / u) % 10)) (pk_lRem (by omega) (by omega) (by omega)) ?_
          refine x_l2i C dX6_addDigits_65 (q := 66) rfl (v := nI ((v / u) % 10)) (lN_i ((v / u) % 10)) ?_
          refine x_iadd C dX6_addDigits_66 (q := 67) rfl (z := nI (48 + ((v / u) % 10))) (nI_add 48 ((v / u) % 10)) ?_
          refine x_callV C (roW := []) (roR := []) (c_X6_add l D cy o b n2 cap tx2 (48 + ((v / u) % 10)) (by first | assumption | omega | (simp only []; omega)) (by first | assumption | omega | (simp only []; omega)) (by first | assumption | omega | (simp only []; omega))) (cwV 1 C.2.2.2.2.1 gX6_addDigits_X6_add rfl rfl rfl (by decide +kernel) (by rw [hR]; exact ⟨Nat.le_of_ble_eq_true rfl, Nat.le_of_ble_eq_true rfl⟩)) [0, 1] [] rfl (by decide) rfl (by decide) xro_nil (List.mem_of_getElem? (i := 0) rfl) (ci := 5) rfl xT_bl (fun _ _ _ _ _ _ _ => trivial) rfl rfl dX6_addDigits_67 rfl rfl (Nat.le_of_ble_eq_true rfl) (q := 70) rfl (k' := 0) rfl (n' := 0) rfl (by rw [hR]; exact ⟨Nat.le_of_ble_eq_true rfl, Nat.le_of_ble_eq_true rfl⟩) (fun v2 w2 hp2 => ?_)
          obtain ⟨rfl, rfl⟩ := hp2
          refine x_ws (ws' := [(o, .inr (5, [.ref b, .int (nI (n2 + 1))])), (b, .inl (cy 0, cap, .inl (fun k => nI ((va_up tx2 n2 (48 + ((v / u) % 10))) k))))]) rfl ?_
          refine x_lload C dX6_addDigits_70 (q := 72) rfl 3 rfl ?_
          refine x_ldc2 C (v := lN 10) hw0 dX6_addDigits_72 (q := 75) rfl ?_
          refine x_ldiv C dX6_addDigits_75 (q := 76) rfl (xl_ne0 (b := 10) rfl (by omega)) (z := lN (u / 10)) (pk_lDiv (by omega) (by omega) (by omega)) ?_
          refine x_lstore C (L' := [(4, .long (lN (u / 10))), (0, .ref o), (1, .long (lN v)), (3, .int (nI wd))]) dX6_addDigits_76 (q := 78) rfl (by decide) rfl ?_
          refine x_goto C (tgt := 47) dX6_addDigits_78 (by decide) ?_
          refine x_L (L' := [(0, .ref o), (1, .long (lN v)), (3, .int (nI wd)), (4, .long (lN (u / 10)))]) [1, 2, 3, 0] rfl ?_
          exact ih47 (j + 1) (u / 10) (n2 + 1) (va_up tx2 n2 (48 + ((v / u) % 10))) (by first | omega | assumption) (by exact p10_dn hu (by omega)) (by first | omega | assumption) (by rw [htx2, hn2, p10_u hu (by omega)]; rfl) (by first | omega | assumption) (by omega)
  refine x_iconst C dX6_addDigits_3 (q := 4) rfl (v := nI 1) (by decide) ?_
  refine x_istore C (L' := [(6, .int (nI 1)), (4, .long (lN 1)), (0, .ref o), (1, .long (lN v)), (3, .int (nI wd))]) dX6_addDigits_4 (q := 6) rfl (by decide) rfl ?_
  have cut6 : ∀ (fuel : Nat) (d0 : Nat) (u : Nat), (1 ≤ d0) → (d0 ≤ 18) → (u = p10 (d0 - 1)) → (dgE v wd (18 - d0) (d0 - 1) = dgE v wd 17 0) → 18 - d0 < fuel → xG p l e R s m args below meth c Q D A 7 [(o, .inr (5, [.ref b, .int (nI n)])), (b, .inl (cy 0, cap, .inl (fun k => nI (tx k))))] 0 0 6 [(0, .ref o), (1, .long (lN v)), (3, .int (nI wd)), (4, .long (lN u)), (6, .int (nI d0))] [] := by
    intro fuel
    induction fuel with
    | zero =>
      intro d0 u h1 h2 hu hE hmu
      exact absurd hmu (Nat.not_lt_zero _)
    | succ fuel ih =>
      intro d0 u h1 h2 hu hE hmu
      have hu9 := p10_le (k := d0 - 1) (by omega)
      have ih6 := ih
      clear ih
      refine x_iload C dX6_addDigits_6 (q := 8) rfl 4 rfl ?_
      refine x_bipush C dX6_addDigits_8 (q := 10) rfl (v := nI 18) (by decide) ?_
      refine x_icmp_ge C (tgt := 47) dX6_addDigits_10 (by decide) (q := 13) rfl (a := ((d0 : Nat) : Int)) (b := 18) (nI_toInt (by omega)) rfl (fun h3 => ?_) (fun h3 => ?_)
      · first
        | (exfalso; omega)
        |
          refine x_L (L' := [(0, .ref o), (1, .long (lN v)), (3, .int (nI wd)), (4, .long (lN u))]) [0, 1, 2, 3] rfl ?_
          exact cut47 (dgE v wd 17 0 + 1 - 0 + 1) 0 u n tx (by first | omega | assumption) (by exact Or.inl ⟨Nat.zero_le _, by rw [Nat.sub_zero, ← hE, dgE_stop (by omega) (by omega)]; exact hu⟩) (by first | omega | assumption) (by rfl) (by first | omega | assumption) (by omega)
      · first
        | (exfalso; omega)
        |
          refine x_iload C dX6_addDigits_13 (q := 15) rfl 4 rfl ?_
          refine x_iload_n C dX6_addDigits_15 (q := 16) rfl rfl 2 rfl ?_
          refine x_icmp_lt C (tgt := 33) dX6_addDigits_16 (by decide) (q := 19) rfl (a := ((d0 : Nat) : Int)) (b := ((wd : Nat) : Int)) (nI_toInt (by omega)) (nI_toInt (by omega)) (fun h4 => ?_) (fun h4 => ?_)
          · first
            | (exfalso; omega)
            |
              refine x_lload C dX6_addDigits_33 (q := 35) rfl 3 rfl ?_
              refine x_ldc2 C (v := lN 10) hw0 dX6_addDigits_35 (q := 38) rfl ?_
              refine x_lmul C dX6_addDigits_38 (q := 39) rfl (z := lN (u * 10)) (lN_mul u 10) ?_
              refine x_lstore C (L' := [(4, .long (lN (u * 10))), (0, .ref o), (1, .long (lN v)), (3, .int (nI wd)), (6, .int (nI d0))]) dX6_addDigits_39 (q := 41) rfl (by decide) rfl ?_
              refine x_iinc C (L' := [(6, .int (nI (d0 + 1))), (4, .long (lN (u * 10))), (0, .ref o), (1, .long (lN v)), (3, .int (nI wd))]) dX6_addDigits_41 (q := 44) rfl 4 rfl (v := nI (d0 + 1)) (nI_add d0 1) (by decide) rfl ?_
              refine x_goto C (tgt := 6) dX6_addDigits_44 (by decide) ?_
              refine x_L (L' := [(0, .ref o), (1, .long (lN v)), (3, .int (nI wd)), (4, .long (lN (u * 10))), (6, .int (nI (d0 + 1)))]) [2, 3, 4, 1, 0] rfl ?_
              exact ih6 (d0 + 1) (u * 10) (by first | omega | assumption) (by first | omega | assumption) (by rw [hu]; exact p10_s (by omega)) (by rw [← hE]; exact (dgE_go (by omega) (by omega) (by omega)).symm) (by omega)
          · first
            | (exfalso; omega)
            |
              refine x_lload C dX6_addDigits_19 (q := 21) rfl 3 rfl ?_
              refine x_ldc2 C (v := lN 10) hw0 dX6_addDigits_21 (q := 24) rfl ?_
              refine x_lmul C dX6_addDigits_24 (q := 25) rfl (z := lN (u * 10)) (lN_mul u 10) ?_
              refine x_lload_n C dX6_addDigits_25 (q := 26) rfl rfl 1 rfl ?_
              refine x_lcmp_le C (tgt := 33) dX6_addDigits_26 dX6_addDigits_27 (by decide) (q := 30) rfl (a := ((u * 10 : Nat) : Int)) (b := ((v : Nat) : Int)) (pk_lT (by omega)) (pk_lT (by omega)) (fun h5 => ?_) (fun h5 => ?_)
              · first
                | (exfalso; omega)
                |
                  refine x_lload C dX6_addDigits_33 (q := 35) rfl 3 rfl ?_
                  refine x_ldc2 C (v := lN 10) hw0 dX6_addDigits_35 (q := 38) rfl ?_
                  refine x_lmul C dX6_addDigits_38 (q := 39) rfl (z := lN (u * 10)) (lN_mul u 10) ?_
                  refine x_lstore C (L' := [(4, .long (lN (u * 10))), (0, .ref o), (1, .long (lN v)), (3, .int (nI wd)), (6, .int (nI d0))]) dX6_addDigits_39 (q := 41) rfl (by decide) rfl ?_
                  refine x_iinc C (L' := [(6, .int (nI (d0 + 1))), (4, .long (lN (u * 10))), (0, .ref o), (1, .long (lN v)), (3, .int (nI wd))]) dX6_addDigits_41 (q := 44) rfl 4 rfl (v := nI (d0 + 1)) (nI_add d0 1) (by decide) rfl ?_
                  refine x_goto C (tgt := 6) dX6_addDigits_44 (by decide) ?_
                  refine x_L (L' := [(0, .ref o), (1, .long (lN v)), (3, .int (nI wd)), (4, .long (lN (u * 10))), (6, .int (nI (d0 + 1)))]) [2, 3, 4, 1, 0] rfl ?_
                  exact ih6 (d0 + 1) (u * 10) (by first | omega | assumption) (by first | omega | assumption) (by rw [hu]; exact p10_s (by omega)) (by rw [← hE]; exact (dgE_go (by omega) (by omega) (by omega)).symm) (by omega)
              · first
                | (exfalso; omega)
                |
                  refine x_goto C (tgt := 47) dX6_addDigits_30 (by decide) ?_
                  refine x_L (L' := [(0, .ref o), (1, .long (lN v)), (3, .int (nI wd)), (4, .long (lN u))]) [0, 1, 2, 3] rfl ?_
                  exact cut47 (dgE v wd 17 0 + 1 - 0 + 1) 0 u n tx (by first | omega | assumption) (by exact Or.inl ⟨Nat.zero_le _, by rw [Nat.sub_zero, ← hE, dgE_stop (by omega) (by omega)]; exact hu⟩) (by first | omega | assumption) (by rfl) (by first | omega | assumption) (by omega)
  refine x_L (L' := [(0, .ref o), (1, .long (lN v)), (3, .int (nI wd)), (4, .long (lN 1)), (6, .int (nI 1))]) [2, 3, 4, 1, 0] rfl ?_
  exact cut6 (18 - 1 + 1) 1 1 (by first | omega | assumption) (by first | omega | assumption) (by rfl) (by rfl) (by omega)
