
theorem xl_rem {x y : Int64} (hy : 0 < y.toInt) : (x - x / y * y).toInt = Int.tmod x.toInt y.toInt := by
  have h1 : (x / y).toInt = Int.tdiv x.toInt y.toInt := by
    have h0 : y ≠ -1 := fun h => by subst h; exact absurd hy (by decide)
    exact Int64.toInt_div_of_ne_right x y h0
  have h2 := Int.tmod_add_tdiv_mul x.toInt y.toInt
  have hx1 := x.toInt_lt
  have hx2 := x.le_toInt
  have h3 : Int.tdiv x.toInt y.toInt * y.toInt = x.toInt - Int.tmod x.toInt y.toInt := by omega
  have h4 : (x / y * y).toInt = x.toInt - Int.tmod x.toInt y.toInt := by
    rw [Int64.toInt_mul, h1, h3]
    refine Int.bmod_eq_of_le ?_ ?_
    · rcases Int.lt_or_le x.toInt 0 with z | z
      · have := Int.tmod_nonneg (a := -x.toInt) y.toInt (by omega)
        rw [Int.neg_tmod] at this
        omega
      · have := Int.tmod_nonneg y.toInt z
        have h5 := Int.tmod_lt_of_pos x.toInt hy
        have : Int.tmod x.toInt y.toInt ≤ x.toInt := by
          have h6 : 0 ≤ Int.tdiv x.toInt y.toInt * y.toInt := Int.mul_nonneg (Int.tdiv_nonneg z (Int.le_of_lt hy)) (Int.le_of_lt hy)
          omega
        omega
    · rcases Int.lt_or_le x.toInt 0 with z | z
      · have h6 : 0 ≤ Int.tdiv (-x.toInt) y.toInt * y.toInt := Int.mul_nonneg (Int.tdiv_nonneg (by omega) (Int.le_of_lt hy)) (Int.le_of_lt hy)
        rw [Int.neg_tdiv, Int.neg_mul] at h6
        omega
      · have := Int.tmod_nonneg y.toInt z
        omega
  rw [Int64.toInt_sub, h4]
  have e : x.toInt - (x.toInt - Int.tmod x.toInt y.toInt) = Int.tmod x.toInt y.toInt := by omega
  rw [e]
  have h5 := Int.tmod_lt_of_pos x.toInt hy
  have h6 := Int.lt_tmod_of_pos x.toInt hy
  have hy1 := y.toInt_lt
  exact Int.bmod_eq_of_le (by omega) (by omega)
theorem xl_dvd {a : Int} {c : Nat} (h : Int.tmod a (c : Int) = 0) : c ∣ a.natAbs := by
  have := Int.dvd_of_tmod_eq_zero h
  exact Int.ofNat_dvd_left.mp this
theorem xl_ndvd {a : Int} {c : Nat} (h : ¬ Int.tmod a (c : Int) = 0) : ¬ c ∣ a.natAbs := fun z => h (Int.tmod_eq_zero_of_dvd (Int.ofNat_dvd_left.mpr z))
/-- a step of the search for the greatest common part -/
theorem gcd_down {a b c : Nat} (h1 : Nat.gcd a b ≤ c) (h2 : ¬ (c ∣ a ∧ c ∣ b)) : Nat.gcd a b ≤ c - 1 := by
  rcases Nat.lt_or_ge (Nat.gcd a b) c with z | z
  · omega
  · have e : Nat.gcd a b = c := by omega
    exact absurd ⟨e ▸ Nat.gcd_dvd_left a b, e ▸ Nat.gcd_dvd_right a b⟩ h2
theorem gcd_stop {a b c : Nat} (hb : 0 < b) (h1 : Nat.gcd a b ≤ c) (h2 : c ∣ a ∧ c ∣ b) : Nat.gcd a b = c :=
  Nat.le_antisymm h1 (Nat.le_of_dvd (Nat.gcd_pos_of_pos_right a hb) (Nat.dvd_gcd h2.1 h2.2))
theorem gcd_one {a b c : Nat} (hb : 0 < b) (h1 : Nat.gcd a b ≤ c) (h2 : c ≤ 1) : Nat.gcd a b = c := by
  have := Nat.gcd_pos_of_pos_right a hb
  omega
theorem low_a {a : Int64} {b c : Nat} (h0 : 1 ≤ c) (h1 : c ≤ 1000) (hg : Nat.gcd a.toInt.natAbs b ≤ c) (h : ¬ (a - a / lN c * lN c).toInt = 0) : Nat.gcd a.toInt.natAbs b ≤ c - 1 := by
  have hc : (lN c).toInt = (c : Int) := pk_lT (by omega)
  rw [xl_rem (by omega), hc] at h
  exact gcd_down hg (fun z => xl_ndvd h z.1)
theorem low_b {a : Int64} {b c : Nat} (hg : Nat.gcd a.toInt.natAbs b ≤ c) (h : ¬ b % c = 0) : Nat.gcd a.toInt.natAbs b ≤ c - 1 :=
  gcd_down hg (fun z => h (Nat.mod_eq_zero_of_dvd z.2))
theorem low_s {a : Int64} {b c : Nat} (hb : 0 < b) (h0 : 1 ≤ c) (h1 : c ≤ 1000) (hg : Nat.gcd a.toInt.natAbs b ≤ c) (h : (a - a / lN c * lN c).toInt = 0) (h2 : b % c = 0) : Nat.gcd a.toInt.natAbs b = c := by
  have hc : (lN c).toInt = (c : Int) := pk_lT (by omega)
  rw [xl_rem (by omega), hc] at h
  exact gcd_stop hb hg ⟨xl_dvd h, Nat.dvd_of_mod_eq_zero h2⟩
/-- how many of the first are unlike all ahead of them -/
def nwS (g : Nat → Int64) (i : Nat) : Nat → Nat
  | 0 => 1
  | j + 1 => if (g j).toInt = (g i).toInt then 0 else nwS g i j
theorem nwS_le (g : Nat → Int64) (i : Nat) : ∀ j, nwS g i j ≤ 1
  | 0 => Nat.le_refl 1
  | j + 1 => by
    have := nwS_le g i j
    unfold nwS
    split <;> omega
def ukS (g : Nat → Int64) : Nat → Nat
  | 0 => 0
  | i + 1 => if nwS g i i = 0 then ukS g i else ukS g i + 1
theorem ukS_le (g : Nat → Int64) : ∀ i, ukS g i ≤ i
  | 0 => Nat.le_refl 0
  | i + 1 => by
    have := ukS_le g i
    unfold ukS
    split <;> omega
def smS (g : Nat → Int64) : Nat → Int64
  | 0 => lN 0
  | i + 1 => smS g i + g i
/-- lowest terms: the part above or below -/
def lowA (a : Int64) (b : Nat) (w : Int) : Int64 := if b = 0 ∨ (¬ w = 0 ∧ ¬ w = 1) then (-9223372036854775808) else if w = 0 then a / lN (Nat.gcd a.toInt.natAbs b) else lN (b / Nat.gcd a.toInt.natAbs b)
def oddA (P : PS) (w : Int) : Int64 := lowA (lN (pMk P - pRs P)) (pMk P) w
def meaA (ld : LD) (cols : Nat) (tl : Nat → Nat) (z : Nat) (P : PS) (ga : Nat → Int64) (x w : Int) : Int64 := if x < 0 ∨ cols ≤ x ∨ tyS (pSt P) tl ld x.toNat z = 4 then (-9223372036854775808) else lowA (smS (gaF ld (pLr P) (tyS (pSt P) tl ld x.toNat z) x.toNat ga (pRs P)) (gaN ld (pLr P) x.toNat (pRs P))) (gaN ld (pLr P) x.toNat (pRs P)) w
def feaA (ld : LD) (cols : Nat) (tl : Nat → Nat) (z : Nat) (P : PS) (ga : Nat → Int64) (x w : Int) : Int64 := if x < 0 ∨ cols ≤ x then (-9223372036854775808) else if w = 0 then lN (gaN ld (pLr P) x.toNat (pRs P)) else if w = 1 then (if gaN ld (pLr P) x.toNat (pRs P) = 0 then (-9223372036854775808) else leS (gaF ld (pLr P) (tyS (pSt P) tl ld x.toNat z) x.toNat ga (pRs P)) (gaN ld (pLr P) x.toNat (pRs P))) else if w = 2 then (if gaN ld (pLr P) x.toNat (pRs P) = 0 then (-9223372036854775808) else grS (gaF ld (pLr P) (tyS (pSt P) tl ld x.toNat z) x.toNat ga (pRs P)) (gaN ld (pLr P) x.toNat (pRs P))) else if w = 3 then lN (ukS (gaF ld (pLr P) (tyS (pSt P) tl ld x.toNat z) x.toNat ga (pRs P)) (gaN ld (pLr P) x.toNat (pRs P))) else if w = 4 then lN (pRs P - gaN ld (pLr P) x.toNat (pRs P)) else (-9223372036854775808)

set_option maxHeartbeats 4000000 in
set_option maxRecDepth 100000 in
/-- how many are unlike -/
theorem c_X9_unlikeGathered (l : Launch) (D : va_G) (cy : Nat → ClassId) (fi : Nat) (tO : Nat) (gO : Nat) (nO : Nat) (tb : Nat) (tb' : Nat) (trO : Nat) (gA : Nat) (tP : Nat) (kf : Nat) (ga : Nat → Int64) (cn : Nat) (hcn : cn ≤ 24) : xMet l D cy xT yX9_unlikeGathered wsX9_unlikeGathered ({ frames := 1, cells := 0, slots := 0, locals := 0 } : Room) [.ref fi, .int (nI cn)] [(fi, .inr (8, [.ref tO, .ref gO, .ref nO, .ref tb, .ref tb', .ref trO, .ref gA, .ref tP, .int (nI kf)])), (gA, .inl (cy 2, 24, .inr (.inl ga)))] [] (fun (v9 : Option Value) (w9 : va_W) => (v9 = some (.int (nI (ukS ga cn))) ∧ w9 = [(fi, .inr (8, [.ref tO, .ref gO, .ref nO, .ref tb, .ref tb', .ref trO, .ref gA, .ref tP, .int (nI kf)])), (gA, .inl (cy 2, 24, .inr (.inl ga)))])) := by
  refine xMet_of (cc := cX9_unlikeGathered) (maxL := 6) (ret := (some .int)) (by decide) rfl (Nat.le_of_ble_eq_true rfl) (fun p e s m args below meth c A R Q hA hR hQ C hr hnm hro hX => ?_)
  have hw0 : ∀ w ∈ u_ws RX9 TX9 9, w ∈ wsX9_unlikeGathered := by decide +kernel
  have hw1 : Cond.fieldLink RX9 47 (TX9 6).1 (TX9 6).2.1 (TX9 6).2.2.1 ∈ wsX9_unlikeGathered := by decide +kernel
  refine x_L (L' := [(0, .ref fi), (1, .int (nI cn))]) [0, 1] rfl ?_
  refine x_iconst C dX9_unlikeGathered_0 (q := 1) rfl (v := nI 0) (by decide) ?_
  refine x_istore_n C (L' := [(2, .int (nI 0)), (0, .ref fi), (1, .int (nI cn))]) dX9_unlikeGathered_1 (q := 2) rfl rfl (by decide) rfl ?_
  refine x_iconst C dX9_unlikeGathered_2 (q := 3) rfl (v := nI 0) (by decide) ?_
  refine x_istore_n C (L' := [(3, .int (nI 0)), (2, .int (nI 0)), (0, .ref fi), (1, .int (nI cn))]) dX9_unlikeGathered_3 (q := 4) rfl rfl (by decide) rfl ?_
  have cut4 : ∀ (fuel : Nat) (i : Nat) (v : Nat), (i ≤ cn) → (v = ukS ga i) → cn - i < fuel → xG p l e R s m args below meth c Q D A 6 [(fi, .inr (8, [.ref tO, .ref gO, .ref nO, .ref tb, .ref tb', .ref trO, .ref gA, .ref tP, .int (nI kf)])), (gA, .inl (cy 2, 24, .inr (.inl ga)))] 0 0 4 [(0, .ref fi), (1, .int (nI cn)), (2, .int (nI v)), (3, .int (nI i))] [] := by
    intro fuel
    induction fuel with
    | zero =>
      intro i v hi hv hmu
      exact absurd hmu (Nat.not_lt_zero _)
    | succ fuel ih =>
      intro i v hi hv hmu
      have hv9 := ukS_le ga i
      have ih4 := ih
      clear ih
      refine x_iload_n C dX9_unlikeGathered_4 (q := 5) rfl rfl 3 rfl ?_
      refine x_iload_n C dX9_unlikeGathered_5 (q := 6) rfl rfl 1 rfl ?_
      refine x_icmp_ge C (tgt := 70) dX9_unlikeGathered_6 (by decide) (q := 9) rfl (a := ((i : Nat) : Int)) (b := ((cn : Nat) : Int)) (nI_toInt (by omega)) (nI_toInt (by omega)) (fun h1 => ?_) (fun h1 => ?_)
      · first
        | (exfalso; omega)
        |
          refine x_iload_n C dX9_unlikeGathered_70 (q := 71) rfl rfl 2 rfl ?_
          refine x_iret C hA hQ hr dX9_unlikeGathered_71 (Nat.le_of_ble_eq_true rfl) ?_
          have e9 : i = cn := by omega
          refine ⟨?_, rfl⟩
          rw [hv, e9]
      · first
        | (exfalso; omega)
        |
          refine x_iload_n C dX9_unlikeGathered_9 (q := 10) rfl rfl 3 rfl ?_
          refine x_aload_n C dX9_unlikeGathered_10 (q := 11) rfl rfl 0 rfl ?_
          refine x_get C (ci := 8) (v := .ref gA) hw0 0 rfl rfl 6 (by decide) hw1 rfl dX9_unlikeGathered_11 (q := 14) rfl ?_
          refine x_alen C 1 2 rfl rfl (v := nI 24) rfl dX9_unlikeGathered_14 (q := 15) rfl ?_
          refine x_icmp_ge C (tgt := 70) dX9_unlikeGathered_15 (by decide) (q := 18) rfl (a := ((i : Nat) : Int)) (b := 24) (nI_toInt (by omega)) rfl (fun h2 => ?_) (fun h2 => ?_)
          · first
            | (exfalso; omega)
            |
              refine x_iload_n C dX9_unlikeGathered_70 (q := 71) rfl rfl 2 rfl ?_
              refine x_iret C hA hQ hr dX9_unlikeGathered_71 (Nat.le_of_ble_eq_true rfl) ?_
              have e9 : i = cn := by omega
              refine ⟨?_, rfl⟩
              rw [hv, e9]
          · first
            | (exfalso; omega)
            |
              refine x_iconst C dX9_unlikeGathered_18 (q := 19) rfl (v := nI 1) (by decide) ?_
              refine x_istore C (L' := [(4, .int (nI 1)), (0, .ref fi), (1, .int (nI cn)), (2, .int (nI v)), (3, .int (nI i))]) dX9_unlikeGathered_19 (q := 21) rfl (by decide) rfl ?_
              have cut56 : ∀ (w : Nat), (w = nwS ga i i) → xG p l e R s m args below meth c Q D A 6 [(fi, .inr (8, [.ref tO, .ref gO, .ref nO, .ref tb, .ref tb', .ref trO, .ref gA, .ref tP, .int (nI kf)])), (gA, .inl (cy 2, 24, .inr (.inl ga)))] 0 0 56 [(0, .ref fi), (1, .int (nI cn)), (2, .int (nI v)), (3, .int (nI i)), (4, .int (nI w))] [] := by
                intro w hw
                have hw9 := nwS_le ga i i
                refine x_iload C dX9_unlikeGathered_56 (q := 58) rfl 4 rfl ?_
                refine x_if_eq C (tgt := 64) dX9_unlikeGathered_58 (by decide) (q := 61) rfl (a := ((w : Nat) : Int)) (nI_toInt (by omega)) (fun h3 => ?_) (fun h3 => ?_)
                · first
                  | (exfalso; omega)
                  |
                    refine x_iinc C (L' := [(3, .int (nI (i + 1))), (0, .ref fi), (1, .int (nI cn)), (2, .int (nI v)), (4, .int (nI w))]) dX9_unlikeGathered_64 (q := 67) rfl 3 rfl (v := nI (i + 1)) (nI_add i 1) (by decide) rfl ?_
                    refine x_goto C (tgt := 4) dX9_unlikeGathered_67 (by decide) ?_
                    refine x_L (L' := [(0, .ref fi), (1, .int (nI cn)), (2, .int (nI v)), (3, .int (nI (i + 1)))]) [1, 2, 3, 0] rfl ?_
                    exact ih4 (i + 1) v (by first | omega | assumption) (by first | (unfold ukS; rw [if_pos (by omega)]; exact hv) | (unfold ukS; rw [if_neg (by omega), hv])) (by omega)
                · first
                  | (exfalso; omega)
                  |
                    refine x_iinc C (L' := [(2, .int (nI (v + 1))), (0, .ref fi), (1, .int (nI cn)), (3, .int (nI i)), (4, .int (nI w))]) dX9_unlikeGathered_61 (q := 64) rfl 2 rfl (v := nI (v + 1)) (nI_add v 1) (by decide) rfl ?_
                    refine x_iinc C (L' := [(3, .int (nI (i + 1))), (2, .int (nI (v + 1))), (0, .ref fi), (1, .int (nI cn)), (4, .int (nI w))]) dX9_unlikeGathered_64 (q := 67) rfl 3 rfl (v := nI (i + 1)) (nI_add i 1) (by decide) rfl ?_
                    refine x_goto C (tgt := 4) dX9_unlikeGathered_67 (by decide) ?_
                    refine x_L (L' := [(0, .ref fi), (1, .int (nI cn)), (2, .int (nI (v + 1))), (3, .int (nI (i + 1)))]) [2, 3, 1, 0] rfl ?_
                    exact ih4 (i + 1) (v + 1) (by first | omega | assumption) (by first | (unfold ukS; rw [if_pos (by omega)]; exact hv) | (unfold ukS; rw [if_neg (by omega), hv])) (by omega)
              refine x_iconst C dX9_unlikeGathered_21 (q := 22) rfl (v := nI 0) (by decide) ?_
              refine x_istore C (L' := [(5, .int (nI 0)), (4, .int (nI 1)), (0, .ref fi), (1, .int (nI cn)), (2, .int (nI v)), (3, .int (nI i))]) dX9_unlikeGathered_22 (q := 24) rfl (by decide) rfl ?_
              have cut24 : ∀ (fuel : Nat) (j : Nat) (w : Nat), (j ≤ i) → (w = nwS ga i j) → i - j < fuel → xG p l e R s m args below meth c Q D A 6 [(fi, .inr (8, [.ref tO, .ref gO, .ref nO, .ref tb, .ref tb', .ref trO, .ref gA, .ref tP, .int (nI kf)])), (gA, .inl (cy 2, 24, .inr (.inl ga)))] 0 0 24 [(0, .ref fi), (1, .int (nI cn)), (2, .int (nI v)), (3, .int (nI i)), (4, .int (nI w)), (5, .int (nI j))] [] := by
                intro fuel
                induction fuel with
                | zero =>
                  intro j w hj hw hmu
                  exact absurd hmu (Nat.not_lt_zero _)
                | succ fuel ih =>
                  intro j w hj hw hmu
                  have ih24 := ih
                  clear ih
                  refine x_iload C dX9_unlikeGathered_24 (q := 26) rfl 5 rfl ?_
                  refine x_iload_n C dX9_unlikeGathered_26 (q := 27) rfl rfl 3 rfl ?_
                  refine x_icmp_ge C (tgt := 56) dX9_unlikeGathered_27 (by decide) (q := 30) rfl (a := ((j : Nat) : Int)) (b := ((i : Nat) : Int)) (nI_toInt (by omega)) (nI_toInt (by omega)) (fun h4 => ?_) (fun h4 => ?_)
                  · first
                    | (exfalso; omega)
                    |
                      refine x_L (L' := [(0, .ref fi), (1, .int (nI cn)), (2, .int (nI v)), (3, .int (nI i)), (4, .int (nI w))]) [0, 1, 2, 3, 4] rfl ?_
                      exact cut56 w (by (have e8 : j = i := by omega); rw [hw, e8])
                  · first
                    | (exfalso; omega)
                    |
                      refine x_aload_n C dX9_unlikeGathered_30 (q := 31) rfl rfl 0 rfl ?_
                      refine x_get C (ci := 8) (v := .ref gA) hw0 0 rfl rfl 6 (by decide) hw1 rfl dX9_unlikeGathered_31 (q := 34) rfl ?_
                      refine x_iload C dX9_unlikeGathered_34 (q := 36) rfl 5 rfl ?_
                      refine x_lald C (j := j) (v := ga j) 1 rfl (nI_toInt (by omega)) (by omega) rfl dX9_unlikeGathered_36 (q := 37) rfl ?_
                      refine x_aload_n C dX9_unlikeGathered_37 (q := 38) rfl rfl 0 rfl ?_
                      refine x_get C (ci := 8) (v := .ref gA) hw0 0 rfl rfl 6 (by decide) hw1 rfl dX9_unlikeGathered_38 (q := 41) rfl ?_
                      refine x_iload_n C dX9_unlikeGathered_41 (q := 42) rfl rfl 3 rfl ?_
                      refine x_lald C (j := i) (v := ga i) 1 rfl (nI_toInt (by omega)) (by omega) rfl dX9_unlikeGathered_42 (q := 43) rfl ?_
                      refine x_lcmp_ne C (tgt := 50) dX9_unlikeGathered_43 dX9_unlikeGathered_44 (by decide) (q := 47) rfl (a := (ga j).toInt) (b := (ga i).toInt) rfl rfl (fun h5 => ?_) (fun h5 => ?_)
                      · first
                        | (exfalso; omega)
                        |
                          refine x_iinc C (L' := [(5, .int (nI (j + 1))), (0, .ref fi), (1, .int (nI cn)), (2, .int (nI v)), (3, .int (nI i)), (4, .int (nI w))]) dX9_unlikeGathered_50 (q := 53) rfl 5 rfl (v := nI (j + 1)) (nI_add j 1) (by decide) rfl ?_
                          refine x_goto C (tgt := 24) dX9_unlikeGathered_53 (by decide) ?_
                          refine x_L (L' := [(0, .ref fi), (1, .int (nI cn)), (2, .int (nI v)), (3, .int (nI i)), (4, .int (nI w)), (5, .int (nI (j + 1)))]) [1, 2, 3, 4, 5, 0] rfl ?_
                          exact ih24 (j + 1) w (by first | omega | assumption) (by first | (unfold nwS; rw [if_pos (by omega)]) | (unfold nwS; rw [if_neg (by omega), hw])) (by omega)
                      · first
                        | (exfalso; omega)
                        |
                          refine x_iconst C dX9_unlikeGathered_47 (q := 48) rfl (v := nI 0) (by decide) ?_
                          refine x_istore C (L' := [(4, .int (nI 0)), (0, .ref fi), (1, .int (nI cn)), (2, .int (nI v)), (3, .int (nI i)), (5, .int (nI j))]) dX9_unlikeGathered_48 (q := 50) rfl (by decide) rfl ?_
                          refine x_iinc C (L' := [(5, .int (nI (j + 1))), (4, .int (nI 0)), (0, .ref fi), (1, .int (nI cn)), (2, .int (nI v)), (3, .int (nI i))]) dX9_unlikeGathered_50 (q := 53) rfl 5 rfl (v := nI (j + 1)) (nI_add j 1) (by decide) rfl ?_
                          refine x_goto C (tgt := 24) dX9_unlikeGathered_53 (by decide) ?_
                          refine x_L (L' := [(0, .ref fi), (1, .int (nI cn)), (2, .int (nI v)), (3, .int (nI i)), (4, .int (nI 0)), (5, .int (nI (j + 1)))]) [2, 3, 4, 5, 1, 0] rfl ?_
                          exact ih24 (j + 1) 0 (by first | omega | assumption) (by first | (unfold nwS; rw [if_pos (by omega)]) | (unfold nwS; rw [if_neg (by omega), hw])) (by omega)
              refine x_L (L' := [(0, .ref fi), (1, .int (nI cn)), (2, .int (nI v)), (3, .int (nI i)), (4, .int (nI 1)), (5, .int (nI 0))]) [2, 3, 4, 5, 1, 0] rfl ?_
              exact cut24 (i - 0 + 1) 0 1 (by first | omega | assumption) (by rfl) (by omega)
  refine x_L (L' := [(0, .ref fi), (1, .int (nI cn)), (2, .int (nI 0)), (3, .int (nI 0))]) [2, 3, 1, 0] rfl ?_
  exact cut4 (cn - 0 + 1) 0 0 (by first | omega | assumption) (by rfl) (by omega)

set_option maxHeartbeats 4000000 in
set_option maxRecDepth 100000 in
/-- lowest terms -/
theorem c_X9_lowestTerms (l : Launch) (D : va_G) (cy : Nat → ClassId) (a : Int64) (b : Nat) (w : Int32) (hb : b ≤ 1000) : xMet l D cy xT yX9_lowestTerms wsX9_lowestTerms ({ frames := 1, cells := 0, slots := 0, locals := 0 } : Room) [.long (a), .int (nI b), .int (w)] [] [] (fun (v9 : Option Value) (w9 : va_W) => (v9 = some (.long (lowA a b w.toInt)) ∧ w9 = [])) := by
  refine xMet_of (cc := cX9_lowestTerms) (maxL := 5) (ret := (some .long)) (by decide) rfl (Nat.le_of_ble_eq_true rfl) (fun p e s m args below meth c A R Q hA hR hQ C hr hnm hro hX => ?_)
  have hw0 : Jvm.Cond.constantLong RX9 186 (-9223372036854775808) ∈ wsX9_lowestTerms := by decide +kernel
  refine x_L (L' := [(0, .long (a)), (2, .int (nI b)), (3, .int (w))]) [0, 1, 2] rfl ?_
  refine x_iload_n C dX9_lowestTerms_0 (q := 1) rfl rfl 1 rfl ?_
  refine x_if_le C (tgt := 13) dX9_lowestTerms_1 (by decide) (q := 4) rfl (a := ((b : Nat) : Int)) (nI_toInt (by omega)) (fun h1 => ?_) (fun h1 => ?_)
  · first
    | (exfalso; omega)
    |
      refine x_ldc2 C (v := (-9223372036854775808)) hw0 dX9_lowestTerms_13 (q := 16) rfl ?_
      refine x_lret C hA hQ hr dX9_lowestTerms_16 (Nat.le_of_ble_eq_true rfl) ?_
      refine ⟨?_, rfl⟩
      unfold lowA
      repeat (first | rw [if_pos (by omega)] | rw [if_neg (by omega)])
  · first
    | (exfalso; omega)
    |
      refine x_iload_n C dX9_lowestTerms_4 (q := 5) rfl rfl 2 rfl ?_
      refine x_if_eq C (tgt := 17) dX9_lowestTerms_5 (by decide) (q := 8) rfl (a := w.toInt) rfl (fun h2 => ?_) (fun h2 => ?_)
      · first
        | (exfalso; omega)
        |
          have cut49 : ∀ (cd : Nat), (1 ≤ cd) → (cd ≤ b) → (Nat.gcd a.toInt.natAbs b = cd) → xG p l e R s m args below meth c Q D A 5 [] 0 0 49 [(0, .long (a)), (2, .int (nI b)), (3, .int (w)), (4, .int (nI cd))] [] := by
            intro cd h0 h1 hg
            have hdiv := Nat.div_le_self b cd
            refine x_iload_n C dX9_lowestTerms_49 (q := 50) rfl rfl 2 rfl ?_
            refine x_if_ne C (tgt := 61) dX9_lowestTerms_50 (by decide) (q := 53) rfl (a := w.toInt) rfl (fun h3 => ?_) (fun h3 => ?_)
            · first
              | (exfalso; omega)
              |
                refine x_iload_n C dX9_lowestTerms_61 (q := 62) rfl rfl 1 rfl ?_
                refine x_iload C dX9_lowestTerms_62 (q := 64) rfl 3 rfl ?_
                refine x_idiv C dX9_lowestTerms_64 (q := 65) rfl (xi_ne0 (b := ((cd : Nat) : Int)) (nI_toInt (by omega)) (by omega)) (z := nI (b / cd)) (pk_div (by omega) (by omega) (by omega)) ?_
                refine x_i2l C dX9_lowestTerms_65 (q := 66) rfl (v := lN (b / cd)) (nI_l (by omega)) ?_
                refine x_lret C hA hQ hr dX9_lowestTerms_66 (Nat.le_of_ble_eq_true rfl) ?_
                refine ⟨?_, rfl⟩
                unfold lowA
                repeat (first | rw [if_pos (by omega)] | rw [if_neg (by omega)])
                rw [hg]
            · first
              | (exfalso; omega)
              |
                refine x_lload_n C dX9_lowestTerms_53 (q := 54) rfl rfl 0 rfl ?_
                refine x_iload C dX9_lowestTerms_54 (q := 56) rfl 3 rfl ?_
                refine x_i2l C dX9_lowestTerms_56 (q := 57) rfl (v := lN cd) (nI_l (by omega)) ?_
                refine x_ldiv C dX9_lowestTerms_57 (q := 58) rfl (xl_ne0 (b := ((cd : Nat) : Int)) (pk_lT (by omega)) (by omega)) (z := a / (lN cd)) (rfl) ?_
                refine x_goto C (tgt := 66) dX9_lowestTerms_58 (by decide) ?_
                refine x_lret C hA hQ hr dX9_lowestTerms_66 (Nat.le_of_ble_eq_true rfl) ?_
                refine ⟨?_, rfl⟩
                unfold lowA
                repeat (first | rw [if_pos (by omega)] | rw [if_neg (by omega)])
                rw [hg]
          refine x_iload_n C dX9_lowestTerms_17 (q := 18) rfl rfl 1 rfl ?_
          refine x_istore C (L' := [(4, .int (nI b)), (0, .long (a)), (2, .int (nI b)), (3, .int (w))]) dX9_lowestTerms_18 (q := 20) rfl (by decide) rfl ?_
          have cut20 : ∀ (fuel : Nat) (cd : Nat), (1 ≤ cd) → (cd ≤ b) → (Nat.gcd a.toInt.natAbs b ≤ cd) → cd < fuel → xG p l e R s m args below meth c Q D A 5 [] 0 0 20 [(0, .long (a)), (2, .int (nI b)), (3, .int (w)), (4, .int (nI cd))] [] := by
            intro fuel
            induction fuel with
            | zero =>
              intro cd h0 h1 hg hmu
              exact absurd hmu (Nat.not_lt_zero _)
            | succ fuel ih =>
              intro cd h0 h1 hg hmu
              have hmod := Nat.mod_le b cd
              have ih20 := ih
              clear ih
              refine x_iload C dX9_lowestTerms_20 (q := 22) rfl 3 rfl ?_
              refine x_iconst C dX9_lowestTerms_22 (q := 23) rfl (v := nI 1) (by decide) ?_
              refine x_icmp_le C (tgt := 49) dX9_lowestTerms_23 (by decide) (q := 26) rfl (a := ((cd : Nat) : Int)) (b := 1) (nI_toInt (by omega)) rfl (fun h4 => ?_) (fun h4 => ?_)
              · first
                | (exfalso; omega)
                |
                  exact cut49 cd (by first | omega | assumption) (by first | omega | assumption) (by first | exact gcd_one (by omega) hg (by omega) | exact low_s (by omega) (by omega) (by omega) hg (by assumption) (by omega))
              · first
                | (exfalso; omega)
                |
                  refine x_lload_n C dX9_lowestTerms_26 (q := 27) rfl rfl 0 rfl ?_
                  refine x_iload C dX9_lowestTerms_27 (q := 29) rfl 3 rfl ?_
                  refine x_i2l C dX9_lowestTerms_29 (q := 30) rfl (v := lN cd) (nI_l (by omega)) ?_
                  refine x_lrem C dX9_lowestTerms_30 (q := 31) rfl (xl_ne0 (b := ((cd : Nat) : Int)) (pk_lT (by omega)) (by omega)) (z := a - a / (lN cd) * (lN cd)) (rfl) ?_
                  refine x_lconst C dX9_lowestTerms_31 (q := 32) rfl (v := lN 0) rfl ?_
                  refine x_lcmp_ne C (tgt := 43) dX9_lowestTerms_32 dX9_lowestTerms_33 (by decide) (q := 36) rfl (a := (a - a / (lN cd) * (lN cd)).toInt) (b := 0) rfl rfl (fun h5 => ?_) (fun h5 => ?_)
                  · first
                    | (exfalso; omega)
                    |
                      refine x_iinc C (L' := [(4, .int (nI (cd - 1))), (0, .long (a)), (2, .int (nI b)), (3, .int (w))]) dX9_lowestTerms_43 (q := 46) rfl 3 rfl (v := nI (cd - 1)) (xi_sub cd 1 (by omega)) (by decide) rfl ?_
                      refine x_goto C (tgt := 20) dX9_lowestTerms_46 (by decide) ?_
                      refine x_L (L' := [(0, .long (a)), (2, .int (nI b)), (3, .int (w)), (4, .int (nI (cd - 1)))]) [1, 2, 3, 0] rfl ?_
                      exact ih20 (cd - 1) (by first | omega | assumption) (by first | omega | assumption) (by first | exact low_b hg (by omega) | exact low_a (by omega) (by omega) hg (by assumption)) (by omega)
                  · first
                    | (exfalso; omega)
                    |
                      refine x_iload_n C dX9_lowestTerms_36 (q := 37) rfl rfl 1 rfl ?_
                      refine x_iload C dX9_lowestTerms_37 (q := 39) rfl 3 rfl ?_
                      refine x_irem C dX9_lowestTerms_39 (q := 40) rfl (xi_ne0 (b := ((cd : Nat) : Int)) (nI_toInt (by omega)) (by omega)) (z := nI (b % cd)) (pk_rem (by omega) (by omega) (by omega)) ?_
                      refine x_if_eq C (tgt := 49) dX9_lowestTerms_40 (by decide) (q := 43) rfl (a := ((b % cd : Nat) : Int)) (nI_toInt (by omega)) (fun h6 => ?_) (fun h6 => ?_)
                      · first
                        | (exfalso; omega)
                        |
                          exact cut49 cd (by first | omega | assumption) (by first | omega | assumption) (by first | exact gcd_one (by omega) hg (by omega) | exact low_s (by omega) (by omega) (by omega) hg (by assumption) (by omega))
                      · first
                        | (exfalso; omega)
                        |
                          refine x_iinc C (L' := [(4, .int (nI (cd - 1))), (0, .long (a)), (2, .int (nI b)), (3, .int (w))]) dX9_lowestTerms_43 (q := 46) rfl 3 rfl (v := nI (cd - 1)) (xi_sub cd 1 (by omega)) (by decide) rfl ?_
                          refine x_goto C (tgt := 20) dX9_lowestTerms_46 (by decide) ?_
                          refine x_L (L' := [(0, .long (a)), (2, .int (nI b)), (3, .int (w)), (4, .int (nI (cd - 1)))]) [1, 2, 3, 0] rfl ?_
                          exact ih20 (cd - 1) (by first | omega | assumption) (by first | omega | assumption) (by first | exact low_b hg (by omega) | exact low_a (by omega) (by omega) hg (by assumption)) (by omega)
          refine x_L (L' := [(0, .long (a)), (2, .int (nI b)), (3, .int (w)), (4, .int (nI b))]) [1, 2, 3, 0] rfl ?_
          exact cut20 (b + 1) b (by first | omega | assumption) (by first | omega | assumption) (by exact Nat.le_of_dvd (by omega) (Nat.gcd_dvd_right _ _)) (by omega)
      · first
        | (exfalso; omega)
        |
          refine x_iload_n C dX9_lowestTerms_8 (q := 9) rfl rfl 2 rfl ?_
          refine x_iconst C dX9_lowestTerms_9 (q := 10) rfl (v := nI 1) (by decide) ?_
          refine x_icmp_eq C (tgt := 17) dX9_lowestTerms_10 (by decide) (q := 13) rfl (a := w.toInt) (b := 1) rfl rfl (fun h7 => ?_) (fun h7 => ?_)
          · first
            | (exfalso; omega)
            |
              have cut49 : ∀ (cd : Nat), (1 ≤ cd) → (cd ≤ b) → (Nat.gcd a.toInt.natAbs b = cd) → xG p l e R s m args below meth c Q D A 5 [] 0 0 49 [(0, .long (a)), (2, .int (nI b)), (3, .int (w)), (4, .int (nI cd))] [] := by
                intro cd h0 h1 hg
                have hdiv := Nat.div_le_self b cd
                refine x_iload_n C dX9_lowestTerms_49 (q := 50) rfl rfl 2 rfl ?_
                refine x_if_ne C (tgt := 61) dX9_lowestTerms_50 (by decide) (q := 53) rfl (a := w.toInt) rfl (fun h8 => ?_) (fun h8 => ?_)
                · first
                  | (exfalso; omega)
                  |
                    refine x_iload_n C dX9_lowestTerms_61 (q := 62) rfl rfl 1 rfl ?_
                    refine x_iload C dX9_lowestTerms_62 (q := 64) rfl 3 rfl ?_
                    refine x_idiv C dX9_lowestTerms_64 (q := 65) rfl (xi_ne0 (b := ((cd : Nat) : Int)) (nI_toInt (by omega)) (by omega)) (z := nI (b / cd)) (pk_div (by omega) (by omega) (by omega)) ?_
                    refine x_i2l C dX9_lowestTerms_65 (q := 66) rfl (v := lN (b / cd)) (nI_l (by omega)) ?_
                    refine x_lret C hA hQ hr dX9_lowestTerms_66 (Nat.le_of_ble_eq_true rfl) ?_
                    refine ⟨?_, rfl⟩
                    unfold lowA
                    repeat (first | rw [if_pos (by omega)] | rw [if_neg (by omega)])
                    rw [hg]
                · first
                  | (exfalso; omega)
                  |
                    refine x_lload_n C dX9_lowestTerms_53 (q := 54) rfl rfl 0 rfl ?_
                    refine x_iload C dX9_lowestTerms_54 (q := 56) rfl 3 rfl ?_
                    refine x_i2l C dX9_lowestTerms_56 (q := 57) rfl (v := lN cd) (nI_l (by omega)) ?_
                    refine x_ldiv C dX9_lowestTerms_57 (q := 58) rfl (xl_ne0 (b := ((cd : Nat) : Int)) (pk_lT (by omega)) (by omega)) (z := a / (lN cd)) (rfl) ?_
                    refine x_goto C (tgt := 66) dX9_lowestTerms_58 (by decide) ?_
                    refine x_lret C hA hQ hr dX9_lowestTerms_66 (Nat.le_of_ble_eq_true rfl) ?_
                    refine ⟨?_, rfl⟩
                    unfold lowA
                    repeat (first | rw [if_pos (by omega)] | rw [if_neg (by omega)])
                    rw [hg]
              refine x_iload_n C dX9_lowestTerms_17 (q := 18) rfl rfl 1 rfl ?_
              refine x_istore C (L' := [(4, .int (nI b)), (0, .long (a)), (2, .int (nI b)), (3, .int (w))]) dX9_lowestTerms_18 (q := 20) rfl (by decide) rfl ?_
              have cut20 : ∀ (fuel : Nat) (cd : Nat), (1 ≤ cd) → (cd ≤ b) → (Nat.gcd a.toInt.natAbs b ≤ cd) → cd < fuel → xG p l e R s m args below meth c Q D A 5 [] 0 0 20 [(0, .long (a)), (2, .int (nI b)), (3, .int (w)), (4, .int (nI cd))] [] := by
                intro fuel
                induction fuel with
                | zero =>
                  intro cd h0 h1 hg hmu
                  exact absurd hmu (Nat.not_lt_zero _)
                | succ fuel ih =>
                  intro cd h0 h1 hg hmu
                  have hmod := Nat.mod_le b cd
                  have ih20 := ih
                  clear ih
                  refine x_iload C dX9_lowestTerms_20 (q := 22) rfl 3 rfl ?_
                  refine x_iconst C dX9_lowestTerms_22 (q := 23) rfl (v := nI 1) (by decide) ?_
                  refine x_icmp_le C (tgt := 49) dX9_lowestTerms_23 (by decide) (q := 26) rfl (a := ((cd : Nat) : Int)) (b := 1) (nI_toInt (by omega)) rfl (fun h9 => ?_) (fun h9 => ?_)
                  · first
                    | (exfalso; omega)
                    |
                      exact cut49 cd (by first | omega | assumption) (by first | omega | assumption) (by first | exact gcd_one (by omega) hg (by omega) | exact low_s (by omega) (by omega) (by omega) hg (by assumption) (by omega))
                  · first
                    | (exfalso; omega)
                    |
                      refine x_lload_n C dX9_lowestTerms_26 (q := 27) rfl rfl 0 rfl ?_
                      refine x_iload C dX9_lowestTerms_27 (q := 29) rfl 3 rfl ?_
                      refine x_i2l C dX9_lowestTerms_29 (q := 30) rfl (v := lN cd) (nI_l (by omega)) ?_
                      refine x_lrem C dX9_lowestTerms_30 (q := 31) rfl (xl_ne0 (b := ((cd : Nat) : Int)) (pk_lT (by omega)) (by omega)) (z := a - a / (lN cd) * (lN cd)) (rfl) ?_
                      refine x_lconst C dX9_lowestTerms_31 (q := 32) rfl (v := lN 0) rfl ?_
                      refine x_lcmp_ne C (tgt := 43) dX9_lowestTerms_32 dX9_lowestTerms_33 (by decide) (q := 36) rfl (a := (a - a / (lN cd) * (lN cd)).toInt) (b := 0) rfl rfl (fun h10 => ?_) (fun h10 => ?_)
                      · first
                        | (exfalso; omega)
                        |
                          refine x_iinc C (L' := [(4, .int (nI (cd - 1))), (0, .long (a)), (2, .int (nI b)), (3, .int (w))]) dX9_lowestTerms_43 (q := 46) rfl 3 rfl (v := nI (cd - 1)) (xi_sub cd 1 (by omega)) (by decide) rfl ?_
                          refine x_goto C (tgt := 20) dX9_lowestTerms_46 (by decide) ?_
                          refine x_L (L' := [(0, .long (a)), (2, .int (nI b)), (3, .int (w)), (4, .int (nI (cd - 1)))]) [1, 2, 3, 0] rfl ?_
                          exact ih20 (cd - 1) (by first | omega | assumption) (by first | omega | assumption) (by first | exact low_b hg (by omega) | exact low_a (by omega) (by omega) hg (by assumption)) (by omega)
                      · first
                        | (exfalso; omega)
                        |
                          refine x_iload_n C dX9_lowestTerms_36 (q := 37) rfl rfl 1 rfl ?_
                          refine x_iload C dX9_lowestTerms_37 (q := 39) rfl 3 rfl ?_
                          refine x_irem C dX9_lowestTerms_39 (q := 40) rfl (xi_ne0 (b := ((cd : Nat) : Int)) (nI_toInt (by omega)) (by omega)) (z := nI (b % cd)) (pk_rem (by omega) (by omega) (by omega)) ?_
                          refine x_if_eq C (tgt := 49) dX9_lowestTerms_40 (by decide) (q := 43) rfl (a := ((b % cd : Nat) : Int)) (nI_toInt (by omega)) (fun h11 => ?_) (fun h11 => ?_)
                          · first
                            | (exfalso; omega)
                            |
                              exact cut49 cd (by first | omega | assumption) (by first | omega | assumption) (by first | exact gcd_one (by omega) hg (by omega) | exact low_s (by omega) (by omega) (by omega) hg (by assumption) (by omega))
                          · first
                            | (exfalso; omega)
                            |
                              refine x_iinc C (L' := [(4, .int (nI (cd - 1))), (0, .long (a)), (2, .int (nI b)), (3, .int (w))]) dX9_lowestTerms_43 (q := 46) rfl 3 rfl (v := nI (cd - 1)) (xi_sub cd 1 (by omega)) (by decide) rfl ?_
                              refine x_goto C (tgt := 20) dX9_lowestTerms_46 (by decide) ?_
                              refine x_L (L' := [(0, .long (a)), (2, .int (nI b)), (3, .int (w)), (4, .int (nI (cd - 1)))]) [1, 2, 3, 0] rfl ?_
                              exact ih20 (cd - 1) (by first | omega | assumption) (by first | omega | assumption) (by first | exact low_b hg (by omega) | exact low_a (by omega) (by omega) hg (by assumption)) (by omega)
              refine x_L (L' := [(0, .long (a)), (2, .int (nI b)), (3, .int (w)), (4, .int (nI b))]) [1, 2, 3, 0] rfl ?_
              exact cut20 (b + 1) b (by first | omega | assumption) (by first | omega | assumption) (by exact Nat.le_of_dvd (by omega) (Nat.gcd_dvd_right _ _)) (by omega)
          · first
            | (exfalso; omega)
            |
              refine x_ldc2 C (v := (-9223372036854775808)) hw0 dX9_lowestTerms_13 (q := 16) rfl ?_
              refine x_lret C hA hQ hr dX9_lowestTerms_16 (Nat.le_of_ble_eq_true rfl) ?_
              refine ⟨?_, rfl⟩
              unfold lowA
              repeat (first | rw [if_pos (by omega)] | rw [if_neg (by omega)])

set_option maxHeartbeats 4000000 in
set_option maxRecDepth 100000 in
/-- odds -/
theorem c_X9_odds (l : Launch) (D : va_G) (cy : Nat → ClassId) (fi : Nat) (tO : Nat) (gO : Nat) (nO : Nat) (tb : Nat) (tb' : Nat) (trO : Nat) (gA : Nat) (tP : Nat) (kf : Nat) (nz : Nat) (tl : Nat) (pg : Nat) (se : Nat) (pa : Nat) (bo : Nat) (li : Nat) (ba : Nat) (cols : Nat) (lc : Nat) (smp : Nat) (g0 : Nat) (g1 : Nat) (g2 : Nat) (g3 : Nat) (g4 : Nat) (g5 : Nat) (P : PS) (ky : Int32) (ld : LD) (pl : va_W) (w : Int32) (hcols : cols ≤ 5) (hlc : lc ≤ 24) (hP : InvP ld cols lc P) : xMet l D cy xT yX9_odds wsX9_odds ({ frames := 3, cells := 0, slots := 0, locals := 300 } : Room) [.ref fi, .int (w)] [(fi, .inr (8, [.ref tO, .ref gO, .ref nO, .ref tb, .ref tb', .ref trO, .ref gA, .ref tP, .int (nI kf)])), (tb, .inr (6, [.ref nz, .ref tl, .ref pg, .ref se, .ref pa, .ref bo, .ref li, .ref ba, .int (nI cols), .int (nI lc), .int (nI smp)])), (pg, .inr (4, [.ref g0, .ref g1, .ref g2, .ref g3, .ref g4, .ref g5, .int (nI (pMk P)), .int (nI (pRs P)), .int (ky)])), (g0, .inl (cy 1, 5, .inl (fun k => nI ((pSt P) k)))), (g1, .inl (cy 1, 24, .inl (pFa P))), (g2, .inl (cy 1, 24, .inl (pCa P))), (g3, .inl (cy 1, 24, .inl (pDc P))), (g4, .inl (cy 1, 24, .inl (pRl P))), (g5, .inl (cy 1, 24, .inl (fun k => nI ((pLr P) k))))] [] (fun (v9 : Option Value) (w9 : va_W) => (v9 = some (.long (oddA P w.toInt)) ∧ w9 = [(fi, .inr (8, [.ref tO, .ref gO, .ref nO, .ref tb, .ref tb', .ref trO, .ref gA, .ref tP, .int (nI kf)])), (tb, .inr (6, [.ref nz, .ref tl, .ref pg, .ref se, .ref pa, .ref bo, .ref li, .ref ba, .int (nI cols), .int (nI lc), .int (nI smp)])), (pg, .inr (4, [.ref g0, .ref g1, .ref g2, .ref g3, .ref g4, .ref g5, .int (nI (pMk P)), .int (nI (pRs P)), .int (ky)])), (g0, .inl (cy 1, 5, .inl (fun k => nI ((pSt P) k)))), (g1, .inl (cy 1, 24, .inl (pFa P))), (g2, .inl (cy 1, 24, .inl (pCa P))), (g3, .inl (cy 1, 24, .inl (pDc P))), (g4, .inl (cy 1, 24, .inl (pRl P))), (g5, .inl (cy 1, 24, .inl (fun k => nI ((pLr P) k))))])) := by
  refine xMet_of (cc := cX9_odds) (maxL := 2) (ret := (some .long)) (by decide) rfl (Nat.le_of_ble_eq_true rfl) (fun p e s m args below meth c A R Q hA hR hQ C hr hnm hro hX => ?_)
  have hw0 : ∀ w ∈ u_ws RX9 TX9 9, w ∈ wsX9_odds := by decide +kernel
  have hw1 : Cond.fieldLink RX9 33 (TX9 3).1 (TX9 3).2.1 (TX9 3).2.2.1 ∈ wsX9_odds := by decide +kernel
  have hw2 : ∀ w ∈ u_ws RX7 TX7 11, w ∈ wsX9_odds := by decide +kernel
  have hw3 : Cond.fieldLink RX9 109 (TX7 2).1 (TX7 2).2.1 (TX7 2).2.2.1 ∈ wsX9_odds := by decide +kernel
  have hw4 : ∀ w ∈ u_ws RX5 TX5 9, w ∈ wsX9_odds := by decide +kernel
  have hw5 : Cond.fieldLink RX9 112 (TX5 6).1 (TX5 6).2.1 (TX5 6).2.2.1 ∈ wsX9_odds := by decide +kernel
  refine x_L (L' := [(0, .ref fi), (1, .int (w))]) [0, 1] rfl ?_
  have hP1 := hP.1
  have hP2 := hP.2.1
  refine x_aload_n C dX9_odds_0 (q := 1) rfl rfl 0 rfl ?_
  refine x_get C (ci := 8) (v := .ref tb) hw0 0 rfl rfl 3 (by decide) hw1 rfl dX9_odds_1 (q := 4) rfl ?_
  refine x_get C (ci := 6) (v := .ref pg) hw2 1 rfl rfl 2 (by decide) hw3 rfl dX9_odds_4 (q := 7) rfl ?_
  refine x_callV C (roW := [(pg, .inr (4, [.ref g0, .ref g1, .ref g2, .ref g3, .ref g4, .ref g5, .int (nI (pMk P)), .int (nI (pRs P)), .int (ky)])), (g0, .inl (cy 1, 5, .inl (fun k => nI ((pSt P) k)))), (g1, .inl (cy 1, 24, .inl (pFa P))), (g2, .inl (cy 1, 24, .inl (pCa P))), (g3, .inl (cy 1, 24, .inl (pDc P))), (g4, .inl (cy 1, 24, .inl (pRl P))), (g5, .inl (cy 1, 24, .inl (fun k => nI ((pLr P) k))))]) (roR := []) (c_X5_faultyLines l D cy pg g0 g1 g2 g3 g4 g5 (pSt P) (pFa P) (pCa P) (pDc P) (pRl P) (pLr P) (pMk P) (pRs P) ky (by first | assumption | omega | (simp only []; omega)) (by first | assumption | omega | (simp only []; omega)) (by first | assumption | omega | (simp only []; omega))) (cwV 0 C.2.2.2.2.1 gX9_odds_X5_faultyLines rfl rfl rfl (by decide +kernel) (by rw [hR]; exact ⟨Nat.le_of_ble_eq_true rfl, Nat.le_of_ble_eq_true rfl⟩)) [] [2, 3, 4, 5, 6, 7, 8] rfl (by decide) rfl (by decide) xro_nil (List.mem_of_getElem? (i := 0) rfl) (ci := 4) rfl xT_bl (fun _ _ _ _ _ _ _ => trivial) rfl rfl dX9_odds_7 rfl rfl (Nat.le_of_ble_eq_true rfl) (q := 10) rfl (k' := 0) rfl (n' := 0) rfl (by rw [hR]; exact ⟨Nat.le_of_ble_eq_true rfl, Nat.le_of_ble_eq_true rfl⟩) (fun v1 w1 hp1 => ?_)
  obtain ⟨rfl, rfl⟩ := hp1
  refine x_ws (ws' := [(fi, .inr (8, [.ref tO, .ref gO, .ref nO, .ref tb, .ref tb', .ref trO, .ref gA, .ref tP, .int (nI kf)])), (tb, .inr (6, [.ref nz, .ref tl, .ref pg, .ref se, .ref pa, .ref bo, .ref li, .ref ba, .int (nI cols), .int (nI lc), .int (nI smp)])), (pg, .inr (4, [.ref g0, .ref g1, .ref g2, .ref g3, .ref g4, .ref g5, .int (nI (pMk P)), .int (nI (pRs P)), .int (ky)])), (g0, .inl (cy 1, 5, .inl (fun k => nI ((pSt P) k)))), (g1, .inl (cy 1, 24, .inl (pFa P))), (g2, .inl (cy 1, 24, .inl (pCa P))), (g3, .inl (cy 1, 24, .inl (pDc P))), (g4, .inl (cy 1, 24, .inl (pRl P))), (g5, .inl (cy 1, 24, .inl (fun k => nI ((pLr P) k))))]) (List.append_nil _) ?_
  refine x_i2l C dX9_odds_10 (q := 11) rfl (v := lN ((pMk P) - (pRs P))) (nI_l (by omega)) ?_
  refine x_aload_n C dX9_odds_11 (q := 12) rfl rfl 0 rfl ?_
  refine x_get C (ci := 8) (v := .ref tb) hw0 0 rfl rfl 3 (by decide) hw1 rfl dX9_odds_12 (q := 15) rfl ?_
  refine x_get C (ci := 6) (v := .ref pg) hw2 1 rfl rfl 2 (by decide) hw3 rfl dX9_odds_15 (q := 18) rfl ?_
  refine x_get C (ci := 4) (v := .int (nI (pMk P))) hw4 2 rfl rfl 6 (by decide) hw5 rfl dX9_odds_18 (q := 21) rfl ?_
  refine x_iload_n C dX9_odds_21 (q := 22) rfl rfl 1 rfl ?_
  refine x_callS C (roW := []) (roR := []) (c_X9_lowestTerms l D cy (lN ((pMk P) - (pRs P))) (pMk P) w (by first | assumption | omega | (simp only []; omega))) (cwS 3 C.2.2.2.2.1 gX9_odds_X9_lowestTerms rfl rfl rfl (by decide +kernel) (by rw [hR]; exact ⟨Nat.le_of_ble_eq_true rfl, Nat.le_of_ble_eq_true rfl⟩)) [] [] rfl (by decide) rfl (by decide) xro_nil xT_bl (fun _ _ _ _ _ _ _ => trivial) rfl rfl dX9_odds_22 rfl rfl (Nat.le_of_ble_eq_true rfl) (q := 25) rfl (k' := 0) rfl (n' := 0) rfl (by rw [hR]; exact ⟨Nat.le_of_ble_eq_true rfl, Nat.le_of_ble_eq_true rfl⟩) (fun v2 w2 hp2 => ?_)
  obtain ⟨rfl, rfl⟩ := hp2
  refine x_ws (ws' := [(fi, .inr (8, [.ref tO, .ref gO, .ref nO, .ref tb, .ref tb', .ref trO, .ref gA, .ref tP, .int (nI kf)])), (tb, .inr (6, [.ref nz, .ref tl, .ref pg, .ref se, .ref pa, .ref bo, .ref li, .ref ba, .int (nI cols), .int (nI lc), .int (nI smp)])), (pg, .inr (4, [.ref g0, .ref g1, .ref g2, .ref g3, .ref g4, .ref g5, .int (nI (pMk P)), .int (nI (pRs P)), .int (ky)])), (g0, .inl (cy 1, 5, .inl (fun k => nI ((pSt P) k)))), (g1, .inl (cy 1, 24, .inl (pFa P))), (g2, .inl (cy 1, 24, .inl (pCa P))), (g3, .inl (cy 1, 24, .inl (pDc P))), (g4, .inl (cy 1, 24, .inl (pRl P))), (g5, .inl (cy 1, 24, .inl (fun k => nI ((pLr P) k))))]) (List.append_nil _) ?_
  refine x_lret C hA hQ hr dX9_odds_25 (Nat.le_of_ble_eq_true rfl) ?_
  first | exact ⟨rfl, rfl⟩ | exact ⟨_, rfl, rfl, by first | rfl | omega | assumption⟩ | (refine ⟨_, rfl, rfl, ?_⟩; (first | rfl | omega | (simp only []; omega)))

set_option maxHeartbeats 4000000 in
set_option maxRecDepth 100000 in
/-- mean -/
theorem c_X9_mean (l : Launch) (D : va_G) (cy : Nat → ClassId) (fi : Nat) (tO : Nat) (gO : Nat) (nO : Nat) (tb : Nat) (tb' : Nat) (trO : Nat) (gA : Nat) (tP : Nat) (kf : Nat) (nz : Nat) (tl : Nat) (pg : Nat) (se : Nat) (pa : Nat) (bo : Nat) (li : Nat) (ba : Nat) (cols : Nat) (lc : Nat) (smp : Nat) (nzf : Nat → Nat) (tlf : Nat → Nat) (lnf : Nat → Option Nat) (bal : Nat → Nat) (g0 : Nat) (g1 : Nat) (g2 : Nat) (g3 : Nat) (g4 : Nat) (g5 : Nat) (P : PS) (ky : Int32) (ld : LD) (pl : va_W) (ga : Nat → Int64) (x : Int32) (w : Int32) (hcols : cols ≤ 5) (hlc : lc ≤ 24) (hTL : TbL cy pl lc lnf ld) (hfm : ∀ k i, dFm ld k i ≤ 4) (htl : ∀ k, tlf k ≤ 4) (hsmp : smp ≤ 24) (hst5 : ∀ k, pSt P k ≤ 4) (hP : InvP ld cols lc P) : xMet l D cy xT yX9_mean wsX9_mean ({ frames := 10, cells := 0, slots := 0, locals := 1100 } : Room) [.ref fi, .int (x), .int (w)] [(fi, .inr (8, [.ref tO, .ref gO, .ref nO, .ref tb, .ref tb', .ref trO, .ref gA, .ref tP, .int (nI kf)])), (tb, .inr (6, [.ref nz, .ref tl, .ref pg, .ref se, .ref pa, .ref bo, .ref li, .ref ba, .int (nI cols), .int (nI lc), .int (nI smp)])), (nz, .inl (cy 1, 5, .inl (fun k => nI (nzf k)))), (tl, .inl (cy 1, 5, .inl (fun k => nI (tlf k)))), (li, .inl (cy 4, 24, .inr (.inr (.inr (.inr lnf))))), (ba, .inl (cy 1, 5, .inl (fun k => nI (bal k)))), (pg, .inr (4, [.ref g0, .ref g1, .ref g2, .ref g3, .ref g4, .ref g5, .int (nI (pMk P)), .int (nI (pRs P)), .int (ky)])), (g0, .inl (cy 1, 5, .inl (fun k => nI ((pSt P) k)))), (g1, .inl (cy 1, 24, .inl (pFa P))), (g2, .inl (cy 1, 24, .inl (pCa P))), (g3, .inl (cy 1, 24, .inl (pDc P))), (g4, .inl (cy 1, 24, .inl (pRl P))), (g5, .inl (cy 1, 24, .inl (fun k => nI ((pLr P) k)))), (gA, .inl (cy 2, 24, .inr (.inl ga)))] pl (fun (v9 : Option Value) (w9 : va_W) => (∃ bx : Nat → Nat, ∃ gx : Nat → Int64, v9 = some (.long (meaA ld cols tlf (min smp lc) P ga x.toInt w.toInt)) ∧ w9 = [(fi, .inr (8, [.ref tO, .ref gO, .ref nO, .ref tb, .ref tb', .ref trO, .ref gA, .ref tP, .int (nI kf)])), (tb, .inr (6, [.ref nz, .ref tl, .ref pg, .ref se, .ref pa, .ref bo, .ref li, .ref ba, .int (nI cols), .int (nI lc), .int (nI smp)])), (nz, .inl (cy 1, 5, .inl (fun k => nI (nzf k)))), (tl, .inl (cy 1, 5, .inl (fun k => nI (tlf k)))), (li, .inl (cy 4, 24, .inr (.inr (.inr (.inr lnf))))), (ba, .inl (cy 1, 5, .inl (fun k => nI (bx k)))), (pg, .inr (4, [.ref g0, .ref g1, .ref g2, .ref g3, .ref g4, .ref g5, .int (nI (pMk P)), .int (nI (pRs P)), .int (ky)])), (g0, .inl (cy 1, 5, .inl (fun k => nI ((pSt P) k)))), (g1, .inl (cy 1, 24, .inl (pFa P))), (g2, .inl (cy 1, 24, .inl (pCa P))), (g3, .inl (cy 1, 24, .inl (pDc P))), (g4, .inl (cy 1, 24, .inl (pRl P))), (g5, .inl (cy 1, 24, .inl (fun k => nI ((pLr P) k)))), (gA, .inl (cy 2, 24, .inr (.inl gx)))])) := by
  refine xMet_of (cc := cX9_mean) (maxL := 7) (ret := (some .long)) (by decide) rfl (Nat.le_of_ble_eq_true rfl) (fun p e s m args below meth c A R Q hA hR hQ C hr hnm hro hX => ?_)
  have hw0 : ∀ w ∈ u_ws RX9 TX9 9, w ∈ wsX9_mean := by decide +kernel
  have hw1 : Cond.fieldLink RX9 33 (TX9 3).1 (TX9 3).2.1 (TX9 3).2.2.1 ∈ wsX9_mean := by decide +kernel
  have hw2 : Cond.fieldLink RX9 47 (TX9 6).1 (TX9 6).2.1 (TX9 6).2.2.1 ∈ wsX9_mean := by decide +kernel
  have hw3 : Jvm.Cond.constantLong RX9 186 (-9223372036854775808) ∈ wsX9_mean := by decide +kernel
  refine x_L (L' := [(0, .ref fi), (1, .int (x)), (2, .int (w))]) [0, 1, 2] rfl ?_
  have hpool : ∀ q ∈ pl, xRo D A s q := hro
  refine x_aload_n C dX9_mean_0 (q := 1) rfl rfl 0 rfl ?_
  refine x_get C (ci := 8) (v := .ref tb) hw0 0 rfl rfl 3 (by decide) hw1 rfl dX9_mean_1 (q := 4) rfl ?_
  refine x_iload_n C dX9_mean_4 (q := 5) rfl rfl 1 rfl ?_
  refine x_callV C (roW := [(tb, .inr (6, [.ref nz, .ref tl, .ref pg, .ref se, .ref pa, .ref bo, .ref li, .ref ba, .int (nI cols), .int (nI lc), .int (nI smp)]))]) (roR := []) (c_X7_hasColumn l D cy tb nz tl pg se pa bo li ba cols lc smp x (by first | assumption | omega | (simp only []; omega)) (by first | assumption | omega | (simp only []; omega))) (cwV 1 C.2.2.2.2.1 gX9_mean_X7_hasColumn rfl rfl rfl (by decide +kernel) (by rw [hR]; exact ⟨Nat.le_of_ble_eq_true rfl, Nat.le_of_ble_eq_true rfl⟩)) [] [1] rfl (by decide) rfl (by decide) xro_nil (List.mem_of_getElem? (i := 0) rfl) (ci := 6) rfl xT_bl (fun _ _ _ _ _ _ _ => trivial) rfl rfl dX9_mean_5 rfl rfl (Nat.le_of_ble_eq_true rfl) (q := 8) rfl (k' := 0) rfl (n' := 0) rfl (by rw [hR]; exact ⟨Nat.le_of_ble_eq_true rfl, Nat.le_of_ble_eq_true rfl⟩) (fun v1 w1 hp1 => ?_)
  rcases hp1 with hp1 | hp1
  · skip
    obtain ⟨rfl, rfl, hc2, hc3⟩ := hp1
    refine x_ws (ws' := [(fi, .inr (8, [.ref tO, .ref gO, .ref nO, .ref tb, .ref tb', .ref trO, .ref gA, .ref tP, .int (nI kf)])), (tb, .inr (6, [.ref nz, .ref tl, .ref pg, .ref se, .ref pa, .ref bo, .ref li, .ref ba, .int (nI cols), .int (nI lc), .int (nI smp)])), (nz, .inl (cy 1, 5, .inl (fun k => nI (nzf k)))), (tl, .inl (cy 1, 5, .inl (fun k => nI (tlf k)))), (li, .inl (cy 4, 24, .inr (.inr (.inr (.inr lnf))))), (ba, .inl (cy 1, 5, .inl (fun k => nI (bal k)))), (pg, .inr (4, [.ref g0, .ref g1, .ref g2, .ref g3, .ref g4, .ref g5, .int (nI (pMk P)), .int (nI (pRs P)), .int (ky)])), (g0, .inl (cy 1, 5, .inl (fun k => nI ((pSt P) k)))), (g1, .inl (cy 1, 24, .inl (pFa P))), (g2, .inl (cy 1, 24, .inl (pCa P))), (g3, .inl (cy 1, 24, .inl (pDc P))), (g4, .inl (cy 1, 24, .inl (pRl P))), (g5, .inl (cy 1, 24, .inl (fun k => nI ((pLr P) k)))), (gA, .inl (cy 2, 24, .inr (.inl ga)))]) (List.append_nil _) ?_
    refine x_if_eq C (tgt := 23) dX9_mean_8 (by decide) (q := 11) rfl (a := 1) rfl (fun h4 => (by omega : False).elim) (fun h4 => ?_)
    refine x_aload_n C dX9_mean_11 (q := 12) rfl rfl 0 rfl ?_
    refine x_get C (ci := 8) (v := .ref tb) hw0 0 rfl rfl 3 (by decide) hw1 rfl dX9_mean_12 (q := 15) rfl ?_
    refine x_iload_n C dX9_mean_15 (q := 16) rfl rfl 1 rfl ?_
    refine x_st (st' := [.int (nI x.toInt.toNat), .ref tb]) (congrArg (fun z9 => ([.int z9, .ref tb] : List Value)) (xi_nat (by omega))) ?_
    refine x_callV C (roW := []) (roR := pl) (c_X7_typeOf l D cy tb nz tl pg se pa bo li ba cols lc smp tlf lnf bal g0 g1 g2 g3 g4 g5 (pMk P) (pRs P) ky (pSt P) ld pl x.toInt.toNat (by first | assumption | omega | (simp only []; omega)) (by first | assumption | omega | (simp only []; omega)) (by assumption) (by assumption) (by assumption) (by first | assumption | omega | (simp only []; omega)) (by first | assumption | omega | (simp only []; omega)) (by assumption)) (cwV 1 C.2.2.2.2.1 gX9_mean_X7_typeOf rfl rfl rfl (by decide +kernel) (by rw [hR]; exact ⟨Nat.le_of_ble_eq_true rfl, Nat.le_of_ble_eq_true rfl⟩)) [1, 3, 4, 5, 6, 7] [] rfl (by decide) rfl (by decide) hpool (List.mem_of_getElem? (i := 0) rfl) (ci := 6) rfl xT_bl (fun _ _ _ _ _ _ _ => trivial) rfl rfl dX9_mean_16 rfl rfl (Nat.le_of_ble_eq_true rfl) (q := 19) rfl (k' := 0) rfl (n' := 0) rfl (by rw [hR]; exact ⟨Nat.le_of_ble_eq_true rfl, Nat.le_of_ble_eq_true rfl⟩) (fun v5 w5 hp5 => ?_)
    obtain ⟨b2_6, rfl, rfl⟩ := hp5
    refine x_ws (ws' := [(fi, .inr (8, [.ref tO, .ref gO, .ref nO, .ref tb, .ref tb', .ref trO, .ref gA, .ref tP, .int (nI kf)])), (tb, .inr (6, [.ref nz, .ref tl, .ref pg, .ref se, .ref pa, .ref bo, .ref li, .ref ba, .int (nI cols), .int (nI lc), .int (nI smp)])), (nz, .inl (cy 1, 5, .inl (fun k => nI (nzf k)))), (tl, .inl (cy 1, 5, .inl (fun k => nI (tlf k)))), (li, .inl (cy 4, 24, .inr (.inr (.inr (.inr lnf))))), (ba, .inl (cy 1, 5, .inl (fun k => nI (b2_6 k)))), (pg, .inr (4, [.ref g0, .ref g1, .ref g2, .ref g3, .ref g4, .ref g5, .int (nI (pMk P)), .int (nI (pRs P)), .int (ky)])), (g0, .inl (cy 1, 5, .inl (fun k => nI ((pSt P) k)))), (g1, .inl (cy 1, 24, .inl (pFa P))), (g2, .inl (cy 1, 24, .inl (pCa P))), (g3, .inl (cy 1, 24, .inl (pDc P))), (g4, .inl (cy 1, 24, .inl (pRl P))), (g5, .inl (cy 1, 24, .inl (fun k => nI ((pLr P) k)))), (gA, .inl (cy 2, 24, .inr (.inl ga)))]) rfl ?_
    have hty9 := tyS_le (ld := ld) (c := x.toInt.toNat) (z := min smp lc) hst5 htl
    refine x_iconst C dX9_mean_19 (q := 20) rfl (v := nI 4) (by decide) ?_
    refine x_icmp_ne C (tgt := 27) dX9_mean_20 (by decide) (q := 23) rfl (a := ((tyS (pSt P) tlf ld x.toInt.toNat (min smp lc) : Nat) : Int)) (b := 4) (nI_toInt (by omega)) rfl (fun h7 => ?_) (fun h7 => ?_)
    · first
      | (exfalso; omega)
      |
        refine x_aload_n C dX9_mean_27 (q := 28) rfl rfl 0 rfl ?_
        refine x_iload_n C dX9_mean_28 (q := 29) rfl rfl 1 rfl ?_
        refine x_callV C (roW := []) (roR := pl) (c_X9_gatherValues l D cy fi tO gO nO tb tb' trO gA tP kf nz tl pg se pa bo li ba cols lc smp nzf tlf lnf b2_6 g0 g1 g2 g3 g4 g5 P ky ld pl ga x (by first | assumption | omega | (simp only []; omega)) (by first | assumption | omega | (simp only []; omega)) (by assumption) (by assumption) (by assumption) (by first | assumption | omega | (simp only []; omega)) (by assumption) (by assumption) (by first | assumption | omega | (simp only []; omega)) (by first | assumption | omega | (simp only []; omega))) (cwV 1 C.2.2.2.2.1 gX9_mean_X9_gatherValues rfl rfl rfl (by decide +kernel) (by rw [hR]; exact ⟨Nat.le_of_ble_eq_true rfl, Nat.le_of_ble_eq_true rfl⟩)) [0, 1, 2, 3, 4, 5, 6, 7, 8, 9, 10, 11, 12, 13] [] rfl (by decide) rfl (by decide) hpool (List.mem_of_getElem? (i := 0) rfl) (ci := 8) rfl xT_bl (fun _ _ _ _ _ _ _ => trivial) rfl rfl dX9_mean_29 rfl rfl (Nat.le_of_ble_eq_true rfl) (q := 32) rfl (k' := 0) rfl (n' := 0) rfl (by rw [hR]; exact ⟨Nat.le_of_ble_eq_true rfl, Nat.le_of_ble_eq_true rfl⟩) (fun v8 w8 hp8 => ?_)
        obtain ⟨bx_9, rfl, rfl⟩ := hp8
        refine x_ws (ws' := [(fi, .inr (8, [.ref tO, .ref gO, .ref nO, .ref tb, .ref tb', .ref trO, .ref gA, .ref tP, .int (nI kf)])), (tb, .inr (6, [.ref nz, .ref tl, .ref pg, .ref se, .ref pa, .ref bo, .ref li, .ref ba, .int (nI cols), .int (nI lc), .int (nI smp)])), (nz, .inl (cy 1, 5, .inl (fun k => nI (nzf k)))), (tl, .inl (cy 1, 5, .inl (fun k => nI (tlf k)))), (li, .inl (cy 4, 24, .inr (.inr (.inr (.inr lnf))))), (ba, .inl (cy 1, 5, .inl (fun k => nI (bx_9 k)))), (pg, .inr (4, [.ref g0, .ref g1, .ref g2, .ref g3, .ref g4, .ref g5, .int (nI (pMk P)), .int (nI (pRs P)), .int (ky)])), (g0, .inl (cy 1, 5, .inl (fun k => nI ((pSt P) k)))), (g1, .inl (cy 1, 24, .inl (pFa P))), (g2, .inl (cy 1, 24, .inl (pCa P))), (g3, .inl (cy 1, 24, .inl (pDc P))), (g4, .inl (cy 1, 24, .inl (pRl P))), (g5, .inl (cy 1, 24, .inl (fun k => nI ((pLr P) k)))), (gA, .inl (cy 2, 24, .inr (.inl (gaF ld (pLr P) (tyS (pSt P) tlf ld x.toInt.toNat (min smp lc)) x.toInt.toNat ga (pRs P)))))]) (xput_eq2 [0, 1, 2, 3, 4, 5, 6, 7, 8, 9, 10, 11, 12, 13] [] 14 [] rfl rfl (by decide) rfl rfl rfl (by decide)) ?_
        have hga := gaN_le ld (pLr P) (x.toInt.toNat) (pRs P)
        have hP1 := hP.1
        have hP2 := hP.2.1
        refine x_istore_n C (L' := [(3, .int (nI (gaN ld (pLr P) x.toInt.toNat (pRs P)))), (0, .ref fi), (1, .int (x)), (2, .int (w))]) dX9_mean_32 (q := 33) rfl rfl (by decide) rfl ?_
        refine x_lconst C dX9_mean_33 (q := 34) rfl (v := lN 0) rfl ?_
        refine x_lstore C (L' := [(4, .long (lN 0)), (3, .int (nI (gaN ld (pLr P) x.toInt.toNat (pRs P)))), (0, .ref fi), (1, .int (x)), (2, .int (w))]) dX9_mean_34 (q := 36) rfl (by decide) rfl ?_
        refine x_iconst C dX9_mean_36 (q := 37) rfl (v := nI 0) (by decide) ?_
        refine x_istore C (L' := [(6, .int (nI 0)), (4, .long (lN 0)), (3, .int (nI (gaN ld (pLr P) x.toInt.toNat (pRs P)))), (0, .ref fi), (1, .int (x)), (2, .int (w))]) dX9_mean_37 (q := 39) rfl (by decide) rfl ?_
        have cut39 : ∀ (fuel : Nat) (i : Nat) (v : Int64), (i ≤ gaN ld (pLr P) x.toInt.toNat (pRs P)) → (v = smS (gaF ld (pLr P) (tyS (pSt P) tlf ld x.toInt.toNat (min smp lc)) x.toInt.toNat ga (pRs P)) i) → gaN ld (pLr P) x.toInt.toNat (pRs P) - i < fuel → xG p l e R s m args below meth c Q D A 7 [(fi, .inr (8, [.ref tO, .ref gO, .ref nO, .ref tb, .ref tb', .ref trO, .ref gA, .ref tP, .int (nI kf)])), (tb, .inr (6, [.ref nz, .ref tl, .ref pg, .ref se, .ref pa, .ref bo, .ref li, .ref ba, .int (nI cols), .int (nI lc), .int (nI smp)])), (nz, .inl (cy 1, 5, .inl (fun k => nI (nzf k)))), (tl, .inl (cy 1, 5, .inl (fun k => nI (tlf k)))), (li, .inl (cy 4, 24, .inr (.inr (.inr (.inr lnf))))), (ba, .inl (cy 1, 5, .inl (fun k => nI (bx_9 k)))), (pg, .inr (4, [.ref g0, .ref g1, .ref g2, .ref g3, .ref g4, .ref g5, .int (nI (pMk P)), .int (nI (pRs P)), .int (ky)])), (g0, .inl (cy 1, 5, .inl (fun k => nI ((pSt P) k)))), (g1, .inl (cy 1, 24, .inl (pFa P))), (g2, .inl (cy 1, 24, .inl (pCa P))), (g3, .inl (cy 1, 24, .inl (pDc P))), (g4, .inl (cy 1, 24, .inl (pRl P))), (g5, .inl (cy 1, 24, .inl (fun k => nI ((pLr P) k)))), (gA, .inl (cy 2, 24, .inr (.inl (gaF ld (pLr P) (tyS (pSt P) tlf ld x.toInt.toNat (min smp lc)) x.toInt.toNat ga (pRs P)))))] 0 0 39 [(0, .ref fi), (1, .int (x)), (2, .int (w)), (3, .int (nI (gaN ld (pLr P) x.toInt.toNat (pRs P)))), (4, .long (v)), (6, .int (nI i))] [] := by
          intro fuel
          induction fuel with
          | zero =>
            intro i v hi hv hmu
            exact absurd hmu (Nat.not_lt_zero _)
          | succ fuel ih =>
            intro i v hi hv hmu
            have ih39 := ih
            clear ih
            refine x_iload C dX9_mean_39 (q := 41) rfl 5 rfl ?_
            refine x_iload_n C dX9_mean_41 (q := 42) rfl rfl 3 rfl ?_
            refine x_icmp_ge C (tgt := 73) dX9_mean_42 (by decide) (q := 45) rfl (a := ((i : Nat) : Int)) (b := ((gaN ld (pLr P) x.toInt.toNat (pRs P) : Nat) : Int)) (nI_toInt (by omega)) (nI_toInt (by omega)) (fun h10 => ?_) (fun h10 => ?_)
            · first
              | (exfalso; omega)
              |
                refine x_lload C dX9_mean_73 (q := 75) rfl 4 rfl ?_
                refine x_iload_n C dX9_mean_75 (q := 76) rfl rfl 3 rfl ?_
                refine x_iload_n C dX9_mean_76 (q := 77) rfl rfl 2 rfl ?_
                refine x_callS C (roW := []) (roR := []) (c_X9_lowestTerms l D cy v (gaN ld (pLr P) x.toInt.toNat (pRs P)) w (by first | assumption | omega | (simp only []; omega))) (cwS 3 C.2.2.2.2.1 gX9_mean_X9_lowestTerms rfl rfl rfl (by decide +kernel) (by rw [hR]; exact ⟨Nat.le_of_ble_eq_true rfl, Nat.le_of_ble_eq_true rfl⟩)) [] [] rfl (by decide) rfl (by decide) xro_nil xT_bl (fun _ _ _ _ _ _ _ => trivial) rfl rfl dX9_mean_77 rfl rfl (Nat.le_of_ble_eq_true rfl) (q := 80) rfl (k' := 0) rfl (n' := 0) rfl (by rw [hR]; exact ⟨Nat.le_of_ble_eq_true rfl, Nat.le_of_ble_eq_true rfl⟩) (fun v11 w11 hp11 => ?_)
                obtain ⟨rfl, rfl⟩ := hp11
                refine x_ws (ws' := [(fi, .inr (8, [.ref tO, .ref gO, .ref nO, .ref tb, .ref tb', .ref trO, .ref gA, .ref tP, .int (nI kf)])), (tb, .inr (6, [.ref nz, .ref tl, .ref pg, .ref se, .ref pa, .ref bo, .ref li, .ref ba, .int (nI cols), .int (nI lc), .int (nI smp)])), (nz, .inl (cy 1, 5, .inl (fun k => nI (nzf k)))), (tl, .inl (cy 1, 5, .inl (fun k => nI (tlf k)))), (li, .inl (cy 4, 24, .inr (.inr (.inr (.inr lnf))))), (ba, .inl (cy 1, 5, .inl (fun k => nI (bx_9 k)))), (pg, .inr (4, [.ref g0, .ref g1, .ref g2, .ref g3, .ref g4, .ref g5, .int (nI (pMk P)), .int (nI (pRs P)), .int (ky)])), (g0, .inl (cy 1, 5, .inl (fun k => nI ((pSt P) k)))), (g1, .inl (cy 1, 24, .inl (pFa P))), (g2, .inl (cy 1, 24, .inl (pCa P))), (g3, .inl (cy 1, 24, .inl (pDc P))), (g4, .inl (cy 1, 24, .inl (pRl P))), (g5, .inl (cy 1, 24, .inl (fun k => nI ((pLr P) k)))), (gA, .inl (cy 2, 24, .inr (.inl (gaF ld (pLr P) (tyS (pSt P) tlf ld x.toInt.toNat (min smp lc)) x.toInt.toNat ga (pRs P)))))]) (List.append_nil _) ?_
                refine x_lret C hA hQ hr dX9_mean_80 (Nat.le_of_ble_eq_true rfl) ?_
                have e9 : i = gaN ld (pLr P) x.toInt.toNat (pRs P) := by omega
                refine ⟨_, _, ?_, rfl⟩
                unfold meaA
                repeat (first | rw [if_pos (by omega)] | rw [if_neg (by omega)])
                rw [hv, e9]
            · first
              | (exfalso; omega)
              |
                refine x_iload C dX9_mean_45 (q := 47) rfl 5 rfl ?_
                refine x_aload_n C dX9_mean_47 (q := 48) rfl rfl 0 rfl ?_
                refine x_get C (ci := 8) (v := .ref gA) hw0 0 rfl rfl 6 (by decide) hw2 rfl dX9_mean_48 (q := 51) rfl ?_
                refine x_alen C 13 2 rfl rfl (v := nI 24) rfl dX9_mean_51 (q := 52) rfl ?_
                refine x_icmp_ge C (tgt := 73) dX9_mean_52 (by decide) (q := 55) rfl (a := ((i : Nat) : Int)) (b := 24) (nI_toInt (by omega)) rfl (fun h12 => ?_) (fun h12 => ?_)
                · first
                  | (exfalso; omega)
                  |
                    refine x_lload C dX9_mean_73 (q := 75) rfl 4 rfl ?_
                    refine x_iload_n C dX9_mean_75 (q := 76) rfl rfl 3 rfl ?_
                    refine x_iload_n C dX9_mean_76 (q := 77) rfl rfl 2 rfl ?_
                    refine x_callS C (roW := []) (roR := []) (c_X9_lowestTerms l D cy v (gaN ld (pLr P) x.toInt.toNat (pRs P)) w (by first | assumption | omega | (simp only []; omega))) (cwS 3 C.2.2.2.2.1 gX9_mean_X9_lowestTerms rfl rfl rfl (by decide +kernel) (by rw [hR]; exact ⟨Nat.le_of_ble_eq_true rfl, Nat.le_of_ble_eq_true rfl⟩)) [] [] rfl (by decide) rfl (by decide) xro_nil xT_bl (fun _ _ _ _ _ _ _ => trivial) rfl rfl dX9_mean_77 rfl rfl (Nat.le_of_ble_eq_true rfl) (q := 80) rfl (k' := 0) rfl (n' := 0) rfl (by rw [hR]; exact ⟨Nat.le_of_ble_eq_true rfl, Nat.le_of_ble_eq_true rfl⟩) (fun v13 w13 hp13 => ?_)
                    obtain ⟨rfl, rfl⟩ := hp13
                    refine x_ws (ws' := [(fi, .inr (8, [.ref tO, .ref gO, .ref nO, .ref tb, .ref tb', .ref trO, .ref gA, .ref tP, .int (nI kf)])), (tb, .inr (6, [.ref nz, .ref tl, .ref pg, .ref se, .ref pa, .ref bo, .ref li, .ref ba, .int (nI cols), .int (nI lc), .int (nI smp)])), (nz, .inl (cy 1, 5, .inl (fun k => nI (nzf k)))), (tl, .inl (cy 1, 5, .inl (fun k => nI (tlf k)))), (li, .inl (cy 4, 24, .inr (.inr (.inr (.inr lnf))))), (ba, .inl (cy 1, 5, .inl (fun k => nI (bx_9 k)))), (pg, .inr (4, [.ref g0, .ref g1, .ref g2, .ref g3, .ref g4, .ref g5, .int (nI (pMk P)), .int (nI (pRs P)), .int (ky)])), (g0, .inl (cy 1, 5, .inl (fun k => nI ((pSt P) k)))), (g1, .inl (cy 1, 24, .inl (pFa P))), (g2, .inl (cy 1, 24, .inl (pCa P))), (g3, .inl (cy 1, 24, .inl (pDc P))), (g4, .inl (cy 1, 24, .inl (pRl P))), (g5, .inl (cy 1, 24, .inl (fun k => nI ((pLr P) k)))), (gA, .inl (cy 2, 24, .inr (.inl (gaF ld (pLr P) (tyS (pSt P) tlf ld x.toInt.toNat (min smp lc)) x.toInt.toNat ga (pRs P)))))]) (List.append_nil _) ?_
                    refine x_lret C hA hQ hr dX9_mean_80 (Nat.le_of_ble_eq_true rfl) ?_
                    have e9 : i = gaN ld (pLr P) x.toInt.toNat (pRs P) := by omega
                    refine ⟨_, _, ?_, rfl⟩
                    unfold meaA
                    repeat (first | rw [if_pos (by omega)] | rw [if_neg (by omega)])
                    rw [hv, e9]
                · first
                  | (exfalso; omega)
                  |
                    refine x_lload C dX9_mean_55 (q := 57) rfl 4 rfl ?_
                    refine x_aload_n C dX9_mean_57 (q := 58) rfl rfl 0 rfl ?_
                    refine x_get C (ci := 8) (v := .ref gA) hw0 0 rfl rfl 6 (by decide) hw2 rfl dX9_mean_58 (q := 61) rfl ?_
                    refine x_iload C dX9_mean_61 (q := 63) rfl 5 rfl ?_
                    refine x_lald C (j := i) (v := (gaF ld (pLr P) (tyS (pSt P) tlf ld x.toInt.toNat (min smp lc)) x.toInt.toNat ga (pRs P)) i) 13 rfl (nI_toInt (by omega)) (by omega) rfl dX9_mean_63 (q := 64) rfl ?_
                    refine x_ladd C dX9_mean_64 (q := 65) rfl (z := v + ((gaF ld (pLr P) (tyS (pSt P) tlf ld x.toInt.toNat (min smp lc)) x.toInt.toNat ga (pRs P)) i)) (rfl) ?_
                    refine x_lstore C (L' := [(4, .long (v + ((gaF ld (pLr P) (tyS (pSt P) tlf ld x.toInt.toNat (min smp lc)) x.toInt.toNat ga (pRs P)) i))), (0, .ref fi), (1, .int (x)), (2, .int (w)), (3, .int (nI (gaN ld (pLr P) x.toInt.toNat (pRs P)))), (6, .int (nI i))]) dX9_mean_65 (q := 67) rfl (by decide) rfl ?_
                    refine x_iinc C (L' := [(6, .int (nI (i + 1))), (4, .long (v + ((gaF ld (pLr P) (tyS (pSt P) tlf ld x.toInt.toNat (min smp lc)) x.toInt.toNat ga (pRs P)) i))), (0, .ref fi), (1, .int (x)), (2, .int (w)), (3, .int (nI (gaN ld (pLr P) x.toInt.toNat (pRs P))))]) dX9_mean_67 (q := 70) rfl 5 rfl (v := nI (i + 1)) (nI_add i 1) (by decide) rfl ?_
                    refine x_goto C (tgt := 39) dX9_mean_70 (by decide) ?_
                    refine x_L (L' := [(0, .ref fi), (1, .int (x)), (2, .int (w)), (3, .int (nI (gaN ld (pLr P) x.toInt.toNat (pRs P)))), (4, .long (v + ((gaF ld (pLr P) (tyS (pSt P) tlf ld x.toInt.toNat (min smp lc)) x.toInt.toNat ga (pRs P)) i))), (6, .int (nI (i + 1)))]) [2, 3, 4, 5, 1, 0] rfl ?_
                    exact ih39 (i + 1) (v + ((gaF ld (pLr P) (tyS (pSt P) tlf ld x.toInt.toNat (min smp lc)) x.toInt.toNat ga (pRs P)) i)) (by first | omega | assumption) (by rw [hv]; rfl) (by omega)
        refine x_L (L' := [(0, .ref fi), (1, .int (x)), (2, .int (w)), (3, .int (nI (gaN ld (pLr P) x.toInt.toNat (pRs P)))), (4, .long (lN 0)), (6, .int (nI 0))]) [3, 4, 5, 2, 1, 0] rfl ?_
        exact cut39 (gaN ld (pLr P) x.toInt.toNat (pRs P) - 0 + 1) 0 (lN 0) (by first | omega | assumption) (by rfl) (by omega)
    · first
      | (exfalso; omega)
      |
        refine x_ldc2 C (v := (-9223372036854775808)) hw3 dX9_mean_23 (q := 26) rfl ?_
        refine x_lret C hA hQ hr dX9_mean_26 (Nat.le_of_ble_eq_true rfl) ?_
        refine ⟨_, _, ?_, rfl⟩
        unfold meaA
        repeat (first | rw [if_pos (by omega)] | rw [if_neg (by omega)])
  · skip
    obtain ⟨rfl, rfl, hc14⟩ := hp1
    refine x_ws (ws' := [(fi, .inr (8, [.ref tO, .ref gO, .ref nO, .ref tb, .ref tb', .ref trO, .ref gA, .ref tP, .int (nI kf)])), (tb, .inr (6, [.ref nz, .ref tl, .ref pg, .ref se, .ref pa, .ref bo, .ref li, .ref ba, .int (nI cols), .int (nI lc), .int (nI smp)])), (nz, .inl (cy 1, 5, .inl (fun k => nI (nzf k)))), (tl, .inl (cy 1, 5, .inl (fun k => nI (tlf k)))), (li, .inl (cy 4, 24, .inr (.inr (.inr (.inr lnf))))), (ba, .inl (cy 1, 5, .inl (fun k => nI (bal k)))), (pg, .inr (4, [.ref g0, .ref g1, .ref g2, .ref g3, .ref g4, .ref g5, .int (nI (pMk P)), .int (nI (pRs P)), .int (ky)])), (g0, .inl (cy 1, 5, .inl (fun k => nI ((pSt P) k)))), (g1, .inl (cy 1, 24, .inl (pFa P))), (g2, .inl (cy 1, 24, .inl (pCa P))), (g3, .inl (cy 1, 24, .inl (pDc P))), (g4, .inl (cy 1, 24, .inl (pRl P))), (g5, .inl (cy 1, 24, .inl (fun k => nI ((pLr P) k)))), (gA, .inl (cy 2, 24, .inr (.inl ga)))]) (List.append_nil _) ?_
    refine x_if_eq C (tgt := 23) dX9_mean_8 (by decide) (q := 11) rfl (a := 0) rfl (fun h15 => ?_) (fun h15 => (by omega : False).elim)
    refine x_ldc2 C (v := (-9223372036854775808)) hw3 dX9_mean_23 (q := 26) rfl ?_
    refine x_lret C hA hQ hr dX9_mean_26 (Nat.le_of_ble_eq_true rfl) ?_
    refine ⟨_, _, ?_, rfl⟩
    unfold meaA
    repeat (first | rw [if_pos (by omega)] | rw [if_neg (by omega)])

set_option maxHeartbeats 4000000 in
set_option maxRecDepth 100000 in
/-- feature -/
theorem c_X9_feature (l : Launch) (D : va_G) (cy : Nat → ClassId) (fi : Nat) (tO : Nat) (gO : Nat) (nO : Nat) (tb : Nat) (tb' : Nat) (trO : Nat) (gA : Nat) (tP : Nat) (kf : Nat) (nz : Nat) (tl : Nat) (pg : Nat) (se : Nat) (pa : Nat) (bo : Nat) (li : Nat) (ba : Nat) (cols : Nat) (lc : Nat) (smp : Nat) (nzf : Nat → Nat) (tlf : Nat → Nat) (lnf : Nat → Option Nat) (bal : Nat → Nat) (g0 : Nat) (g1 : Nat) (g2 : Nat) (g3 : Nat) (g4 : Nat) (g5 : Nat) (P : PS) (ky : Int32) (ld : LD) (pl : va_W) (ga : Nat → Int64) (x : Int32) (w : Int32) (hcols : cols ≤ 5) (hlc : lc ≤ 24) (hTL : TbL cy pl lc lnf ld) (hfm : ∀ k i, dFm ld k i ≤ 4) (htl : ∀ k, tlf k ≤ 4) (hsmp : smp ≤ 24) (hst5 : ∀ k, pSt P k ≤ 4) (hP : InvP ld cols lc P) : xMet l D cy xT yX9_feature wsX9_feature ({ frames := 10, cells := 0, slots := 0, locals := 1100 } : Room) [.ref fi, .int (x), .int (w)] [(fi, .inr (8, [.ref tO, .ref gO, .ref nO, .ref tb, .ref tb', .ref trO, .ref gA, .ref tP, .int (nI kf)])), (tb, .inr (6, [.ref nz, .ref tl, .ref pg, .ref se, .ref pa, .ref bo, .ref li, .ref ba, .int (nI cols), .int (nI lc), .int (nI smp)])), (nz, .inl (cy 1, 5, .inl (fun k => nI (nzf k)))), (tl, .inl (cy 1, 5, .inl (fun k => nI (tlf k)))), (li, .inl (cy 4, 24, .inr (.inr (.inr (.inr lnf))))), (ba, .inl (cy 1, 5, .inl (fun k => nI (bal k)))), (pg, .inr (4, [.ref g0, .ref g1, .ref g2, .ref g3, .ref g4, .ref g5, .int (nI (pMk P)), .int (nI (pRs P)), .int (ky)])), (g0, .inl (cy 1, 5, .inl (fun k => nI ((pSt P) k)))), (g1, .inl (cy 1, 24, .inl (pFa P))), (g2, .inl (cy 1, 24, .inl (pCa P))), (g3, .inl (cy 1, 24, .inl (pDc P))), (g4, .inl (cy 1, 24, .inl (pRl P))), (g5, .inl (cy 1, 24, .inl (fun k => nI ((pLr P) k)))), (gA, .inl (cy 2, 24, .inr (.inl ga)))] pl (fun (v9 : Option Value) (w9 : va_W) => (∃ bx : Nat → Nat, ∃ gx : Nat → Int64, v9 = some (.long (feaA ld cols tlf (min smp lc) P ga x.toInt w.toInt)) ∧ w9 = [(fi, .inr (8, [.ref tO, .ref gO, .ref nO, .ref tb, .ref tb', .ref trO, .ref gA, .ref tP, .int (nI kf)])), (tb, .inr (6, [.ref nz, .ref tl, .ref pg, .ref se, .ref pa, .ref bo, .ref li, .ref ba, .int (nI cols), .int (nI lc), .int (nI smp)])), (nz, .inl (cy 1, 5, .inl (fun k => nI (nzf k)))), (tl, .inl (cy 1, 5, .inl (fun k => nI (tlf k)))), (li, .inl (cy 4, 24, .inr (.inr (.inr (.inr lnf))))), (ba, .inl (cy 1, 5, .inl (fun k => nI (bx k)))), (pg, .inr (4, [.ref g0, .ref g1, .ref g2, .ref g3, .ref g4, .ref g5, .int (nI (pMk P)), .int (nI (pRs P)), .int (ky)])), (g0, .inl (cy 1, 5, .inl (fun k => nI ((pSt P) k)))), (g1, .inl (cy 1, 24, .inl (pFa P))), (g2, .inl (cy 1, 24, .inl (pCa P))), (g3, .inl (cy 1, 24, .inl (pDc P))), (g4, .inl (cy 1, 24, .inl (pRl P))), (g5, .inl (cy 1, 24, .inl (fun k => nI ((pLr P) k)))), (gA, .inl (cy 2, 24, .inr (.inl gx)))])) := by
  refine xMet_of (cc := cX9_feature) (maxL := 4) (ret := (some .long)) (by decide) rfl (Nat.le_of_ble_eq_true rfl) (fun p e s m args below meth c A R Q hA hR hQ C hr hnm hro hX => ?_)
  have hw0 : ∀ w ∈ u_ws RX9 TX9 9, w ∈ wsX9_feature := by decide +kernel
  have hw1 : Cond.fieldLink RX9 33 (TX9 3).1 (TX9 3).2.1 (TX9 3).2.2.1 ∈ wsX9_feature := by decide +kernel
  have hw2 : Jvm.Cond.constantLong RX9 186 (-9223372036854775808) ∈ wsX9_feature := by decide +kernel
  have hw3 : ∀ w ∈ u_ws RX7 TX7 11, w ∈ wsX9_feature := by decide +kernel
  have hw4 : Cond.fieldLink RX9 109 (TX7 2).1 (TX7 2).2.1 (TX7 2).2.2.1 ∈ wsX9_feature := by decide +kernel
  have hw5 : ∀ w ∈ u_ws RX5 TX5 9, w ∈ wsX9_feature := by decide +kernel
  have hw6 : Cond.fieldLink RX9 173 (TX5 7).1 (TX5 7).2.1 (TX5 7).2.2.1 ∈ wsX9_feature := by decide +kernel
  refine x_L (L' := [(0, .ref fi), (1, .int (x)), (2, .int (w))]) [0, 1, 2] rfl ?_
  have hpool : ∀ q ∈ pl, xRo D A s q := hro
  refine x_aload_n C dX9_feature_0 (q := 1) rfl rfl 0 rfl ?_
  refine x_get C (ci := 8) (v := .ref tb) hw0 0 rfl rfl 3 (by decide) hw1 rfl dX9_feature_1 (q := 4) rfl ?_
  refine x_iload_n C dX9_feature_4 (q := 5) rfl rfl 1 rfl ?_
  refine x_callV C (roW := [(tb, .inr (6, [.ref nz, .ref tl, .ref pg, .ref se, .ref pa, .ref bo, .ref li, .ref ba, .int (nI cols), .int (nI lc), .int (nI smp)]))]) (roR := []) (c_X7_hasColumn l D cy tb nz tl pg se pa bo li ba cols lc smp x (by first | assumption | omega | (simp only []; omega)) (by first | assumption | omega | (simp only []; omega))) (cwV 1 C.2.2.2.2.1 gX9_feature_X7_hasColumn rfl rfl rfl (by decide +kernel) (by rw [hR]; exact ⟨Nat.le_of_ble_eq_true rfl, Nat.le_of_ble_eq_true rfl⟩)) [] [1] rfl (by decide) rfl (by decide) xro_nil (List.mem_of_getElem? (i := 0) rfl) (ci := 6) rfl xT_bl (fun _ _ _ _ _ _ _ => trivial) rfl rfl dX9_feature_5 rfl rfl (Nat.le_of_ble_eq_true rfl) (q := 8) rfl (k' := 0) rfl (n' := 0) rfl (by rw [hR]; exact ⟨Nat.le_of_ble_eq_true rfl, Nat.le_of_ble_eq_true rfl⟩) (fun v1 w1 hp1 => ?_)
  rcases hp1 with hp1 | hp1
  · skip
    obtain ⟨rfl, rfl, hc2, hc3⟩ := hp1
    refine x_ws (ws' := [(fi, .inr (8, [.ref tO, .ref gO, .ref nO, .ref tb, .ref tb', .ref trO, .ref gA, .ref tP, .int (nI kf)])), (tb, .inr (6, [.ref nz, .ref tl, .ref pg, .ref se, .ref pa, .ref bo, .ref li, .ref ba, .int (nI cols), .int (nI lc), .int (nI smp)])), (nz, .inl (cy 1, 5, .inl (fun k => nI (nzf k)))), (tl, .inl (cy 1, 5, .inl (fun k => nI (tlf k)))), (li, .inl (cy 4, 24, .inr (.inr (.inr (.inr lnf))))), (ba, .inl (cy 1, 5, .inl (fun k => nI (bal k)))), (pg, .inr (4, [.ref g0, .ref g1, .ref g2, .ref g3, .ref g4, .ref g5, .int (nI (pMk P)), .int (nI (pRs P)), .int (ky)])), (g0, .inl (cy 1, 5, .inl (fun k => nI ((pSt P) k)))), (g1, .inl (cy 1, 24, .inl (pFa P))), (g2, .inl (cy 1, 24, .inl (pCa P))), (g3, .inl (cy 1, 24, .inl (pDc P))), (g4, .inl (cy 1, 24, .inl (pRl P))), (g5, .inl (cy 1, 24, .inl (fun k => nI ((pLr P) k)))), (gA, .inl (cy 2, 24, .inr (.inl ga)))]) (List.append_nil _) ?_
    refine x_if_ne C (tgt := 15) dX9_feature_8 (by decide) (q := 11) rfl (a := 1) rfl (fun h4 => ?_) (fun h4 => (by omega : False).elim)
    refine x_aload_n C dX9_feature_15 (q := 16) rfl rfl 0 rfl ?_
    refine x_iload_n C dX9_feature_16 (q := 17) rfl rfl 1 rfl ?_
    refine x_callV C (roW := []) (roR := pl) (c_X9_gatherValues l D cy fi tO gO nO tb tb' trO gA tP kf nz tl pg se pa bo li ba cols lc smp nzf tlf lnf bal g0 g1 g2 g3 g4 g5 P ky ld pl ga x (by first | assumption | omega | (simp only []; omega)) (by first | assumption | omega | (simp only []; omega)) (by assumption) (by assumption) (by assumption) (by first | assumption | omega | (simp only []; omega)) (by assumption) (by assumption) (by first | assumption | omega | (simp only []; omega)) (by first | assumption | omega | (simp only []; omega))) (cwV 1 C.2.2.2.2.1 gX9_feature_X9_gatherValues rfl rfl rfl (by decide +kernel) (by rw [hR]; exact ⟨Nat.le_of_ble_eq_true rfl, Nat.le_of_ble_eq_true rfl⟩)) [0, 1, 2, 3, 4, 5, 6, 7, 8, 9, 10, 11, 12, 13] [] rfl (by decide) rfl (by decide) hpool (List.mem_of_getElem? (i := 0) rfl) (ci := 8) rfl xT_bl (fun _ _ _ _ _ _ _ => trivial) rfl rfl dX9_feature_17 rfl rfl (Nat.le_of_ble_eq_true rfl) (q := 20) rfl (k' := 0) rfl (n' := 0) rfl (by rw [hR]; exact ⟨Nat.le_of_ble_eq_true rfl, Nat.le_of_ble_eq_true rfl⟩) (fun v5 w5 hp5 => ?_)
    obtain ⟨bx_6, rfl, rfl⟩ := hp5
    refine x_ws (ws' := [(fi, .inr (8, [.ref tO, .ref gO, .ref nO, .ref tb, .ref tb', .ref trO, .ref gA, .ref tP, .int (nI kf)])), (tb, .inr (6, [.ref nz, .ref tl, .ref pg, .ref se, .ref pa, .ref bo, .ref li, .ref ba, .int (nI cols), .int (nI lc), .int (nI smp)])), (nz, .inl (cy 1, 5, .inl (fun k => nI (nzf k)))), (tl, .inl (cy 1, 5, .inl (fun k => nI (tlf k)))), (li, .inl (cy 4, 24, .inr (.inr (.inr (.inr lnf))))), (ba, .inl (cy 1, 5, .inl (fun k => nI (bx_6 k)))), (pg, .inr (4, [.ref g0, .ref g1, .ref g2, .ref g3, .ref g4, .ref g5, .int (nI (pMk P)), .int (nI (pRs P)), .int (ky)])), (g0, .inl (cy 1, 5, .inl (fun k => nI ((pSt P) k)))), (g1, .inl (cy 1, 24, .inl (pFa P))), (g2, .inl (cy 1, 24, .inl (pCa P))), (g3, .inl (cy 1, 24, .inl (pDc P))), (g4, .inl (cy 1, 24, .inl (pRl P))), (g5, .inl (cy 1, 24, .inl (fun k => nI ((pLr P) k)))), (gA, .inl (cy 2, 24, .inr (.inl (gaF ld (pLr P) (tyS (pSt P) tlf ld x.toInt.toNat (min smp lc)) x.toInt.toNat ga (pRs P)))))]) (xput_eq2 [0, 1, 2, 3, 4, 5, 6, 7, 8, 9, 10, 11, 12, 13] [] 14 [] rfl rfl (by decide) rfl rfl rfl (by decide)) ?_
    have hga := gaN_le ld (pLr P) (x.toInt.toNat) (pRs P)
    have hP1 := hP.1
    have hP2 := hP.2.1
    refine x_istore_n C (L' := [(3, .int (nI (gaN ld (pLr P) x.toInt.toNat (pRs P)))), (0, .ref fi), (1, .int (x)), (2, .int (w))]) dX9_feature_20 (q := 21) rfl rfl (by decide) rfl ?_
    refine x_iload_n C dX9_feature_21 (q := 22) rfl rfl 3 rfl ?_
    by_cases hs7 : w.toInt < 0 ∨ 4 < w.toInt
    · refine x_tableOut C (tgt := 112) dX9_feature_22 hs7 (by decide) ?_
      refine x_ldc2 C (v := (-9223372036854775808)) hw2 dX9_feature_112 (q := 115) rfl ?_
      refine x_lret C hA hQ hr dX9_feature_115 (Nat.le_of_ble_eq_true rfl) ?_
      refine ⟨_, _, ?_, rfl⟩
      unfold feaA
      repeat (first | rw [if_pos (by omega)] | rw [if_neg (by omega)])
    · have hs7' : w.toInt = 0 ∨ w.toInt = 1 ∨ w.toInt = 2 ∨ w.toInt = 3 ∨ w.toInt = 4 := by omega
      rcases hs7' with hs7e | hs7e | hs7e | hs7e | hs7e
      · refine x_tableIn C (tgt := 56) (0 : Int) ((rfl : (w : Int32).toInt = w.toInt).trans hs7e) dX9_feature_22 (by decide) (by decide) rfl (by decide) ?_
        refine x_iload_n C dX9_feature_56 (q := 57) rfl rfl 0 rfl ?_
        refine x_i2l C dX9_feature_57 (q := 58) rfl (v := lN (gaN ld (pLr P) x.toInt.toNat (pRs P))) (nI_l (by omega)) ?_
        refine x_lret C hA hQ hr dX9_feature_58 (Nat.le_of_ble_eq_true rfl) ?_
        refine ⟨_, _, ?_, rfl⟩
        unfold feaA
        repeat (first | rw [if_pos (by omega)] | rw [if_neg (by omega)])
      · refine x_tableIn C (tgt := 59) (1 : Int) ((rfl : (w : Int32).toInt = w.toInt).trans hs7e) dX9_feature_22 (by decide) (by decide) rfl (by decide) ?_
        refine x_iload_n C dX9_feature_59 (q := 60) rfl rfl 0 rfl ?_
        refine x_if_ne C (tgt := 69) dX9_feature_60 (by decide) (q := 63) rfl (a := ((gaN ld (pLr P) x.toInt.toNat (pRs P) : Nat) : Int)) (nI_toInt (by omega)) (fun h8 => ?_) (fun h8 => ?_)
        · first
          | (exfalso; omega)
          |
            refine x_aload_n C dX9_feature_69 (q := 70) rfl rfl 1 rfl ?_
            refine x_iload_n C dX9_feature_70 (q := 71) rfl rfl 0 rfl ?_
            refine x_callV C (roW := []) (roR := []) (c_X9_leastGathered l D cy fi tO gO nO tb tb' trO gA tP kf (gaF ld (pLr P) (tyS (pSt P) tlf ld x.toInt.toNat (min smp lc)) x.toInt.toNat ga (pRs P)) (gaN ld (pLr P) x.toInt.toNat (pRs P)) (by first | assumption | omega | (simp only []; omega))) (cwV 1 C.2.2.2.2.1 gX9_feature_X9_leastGathered rfl rfl rfl (by decide +kernel) (by rw [hR]; exact ⟨Nat.le_of_ble_eq_true rfl, Nat.le_of_ble_eq_true rfl⟩)) [0, 13] [] rfl (by decide) rfl (by decide) xro_nil (List.mem_of_getElem? (i := 0) rfl) (ci := 8) rfl xT_bl (fun _ _ _ _ _ _ _ => trivial) rfl rfl dX9_feature_71 rfl rfl (Nat.le_of_ble_eq_true rfl) (q := 74) rfl (k' := 0) rfl (n' := 0) rfl (by rw [hR]; exact ⟨Nat.le_of_ble_eq_true rfl, Nat.le_of_ble_eq_true rfl⟩) (fun v9 w9 hp9 => ?_)
            obtain ⟨rfl, rfl⟩ := hp9
            refine x_ws (ws' := [(fi, .inr (8, [.ref tO, .ref gO, .ref nO, .ref tb, .ref tb', .ref trO, .ref gA, .ref tP, .int (nI kf)])), (tb, .inr (6, [.ref nz, .ref tl, .ref pg, .ref se, .ref pa, .ref bo, .ref li, .ref ba, .int (nI cols), .int (nI lc), .int (nI smp)])), (nz, .inl (cy 1, 5, .inl (fun k => nI (nzf k)))), (tl, .inl (cy 1, 5, .inl (fun k => nI (tlf k)))), (li, .inl (cy 4, 24, .inr (.inr (.inr (.inr lnf))))), (ba, .inl (cy 1, 5, .inl (fun k => nI (bx_6 k)))), (pg, .inr (4, [.ref g0, .ref g1, .ref g2, .ref g3, .ref g4, .ref g5, .int (nI (pMk P)), .int (nI (pRs P)), .int (ky)])), (g0, .inl (cy 1, 5, .inl (fun k => nI ((pSt P) k)))), (g1, .inl (cy 1, 24, .inl (pFa P))), (g2, .inl (cy 1, 24, .inl (pCa P))), (g3, .inl (cy 1, 24, .inl (pDc P))), (g4, .inl (cy 1, 24, .inl (pRl P))), (g5, .inl (cy 1, 24, .inl (fun k => nI ((pLr P) k)))), (gA, .inl (cy 2, 24, .inr (.inl (gaF ld (pLr P) (tyS (pSt P) tlf ld x.toInt.toNat (min smp lc)) x.toInt.toNat ga (pRs P)))))]) rfl ?_
            refine x_lret C hA hQ hr dX9_feature_74 (Nat.le_of_ble_eq_true rfl) ?_
            refine ⟨_, _, ?_, rfl⟩
            unfold feaA
            repeat (first | rw [if_pos (by omega)] | rw [if_neg (by omega)])
        · first
          | (exfalso; omega)
          |
            refine x_ldc2 C (v := (-9223372036854775808)) hw2 dX9_feature_63 (q := 66) rfl ?_
            refine x_goto C (tgt := 74) dX9_feature_66 (by decide) ?_
            refine x_lret C hA hQ hr dX9_feature_74 (Nat.le_of_ble_eq_true rfl) ?_
            refine ⟨_, _, ?_, rfl⟩
            unfold feaA
            repeat (first | rw [if_pos (by omega)] | rw [if_neg (by omega)])
      · refine x_tableIn C (tgt := 75) (2 : Int) ((rfl : (w : Int32).toInt = w.toInt).trans hs7e) dX9_feature_22 (by decide) (by decide) rfl (by decide) ?_
        refine x_iload_n C dX9_feature_75 (q := 76) rfl rfl 0 rfl ?_
        refine x_if_ne C (tgt := 85) dX9_feature_76 (by decide) (q := 79) rfl (a := ((gaN ld (pLr P) x.toInt.toNat (pRs P) : Nat) : Int)) (nI_toInt (by omega)) (fun h10 => ?_) (fun h10 => ?_)
        · first
          | (exfalso; omega)
          |
            refine x_aload_n C dX9_feature_85 (q := 86) rfl rfl 1 rfl ?_
            refine x_iload_n C dX9_feature_86 (q := 87) rfl rfl 0 rfl ?_
            refine x_callV C (roW := []) (roR := []) (c_X9_greatestGathered l D cy fi tO gO nO tb tb' trO gA tP kf (gaF ld (pLr P) (tyS (pSt P) tlf ld x.toInt.toNat (min smp lc)) x.toInt.toNat ga (pRs P)) (gaN ld (pLr P) x.toInt.toNat (pRs P)) (by first | assumption | omega | (simp only []; omega))) (cwV 1 C.2.2.2.2.1 gX9_feature_X9_greatestGathered rfl rfl rfl (by decide +kernel) (by rw [hR]; exact ⟨Nat.le_of_ble_eq_true rfl, Nat.le_of_ble_eq_true rfl⟩)) [0, 13] [] rfl (by decide) rfl (by decide) xro_nil (List.mem_of_getElem? (i := 0) rfl) (ci := 8) rfl xT_bl (fun _ _ _ _ _ _ _ => trivial) rfl rfl dX9_feature_87 rfl rfl (Nat.le_of_ble_eq_true rfl) (q := 90) rfl (k' := 0) rfl (n' := 0) rfl (by rw [hR]; exact ⟨Nat.le_of_ble_eq_true rfl, Nat.le_of_ble_eq_true rfl⟩) (fun v11 w11 hp11 => ?_)
            obtain ⟨rfl, rfl⟩ := hp11
            refine x_ws (ws' := [(fi, .inr (8, [.ref tO, .ref gO, .ref nO, .ref tb, .ref tb', .ref trO, .ref gA, .ref tP, .int (nI kf)])), (tb, .inr (6, [.ref nz, .ref tl, .ref pg, .ref se, .ref pa, .ref bo, .ref li, .ref ba, .int (nI cols), .int (nI lc), .int (nI smp)])), (nz, .inl (cy 1, 5, .inl (fun k => nI (nzf k)))), (tl, .inl (cy 1, 5, .inl (fun k => nI (tlf k)))), (li, .inl (cy 4, 24, .inr (.inr (.inr (.inr lnf))))), (ba, .inl (cy 1, 5, .inl (fun k => nI (bx_6 k)))), (pg, .inr (4, [.ref g0, .ref g1, .ref g2, .ref g3, .ref g4, .ref g5, .int (nI (pMk P)), .int (nI (pRs P)), .int (ky)])), (g0, .inl (cy 1, 5, .inl (fun k => nI ((pSt P) k)))), (g1, .inl (cy 1, 24, .inl (pFa P))), (g2, .inl (cy 1, 24, .inl (pCa P))), (g3, .inl (cy 1, 24, .inl (pDc P))), (g4, .inl (cy 1, 24, .inl (pRl P))), (g5, .inl (cy 1, 24, .inl (fun k => nI ((pLr P) k)))), (gA, .inl (cy 2, 24, .inr (.inl (gaF ld (pLr P) (tyS (pSt P) tlf ld x.toInt.toNat (min smp lc)) x.toInt.toNat ga (pRs P)))))]) rfl ?_
            refine x_lret C hA hQ hr dX9_feature_90 (Nat.le_of_ble_eq_true rfl) ?_
            refine ⟨_, _, ?_, rfl⟩
            unfold feaA
            repeat (first | rw [if_pos (by omega)] | rw [if_neg (by omega)])
        · first
          | (exfalso; omega)
          |
            refine x_ldc2 C (v := (-9223372036854775808)) hw2 dX9_feature_79 (q := 82) rfl ?_
            refine x_goto C (tgt := 90) dX9_feature_82 (by decide) ?_
            refine x_lret C hA hQ hr dX9_feature_90 (Nat.le_of_ble_eq_true rfl) ?_
            refine ⟨_, _, ?_, rfl⟩
            unfold feaA
            repeat (first | rw [if_pos (by omega)] | rw [if_neg (by omega)])
      · refine x_tableIn C (tgt := 91) (3 : Int) ((rfl : (w : Int32).toInt = w.toInt).trans hs7e) dX9_feature_22 (by decide) (by decide) rfl (by decide) ?_
        refine x_aload_n C dX9_feature_91 (q := 92) rfl rfl 1 rfl ?_
        refine x_iload_n C dX9_feature_92 (q := 93) rfl rfl 0 rfl ?_
        refine x_callV C (roW := []) (roR := []) (c_X9_unlikeGathered l D cy fi tO gO nO tb tb' trO gA tP kf (gaF ld (pLr P) (tyS (pSt P) tlf ld x.toInt.toNat (min smp lc)) x.toInt.toNat ga (pRs P)) (gaN ld (pLr P) x.toInt.toNat (pRs P)) (by first | assumption | omega | (simp only []; omega))) (cwV 1 C.2.2.2.2.1 gX9_feature_X9_unlikeGathered rfl rfl rfl (by decide +kernel) (by rw [hR]; exact ⟨Nat.le_of_ble_eq_true rfl, Nat.le_of_ble_eq_true rfl⟩)) [0, 13] [] rfl (by decide) rfl (by decide) xro_nil (List.mem_of_getElem? (i := 0) rfl) (ci := 8) rfl xT_bl (fun _ _ _ _ _ _ _ => trivial) rfl rfl dX9_feature_93 rfl rfl (Nat.le_of_ble_eq_true rfl) (q := 96) rfl (k' := 0) rfl (n' := 0) rfl (by rw [hR]; exact ⟨Nat.le_of_ble_eq_true rfl, Nat.le_of_ble_eq_true rfl⟩) (fun v12 w12 hp12 => ?_)
        obtain ⟨rfl, rfl⟩ := hp12
        refine x_ws (ws' := [(fi, .inr (8, [.ref tO, .ref gO, .ref nO, .ref tb, .ref tb', .ref trO, .ref gA, .ref tP, .int (nI kf)])), (tb, .inr (6, [.ref nz, .ref tl, .ref pg, .ref se, .ref pa, .ref bo, .ref li, .ref ba, .int (nI cols), .int (nI lc), .int (nI smp)])), (nz, .inl (cy 1, 5, .inl (fun k => nI (nzf k)))), (tl, .inl (cy 1, 5, .inl (fun k => nI (tlf k)))), (li, .inl (cy 4, 24, .inr (.inr (.inr (.inr lnf))))), (ba, .inl (cy 1, 5, .inl (fun k => nI (bx_6 k)))), (pg, .inr (4, [.ref g0, .ref g1, .ref g2, .ref g3, .ref g4, .ref g5, .int (nI (pMk P)), .int (nI (pRs P)), .int (ky)])), (g0, .inl (cy 1, 5, .inl (fun k => nI ((pSt P) k)))), (g1, .inl (cy 1, 24, .inl (pFa P))), (g2, .inl (cy 1, 24, .inl (pCa P))), (g3, .inl (cy 1, 24, .inl (pDc P))), (g4, .inl (cy 1, 24, .inl (pRl P))), (g5, .inl (cy 1, 24, .inl (fun k => nI ((pLr P) k)))), (gA, .inl (cy 2, 24, .inr (.inl (gaF ld (pLr P) (tyS (pSt P) tlf ld x.toInt.toNat (min smp lc)) x.toInt.toNat ga (pRs P)))))]) rfl ?_
        have huk := ukS_le (gaF ld (pLr P) (tyS (pSt P) tlf ld x.toInt.toNat (min smp lc)) x.toInt.toNat ga (pRs P)) (gaN ld (pLr P) x.toInt.toNat (pRs P))
        refine x_i2l C dX9_feature_96 (q := 97) rfl (v := lN (ukS (gaF ld (pLr P) (tyS (pSt P) tlf ld x.toInt.toNat (min smp lc)) x.toInt.toNat ga (pRs P)) (gaN ld (pLr P) x.toInt.toNat (pRs P)))) (nI_l (by omega)) ?_
        refine x_lret C hA hQ hr dX9_feature_97 (Nat.le_of_ble_eq_true rfl) ?_
        refine ⟨_, _, ?_, rfl⟩
        unfold feaA
        repeat (first | rw [if_pos (by omega)] | rw [if_neg (by omega)])
      · refine x_tableIn C (tgt := 98) (4 : Int) ((rfl : (w : Int32).toInt = w.toInt).trans hs7e) dX9_feature_22 (by decide) (by decide) rfl (by decide) ?_
        refine x_aload_n C dX9_feature_98 (q := 99) rfl rfl 1 rfl ?_
        refine x_get C (ci := 8) (v := .ref tb) hw0 0 rfl rfl 3 (by decide) hw1 rfl dX9_feature_99 (q := 102) rfl ?_
        refine x_get C (ci := 6) (v := .ref pg) hw3 1 rfl rfl 2 (by decide) hw4 rfl dX9_feature_102 (q := 105) rfl ?_
        refine x_get C (ci := 4) (v := .int (nI (pRs P))) hw5 6 rfl rfl 7 (by decide) hw6 rfl dX9_feature_105 (q := 108) rfl ?_
        refine x_iload_n C dX9_feature_108 (q := 109) rfl rfl 0 rfl ?_
        refine x_isub C dX9_feature_109 (q := 110) rfl (z := nI (pRs P - (gaN ld (pLr P) x.toInt.toNat (pRs P)))) (xi_subN (by omega) (by omega)) ?_
        refine x_i2l C dX9_feature_110 (q := 111) rfl (v := lN (pRs P - (gaN ld (pLr P) x.toInt.toNat (pRs P)))) (nI_l (by omega)) ?_
        refine x_lret C hA hQ hr dX9_feature_111 (Nat.le_of_ble_eq_true rfl) ?_
        refine ⟨_, _, ?_, rfl⟩
        unfold feaA
        repeat (first | rw [if_pos (by omega)] | rw [if_neg (by omega)])
  · skip
    obtain ⟨rfl, rfl, hc13⟩ := hp1
    refine x_ws (ws' := [(fi, .inr (8, [.ref tO, .ref gO, .ref nO, .ref tb, .ref tb', .ref trO, .ref gA, .ref tP, .int (nI kf)])), (tb, .inr (6, [.ref nz, .ref tl, .ref pg, .ref se, .ref pa, .ref bo, .ref li, .ref ba, .int (nI cols), .int (nI lc), .int (nI smp)])), (nz, .inl (cy 1, 5, .inl (fun k => nI (nzf k)))), (tl, .inl (cy 1, 5, .inl (fun k => nI (tlf k)))), (li, .inl (cy 4, 24, .inr (.inr (.inr (.inr lnf))))), (ba, .inl (cy 1, 5, .inl (fun k => nI (bal k)))), (pg, .inr (4, [.ref g0, .ref g1, .ref g2, .ref g3, .ref g4, .ref g5, .int (nI (pMk P)), .int (nI (pRs P)), .int (ky)])), (g0, .inl (cy 1, 5, .inl (fun k => nI ((pSt P) k)))), (g1, .inl (cy 1, 24, .inl (pFa P))), (g2, .inl (cy 1, 24, .inl (pCa P))), (g3, .inl (cy 1, 24, .inl (pDc P))), (g4, .inl (cy 1, 24, .inl (pRl P))), (g5, .inl (cy 1, 24, .inl (fun k => nI ((pLr P) k)))), (gA, .inl (cy 2, 24, .inr (.inl ga)))]) (List.append_nil _) ?_
    refine x_if_ne C (tgt := 15) dX9_feature_8 (by decide) (q := 11) rfl (a := 0) rfl (fun h14 => (by omega : False).elim) (fun h14 => ?_)
    refine x_ldc2 C (v := (-9223372036854775808)) hw2 dX9_feature_11 (q := 14) rfl ?_
    refine x_lret C hA hQ hr dX9_feature_14 (Nat.le_of_ble_eq_true rfl) ?_
    refine ⟨_, _, ?_, rfl⟩
    unfold feaA
    repeat (first | rw [if_pos (by omega)] | rw [if_neg (by omega)])
