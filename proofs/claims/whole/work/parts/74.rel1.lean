
/-! CLASS AND MODEL: what they share -/
/-! a HEAD's answer doesn't hang on what stood there -/
theorem sameB_congr {tx : Nat → Nat} {a a' b : Nat} (h : a = a') (k : Nat) : sameB tx a b k = sameB tx a' b k := by rw [h]
theorem twcB_congr {tx ss zs ss' zs' : Nat → Nat} {p z : Nat} : ∀ m, (∀ c, c < m → ss c = ss' c ∧ zs c = zs' c) → twcB tx ss zs p z m = twcB tx ss' zs' p z m
  | 0, _ => rfl
  | m + 1, h => by
    unfold twcB
    rw [twcB_congr m (fun c hc => h c (by omega)), (h m (by omega)).1, (h m (by omega)).2]
theorem hdR_congr {tx : Nat → Nat} {n : Nat} : ∀ (f : Nat) (ss zs ss' zs' : Nat → Nat) (m p : Nat), (∀ c, c < m → ss c = ss' c ∧ zs c = zs' c) → (hdR tx n f ss zs m p).1 = (hdR tx n f ss' zs' m p).1 ∧ (hdR tx n f ss zs m p).2.1 = (hdR tx n f ss' zs' m p).2.1 ∧ ∀ c, c < (hdR tx n f ss zs m p).2.1 → (hdR tx n f ss zs m p).2.2.2 c = (hdR tx n f ss' zs' m p).2.2.2 c
  | 0, ss, zs, ss', zs', m, p, h => ⟨rfl, rfl, fun c hc => (h c hc).2⟩
  | f + 1, ss, zs, ss', zs', m, p, h => by
    have hu : ∀ c, c < m + 1 → va_up ss m p c = va_up ss' m p c ∧ va_up zs m (ltr tx n p) c = va_up zs' m (ltr tx n p) c := fun c hc => by
      by_cases e : c = m
      · rw [e, va_up_eq, va_up_eq, va_up_eq, va_up_eq]
        exact ⟨rfl, rfl⟩
      · rw [va_up_ne' e, va_up_ne' e, va_up_ne' e, va_up_ne' e]
        exact h c (by omega)
    unfold hdR
    rw [twcB_congr m h]
    by_cases c1 : ltr tx n p = 0 ∨ twcB tx ss' zs' p (ltr tx n p) m = true
    · rw [if_pos c1, if_pos c1]
      exact ⟨rfl, rfl, fun c hc => (h c hc).2⟩
    · rw [if_neg c1, if_neg c1]
      by_cases c2 : p + ltr tx n p = n
      · rw [if_pos c2, if_pos c2]
        exact ⟨rfl, rfl, fun c hc => (hu c hc).2⟩
      · rw [if_neg c2, if_neg c2]
        by_cases c3 : ¬ tx (p + ltr tx n p) = 44 ∨ m + 1 = 5
        · rw [if_pos c3, if_pos c3]
          exact ⟨rfl, rfl, fun c hc => (hu c hc).2⟩
        · rw [if_neg c3, if_neg c3]
          exact hdR_congr f _ _ _ _ (m + 1) _ hu
/-! what is SHOWN doesn't hang on the signs that stood there -/
def agS (s s' : SGN) : Prop := s.1 = s'.1 ∧ ∀ p, p < s.1 → s.2 p = s'.2 p
theorem up_ag {tx tx' : Nat → Nat} {n v : Nat} (h : ∀ p, p < n → tx p = tx' p) : ∀ p, p < n + 1 → va_up tx n v p = va_up tx' n v p := up_eq h
theorem dgF_ag {v e : Nat} {tx tx' : Nat → Nat} {n : Nat} (h : ∀ p, p < n → tx p = tx' p) : ∀ j p, p < n + j → dgF v e tx n j p = dgF v e tx' n j p
  | 0, p, hp => h p hp
  | j + 1, p, hp => by
    unfold dgF
    exact up_ag (dgF_ag h j) p hp
theorem agS_dg {v wd : Nat} {s s' : SGN} (h : agS s s') : agS (dgP v wd s) (dgP v wd s') := by
  refine ⟨by show s.1 + _ = s'.1 + _; rw [h.1], ?_⟩
  show ∀ p, p < s.1 + (dgE v wd 17 0 + 1) → dgF v (dgE v wd 17 0) s.2 s.1 (dgE v wd 17 0 + 1) p = dgF v (dgE v wd 17 0) s'.2 s'.1 (dgE v wd 17 0 + 1) p
  rw [← h.1]
  exact dgF_ag h.2 _
theorem agS_ad {v : Nat} {s s' : SGN} (h : agS s s') : agS (adP v s) (adP v s') := by
  refine ⟨by show s.1 + 1 = s'.1 + 1; rw [h.1], ?_⟩
  show ∀ p, p < s.1 + 1 → va_up s.2 s.1 v p = va_up s'.2 s'.1 v p
  rw [← h.1]
  exact up_ag h.2
theorem agS_0 {gx gx' : Nat → Nat} : agS (0, gx) (0, gx') := ⟨rfl, fun p hp => absurd hp (Nat.not_lt_zero p)⟩
theorem agS_wnB {nm : Int64} {gx gx' : Nat → Nat} : agS (wnB nm gx) (wnB nm gx') := by
  unfold wnB
  split
  · exact ⟨rfl, up_ag (n := 0) (fun p hp => absurd hp (Nat.not_lt_zero p))⟩
  · exact agS_0
theorem agS_wn {nm : Int64} {fl : Nat} {gx gx' : Nat → Nat} : agS (wnP nm fl gx) (wnP nm fl gx') := by
  unfold wnP
  split
  · exact agS_dg agS_wnB
  · exact agS_dg (agS_ad (agS_dg agS_wnB))
theorem wdF_ag {bs gx gx' : Nat → Nat} : ∀ j p, p < j → wdF bs gx j p = wdF bs gx' j p
  | 0, p, hp => absurd hp (Nat.not_lt_zero p)
  | j + 1, p, hp => by
    unfold wdF
    exact up_ag (wdF_ag j) p hp
theorem agS_ws {fm : Nat} {nm wd : Int64} {bl : Nat} {bs : Nat → Nat} {ty : Nat} {gx gx' : Nat → Nat} : agS (wsP fm nm wd bl bs ty gx) (wsP fm nm wd bl bs ty gx') := by
  unfold wsP
  split
  · exact agS_0
  · split
    · exact ⟨rfl, wdF_ag bl⟩
    · split
      · exact agS_dg (agS_ad (agS_dg (agS_ad (agS_dg agS_0))))
      · exact agS_wn
theorem shoA_gx {ld : LD} {cols : Nat} {tl : Nat → Nat} {z : Nat} {P : PS} {gx gx' : Nat → Nat} {x y i : Int} : shoA ld cols tl z P gx x y i = shoA ld cols tl z P gx' x y i := by
  unfold shoA
  by_cases c1 : x < 0 ∨ pRs P ≤ x ∨ y < 0 ∨ cols ≤ y
  · rw [if_pos c1, if_pos c1]
  · rw [if_neg c1, if_neg c1]
    have h : agS (shS ld (tyS (pSt P) tl ld y.toNat z) (pLr P x.toNat) y.toNat gx) (shS ld (tyS (pSt P) tl ld y.toNat z) (pLr P x.toNat) y.toNat gx') := agS_ws
    rw [← h.1]
    by_cases c2 : i < 0 ∨ (shS ld (tyS (pSt P) tl ld y.toNat z) (pLr P x.toNat) y.toNat gx).1 ≤ i
    · rw [if_pos c2, if_pos c2]
    · rw [if_neg c2, if_neg c2, h.2 _ (by omega)]
/-! how large a VALUE is -/
def dgC (b : Nat → Nat) : Nat → Nat
  | 0 => 0
  | k + 1 => dgC b k + (if 48 ≤ b k ∧ b k ≤ 57 then 1 else 0)
theorem numF_dgC (b : Nat → Nat) : ∀ k, (numF b k).1 < 10 ^ dgC b k
  | 0 => Nat.one_pos
  | k + 1 => by
    have h1 := numF_dgC b k
    show (if 48 ≤ b k ∧ b k ≤ 57 then (numF b k).1 * 10 + (b k - 48) else (numF b k).1) < 10 ^ (dgC b k + (if 48 ≤ b k ∧ b k ≤ 57 then 1 else 0))
    by_cases c : 48 ≤ b k ∧ b k ≤ 57
    · rw [if_pos c, if_pos c, Nat.pow_succ]
      omega
    · rw [if_neg c, if_neg c]
      exact h1
theorem dgC_le (b : Nat → Nat) : ∀ k, dgC b k ≤ k
  | 0 => Nat.le_refl 0
  | k + 1 => by
    have := dgC_le b k
    unfold dgC
    split <;> omega
theorem dgC_add {b : Nat → Nat} {k : Nat} : ∀ j, dgC b (k + j) ≤ dgC b k + j
  | 0 => Nat.le_refl _
  | j + 1 => by
    have := dgC_add (b := b) (k := k) j
    show dgC b (k + j) + (if 48 ≤ b (k + j) ∧ b (k + j) ≤ 57 then 1 else 0) ≤ _
    split <;> omega
theorem dgC_fr {b : Nat → Nat} : dgC b (frB b) = 0 := by
  rcases frB_01 b with ⟨h, _⟩ | ⟨h, h2⟩
  · rw [h]; rfl
  · rw [h]
    show 0 + (if 48 ≤ b 0 ∧ b 0 ≤ 57 then 1 else 0) = 0
    rw [if_neg (by omega)]
/-- behind the dot the digits are counted -/
theorem numF_behind {b : Nat → Nat} {p : Nat} (h1 : b p = 46) (h0 : ∀ j, j < p → ¬ b j = 46) : ∀ j, (∀ i, i < j → 48 ≤ b (p + 1 + i) ∧ b (p + 1 + i) ≤ 57) → (numF b (p + 1 + j)).2.1 = 1 ∧ (numF b (p + 1 + j)).2.2 = j
  | 0, _ => by
    have f0 := numF_f0 b p h0
    have e := nF46 h1 f0
    show (numF b (p + 1)).2.1 = 1 ∧ (numF b (p + 1)).2.2 = 0
    rw [e]
    exact ⟨rfl, numF_c0 b p f0⟩
  | j + 1, h => by
    have i := numF_behind h1 h0 j (fun i hi => h i (by omega))
    have e := nFd1 (h j (by omega)) i.1
    show (numF b (p + 1 + j + 1)).2.1 = 1 ∧ (numF b (p + 1 + j + 1)).2.2 = j + 1
    rw [e]
    exact ⟨i.1, by show (numF b (p + 1 + j)).2.2 + 1 = j + 1; rw [i.2]⟩
theorem abs_lN {w B : Nat} (h : w < B) (hB : B ≤ 1000000000000) : (lN w).toInt.natAbs < B ∧ (-lN w).toInt.natAbs < B := by
  have e : (lN w).toInt = (w : Int) := pk_lT (by omega)
  refine ⟨by rw [e]; omega, ?_⟩
  rw [Int64.toInt_neg, e, Int.bmod_eq_of_le (by omega) (by omega)]
  omega
theorem sca_abs {b : Nat → Nat} {len pl B : Nat} (h : (numF b len).1 * 10 ^ (pl - (numF b len).2.2) < B) (hB : B ≤ 1000000000000) : (scaS b len pl).toInt.natAbs < B := by
  have e := abs_lN h hB
  unfold scaS
  split
  · exact e.2
  · exact e.1
theorem pow_mono {a b : Nat} (h : a ≤ b) : (10 : Nat) ^ a ≤ 10 ^ b := Nat.pow_le_pow_right (by decide) h
/-- a field's number by its form -/
theorem num_1 {b : Nat → Nat} {len : Nat} (h : formS b len = 1) : (numF b len).1 < 1000000 ∧ (numF b len).2.2 = 0 := by
  have hfr := frB_01 b
  rcases formS_cases (b := b) (len := len) with c | c | c | c | c
  · omega
  · obtain ⟨c0, c1, c2, c3, _⟩ := c
    have hd : dgC b len ≤ 6 := by
      have h1 := dgC_add (b := b) (k := frB b) (dgs b len (frB b))
      rw [c3, dgC_fr] at h1
      omega
    have hno : ∀ j, j < len → ¬ b j = 46 := fun j hj => by
      rcases Nat.lt_or_ge j (frB b) with z | z
      · rw [show j = 0 by omega]; omega
      · have := dgs_all (b := b) (to := len) (k := frB b) z (by omega)
        omega
    have h2 := numF_dgC b len
    have h3 := pow_mono hd
    have h4 : (10 : Nat) ^ 6 = 1000000 := rfl
    exact ⟨by omega, numF_c0 b len (numF_f0 b len hno)⟩
  · omega
  · omega
  · omega
theorem num_2 {b : Nat → Nat} {len : Nat} (h : formS b len = 2) : (numF b len).1 * 10 ^ (3 - (numF b len).2.2) < 1000000000 := by
  have hfr := frB_01 b
  rcases formS_cases (b := b) (len := len) with c | c | c | c | c
  · omega
  · omega
  · obtain ⟨c0, c1, c2, c3, c4, _⟩ := c
    obtain ⟨c5, c6, c7⟩ := c4
    have hno : ∀ j, j < frB b + dgs b len (frB b) → ¬ b j = 46 := fun j hj => by
      rcases Nat.lt_or_ge j (frB b) with z | z
      · rw [show j = 0 by omega]; omega
      · have := dgs_all (b := b) (to := len) (k := frB b) z hj
        omega
    have hb := numF_behind c3 hno (dgs b len (frB b + dgs b len (frB b) + 1)) (fun i hi => dgs_all (to := len) (k := frB b + dgs b len (frB b) + 1) (by omega) (by omega))
    rw [show frB b + dgs b len (frB b) + 1 + dgs b len (frB b + dgs b len (frB b) + 1) = len by omega] at hb
    have d1 := dgC_add (b := b) (k := frB b) (dgs b len (frB b))
    rw [dgC_fr] at d1
    have d2 : dgC b (frB b + dgs b len (frB b) + 1) = dgC b (frB b + dgs b len (frB b)) := by
      show dgC b (frB b + dgs b len (frB b)) + (if 48 ≤ b (frB b + dgs b len (frB b)) ∧ b (frB b + dgs b len (frB b)) ≤ 57 then 1 else 0) = _
      rw [if_neg (by omega)]
      rfl
    have d3 := dgC_add (b := b) (k := frB b + dgs b len (frB b) + 1) (dgs b len (frB b + dgs b len (frB b) + 1))
    rw [show frB b + dgs b len (frB b) + 1 + dgs b len (frB b + dgs b len (frB b) + 1) = len by omega] at d3
    rw [hb.2]
    have h2 := numF_dgC b len
    have h3 : (numF b len).1 * 10 ^ (3 - dgs b len (frB b + dgs b len (frB b) + 1)) < 10 ^ dgC b len * 10 ^ (3 - dgs b len (frB b + dgs b len (frB b) + 1)) := Nat.mul_lt_mul_of_pos_right h2 (Nat.pow_pos (by decide))
    rw [← Nat.pow_add] at h3
    have h4 := pow_mono (a := dgC b len + (3 - dgs b len (frB b + dgs b len (frB b) + 1))) (b := 9) (by omega)
    have h5 : (10 : Nat) ^ 9 = 1000000000 := rfl
    omega
  · omega
  · omega
theorem dayS_b {b : Nat → Nat} (h : dtC b) : -10000000 ≤ dayS b ∧ dayS b ≤ 10000000 := by
  rw [dayS_eq h]
  obtain ⟨hp, h1, h2, h3, h4⟩ := h
  have hm : moS b ≤ 12 := by
    rcases Nat.lt_or_ge 12 (moS b) with z | z
    · have := mLen_0 (y := yrS b) (m := moS b) (Or.inr z)
      omega
    · exact z
  have a1 := yD_b (y := yrS b) (by omega) (by omega)
  have a2 : yD 2000 = 730119 := rfl
  have a3 := msS_le (yrS b) (moS b - 1)
  have a4 := dyS_lt hp
  omega
/-- a FIELD's data, all out of its bytes -/
def fdK (ld : LD) (k i : Nat) : Prop := dBl ld k i ≤ 12 ∧ (∀ j, dBs ld k i j < 128) ∧ dFm ld k i = formS (dBs ld k i) (dBl ld k i) ∧ dNm ld k i = numS (dBs ld k i) (dBl ld k i) (dFm ld k i)
theorem fdK_1 {ld : LD} {k i : Nat} (h : fdK ld k i) (h1 : dFm ld k i = 1) : (dNm ld k i).toInt.natAbs < 1000000 := by
  obtain ⟨_, _, g1, g2⟩ := h
  have hn := num_1 (b := dBs ld k i) (len := dBl ld k i) (by omega)
  rw [g2, h1]
  show (scaS (dBs ld k i) (dBl ld k i) 0).toInt.natAbs < 1000000
  refine sca_abs ?_ (by decide)
  rw [Nat.zero_sub, Nat.pow_zero, Nat.mul_one]
  exact hn.1
theorem fdK_sh {ld : LD} {k i ty : Nat} (h : fdK ld k i) (hc : canS (dFm ld k i) ty) (h0 : 1 ≤ ty) : shK ld k i ty := by
  have hh := h
  obtain ⟨h1, h2, g1, g2⟩ := h
  refine ⟨h1, h2, ?_⟩
  by_cases f0 : dFm ld k i = 0
  · exact Or.inl f0
  · refine Or.inr ⟨fun n4 => ?_, fun t3 => ?_⟩
    · have hv : valS (dFm ld k i) (dNm ld k i) (dWd ld k i) ty = if dFm ld k i = 1 ∧ ty = 2 then dNm ld k i * lN 1000 else dNm ld k i := if_neg n4
      rw [hv]
      rcases hc with c | c | c | ⟨c, c2⟩
      · exact absurd c f0
      · rw [if_neg (by omega)]
        have hf4 := formS_le (dBs ld k i) (dBl ld k i)
        have hf : dFm ld k i = 1 ∨ dFm ld k i = 2 ∨ dFm ld k i = 3 := by omega
        rcases hf with f | f | f
        · have := fdK_1 hh f
          omega
        · rw [g2, f]
          show (scaS (dBs ld k i) (dBl ld k i) 3).toInt.natAbs < 1000000000
          exact sca_abs (num_2 (by omega)) (by decide)
        · have hd := dayS_b (form3 (b := dBs ld k i) (len := dBl ld k i) (by omega)).2
          rw [g2, f]
          show (Int64.ofInt (dayS (dBs ld k i))).toInt.natAbs < 1000000000
          rw [xl_of hd.1 hd.2]
          omega
      · exact absurd c n4
      · rw [if_pos ⟨c, c2⟩]
        have h5 := fdK_1 hh c
        have h6 : (lN 1000).toInt = 1000 := rfl
        have h7 : (dNm ld k i * lN 1000).toInt = (dNm ld k i).toInt * 1000 := by
          rw [Int64.toInt_mul, h6]
          exact Int.bmod_eq_of_le (by omega) (by omega)
        rw [h7]
        omega
    · have f : dFm ld k i = 3 := by
        rcases hc with c | c | c | ⟨c, c2⟩ <;> omega
      have := form3 (b := dBs ld k i) (len := dBl ld k i) (by omega)
      exact ⟨this.1, this.2.1⟩
