
/-! what the model holds of a PROGRESS -/
def MdQ (cols : Nat) (P : PS) (st9 lr9 : Nat → Nat) (rl9 fa9 ca9 dc9 : Nat → Int32) : Prop :=
  (∀ c, c < cols → st9 c = pSt P c) ∧ (∀ r, r < pRs P → lr9 r = pLr P r) ∧ (∀ x, x < pMk P → rl9 x = pRl P x ∧ fa9 x = pFa P x ∧ ca9 x = pCa P x ∧ dc9 x = pDc P x) ∧ ∀ x, pMk P ≤ x → x < 24 → rl9 x = -5 ∧ fa9 x = -5 ∧ ca9 x = -5 ∧ dc9 x = -5
def MdP (cols : Nat) (P : PS) (st9 lr9 : Nat → Nat) (rl9 fa9 ca9 dc9 : Nat → Int32) : Prop := MdQ cols P st9 lr9 rl9 fa9 ca9 dc9 ∧ (pMk P = 0 → ∀ c, c < 5 → st9 c = 0)
theorem up4 {f g : Nat → Int32} {n : Nat} {v w : Int32} (h : v = w) : va_up f n v n = va_up g n w n := by rw [va_up_eq, va_up_eq, h]
theorem MdQ_f {ld : LD} {cols : Nat} {ky : Int} {Q : PS} {st9 lr9 : Nat → Nat} {rl9 fa9 ca9 dc9 : Nat → Int32} {x y z : Int32} (hf : ftP ld cols ky Q = (x, y, z)) (hx : ¬ x = -5) (h : MdQ cols Q st9 lr9 rl9 fa9 ca9 dc9) (hm : pMk Q < 24) : MdP cols (nxS ld cols ky Q) st9 lr9 rl9 (va_up fa9 (pMk Q) x) (va_up ca9 (pMk Q) y) (va_up dc9 (pMk Q) z) := by
  obtain ⟨h1, h2, h3, h4⟩ := h
  rw [nxS_f hf hx]
  refine ⟨⟨h1, h2, fun k hk => ?_, fun k hk hk2 => ?_⟩, fun e => ?_⟩
  · have hk : k < pMk Q + 1 := hk
    show rl9 k = va_up (pRl Q) (pMk Q) (-5) k ∧ va_up fa9 (pMk Q) x k = va_up (pFa Q) (pMk Q) x k ∧ va_up ca9 (pMk Q) y k = va_up (pCa Q) (pMk Q) y k ∧ va_up dc9 (pMk Q) z k = va_up (pDc Q) (pMk Q) z k
    by_cases e : k = pMk Q
    · subst e
      rw [va_up_eq]
      exact ⟨(h4 _ (Nat.le_refl _) hm).1, up4 rfl, up4 rfl, up4 rfl⟩
    · rw [va_up_ne' e, va_up_ne' e, va_up_ne' e, va_up_ne' e, va_up_ne' e, va_up_ne' e, va_up_ne' e]
      exact h3 k (by omega)
  · have hk : pMk Q + 1 ≤ k := hk
    rw [va_up_ne' (by omega), va_up_ne' (by omega), va_up_ne' (by omega)]
    exact h4 k (by omega) hk2
  · exact absurd (show pMk Q + 1 = 0 from e) (by omega)
theorem MdQ_r {ld : LD} {cols : Nat} {ky : Int} {Q : PS} {st9 lr9 : Nat → Nat} {rl9 fa9 ca9 dc9 : Nat → Int32} (hf : ftP ld cols ky Q = (-5, -5, -5)) (h : MdQ cols Q st9 lr9 rl9 fa9 ca9 dc9) (hm : pMk Q < 24) : MdP cols (nxS ld cols ky Q) st9 (va_up lr9 (pRs Q) (pMk Q)) (va_up rl9 (pMk Q) (nI (pRs Q))) fa9 ca9 dc9 := by
  obtain ⟨h1, h2, h3, h4⟩ := h
  rw [nxS_r hf]
  refine ⟨⟨h1, fun r hr => ?_, fun k hk => ?_, fun k hk hk2 => ?_⟩, fun e => ?_⟩
  · have hr : r < pRs Q + 1 := hr
    show va_up lr9 (pRs Q) (pMk Q) r = va_up (pLr Q) (pRs Q) (pMk Q) r
    exact up_eq h2 r hr
  · have hk : k < pMk Q + 1 := hk
    show va_up rl9 (pMk Q) (nI (pRs Q)) k = va_up (pRl Q) (pMk Q) (nI (pRs Q)) k ∧ fa9 k = va_up (pFa Q) (pMk Q) (-5) k ∧ ca9 k = va_up (pCa Q) (pMk Q) (-5) k ∧ dc9 k = va_up (pDc Q) (pMk Q) (-5) k
    by_cases e : k = pMk Q
    · subst e
      rw [va_up_eq, va_up_eq, va_up_eq, va_up_eq, va_up_eq]
      have h5 := h4 _ (Nat.le_refl _) hm
      exact ⟨rfl, h5.2.1, h5.2.2.1, h5.2.2.2⟩
    · rw [va_up_ne' e, va_up_ne' e, va_up_ne' e, va_up_ne' e, va_up_ne' e]
      exact h3 k (by omega)
  · have hk : pMk Q + 1 ≤ k := hk
    rw [va_up_ne' (by omega)]
    exact h4 k (by omega) hk2
  · exact absurd (show pMk Q + 1 = 0 from e) (by omega)
/-- how many of the first are below 0 -/
def cnN (f : Nat → Int32) : Nat → Nat
  | 0 => 0
  | k + 1 => cnN f k + (if (f k).toInt < 0 then 1 else 0)
theorem cnN_le (f : Nat → Int32) : ∀ k, cnN f k ≤ k
  | 0 => Nat.le_refl 0
  | k + 1 => by
    have := cnN_le f k
    unfold cnN
    split <;> omega
theorem cnN_congr {f g : Nat → Int32} : ∀ k, (∀ x, x < k → f x = g x) → cnN f k = cnN g k
  | 0, _ => rfl
  | k + 1, h => by
    unfold cnN
    rw [cnN_congr k (fun x hx => h x (by omega)), h k (by omega)]
/-- what holds of what is imported -/
def InvF (ld : LD) (cols lc : Nat) (P : PS) : Prop := InvP ld cols lc P ∧ (0 < pMk P → ∀ c, c < cols → 1 ≤ pSt P c) ∧ (∀ r, r < pRs P → ∀ c, c < cols → canS (dFm ld (pLr P r) c) (pSt P c)) ∧ (∀ x, x < pMk P → (pFa P x = -5 ∧ 0 ≤ (pRl P x).toInt) ∨ (¬ pFa P x = -5 ∧ (pRl P x).toInt = -5)) ∧ cnN (pRl P) (pMk P) + pRs P = pMk P
abbrev cmS (ld : LD) (cols : Nat) (tl : Nat → Nat) (z : Nat) (ky : Int) (P : PS) : PS := nxS ld cols ky (stS ld cols tl z P)
theorem stS_2 {ld : LD} {cols : Nat} {tl : Nat → Nat} {z : Nat} {P : PS} : (stS ld cols tl z P).2 = P.2 := by
  unfold stS
  split <;> rfl
theorem ftS_c {ld : LD} {cols : Nat} {st lr : Nat → Nat} {rs : Nat} {ky : Int} {k : Nat} : ftS ld cols st lr rs ky k = (-5, -5, -5) ∨ ¬ (ftS ld cols st lr rs ky k).1 = -5 := by
  unfold ftS
  have n1 : ¬ (nI 1 : Int32) = -5 := by decide
  have n2 : ¬ (nI 2 : Int32) = -5 := by decide
  have n3 : ¬ (nI 3 : Int32) = -5 := by decide
  have n4 : ¬ (nI 4 : Int32) = -5 := by decide
  have n5 : ¬ (nI 5 : Int32) = -5 := by decide
  split
  · exact Or.inr n1
  · split
    · exact Or.inr n2
    · split
      · exact Or.inr n3
      · split
        · exact Or.inl rfl
        · split
          · exact Or.inr n4
          · split
            · exact Or.inr n5
            · exact Or.inl rfl
theorem ufS_all {ld : LD} {st : Nat → Nat} {cols k : Nat} (h : ufS ld st cols k = cols) : ∀ c, c < cols → canS (dFm ld k c) (st c) := fun c hc => by
  have := runLen_all (fun c => decide (canS (dFm ld k c) (st c))) cols (cols - 0) 0 c (Nat.zero_le _) (by unfold ufS at h; omega)
  exact of_decide_eq_true this
theorem InvF_st {ld : LD} {cols lc : Nat} {tl : Nat → Nat} {z : Nat} {P : PS} (h : InvF ld cols lc P) (ht : ∀ k, tl k ≤ 4) : InvF ld cols lc (stS ld cols tl z P) ∧ ∀ c, c < cols → 1 ≤ pSt (stS ld cols tl z P) c := by
  obtain ⟨h1, h2, h3, h4, h5⟩ := h
  by_cases e : pMk P = 0
  · have g := InvP_st (z := z) h1 ht
    have hst : ∀ c, c < cols → 1 ≤ pSt (stS ld cols tl z P) c := fun c hc => by
      rw [stS_0 e]
      show 1 ≤ seS cols (-1) 0 tl ld z (pSt P) c
      unfold seS
      rw [if_pos hc, if_neg (by omega)]
      exact (tgS_in (ht c)).1
    have hrs : pRs P = 0 := by have := h1.1; omega
    refine ⟨⟨g.1, fun _ => hst, fun r hr => ?_, ?_, ?_⟩, hst⟩
    · have hr2 : r < (stS ld cols tl z P).2.2.2.2.2.2.2 := hr
      rw [stS_2] at hr2
      exact absurd (show r < pRs P from hr2) (by omega)
    · rw [stS_0 e]
      exact h4
    · rw [stS_0 e]
      exact h5
  · rw [stS_n e]
    exact ⟨⟨h1, h2, h3, h4, h5⟩, h2 (by omega)⟩
theorem InvF_nx {ld : LD} {cols lc : Nat} {ky : Int} {Q : PS} (h : InvF ld cols lc Q) (hst : ∀ c, c < cols → 1 ≤ pSt Q c) (hm : pMk Q < lc) (hlc : lc ≤ 24) : InvF ld cols lc (nxS ld cols ky Q) := by
  obtain ⟨h1, h2, h3, h4, h5⟩ := h
  have g := InvP_nx (ky := ky) h1 hm
  have hr24 : pRs Q ≤ 24 := by have := h1.1; have := h1.2.1; omega
  rcases ftS_c (ld := ld) (cols := cols) (st := pSt Q) (lr := pLr Q) (rs := pRs Q) (ky := ky) (k := pMk Q) with e | e
  · have e2 : nxS ld cols ky Q = _ := nxS_r e
    have hu := ftS_row (congrArg (fun t => t.1) e)
    refine ⟨g.1, fun _ => (by rw [g.2.2]; exact hst), ?_, ?_, ?_⟩
    · rw [e2]
      intro r hr c hc
      have hr : r < pRs Q + 1 := hr
      show canS (dFm ld (va_up (pLr Q) (pRs Q) (pMk Q) r) c) (pSt Q c)
      by_cases e3 : r = pRs Q
      · rw [e3, va_up_eq]
        exact ufS_all hu.2 c hc
      · rw [va_up_ne' e3]
        exact h3 r (by omega) c hc
    · rw [e2]
      intro x hx
      have hx : x < pMk Q + 1 := hx
      show (va_up (pFa Q) (pMk Q) (-5) x = -5 ∧ 0 ≤ (va_up (pRl Q) (pMk Q) (nI (pRs Q)) x).toInt) ∨ (¬ va_up (pFa Q) (pMk Q) (-5) x = -5 ∧ (va_up (pRl Q) (pMk Q) (nI (pRs Q)) x).toInt = -5)
      by_cases e3 : x = pMk Q
      · rw [e3, va_up_eq, va_up_eq]
        exact Or.inl ⟨rfl, by rw [nI_toInt (by omega)]; omega⟩
      · rw [va_up_ne' e3, va_up_ne' e3]
        exact h4 x (by omega)
    · rw [e2]
      show cnN (va_up (pRl Q) (pMk Q) (nI (pRs Q))) (pMk Q) + (if (va_up (pRl Q) (pMk Q) (nI (pRs Q)) (pMk Q)).toInt < 0 then 1 else 0) + (pRs Q + 1) = pMk Q + 1
      rw [va_up_eq, if_neg (by rw [nI_toInt (by omega)]; omega), cnN_congr (g := pRl Q) _ (fun x hx => va_up_ne' (by omega))]
      omega
  · have e2 : nxS ld cols ky Q = _ := nxS_f rfl e
    refine ⟨g.1, fun _ => (by rw [g.2.2]; exact hst), ?_, ?_, ?_⟩
    · rw [e2]
      exact h3
    · rw [e2]
      intro x hx
      have hx : x < pMk Q + 1 := hx
      show (va_up (pFa Q) (pMk Q) (ftP ld cols ky Q).1 x = -5 ∧ 0 ≤ (va_up (pRl Q) (pMk Q) (-5) x).toInt) ∨ (¬ va_up (pFa Q) (pMk Q) (ftP ld cols ky Q).1 x = -5 ∧ (va_up (pRl Q) (pMk Q) (-5) x).toInt = -5)
      by_cases e3 : x = pMk Q
      · rw [e3, va_up_eq, va_up_eq]
        exact Or.inr ⟨e, rfl⟩
      · rw [va_up_ne' e3, va_up_ne' e3]
        exact h4 x (by omega)
    · rw [e2]
      show cnN (va_up (pRl Q) (pMk Q) (-5)) (pMk Q) + (if (va_up (pRl Q) (pMk Q) (-5) (pMk Q)).toInt < 0 then 1 else 0) + pRs Q = pMk Q + 1
      rw [va_up_eq, if_pos (by decide), cnN_congr (g := pRl Q) _ (fun x hx => va_up_ne' (by omega))]
      omega
theorem InvF_cm {ld : LD} {cols lc : Nat} {tl : Nat → Nat} {z : Nat} {ky : Int} {P : PS} (h : InvF ld cols lc P) (ht : ∀ k, tl k ≤ 4) (hm : pMk P < lc) (hlc : lc ≤ 24) : InvF ld cols lc (cmS ld cols tl z ky P) := by
  have g := InvF_st (z := z) h ht
  refine InvF_nx g.1 g.2 ?_ hlc
  show (stS ld cols tl z P).2.2.2.2.2.2.1 < lc
  rw [stS_2]
  exact hm
theorem InvF_go {ld : LD} {cols lc : Nat} {tl : Nat → Nat} {z : Nat} {ky : Int} {P : PS} (h : InvF ld cols lc P) (ht : ∀ k, tl k ≤ 4) (hlc : lc ≤ 24) : ∀ j, pMk P + j ≤ lc → InvF ld cols lc (goS ld cols tl z ky j P) ∧ pMk (goS ld cols tl z ky j P) = pMk P + j
  | 0, _ => ⟨h, rfl⟩
  | j + 1, hj => by
    have i1 := InvF_go (z := z) (ky := ky) h ht hlc j (by omega)
    have i2 := InvP_go (z := z) (ky := ky) h.1 ht (j + 1) hj
    exact ⟨InvF_cm i1.1 ht (by rw [i1.2]; omega) hlc, i2.2⟩
theorem InvF_rs {ld : LD} {cols lc : Nat} (P : PS) : InvF ld cols lc (rs0 P) := ⟨InvP_rs P (fun _ => Nat.zero_le 4), fun h => absurd h (Nat.lt_irrefl 0), fun r hr => absurd hr (Nat.not_lt_zero r), fun x hx => absurd hx (Nat.not_lt_zero x), rfl⟩
