
/-! A LINE MORE -/
def ldU (ld : LD) (k0 : Nat) (tx : Nat → Nat) (n : Nat) : LD := (va_up ld.1 k0 (nF tx n), va_up ld.2.1 k0 (FM tx n), va_up ld.2.2.1 k0 (NM tx n), va_up ld.2.2.2.1 k0 (WD tx n), va_up ld.2.2.2.2.1 k0 (fLen tx n), va_up ld.2.2.2.2.2 k0 (fBy tx n))
theorem ldU_at (ld : LD) (k0 : Nat) (tx : Nat → Nat) (n : Nat) : dNf (ldU ld k0 tx n) k0 = nF tx n ∧ dFm (ldU ld k0 tx n) k0 = FM tx n ∧ dNm (ldU ld k0 tx n) k0 = NM tx n ∧ dWd (ldU ld k0 tx n) k0 = WD tx n ∧ dBl (ldU ld k0 tx n) k0 = fLen tx n ∧ dBs (ldU ld k0 tx n) k0 = fBy tx n := ⟨va_up_eq, va_up_eq, va_up_eq, va_up_eq, va_up_eq, va_up_eq⟩
theorem ldU_ne {ld : LD} {k0 : Nat} {tx : Nat → Nat} {n k : Nat} (h : ¬ k = k0) : dNf (ldU ld k0 tx n) k = dNf ld k ∧ dFm (ldU ld k0 tx n) k = dFm ld k ∧ dNm (ldU ld k0 tx n) k = dNm ld k ∧ dWd (ldU ld k0 tx n) k = dWd ld k ∧ dBl (ldU ld k0 tx n) k = dBl ld k ∧ dBs (ldU ld k0 tx n) k = dBs ld k := ⟨va_up_ne' h, va_up_ne' h, va_up_ne' h, va_up_ne' h, va_up_ne' h, va_up_ne' h⟩
theorem InvF_ld {ld : LD} {cols lc : Nat} {tx : Nat → Nat} {n : Nat} {P : PS} (h : InvF ld cols lc P) : InvF (ldU ld lc tx n) cols (lc + 1) P := by
  obtain ⟨⟨a1, a2, a3, a4⟩, h2, h3, h4, h5⟩ := h
  refine ⟨⟨a1, by omega, fun r hr => ?_, a4⟩, h2, fun r hr c hc => ?_, h4, h5⟩
  · have := a3 r hr
    exact ⟨by omega, by rw [(ldU_ne (by omega)).1]; exact this.2⟩
  · have := a3 r hr
    rw [(ldU_ne (tx := tx) (n := n) (show ¬ pLr P r = lc by omega)).2.1]
    exact h3 r hr c hc
theorem hfm_ld {ld : LD} {lc : Nat} {tx : Nat → Nat} {n : Nat} (h : ∀ k i, dFm ld k i ≤ 4) : ∀ k i, dFm (ldU ld lc tx n) k i ≤ 4 := fun k i => by
  by_cases e : k = lc
  · rw [e, (ldU_at ld lc tx n).2.1]
    exact formS_le _ _
  · rw [(ldU_ne e).2.1]
    exact h k i
theorem sca_1000 {b : Nat → Nat} {len : Nat} (h : (numF b len).2.2 = 0) : scaS b len 0 * lN 1000 = scaS b len 3 := by
  have e : (numF b len).1 * 10 ^ (0 - 0) * 1000 = (numF b len).1 * 10 ^ (3 - 0) := by
    rw [show (10 : Nat) ^ (0 - 0) = 1 from rfl, show (10 : Nat) ^ (3 - 0) = 1000 from rfl, Nat.mul_one]
  unfold scaS
  rw [h]
  by_cases c : 0 < len ∧ b 0 = 45
  · rw [if_pos c, if_pos c, Int64.neg_mul, lN_mul, e]
  · rw [if_neg c, if_neg c, lN_mul, e]
theorem EX_exD {t : Nat → Nat} {n i : Nat} : EX t n i = if FM t n i = 1 then NM t n i * lN 1000 else NM t n i := by
  unfold EX
  have h4 := formS_le (fBy t n i) (fLen t n i)
  have hN : NM t n i = numS (fBy t n i) (fLen t n i) (FM t n i) := rfl
  have hF : FM t n i = formS (fBy t n i) (fLen t n i) := rfl
  rw [hN]
  by_cases f1 : FM t n i = 1
  · rw [if_pos (Or.inl f1), if_pos f1, f1]
    exact (sca_1000 (num_1 (by omega)).2).symm
  · rw [if_neg f1]
    by_cases f2 : FM t n i = 2
    · rw [if_pos (Or.inr f2), f2]
      rfl
    · rw [if_neg (by omega)]
      by_cases f3 : FM t n i = 3
      · rw [if_pos f3, f3]
        rfl
      · rw [if_neg f3]
        unfold numS
        rw [if_neg f1, if_neg f2, if_neg f3]
theorem MdL_ld {ld : LD} {lc : Nat} {tx : Nat → Nat} {n : Nat} {fn fo fo2 : Nat → Nat} {ex wo ex2 wo2 : Nat → Int64} (h : MdL ld lc fn fo ex wo) (hw : wkO tx n lc fo2 ex2 wo2 (min 5 (nF tx n))) (hs : ∀ q, q < 5 * lc ∨ 5 * lc + 5 ≤ q → fo2 q = fo q ∧ ex2 q = ex q ∧ wo2 q = wo q) (hn : nF tx n ≤ 61) : MdL (ldU ld lc tx n) (lc + 1) (va_up fn lc (nF tx n)) fo2 ex2 wo2 := fun k hk => by
  by_cases e : k = lc
  · subst e
    obtain ⟨g1, g2, g3, g4, g5, g6⟩ := ldU_at ld k tx n
    rw [va_up_eq, g1]
    refine ⟨rfl, hn, fun i h5 hi => ?_⟩
    obtain ⟨w1, w2, w3⟩ := hw i (by omega)
    unfold exD
    rw [g2, g3, g4]
    refine ⟨w1, w2.trans EX_exD, w3, fun f1 => ?_⟩
    have hn1 := num_1 (b := fBy tx n i) (len := fLen tx n i) f1
    show (numS (fBy tx n i) (fLen tx n i) (FM tx n i)).toInt.natAbs < 1000000
    rw [f1]
    show (scaS (fBy tx n i) (fLen tx n i) 0).toInt.natAbs < 1000000
    refine sca_abs ?_ (by decide)
    rw [Nat.zero_sub, Nat.pow_zero, Nat.mul_one]
    exact hn1.1
  · obtain ⟨g1, g2, g3, g4, g5, g6⟩ := ldU_ne (ld := ld) (tx := tx) (n := n) e
    have hk2 := h k (by omega)
    rw [va_up_ne' e, g1]
    refine ⟨hk2.1, hk2.2.1, fun i h5 hi => ?_⟩
    have hq := hs (5 * k + i) (Or.inl (by omega))
    unfold exD
    rw [g2, g3, g4, hq.1, hq.2.1, hq.2.2]
    exact hk2.2.2 i h5 hi
theorem MdB_ld {ld : LD} {lc : Nat} {tx : Nat → Nat} {n : Nat} {by9 by2 lz : Nat → Nat} {lt : Nat → Nat → Nat} {ln : Nat → Nat} (h : MdB ld lc by9 lz lt ln) (hn : n ≤ 60) (htx : ∀ k, tx k < 128) (hL : lfA tx n = -1) (h1 : ∀ q, q < 60 * lc → by2 q = by9 q) (h2 : ∀ j, j < n → by2 (60 * lc + j) = tx j) : MdB (ldU ld lc tx n) (lc + 1) by2 (va_up lz lc n) (va_up lt lc tx) (va_up ln lc n) := fun k hk => by
  by_cases e : k = lc
  · subst e
    obtain ⟨g1, g2, g3, g4, g5, g6⟩ := ldU_at ld k tx n
    rw [va_up_eq, va_up_eq, va_up_eq, g1, g2, g3, g4, g5, g6]
    exact ⟨rfl, hn, h2, htx, rfl, fun i hi => ⟨lfA_len hL i hi, rfl, rfl, rfl, rfl, rfl⟩⟩
  · obtain ⟨g1, g2, g3, g4, g5, g6⟩ := ldU_ne (ld := ld) (tx := tx) (n := n) e
    have hk2 := h k (by omega)
    rw [va_up_ne' e, va_up_ne' e, va_up_ne' e, g1, g2, g3, g4, g5, g6]
    refine ⟨hk2.1, hk2.2.1, fun j hj => ?_, hk2.2.2.2⟩
    rw [h1 _ (by have := hk2.2.1; omega)]
    exact hk2.2.2.1 j hj
theorem fdK_of {ld : LD} {lc : Nat} {by9 lz : Nat → Nat} {lt : Nat → Nat → Nat} {ln : Nat → Nat} (h : MdB ld lc by9 lz lt ln) {k i : Nat} (hk : k < lc) (hi : i < dNf ld k) : fdK ld k i := by
  obtain ⟨_, _, _, a4, _, a6⟩ := h k hk
  obtain ⟨b1, b2, b3, _, b5, b6⟩ := a6 i hi
  unfold fdK
  rw [b5, b6]
  exact ⟨b1, fun j => a4 _, b2, b3.trans (by rw [b2]; rfl)⟩
theorem shk_of {ld : LD} {cols lc : Nat} {P : PS} {by9 lz : Nat → Nat} {lt : Nat → Nat → Nat} {ln : Nat → Nat} (h : MdB ld lc by9 lz lt ln) (hF : InvF ld cols lc P) : ∀ r c, r < pRs P → c < cols → shK ld (pLr P r) c (pSt P c) := fun r c hr hc => by
  have h1 := hF.1.2.2.1 r hr
  have h2 := hF.1.1
  exact fdK_sh (fdK_of h h1.1 (by rw [h1.2]; exact hc)) (hF.2.2.1 r hr c hc) (hF.2.1 (by omega) c hc)
theorem shk_ty {ld : LD} {cols lc : Nat} {P : PS} {tl : Nat → Nat} {z : Nat} {by9 lz : Nat → Nat} {lt : Nat → Nat → Nat} {ln : Nat → Nat} (h : MdB ld lc by9 lz lt ln) (hF : InvF ld cols lc P) : ∀ r c, r < pRs P → c < cols → shK ld (pLr P r) c (tyS (pSt P) tl ld c z) := fun r c hr hc => by
  have h2 := hF.1.1
  rw [tyS_s (hF.2.1 (by omega) c hc)]
  exact shk_of h hF r c hr hc
theorem TbL_ld {cy : Nat → ClassId} {pl pl2 : va_W} {lc : Nat} {lnf : Nat → Option Nat} {ld : LD} {tx : Nat → Nat} {n a fa : Nat} {ad : Nat → Option Nat} (h : TbL cy pl lc lnf ld) (hs : ∀ q ∈ pl, q ∈ pl2) (h1 : (a, .inr (3, [.ref fa])) ∈ pl2) (h2 : (fa, .inl (cy 3, nF tx n, .inr (.inr (.inr (.inr ad))))) ∈ pl2) (hn : nF tx n ≤ 61) (hL : LnF cy pl2 tx n ad) : TbL cy pl2 (lc + 1) (va_up lnf lc (some a)) (ldU ld lc tx n) := fun k hk => by
  by_cases e : k = lc
  · subst e
    obtain ⟨g1, g2, g3, g4, g5, g6⟩ := ldU_at ld k tx n
    rw [va_up_eq, g1, g2, g3, g4, g5, g6]
    exact ⟨a, fa, ad, rfl, h1, h2, hn, hL⟩
  · obtain ⟨g1, g2, g3, g4, g5, g6⟩ := ldU_ne (ld := ld) (tx := tx) (n := n) e
    obtain ⟨a', fa', ad', k1, k2, k3, k4, k5⟩ := h k (by omega)
    rw [va_up_ne' e, g1, g2, g3, g4, g5, g6]
    exact ⟨a', fa', ad', k1, hs _ k2, hs _ k3, k4, k5.more hs⟩
theorem TbL_more {cy : Nat → ClassId} {pl pl2 : va_W} {lc : Nat} {lnf : Nat → Option Nat} {ld : LD} (h : TbL cy pl lc lnf ld) (hs : ∀ q ∈ pl, q ∈ pl2) : TbL cy pl2 lc lnf ld := fun k hk => by
  obtain ⟨a', fa', ad', k1, k2, k3, k4, k5⟩ := h k hk
  exact ⟨a', fa', ad', k1, hs _ k2, hs _ k3, k4, k5.more hs⟩
