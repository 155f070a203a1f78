
/-- two PROGRESSES that differ in nothing that shows -/
def eqP (P Q : PS) : Prop := pSt P = pSt Q ∧ pMk P = pMk Q ∧ pRs P = pRs Q ∧ (∀ x, x < pMk P → pFa P x = pFa Q x ∧ pCa P x = pCa Q x ∧ pDc P x = pDc Q x ∧ pRl P x = pRl Q x) ∧ ∀ r, r < pRs P → pLr P r = pLr Q r
theorem dpS_congr {ld : LD} {st lr lr' : Nat → Nat} {q k rs : Nat} (h : ∀ r, r < rs → lr r = lr' r) : dpS ld st lr q k rs = dpS ld st lr' q k rs :=
  runLen_cong _ _ (fun j _ h2 => by unfold dpB; rw [h j h2])
theorem ftS_congr {ld : LD} {cols : Nat} {st lr lr' : Nat → Nat} {rs : Nat} {ky : Int} {k : Nat} (h : ∀ r, r < rs → lr r = lr' r) : ftS ld cols st lr rs ky k = ftS ld cols st lr' rs ky k := by
  unfold ftS
  rw [dpS_congr (ld := ld) (st := st) (q := ky.toNat) (k := k) h]
  by_cases h2 : dpS ld st lr' ky.toNat k rs < rs
  · rw [h _ h2]
  · rw [if_neg h2, if_neg h2]
theorem up_eq {α : Type} {f g : Nat → α} {n : Nat} {v : α} (h : ∀ x, x < n → f x = g x) : ∀ x, x < n + 1 → va_up f n v x = va_up g n v x := fun x hx => by
  unfold va_up
  split
  · rfl
  · exact h x (by omega)
theorem eqP_nx {ld : LD} {cols : Nat} {ky : Int} {P Q : PS} (h : eqP P Q) : eqP (nxS ld cols ky P) (nxS ld cols ky Q) := by
  obtain ⟨h1, h2, h3, h4, h5⟩ := h
  have e : ftP ld cols ky P = ftP ld cols ky Q := by
    show ftS ld cols (pSt P) (pLr P) (pRs P) ky (pMk P) = ftS ld cols (pSt Q) (pLr Q) (pRs Q) ky (pMk Q)
    rw [ftS_congr h5, h1, h2, h3]
  have a1 := fun v => up_eq (v := v) (fun x hx => (h4 x hx).1)
  have a2 := fun v => up_eq (v := v) (fun x hx => (h4 x hx).2.1)
  have a3 := fun v => up_eq (v := v) (fun x hx => (h4 x hx).2.2.1)
  have a4 := fun v => up_eq (v := v) (fun x hx => (h4 x hx).2.2.2)
  unfold nxS
  rw [e]
  split
  · refine ⟨h1, by show pMk P + 1 = pMk Q + 1; rw [h2], by show pRs P + 1 = pRs Q + 1; rw [h3], fun x hx => ?_, fun r hr => ?_⟩
    · show va_up (pFa P) (pMk P) _ x = va_up (pFa Q) (pMk Q) _ x ∧ va_up (pCa P) (pMk P) _ x = va_up (pCa Q) (pMk Q) _ x ∧ va_up (pDc P) (pMk P) _ x = va_up (pDc Q) (pMk Q) _ x ∧ va_up (pRl P) (pMk P) (nI (pRs P)) x = va_up (pRl Q) (pMk Q) (nI (pRs Q)) x
      rw [← h2, ← h3]
      exact ⟨a1 _ x hx, a2 _ x hx, a3 _ x hx, a4 _ x hx⟩
    · show va_up (pLr P) (pRs P) (pMk P) r = va_up (pLr Q) (pRs Q) (pMk Q) r
      rw [← h3, ← h2]
      exact up_eq h5 r hr
  · refine ⟨h1, by show pMk P + 1 = pMk Q + 1; rw [h2], h3, fun x hx => ?_, h5⟩
    show va_up (pFa P) (pMk P) _ x = va_up (pFa Q) (pMk Q) _ x ∧ va_up (pCa P) (pMk P) _ x = va_up (pCa Q) (pMk Q) _ x ∧ va_up (pDc P) (pMk P) _ x = va_up (pDc Q) (pMk Q) _ x ∧ va_up (pRl P) (pMk P) _ x = va_up (pRl Q) (pMk Q) _ x
    rw [← h2]
    exact ⟨a1 _ x hx, a2 _ x hx, a3 _ x hx, a4 _ x hx⟩
theorem eqP_it {ld : LD} {cols : Nat} {ky : Int} {P Q : PS} (h : eqP P Q) : ∀ j, eqP (itS ld cols ky j P) (itS ld cols ky j Q)
  | 0 => h
  | j + 1 => eqP_nx (eqP_it h j)
theorem eqP_rh {ld : LD} {cols lc : Nat} {tl : Nat → Nat} {z : Nat} {tc : Int} {ty : Nat} {ky : Int} (P Q : PS) : eqP (rhS ld cols lc tl z tc ty ky P) (rhS ld cols lc tl z tc ty ky Q) :=
  eqP_it (P := (seS cols tc ty tl ld z (fun _ => 0), (rs0 P).2)) (Q := (seS cols tc ty tl ld z (fun _ => 0), (rs0 Q).2)) ⟨rfl, rfl, rfl, fun x hx => absurd hx (Nat.not_lt_zero x), fun r hr => absurd hr (Nat.not_lt_zero r)⟩ lc
theorem fpA_congr {P Q : PS} (h : eqP P Q) (x y : Int) : fpA P x y = fpA Q x y := by
  unfold fpA
  rw [← h.2.1]
  by_cases c : x < 0 ∨ pMk P ≤ x
  · rw [if_pos c, if_pos c]
  · rw [if_neg c, if_neg c]
    have := h.2.2.2.1 x.toNat (by omega)
    rw [this.1, this.2.1, this.2.2.1]
theorem ssS_congr {P Q : PS} (h : eqP P Q) (H : HR) : ssS P H = ssS Q H := by
  have e : ssB P H.2.1 H.2.2 = ssB Q H.2.1 H.2.2 := funext fun i => by
    unfold ssB
    rw [fpA_congr h]
  unfold ssS
  rw [e]
abbrev psZ : PS := (fun _ => 0, fun _ => 0, fun _ => 0, fun _ => 0, fun _ => 0, fun _ => 0, 0, 0)
/-- whether by a SAMPLE all is as SEEN -/
def fiT (ld : LD) (cols lc : Nat) (tl : Nat → Nat) (ky : Int) (H : HR) (s : Nat) : Bool := decide (ssS (rhS ld cols lc tl (min s lc) (-1) 0 ky psZ) H = H.1)
theorem fiT_t {ld : LD} {cols lc : Nat} {tl : Nat → Nat} {ky : Int} {H : HR} {s : Nat} {Q : PS} (h : ssS (rhS ld cols lc tl (min s lc) (-1) 0 ky Q) H = H.1) : fiT ld cols lc tl ky H s = true :=
  decide_eq_true ((ssS_congr (eqP_rh psZ Q) H).trans h)
theorem fiT_f {ld : LD} {cols lc : Nat} {tl : Nat → Nat} {ky : Int} {H : HR} {s : Nat} {Q : PS} (h : ssS (rhS ld cols lc tl (min s lc) (-1) 0 ky Q) H < H.1) : fiT ld cols lc tl ky H s = false :=
  decide_eq_false (fun z => by rw [ssS_congr (eqP_rh psZ Q) H] at z; omega)
def fiC (B : Nat → Bool) : Nat → Nat
  | 0 => 0
  | s + 1 => if B (s + 1) = true then fiC B s + 1 else fiC B s
theorem fiC_le (B : Nat → Bool) : ∀ s, fiC B s ≤ s
  | 0 => Nat.le_refl 0
  | s + 1 => by
    have := fiC_le B s
    unfold fiC
    split <;> omega
def fiL (B : Nat → Bool) : Nat → Int32
  | 0 => -5
  | s + 1 => if (fiL B s).toInt = -5 then (if B (s + 1) = true then nI (s + 1) else -5) else fiL B s
theorem fi_s {s : Nat} (h : 1 ≤ s) : s + 1 - 1 = (s - 1) + 1 ∧ s - 1 + 1 = s := by omega
theorem fiC_t {B : Nat → Bool} {s : Nat} (h : 1 ≤ s) (hb : B s = true) : fiC B (s + 1 - 1) = fiC B (s - 1) + 1 := by
  rw [(fi_s h).1]
  show (if B (s - 1 + 1) = true then _ else _) = _
  rw [(fi_s h).2]
  exact if_pos hb
theorem fiC_f {B : Nat → Bool} {s : Nat} (h : 1 ≤ s) (hb : B s = false) : fiC B (s + 1 - 1) = fiC B (s - 1) := by
  rw [(fi_s h).1]
  show (if B (s - 1 + 1) = true then _ else _) = _
  rw [(fi_s h).2, hb]
  rfl
theorem fiL_k {B : Nat → Bool} {s : Nat} (h : 1 ≤ s) (hl : ¬ (fiL B (s - 1)).toInt = -5) : fiL B (s + 1 - 1) = fiL B (s - 1) := by
  rw [(fi_s h).1]
  exact if_neg hl
theorem fiL_t {B : Nat → Bool} {s : Nat} (h : 1 ≤ s) (hl : (fiL B (s - 1)).toInt = -5) (hb : B s = true) : fiL B (s + 1 - 1) = nI s := by
  rw [(fi_s h).1]
  refine (if_pos hl).trans ?_
  rw [(fi_s h).2]
  exact if_pos hb
theorem fiL_f {B : Nat → Bool} {s : Nat} (h : 1 ≤ s) (hb : B s = false) : fiL B (s + 1 - 1) = fiL B (s - 1) := by
  by_cases hl : (fiL B (s - 1)).toInt = -5
  · rw [(fi_s h).1]
    refine (if_pos hl).trans ?_
    rw [(fi_s h).2, hb]
    exact (Int32.toInt_inj.mp (hl.trans rfl)).symm
  · exact fiL_k h hl
def fitA (B : Nat → Bool) (w : Int) : Int32 := if ¬ w = 0 ∧ ¬ w = 1 then -1 else if w = 0 then nI (fiC B 24) else fiL B 24

set_option maxHeartbeats 4000000 in
set_option maxRecDepth 100000 in
/-- fits -/
theorem c_X9_fits (l : Launch) (D : va_G) (cy : Nat → ClassId) (fi : Nat) (tO : Nat) (gO : Nat) (nO : Nat) (tb : Nat) (tb' : Nat) (trO : Nat) (gA : Nat) (tP : Nat) (kf : Nat) (nz : Nat) (tl : Nat) (pg : Nat) (se : Nat) (pa : Nat) (bo : Nat) (li : Nat) (ba : Nat) (cols : Nat) (lc : Nat) (smp : Nat) (nzf : Nat → Nat) (tlf : Nat → Nat) (lnf : Nat → Option Nat) (bal : Nat → Nat) (g0 : Nat) (g1 : Nat) (g2 : Nat) (g3 : Nat) (g4 : Nat) (g5 : Nat) (P : PS) (ky : Int32) (ld : LD) (pl : va_W) (s1 : Nat) (s2 : Nat) (nse : Nat) (fs : Nat → Int32) (gs : Nat → Int32) (t0 : Nat) (t1 : Nat) (t2 : Nat) (t3 : Nat) (t4 : Nat) (t5 : Nat) (Z : PS) (kz : Int32) (x : Int32) (hcols : cols ≤ 5) (hlc : lc ≤ 24) (hTL : TbL cy pl lc lnf ld) (hfm : ∀ k i, dFm ld k i ≤ 4) (htl : ∀ k, tlf k ≤ 4) (hsmp : smp ≤ 24) (hnse : nse ≤ 6) : xMet l D cy xT yX9_fits wsX9_fits ({ frames := 9, cells := 0, slots := 0, locals := 1100 } : Room) [.ref fi, .int (x)] [(fi, .inr (8, [.ref tO, .ref gO, .ref nO, .ref tb, .ref tb', .ref trO, .ref gA, .ref tP, .int (nI kf)])), (tb, .inr (6, [.ref nz, .ref tl, .ref pg, .ref se, .ref pa, .ref bo, .ref li, .ref ba, .int (nI cols), .int (nI lc), .int (nI smp)])), (nz, .inl (cy 1, 5, .inl (fun k => nI (nzf k)))), (tl, .inl (cy 1, 5, .inl (fun k => nI (tlf k)))), (li, .inl (cy 4, 24, .inr (.inr (.inr (.inr lnf))))), (ba, .inl (cy 1, 5, .inl (fun k => nI (bal k)))), (pg, .inr (4, [.ref g0, .ref g1, .ref g2, .ref g3, .ref g4, .ref g5, .int (nI (pMk P)), .int (nI (pRs P)), .int (ky)])), (g0, .inl (cy 1, 5, .inl (fun k => nI ((pSt P) k)))), (g1, .inl (cy 1, 24, .inl (pFa P))), (g2, .inl (cy 1, 24, .inl (pCa P))), (g3, .inl (cy 1, 24, .inl (pDc P))), (g4, .inl (cy 1, 24, .inl (pRl P))), (g5, .inl (cy 1, 24, .inl (fun k => nI ((pLr P) k)))), (se, .inr (1, [.ref s1, .ref s2, .int (nI nse)])), (s1, .inl (cy 1, 6, .inl fs)), (s2, .inl (cy 1, 6, .inl gs)), (trO, .inr (4, [.ref t0, .ref t1, .ref t2, .ref t3, .ref t4, .ref t5, .int (nI (pMk Z)), .int (nI (pRs Z)), .int (kz)])), (t0, .inl (cy 1, 5, .inl (fun k => nI ((pSt Z) k)))), (t1, .inl (cy 1, 24, .inl (pFa Z))), (t2, .inl (cy 1, 24, .inl (pCa Z))), (t3, .inl (cy 1, 24, .inl (pDc Z))), (t4, .inl (cy 1, 24, .inl (pRl Z))), (t5, .inl (cy 1, 24, .inl (fun k => nI ((pLr Z) k))))] pl (fun (v9 : Option Value) (w9 : va_W) => (∃ b2 : Nat → Nat, ∃ Z2 : PS, ∃ k2 : Int32, v9 = some (.int (fitA (fiT ld cols lc tlf ky.toInt (nse, fs, gs)) x.toInt)) ∧ w9 = [(fi, .inr (8, [.ref tO, .ref gO, .ref nO, .ref tb, .ref tb', .ref trO, .ref gA, .ref tP, .int (nI kf)])), (tb, .inr (6, [.ref nz, .ref tl, .ref pg, .ref se, .ref pa, .ref bo, .ref li, .ref ba, .int (nI cols), .int (nI lc), .int (nI smp)])), (nz, .inl (cy 1, 5, .inl (fun k => nI (nzf k)))), (tl, .inl (cy 1, 5, .inl (fun k => nI (tlf k)))), (li, .inl (cy 4, 24, .inr (.inr (.inr (.inr lnf))))), (ba, .inl (cy 1, 5, .inl (fun k => nI (b2 k)))), (pg, .inr (4, [.ref g0, .ref g1, .ref g2, .ref g3, .ref g4, .ref g5, .int (nI (pMk P)), .int (nI (pRs P)), .int (ky)])), (g0, .inl (cy 1, 5, .inl (fun k => nI ((pSt P) k)))), (g1, .inl (cy 1, 24, .inl (pFa P))), (g2, .inl (cy 1, 24, .inl (pCa P))), (g3, .inl (cy 1, 24, .inl (pDc P))), (g4, .inl (cy 1, 24, .inl (pRl P))), (g5, .inl (cy 1, 24, .inl (fun k => nI ((pLr P) k)))), (se, .inr (1, [.ref s1, .ref s2, .int (nI nse)])), (s1, .inl (cy 1, 6, .inl fs)), (s2, .inl (cy 1, 6, .inl gs)), (trO, .inr (4, [.ref t0, .ref t1, .ref t2, .ref t3, .ref t4, .ref t5, .int (nI (pMk Z2)), .int (nI (pRs Z2)), .int (k2)])), (t0, .inl (cy 1, 5, .inl (fun k => nI ((pSt Z2) k)))), (t1, .inl (cy 1, 24, .inl (pFa Z2))), (t2, .inl (cy 1, 24, .inl (pCa Z2))), (t3, .inl (cy 1, 24, .inl (pDc Z2))), (t4, .inl (cy 1, 24, .inl (pRl Z2))), (t5, .inl (cy 1, 24, .inl (fun k => nI ((pLr Z2) k))))])) := by
  refine xMet_of (cc := cX9_fits) (maxL := 5) (ret := (some .int)) (by decide) rfl (Nat.le_of_ble_eq_true rfl) (fun p e s m args below meth c A R Q hA hR hQ C hr hnm hro hX => ?_)
  have hw0 : ∀ w ∈ u_ws RX9 TX9 9, w ∈ wsX9_fits := by decide +kernel
  have hw1 : Cond.fieldLink RX9 33 (TX9 3).1 (TX9 3).2.1 (TX9 3).2.2.1 ∈ wsX9_fits := by decide +kernel
  have hw2 : Cond.fieldLink RX9 43 (TX9 5).1 (TX9 5).2.1 (TX9 5).2.2.1 ∈ wsX9_fits := by decide +kernel
  refine x_L (L' := [(0, .ref fi), (1, .int (x))]) [0, 1] rfl ?_
  have hpool : ∀ q ∈ pl, xRo D A s q := hro
  have z5 : (-5 : Int32).toInt = -5 := rfl
  refine x_iload_n C dX9_fits_0 (q := 1) rfl rfl 1 rfl ?_
  refine x_if_eq C (tgt := 11) dX9_fits_1 (by decide) (q := 4) rfl (a := x.toInt) rfl (fun h1 => ?_) (fun h1 => ?_)
  · first
    | (exfalso; omega)
    |
      refine x_iconst C dX9_fits_11 (q := 12) rfl (v := nI 0) (by decide) ?_
      refine x_istore_n C (L' := [(2, .int (nI 0)), (0, .ref fi), (1, .int (x))]) dX9_fits_12 (q := 13) rfl rfl (by decide) rfl ?_
      refine x_bipush C dX9_fits_13 (q := 15) rfl (v := (-5)) (by decide) ?_
      refine x_istore_n C (L' := [(3, .int ((-5))), (2, .int (nI 0)), (0, .ref fi), (1, .int (x))]) dX9_fits_15 (q := 16) rfl rfl (by decide) rfl ?_
      refine x_iconst C dX9_fits_16 (q := 17) rfl (v := nI 1) (by decide) ?_
      refine x_istore C (L' := [(4, .int (nI 1)), (3, .int ((-5))), (2, .int (nI 0)), (0, .ref fi), (1, .int (x))]) dX9_fits_17 (q := 19) rfl (by decide) rfl ?_
      have cut19 : ∀ (fuel : Nat) (sz : Nat) (cn : Nat) (le : Int32) (b9 : Nat → Nat) (Zq : PS) (kq : Int32), (1 ≤ sz) → (sz ≤ 25) → (cn = fiC (fiT ld cols lc tlf ky.toInt (nse, fs, gs)) (sz - 1)) → (le = fiL (fiT ld cols lc tlf ky.toInt (nse, fs, gs)) (sz - 1)) → 25 - sz < fuel → xG p l e R s m args below meth c Q D A 5 [(fi, .inr (8, [.ref tO, .ref gO, .ref nO, .ref tb, .ref tb', .ref trO, .ref gA, .ref tP, .int (nI kf)])), (tb, .inr (6, [.ref nz, .ref tl, .ref pg, .ref se, .ref pa, .ref bo, .ref li, .ref ba, .int (nI cols), .int (nI lc), .int (nI smp)])), (nz, .inl (cy 1, 5, .inl (fun k => nI (nzf k)))), (tl, .inl (cy 1, 5, .inl (fun k => nI (tlf k)))), (li, .inl (cy 4, 24, .inr (.inr (.inr (.inr lnf))))), (ba, .inl (cy 1, 5, .inl (fun k => nI (b9 k)))), (pg, .inr (4, [.ref g0, .ref g1, .ref g2, .ref g3, .ref g4, .ref g5, .int (nI (pMk P)), .int (nI (pRs P)), .int (ky)])), (g0, .inl (cy 1, 5, .inl (fun k => nI ((pSt P) k)))), (g1, .inl (cy 1, 24, .inl (pFa P))), (g2, .inl (cy 1, 24, .inl (pCa P))), (g3, .inl (cy 1, 24, .inl (pDc P))), (g4, .inl (cy 1, 24, .inl (pRl P))), (g5, .inl (cy 1, 24, .inl (fun k => nI ((pLr P) k)))), (se, .inr (1, [.ref s1, .ref s2, .int (nI nse)])), (s1, .inl (cy 1, 6, .inl fs)), (s2, .inl (cy 1, 6, .inl gs)), (trO, .inr (4, [.ref t0, .ref t1, .ref t2, .ref t3, .ref t4, .ref t5, .int (nI (pMk Zq)), .int (nI (pRs Zq)), .int (kq)])), (t0, .inl (cy 1, 5, .inl (fun k => nI ((pSt Zq) k)))), (t1, .inl (cy 1, 24, .inl (pFa Zq))), (t2, .inl (cy 1, 24, .inl (pCa Zq))), (t3, .inl (cy 1, 24, .inl (pDc Zq))), (t4, .inl (cy 1, 24, .inl (pRl Zq))), (t5, .inl (cy 1, 24, .inl (fun k => nI ((pLr Zq) k))))] 0 0 19 [(0, .ref fi), (1, .int (x)), (2, .int (nI cn)), (3, .int (le)), (4, .int (nI sz))] [] := by
        intro fuel
        induction fuel with
        | zero =>
          intro sz cn le b9 Zq kq h1 h2 hcn hle hmu
          exact absurd hmu (Nat.not_lt_zero _)
        | succ fuel ih =>
          intro sz cn le b9 Zq kq h1 h2 hcn hle hmu
          have hc9 := fiC_le (fiT ld cols lc tlf ky.toInt (nse, fs, gs)) (sz - 1)
          have ih19 := ih
          clear ih
          refine x_iload C dX9_fits_19 (q := 21) rfl 4 rfl ?_
          refine x_bipush C dX9_fits_21 (q := 23) rfl (v := nI 24) (by decide) ?_
          refine x_icmp_gt C (tgt := 70) dX9_fits_23 (by decide) (q := 26) rfl (a := ((sz : Nat) : Int)) (b := 24) (nI_toInt (by omega)) rfl (fun h2 => ?_) (fun h2 => ?_)
          · first
            | (exfalso; omega)
            |
              refine x_iload_n C dX9_fits_70 (q := 71) rfl rfl 1 rfl ?_
              refine x_if_ne C (tgt := 78) dX9_fits_71 (by decide) (q := 74) rfl (a := x.toInt) rfl (fun h3 => ?_) (fun h3 => ?_)
              · first
                | (exfalso; omega)
                |
                  refine x_iload_n C dX9_fits_78 (q := 79) rfl rfl 3 rfl ?_
                  refine x_iret C hA hQ hr dX9_fits_79 (Nat.le_of_ble_eq_true rfl) ?_
                  have e9 : sz - 1 = 24 := by omega
                  rw [e9] at hcn hle
                  refine ⟨_, _, _, ?_, rfl⟩
                  unfold fitA
                  (repeat (first | rw [if_pos (by omega)] | rw [if_neg (by omega)]))
                  first | rw [hcn] | rw [hle]
              · first
                | (exfalso; omega)
                |
                  refine x_iload_n C dX9_fits_74 (q := 75) rfl rfl 2 rfl ?_
                  refine x_goto C (tgt := 79) dX9_fits_75 (by decide) ?_
                  refine x_iret C hA hQ hr dX9_fits_79 (Nat.le_of_ble_eq_true rfl) ?_
                  have e9 : sz - 1 = 24 := by omega
                  rw [e9] at hcn hle
                  refine ⟨_, _, _, ?_, rfl⟩
                  unfold fitA
                  (repeat (first | rw [if_pos (by omega)] | rw [if_neg (by omega)]))
                  first | rw [hcn] | rw [hle]
          · first
            | (exfalso; omega)
            |
              refine x_aload_n C dX9_fits_26 (q := 27) rfl rfl 0 rfl ?_
              refine x_get C (ci := 8) (v := .ref tb) hw0 0 rfl rfl 3 (by decide) hw1 rfl dX9_fits_27 (q := 30) rfl ?_
              refine x_aload_n C dX9_fits_30 (q := 31) rfl rfl 0 rfl ?_
              refine x_get C (ci := 8) (v := .ref trO) hw0 0 rfl rfl 5 (by decide) hw2 rfl dX9_fits_31 (q := 34) rfl ?_
              refine x_iload C dX9_fits_34 (q := 36) rfl 4 rfl ?_
              refine x_iconst C dX9_fits_36 (q := 37) rfl (v := (-1)) (by decide) ?_
              refine x_iconst C dX9_fits_37 (q := 38) rfl (v := nI 0) (by decide) ?_
              refine x_callV C (roW := []) (roR := pl) (c_X7_rehearse l D cy tb nz tl pg se pa bo li ba cols lc smp tlf lnf b9 trO t0 t1 t2 t3 t4 t5 Zq kq g0 g1 g2 g3 g4 g5 (pMk P) (pRs P) ky ld pl sz (-1) ((-1)) 0 (by first | assumption | omega | (simp only []; omega)) (by first | assumption | omega | (simp only []; omega)) (by assumption) (by assumption) (by assumption) (by first | assumption | omega | (simp only []; omega)) (by first | assumption | omega | (simp only []; omega)) (by rfl)) (cwV 4 C.2.2.2.2.1 gX9_fits_X7_rehearse rfl rfl rfl (by decide +kernel) (by rw [hR]; exact ⟨Nat.le_of_ble_eq_true rfl, Nat.le_of_ble_eq_true rfl⟩)) [1, 3, 4, 5, 6, 16, 17, 18, 19, 20, 21, 22] [] rfl (by decide) rfl (by decide) hpool (List.mem_of_getElem? (i := 0) rfl) (ci := 6) rfl xT_bl (fun _ _ _ _ _ _ _ => trivial) rfl rfl dX9_fits_38 rfl rfl (Nat.le_of_ble_eq_true rfl) (q := 41) rfl (k' := 0) rfl (n' := 0) rfl (by rw [hR]; exact ⟨Nat.le_of_ble_eq_true rfl, Nat.le_of_ble_eq_true rfl⟩) (fun v4 w4 hp4 => ?_)
              obtain ⟨b2_5, rfl, rfl⟩ := hp4
              refine x_ws (ws' := [(fi, .inr (8, [.ref tO, .ref gO, .ref nO, .ref tb, .ref tb', .ref trO, .ref gA, .ref tP, .int (nI kf)])), (tb, .inr (6, [.ref nz, .ref tl, .ref pg, .ref se, .ref pa, .ref bo, .ref li, .ref ba, .int (nI cols), .int (nI lc), .int (nI smp)])), (nz, .inl (cy 1, 5, .inl (fun k => nI (nzf k)))), (tl, .inl (cy 1, 5, .inl (fun k => nI (tlf k)))), (li, .inl (cy 4, 24, .inr (.inr (.inr (.inr lnf))))), (ba, .inl (cy 1, 5, .inl (fun k => nI (b2_5 k)))), (pg, .inr (4, [.ref g0, .ref g1, .ref g2, .ref g3, .ref g4, .ref g5, .int (nI (pMk P)), .int (nI (pRs P)), .int (ky)])), (g0, .inl (cy 1, 5, .inl (fun k => nI ((pSt P) k)))), (g1, .inl (cy 1, 24, .inl (pFa P))), (g2, .inl (cy 1, 24, .inl (pCa P))), (g3, .inl (cy 1, 24, .inl (pDc P))), (g4, .inl (cy 1, 24, .inl (pRl P))), (g5, .inl (cy 1, 24, .inl (fun k => nI ((pLr P) k)))), (se, .inr (1, [.ref s1, .ref s2, .int (nI nse)])), (s1, .inl (cy 1, 6, .inl fs)), (s2, .inl (cy 1, 6, .inl gs)), (trO, .inr (4, [.ref t0, .ref t1, .ref t2, .ref t3, .ref t4, .ref t5, .int (nI (pMk (rhS ld cols lc tlf (min sz lc) ((-1)) 0 ky.toInt Zq))), .int (nI (pRs (rhS ld cols lc tlf (min sz lc) ((-1)) 0 ky.toInt Zq))), .int (ky)])), (t0, .inl (cy 1, 5, .inl (fun k => nI ((pSt (rhS ld cols lc tlf (min sz lc) ((-1)) 0 ky.toInt Zq)) k)))), (t1, .inl (cy 1, 24, .inl (pFa (rhS ld cols lc tlf (min sz lc) ((-1)) 0 ky.toInt Zq)))), (t2, .inl (cy 1, 24, .inl (pCa (rhS ld cols lc tlf (min sz lc) ((-1)) 0 ky.toInt Zq)))), (t3, .inl (cy 1, 24, .inl (pDc (rhS ld cols lc tlf (min sz lc) ((-1)) 0 ky.toInt Zq)))), (t4, .inl (cy 1, 24, .inl (pRl (rhS ld cols lc tlf (min sz lc) ((-1)) 0 ky.toInt Zq)))), (t5, .inl (cy 1, 24, .inl (fun k => nI ((pLr (rhS ld cols lc tlf (min sz lc) ((-1)) 0 ky.toInt Zq)) k))))]) (xput_eq2 [1, 3, 4, 5, 6, 16, 17, 18, 19, 20, 21, 22] [0, 2, 7, 8, 9, 10, 11, 12, 13, 14, 15] 23 [(fi, .inr (8, [.ref tO, .ref gO, .ref nO, .ref tb, .ref tb', .ref trO, .ref gA, .ref tP, .int (nI kf)])), (nz, .inl (cy 1, 5, .inl (fun k => nI (nzf k)))), (g0, .inl (cy 1, 5, .inl (fun k => nI ((pSt P) k)))), (g1, .inl (cy 1, 24, .inl (pFa P))), (g2, .inl (cy 1, 24, .inl (pCa P))), (g3, .inl (cy 1, 24, .inl (pDc P))), (g4, .inl (cy 1, 24, .inl (pRl P))), (g5, .inl (cy 1, 24, .inl (fun k => nI ((pLr P) k)))), (se, .inr (1, [.ref s1, .ref s2, .int (nI nse)])), (s1, .inl (cy 1, 6, .inl fs)), (s2, .inl (cy 1, 6, .inl gs))] rfl rfl (by decide) rfl rfl rfl (by decide)) ?_
              have hW9 := InvP_rh (ld := ld) (cols := cols) (lc := lc) (tl := tlf) (z := min sz lc) (ty := 0) (tc := -1) (ky := ky.toInt) (P := Zq) htl (by omega)
              have hW8 := hW9.1.1
              have hW7 := hW9.2
              refine x_aload_n C dX9_fits_41 (q := 42) rfl rfl 0 rfl ?_
              refine x_aload_n C dX9_fits_42 (q := 43) rfl rfl 0 rfl ?_
              refine x_get C (ci := 8) (v := .ref trO) hw0 0 rfl rfl 5 (by decide) hw2 rfl dX9_fits_43 (q := 46) rfl ?_
              refine x_callV C (roW := []) (roR := []) (c_X9_isSeenSo l D cy fi tO gO nO tb tb' trO gA tP kf nz tl pg se pa bo li ba cols lc smp s1 s2 nse fs gs trO t0 t1 t2 t3 t4 t5 (rhS ld cols lc tlf (min sz lc) ((-1)) 0 ky.toInt Zq) ky (by first | assumption | omega | (simp only []; omega)) (by first | assumption | omega | (simp only []; omega)) (by first | assumption | omega | (simp only []; omega))) (cwV 1 C.2.2.2.2.1 gX9_fits_X9_isSeenSo rfl rfl rfl (by decide +kernel) (by rw [hR]; exact ⟨Nat.le_of_ble_eq_true rfl, Nat.le_of_ble_eq_true rfl⟩)) [0, 1, 13, 14, 15, 16, 17, 18, 19, 20, 21, 22] [] rfl (by decide) rfl (by decide) xro_nil (List.mem_of_getElem? (i := 0) rfl) (ci := 8) rfl xT_bl (fun _ _ _ _ _ _ _ => trivial) rfl rfl dX9_fits_46 rfl rfl (Nat.le_of_ble_eq_true rfl) (q := 49) rfl (k' := 0) rfl (n' := 0) rfl (by rw [hR]; exact ⟨Nat.le_of_ble_eq_true rfl, Nat.le_of_ble_eq_true rfl⟩) (fun v6 w6 hp6 => ?_)
              rcases hp6 with hp6 | hp6
              · skip
                obtain ⟨rfl, rfl, hc7⟩ := hp6
                refine x_ws (ws' := [(fi, .inr (8, [.ref tO, .ref gO, .ref nO, .ref tb, .ref tb', .ref trO, .ref gA, .ref tP, .int (nI kf)])), (tb, .inr (6, [.ref nz, .ref tl, .ref pg, .ref se, .ref pa, .ref bo, .ref li, .ref ba, .int (nI cols), .int (nI lc), .int (nI smp)])), (nz, .inl (cy 1, 5, .inl (fun k => nI (nzf k)))), (tl, .inl (cy 1, 5, .inl (fun k => nI (tlf k)))), (li, .inl (cy 4, 24, .inr (.inr (.inr (.inr lnf))))), (ba, .inl (cy 1, 5, .inl (fun k => nI (b2_5 k)))), (pg, .inr (4, [.ref g0, .ref g1, .ref g2, .ref g3, .ref g4, .ref g5, .int (nI (pMk P)), .int (nI (pRs P)), .int (ky)])), (g0, .inl (cy 1, 5, .inl (fun k => nI ((pSt P) k)))), (g1, .inl (cy 1, 24, .inl (pFa P))), (g2, .inl (cy 1, 24, .inl (pCa P))), (g3, .inl (cy 1, 24, .inl (pDc P))), (g4, .inl (cy 1, 24, .inl (pRl P))), (g5, .inl (cy 1, 24, .inl (fun k => nI ((pLr P) k)))), (se, .inr (1, [.ref s1, .ref s2, .int (nI nse)])), (s1, .inl (cy 1, 6, .inl fs)), (s2, .inl (cy 1, 6, .inl gs)), (trO, .inr (4, [.ref t0, .ref t1, .ref t2, .ref t3, .ref t4, .ref t5, .int (nI (pMk (rhS ld cols lc tlf (min sz lc) ((-1)) 0 ky.toInt Zq))), .int (nI (pRs (rhS ld cols lc tlf (min sz lc) ((-1)) 0 ky.toInt Zq))), .int (ky)])), (t0, .inl (cy 1, 5, .inl (fun k => nI ((pSt (rhS ld cols lc tlf (min sz lc) ((-1)) 0 ky.toInt Zq)) k)))), (t1, .inl (cy 1, 24, .inl (pFa (rhS ld cols lc tlf (min sz lc) ((-1)) 0 ky.toInt Zq)))), (t2, .inl (cy 1, 24, .inl (pCa (rhS ld cols lc tlf (min sz lc) ((-1)) 0 ky.toInt Zq)))), (t3, .inl (cy 1, 24, .inl (pDc (rhS ld cols lc tlf (min sz lc) ((-1)) 0 ky.toInt Zq)))), (t4, .inl (cy 1, 24, .inl (pRl (rhS ld cols lc tlf (min sz lc) ((-1)) 0 ky.toInt Zq)))), (t5, .inl (cy 1, 24, .inl (fun k => nI ((pLr (rhS ld cols lc tlf (min sz lc) ((-1)) 0 ky.toInt Zq)) k))))]) (xput_eq2 [0, 1, 13, 14, 15, 16, 17, 18, 19, 20, 21, 22] [2, 3, 4, 5, 6, 7, 8, 9, 10, 11, 12] 23 [(nz, .inl (cy 1, 5, .inl (fun k => nI (nzf k)))), (tl, .inl (cy 1, 5, .inl (fun k => nI (tlf k)))), (li, .inl (cy 4, 24, .inr (.inr (.inr (.inr lnf))))), (ba, .inl (cy 1, 5, .inl (fun k => nI (b2_5 k)))), (pg, .inr (4, [.ref g0, .ref g1, .ref g2, .ref g3, .ref g4, .ref g5, .int (nI (pMk P)), .int (nI (pRs P)), .int (ky)])), (g0, .inl (cy 1, 5, .inl (fun k => nI ((pSt P) k)))), (g1, .inl (cy 1, 24, .inl (pFa P))), (g2, .inl (cy 1, 24, .inl (pCa P))), (g3, .inl (cy 1, 24, .inl (pDc P))), (g4, .inl (cy 1, 24, .inl (pRl P))), (g5, .inl (cy 1, 24, .inl (fun k => nI ((pLr P) k))))] rfl rfl (by decide) rfl rfl rfl (by decide)) ?_
                have hB9 : fiT ld cols lc tlf ky.toInt (nse, fs, gs) sz = true := fiT_t hc7
                refine x_if_eq C (tgt := 64) dX9_fits_49 (by decide) (q := 52) rfl (a := 1) rfl (fun h8 => (by omega : False).elim) (fun h8 => ?_)
                refine x_iinc C (L' := [(2, .int (nI (cn + 1))), (0, .ref fi), (1, .int (x)), (3, .int (le)), (4, .int (nI sz))]) dX9_fits_52 (q := 55) rfl 2 rfl (v := nI (cn + 1)) (nI_add cn 1) (by decide) rfl ?_
                refine x_iload_n C dX9_fits_55 (q := 56) rfl rfl 3 rfl ?_
                refine x_bipush C dX9_fits_56 (q := 58) rfl (v := (-5)) (by decide) ?_
                refine x_icmp_ne C (tgt := 64) dX9_fits_58 (by decide) (q := 61) rfl (a := le.toInt) (b := (-5)) rfl rfl (fun h9 => ?_) (fun h9 => ?_)
                · first
                  | (exfalso; omega)
                  |
                    refine x_iinc C (L' := [(4, .int (nI (sz + 1))), (2, .int (nI (cn + 1))), (0, .ref fi), (1, .int (x)), (3, .int (le))]) dX9_fits_64 (q := 67) rfl 4 rfl (v := nI (sz + 1)) (nI_add sz 1) (by decide) rfl ?_
                    refine x_goto C (tgt := 19) dX9_fits_67 (by decide) ?_
                    refine x_L (L' := [(0, .ref fi), (1, .int (x)), (2, .int (nI (cn + 1))), (3, .int (le)), (4, .int (nI (sz + 1)))]) [2, 3, 1, 4, 0] rfl ?_
                    exact ih19 (sz + 1) (cn + 1) le b2_5 (rhS ld cols lc tlf (min sz lc) ((-1)) 0 ky.toInt Zq) ky (by first | omega | assumption) (by first | omega | assumption) (by first | exact (congrArg (· + 1) hcn).trans (fiC_t h1 hB9).symm | exact hcn.trans (fiC_f h1 hB9).symm) (by first | exact hle.trans (fiL_f h1 hB9).symm | exact (fiL_t h1 (by rw [← hle]; assumption) hB9).symm | exact hle.trans (fiL_k h1 (by rw [← hle]; assumption)).symm) (by omega)
                · first
                  | (exfalso; omega)
                  |
                    refine x_iload C dX9_fits_61 (q := 63) rfl 4 rfl ?_
                    refine x_istore_n C (L' := [(3, .int (nI sz)), (2, .int (nI (cn + 1))), (0, .ref fi), (1, .int (x)), (4, .int (nI sz))]) dX9_fits_63 (q := 64) rfl rfl (by decide) rfl ?_
                    refine x_iinc C (L' := [(4, .int (nI (sz + 1))), (3, .int (nI sz)), (2, .int (nI (cn + 1))), (0, .ref fi), (1, .int (x))]) dX9_fits_64 (q := 67) rfl 4 rfl (v := nI (sz + 1)) (nI_add sz 1) (by decide) rfl ?_
                    refine x_goto C (tgt := 19) dX9_fits_67 (by decide) ?_
                    refine x_L (L' := [(0, .ref fi), (1, .int (x)), (2, .int (nI (cn + 1))), (3, .int (nI sz)), (4, .int (nI (sz + 1)))]) [3, 4, 2, 1, 0] rfl ?_
                    exact ih19 (sz + 1) (cn + 1) (nI sz) b2_5 (rhS ld cols lc tlf (min sz lc) ((-1)) 0 ky.toInt Zq) ky (by first | omega | assumption) (by first | omega | assumption) (by first | exact (congrArg (· + 1) hcn).trans (fiC_t h1 hB9).symm | exact hcn.trans (fiC_f h1 hB9).symm) (by first | exact hle.trans (fiL_f h1 hB9).symm | exact (fiL_t h1 (by rw [← hle]; assumption) hB9).symm | exact hle.trans (fiL_k h1 (by rw [← hle]; assumption)).symm) (by omega)
              · skip
                obtain ⟨rfl, rfl, hc10⟩ := hp6
                refine x_ws (ws' := [(fi, .inr (8, [.ref tO, .ref gO, .ref nO, .ref tb, .ref tb', .ref trO, .ref gA, .ref tP, .int (nI kf)])), (tb, .inr (6, [.ref nz, .ref tl, .ref pg, .ref se, .ref pa, .ref bo, .ref li, .ref ba, .int (nI cols), .int (nI lc), .int (nI smp)])), (nz, .inl (cy 1, 5, .inl (fun k => nI (nzf k)))), (tl, .inl (cy 1, 5, .inl (fun k => nI (tlf k)))), (li, .inl (cy 4, 24, .inr (.inr (.inr (.inr lnf))))), (ba, .inl (cy 1, 5, .inl (fun k => nI (b2_5 k)))), (pg, .inr (4, [.ref g0, .ref g1, .ref g2, .ref g3, .ref g4, .ref g5, .int (nI (pMk P)), .int (nI (pRs P)), .int (ky)])), (g0, .inl (cy 1, 5, .inl (fun k => nI ((pSt P) k)))), (g1, .inl (cy 1, 24, .inl (pFa P))), (g2, .inl (cy 1, 24, .inl (pCa P))), (g3, .inl (cy 1, 24, .inl (pDc P))), (g4, .inl (cy 1, 24, .inl (pRl P))), (g5, .inl (cy 1, 24, .inl (fun k => nI ((pLr P) k)))), (se, .inr (1, [.ref s1, .ref s2, .int (nI nse)])), (s1, .inl (cy 1, 6, .inl fs)), (s2, .inl (cy 1, 6, .inl gs)), (trO, .inr (4, [.ref t0, .ref t1, .ref t2, .ref t3, .ref t4, .ref t5, .int (nI (pMk (rhS ld cols lc tlf (min sz lc) ((-1)) 0 ky.toInt Zq))), .int (nI (pRs (rhS ld cols lc tlf (min sz lc) ((-1)) 0 ky.toInt Zq))), .int (ky)])), (t0, .inl (cy 1, 5, .inl (fun k => nI ((pSt (rhS ld cols lc tlf (min sz lc) ((-1)) 0 ky.toInt Zq)) k)))), (t1, .inl (cy 1, 24, .inl (pFa (rhS ld cols lc tlf (min sz lc) ((-1)) 0 ky.toInt Zq)))), (t2, .inl (cy 1, 24, .inl (pCa (rhS ld cols lc tlf (min sz lc) ((-1)) 0 ky.toInt Zq)))), (t3, .inl (cy 1, 24, .inl (pDc (rhS ld cols lc tlf (min sz lc) ((-1)) 0 ky.toInt Zq)))), (t4, .inl (cy 1, 24, .inl (pRl (rhS ld cols lc tlf (min sz lc) ((-1)) 0 ky.toInt Zq)))), (t5, .inl (cy 1, 24, .inl (fun k => nI ((pLr (rhS ld cols lc tlf (min sz lc) ((-1)) 0 ky.toInt Zq)) k))))]) (xput_eq2 [0, 1, 13, 14, 15, 16, 17, 18, 19, 20, 21, 22] [2, 3, 4, 5, 6, 7, 8, 9, 10, 11, 12] 23 [(nz, .inl (cy 1, 5, .inl (fun k => nI (nzf k)))), (tl, .inl (cy 1, 5, .inl (fun k => nI (tlf k)))), (li, .inl (cy 4, 24, .inr (.inr (.inr (.inr lnf))))), (ba, .inl (cy 1, 5, .inl (fun k => nI (b2_5 k)))), (pg, .inr (4, [.ref g0, .ref g1, .ref g2, .ref g3, .ref g4, .ref g5, .int (nI (pMk P)), .int (nI (pRs P)), .int (ky)])), (g0, .inl (cy 1, 5, .inl (fun k => nI ((pSt P) k)))), (g1, .inl (cy 1, 24, .inl (pFa P))), (g2, .inl (cy 1, 24, .inl (pCa P))), (g3, .inl (cy 1, 24, .inl (pDc P))), (g4, .inl (cy 1, 24, .inl (pRl P))), (g5, .inl (cy 1, 24, .inl (fun k => nI ((pLr P) k))))] rfl rfl (by decide) rfl rfl rfl (by decide)) ?_
                have hB9 : fiT ld cols lc tlf ky.toInt (nse, fs, gs) sz = false := fiT_f hc10
                refine x_if_eq C (tgt := 64) dX9_fits_49 (by decide) (q := 52) rfl (a := 0) rfl (fun h11 => ?_) (fun h11 => (by omega : False).elim)
                refine x_iinc C (L' := [(4, .int (nI (sz + 1))), (0, .ref fi), (1, .int (x)), (2, .int (nI cn)), (3, .int (le))]) dX9_fits_64 (q := 67) rfl 4 rfl (v := nI (sz + 1)) (nI_add sz 1) (by decide) rfl ?_
                refine x_goto C (tgt := 19) dX9_fits_67 (by decide) ?_
                refine x_L (L' := [(0, .ref fi), (1, .int (x)), (2, .int (nI cn)), (3, .int (le)), (4, .int (nI (sz + 1)))]) [1, 2, 3, 4, 0] rfl ?_
                exact ih19 (sz + 1) cn le b2_5 (rhS ld cols lc tlf (min sz lc) ((-1)) 0 ky.toInt Zq) ky (by first | omega | assumption) (by first | omega | assumption) (by first | exact (congrArg (· + 1) hcn).trans (fiC_t h1 hB9).symm | exact hcn.trans (fiC_f h1 hB9).symm) (by first | exact hle.trans (fiL_f h1 hB9).symm | exact (fiL_t h1 (by rw [← hle]; assumption) hB9).symm | exact hle.trans (fiL_k h1 (by rw [← hle]; assumption)).symm) (by omega)
      refine x_L (L' := [(0, .ref fi), (1, .int (x)), (2, .int (nI 0)), (3, .int (-5)), (4, .int (nI 1))]) [3, 4, 2, 1, 0] rfl ?_
      exact cut19 (25 - 1 + 1) 1 0 (-5) bal Z kz (by first | omega | assumption) (by first | omega | assumption) (by rfl) (by rfl) (by omega)
  · first
    | (exfalso; omega)
    |
      refine x_iload_n C dX9_fits_4 (q := 5) rfl rfl 1 rfl ?_
      refine x_iconst C dX9_fits_5 (q := 6) rfl (v := nI 1) (by decide) ?_
      refine x_icmp_eq C (tgt := 11) dX9_fits_6 (by decide) (q := 9) rfl (a := x.toInt) (b := 1) rfl rfl (fun h12 => ?_) (fun h12 => ?_)
      · first
        | (exfalso; omega)
        |
          refine x_iconst C dX9_fits_11 (q := 12) rfl (v := nI 0) (by decide) ?_
          refine x_istore_n C (L' := [(2, .int (nI 0)), (0, .ref fi), (1, .int (x))]) dX9_fits_12 (q := 13) rfl rfl (by decide) rfl ?_
          refine x_bipush C dX9_fits_13 (q := 15) rfl (v := (-5)) (by decide) ?_
          refine x_istore_n C (L' := [(3, .int ((-5))), (2, .int (nI 0)), (0, .ref fi), (1, .int (x))]) dX9_fits_15 (q := 16) rfl rfl (by decide) rfl ?_
          refine x_iconst C dX9_fits_16 (q := 17) rfl (v := nI 1) (by decide) ?_
          refine x_istore C (L' := [(4, .int (nI 1)), (3, .int ((-5))), (2, .int (nI 0)), (0, .ref fi), (1, .int (x))]) dX9_fits_17 (q := 19) rfl (by decide) rfl ?_
          have cut19 : ∀ (fuel : Nat) (sz : Nat) (cn : Nat) (le : Int32) (b9 : Nat → Nat) (Zq : PS) (kq : Int32), (1 ≤ sz) → (sz ≤ 25) → (cn = fiC (fiT ld cols lc tlf ky.toInt (nse, fs, gs)) (sz - 1)) → (le = fiL (fiT ld cols lc tlf ky.toInt (nse, fs, gs)) (sz - 1)) → 25 - sz < fuel → xG p l e R s m args below meth c Q D A 5 [(fi, .inr (8, [.ref tO, .ref gO, .ref nO, .ref tb, .ref tb', .ref trO, .ref gA, .ref tP, .int (nI kf)])), (tb, .inr (6, [.ref nz, .ref tl, .ref pg, .ref se, .ref pa, .ref bo, .ref li, .ref ba, .int (nI cols), .int (nI lc), .int (nI smp)])), (nz, .inl (cy 1, 5, .inl (fun k => nI (nzf k)))), (tl, .inl (cy 1, 5, .inl (fun k => nI (tlf k)))), (li, .inl (cy 4, 24, .inr (.inr (.inr (.inr lnf))))), (ba, .inl (cy 1, 5, .inl (fun k => nI (b9 k)))), (pg, .inr (4, [.ref g0, .ref g1, .ref g2, .ref g3, .ref g4, .ref g5, .int (nI (pMk P)), .int (nI (pRs P)), .int (ky)])), (g0, .inl (cy 1, 5, .inl (fun k => nI ((pSt P) k)))), (g1, .inl (cy 1, 24, .inl (pFa P))), (g2, .inl (cy 1, 24, .inl (pCa P))), (g3, .inl (cy 1, 24, .inl (pDc P))), (g4, .inl (cy 1, 24, .inl (pRl P))), (g5, .inl (cy 1, 24, .inl (fun k => nI ((pLr P) k)))), (se, .inr (1, [.ref s1, .ref s2, .int (nI nse)])), (s1, .inl (cy 1, 6, .inl fs)), (s2, .inl (cy 1, 6, .inl gs)), (trO, .inr (4, [.ref t0, .ref t1, .ref t2, .ref t3, .ref t4, .ref t5, .int (nI (pMk Zq)), .int (nI (pRs Zq)), .int (kq)])), (t0, .inl (cy 1, 5, .inl (fun k => nI ((pSt Zq) k)))), (t1, .inl (cy 1, 24, .inl (pFa Zq))), (t2, .inl (cy 1, 24, .inl (pCa Zq))), (t3, .inl (cy 1, 24, .inl (pDc Zq))), (t4, .inl (cy 1, 24, .inl (pRl Zq))), (t5, .inl (cy 1, 24, .inl (fun k => nI ((pLr Zq) k))))] 0 0 19 [(0, .ref fi), (1, .int (x)), (2, .int (nI cn)), (3, .int (le)), (4, .int (nI sz))] [] := by
            intro fuel
            induction fuel with
            | zero =>
              intro sz cn le b9 Zq kq h1 h2 hcn hle hmu
              exact absurd hmu (Nat.not_lt_zero _)
            | succ fuel ih =>
              intro sz cn le b9 Zq kq h1 h2 hcn hle hmu
              have hc9 := fiC_le (fiT ld cols lc tlf ky.toInt (nse, fs, gs)) (sz - 1)
              have ih19 := ih
              clear ih
              refine x_iload C dX9_fits_19 (q := 21) rfl 4 rfl ?_
              refine x_bipush C dX9_fits_21 (q := 23) rfl (v := nI 24) (by decide) ?_
              refine x_icmp_gt C (tgt := 70) dX9_fits_23 (by decide) (q := 26) rfl (a := ((sz : Nat) : Int)) (b := 24) (nI_toInt (by omega)) rfl (fun h13 => ?_) (fun h13 => ?_)
              · first
                | (exfalso; omega)
                |
                  refine x_iload_n C dX9_fits_70 (q := 71) rfl rfl 1 rfl ?_
                  refine x_if_ne C (tgt := 78) dX9_fits_71 (by decide) (q := 74) rfl (a := x.toInt) rfl (fun h14 => ?_) (fun h14 => ?_)
                  · first
                    | (exfalso; omega)
                    |
                      refine x_iload_n C dX9_fits_78 (q := 79) rfl rfl 3 rfl ?_
                      refine x_iret C hA hQ hr dX9_fits_79 (Nat.le_of_ble_eq_true rfl) ?_
                      have e9 : sz - 1 = 24 := by omega
                      rw [e9] at hcn hle
                      refine ⟨_, _, _, ?_, rfl⟩
                      unfold fitA
                      (repeat (first | rw [if_pos (by omega)] | rw [if_neg (by omega)]))
                      first | rw [hcn] | rw [hle]
                  · first
                    | (exfalso; omega)
                    |
                      refine x_iload_n C dX9_fits_74 (q := 75) rfl rfl 2 rfl ?_
                      refine x_goto C (tgt := 79) dX9_fits_75 (by decide) ?_
                      refine x_iret C hA hQ hr dX9_fits_79 (Nat.le_of_ble_eq_true rfl) ?_
                      have e9 : sz - 1 = 24 := by omega
                      rw [e9] at hcn hle
                      refine ⟨_, _, _, ?_, rfl⟩
                      unfold fitA
                      (repeat (first | rw [if_pos (by omega)] | rw [if_neg (by omega)]))
                      first | rw [hcn] | rw [hle]
              · first
                | (exfalso; omega)
                |
                  refine x_aload_n C dX9_fits_26 (q := 27) rfl rfl 0 rfl ?_
                  refine x_get C (ci := 8) (v := .ref tb) hw0 0 rfl rfl 3 (by decide) hw1 rfl dX9_fits_27 (q := 30) rfl ?_
                  refine x_aload_n C dX9_fits_30 (q := 31) rfl rfl 0 rfl ?_
                  refine x_get C (ci := 8) (v := .ref trO) hw0 0 rfl rfl 5 (by decide) hw2 rfl dX9_fits_31 (q := 34) rfl ?_
                  refine x_iload C dX9_fits_34 (q := 36) rfl 4 rfl ?_
                  refine x_iconst C dX9_fits_36 (q := 37) rfl (v := (-1)) (by decide) ?_
                  refine x_iconst C dX9_fits_37 (q := 38) rfl (v := nI 0) (by decide) ?_
                  refine x_callV C (roW := []) (roR := pl) (c_X7_rehearse l D cy tb nz tl pg se pa bo li ba cols lc smp tlf lnf b9 trO t0 t1 t2 t3 t4 t5 Zq kq g0 g1 g2 g3 g4 g5 (pMk P) (pRs P) ky ld pl sz (-1) ((-1)) 0 (by first | assumption | omega | (simp only []; omega)) (by first | assumption | omega | (simp only []; omega)) (by assumption) (by assumption) (by assumption) (by first | assumption | omega | (simp only []; omega)) (by first | assumption | omega | (simp only []; omega)) (by rfl)) (cwV 4 C.2.2.2.2.1 gX9_fits_X7_rehearse rfl rfl rfl (by decide +kernel) (by rw [hR]; exact ⟨Nat.le_of_ble_eq_true rfl, Nat.le_of_ble_eq_true rfl⟩)) [1, 3, 4, 5, 6, 16, 17, 18, 19, 20, 21, 22] [] rfl (by decide) rfl (by decide) hpool (List.mem_of_getElem? (i := 0) rfl) (ci := 6) rfl xT_bl (fun _ _ _ _ _ _ _ => trivial) rfl rfl dX9_fits_38 rfl rfl (Nat.le_of_ble_eq_true rfl) (q := 41) rfl (k' := 0) rfl (n' := 0) rfl (by rw [hR]; exact ⟨Nat.le_of_ble_eq_true rfl, Nat.le_of_ble_eq_true rfl⟩) (fun v15 w15 hp15 => ?_)
                  obtain ⟨b2_16, rfl, rfl⟩ := hp15
                  refine x_ws (ws' := [(fi, .inr (8, [.ref tO, .ref gO, .ref nO, .ref tb, .ref tb', .ref trO, .ref gA, .ref tP, .int (nI kf)])), (tb, .inr (6, [.ref nz, .ref tl, .ref pg, .ref se, .ref pa, .ref bo, .ref li, .ref ba, .int (nI cols), .int (nI lc), .int (nI smp)])), (nz, .inl (cy 1, 5, .inl (fun k => nI (nzf k)))), (tl, .inl (cy 1, 5, .inl (fun k => nI (tlf k)))), (li, .inl (cy 4, 24, .inr (.inr (.inr (.inr lnf))))), (ba, .inl (cy 1, 5, .inl (fun k => nI (b2_16 k)))), (pg, .inr (4, [.ref g0, .ref g1, .ref g2, .ref g3, .ref g4, .ref g5, .int (nI (pMk P)), .int (nI (pRs P)), .int (ky)])), (g0, .inl (cy 1, 5, .inl (fun k => nI ((pSt P) k)))), (g1, .inl (cy 1, 24, .inl (pFa P))), (g2, .inl (cy 1, 24, .inl (pCa P))), (g3, .inl (cy 1, 24, .inl (pDc P))), (g4, .inl (cy 1, 24, .inl (pRl P))), (g5, .inl (cy 1, 24, .inl (fun k => nI ((pLr P) k)))), (se, .inr (1, [.ref s1, .ref s2, .int (nI nse)])), (s1, .inl (cy 1, 6, .inl fs)), (s2, .inl (cy 1, 6, .inl gs)), (trO, .inr (4, [.ref t0, .ref t1, .ref t2, .ref t3, .ref t4, .ref t5, .int (nI (pMk (rhS ld cols lc tlf (min sz lc) ((-1)) 0 ky.toInt Zq))), .int (nI (pRs (rhS ld cols lc tlf (min sz lc) ((-1)) 0 ky.toInt Zq))), .int (ky)])), (t0, .inl (cy 1, 5, .inl (fun k => nI ((pSt (rhS ld cols lc tlf (min sz lc) ((-1)) 0 ky.toInt Zq)) k)))), (t1, .inl (cy 1, 24, .inl (pFa (rhS ld cols lc tlf (min sz lc) ((-1)) 0 ky.toInt Zq)))), (t2, .inl (cy 1, 24, .inl (pCa (rhS ld cols lc tlf (min sz lc) ((-1)) 0 ky.toInt Zq)))), (t3, .inl (cy 1, 24, .inl (pDc (rhS ld cols lc tlf (min sz lc) ((-1)) 0 ky.toInt Zq)))), (t4, .inl (cy 1, 24, .inl (pRl (rhS ld cols lc tlf (min sz lc) ((-1)) 0 ky.toInt Zq)))), (t5, .inl (cy 1, 24, .inl (fun k => nI ((pLr (rhS ld cols lc tlf (min sz lc) ((-1)) 0 ky.toInt Zq)) k))))]) (xput_eq2 [1, 3, 4, 5, 6, 16, 17, 18, 19, 20, 21, 22] [0, 2, 7, 8, 9, 10, 11, 12, 13, 14, 15] 23 [(fi, .inr (8, [.ref tO, .ref gO, .ref nO, .ref tb, .ref tb', .ref trO, .ref gA, .ref tP, .int (nI kf)])), (nz, .inl (cy 1, 5, .inl (fun k => nI (nzf k)))), (g0, .inl (cy 1, 5, .inl (fun k => nI ((pSt P) k)))), (g1, .inl (cy 1, 24, .inl (pFa P))), (g2, .inl (cy 1, 24, .inl (pCa P))), (g3, .inl (cy 1, 24, .inl (pDc P))), (g4, .inl (cy 1, 24, .inl (pRl P))), (g5, .inl (cy 1, 24, .inl (fun k => nI ((pLr P) k)))), (se, .inr (1, [.ref s1, .ref s2, .int (nI nse)])), (s1, .inl (cy 1, 6, .inl fs)), (s2, .inl (cy 1, 6, .inl gs))] rfl rfl (by decide) rfl rfl rfl (by decide)) ?_
                  have hW9 := InvP_rh (ld := ld) (cols := cols) (lc := lc) (tl := tlf) (z := min sz lc) (ty := 0) (tc := -1) (ky := ky.toInt) (P := Zq) htl (by omega)
                  have hW8 := hW9.1.1
                  have hW7 := hW9.2
                  refine x_aload_n C dX9_fits_41 (q := 42) rfl rfl 0 rfl ?_
                  refine x_aload_n C dX9_fits_42 (q := 43) rfl rfl 0 rfl ?_
                  refine x_get C (ci := 8) (v := .ref trO) hw0 0 rfl rfl 5 (by decide) hw2 rfl dX9_fits_43 (q := 46) rfl ?_
                  refine x_callV C (roW := []) (roR := []) (c_X9_isSeenSo l D cy fi tO gO nO tb tb' trO gA tP kf nz tl pg se pa bo li ba cols lc smp s1 s2 nse fs gs trO t0 t1 t2 t3 t4 t5 (rhS ld cols lc tlf (min sz lc) ((-1)) 0 ky.toInt Zq) ky (by first | assumption | omega | (simp only []; omega)) (by first | assumption | omega | (simp only []; omega)) (by first | assumption | omega | (simp only []; omega))) (cwV 1 C.2.2.2.2.1 gX9_fits_X9_isSeenSo rfl rfl rfl (by decide +kernel) (by rw [hR]; exact ⟨Nat.le_of_ble_eq_true rfl, Nat.le_of_ble_eq_true rfl⟩)) [0, 1, 13, 14, 15, 16, 17, 18, 19, 20, 21, 22] [] rfl (by decide) rfl (by decide) xro_nil (List.mem_of_getElem? (i := 0) rfl) (ci := 8) rfl xT_bl (fun _ _ _ _ _ _ _ => trivial) rfl rfl dX9_fits_46 rfl rfl (Nat.le_of_ble_eq_true rfl) (q := 49) rfl (k' := 0) rfl (n' := 0) rfl (by rw [hR]; exact ⟨Nat.le_of_ble_eq_true rfl, Nat.le_of_ble_eq_true rfl⟩) (fun v17 w17 hp17 => ?_)
                  rcases hp17 with hp17 | hp17
                  · skip
                    obtain ⟨rfl, rfl, hc18⟩ := hp17
                    refine x_ws (ws' := [(fi, .inr (8, [.ref tO, .ref gO, .ref nO, .ref tb, .ref tb', .ref trO, .ref gA, .ref tP, .int (nI kf)])), (tb, .inr (6, [.ref nz, .ref tl, .ref pg, .ref se, .ref pa, .ref bo, .ref li, .ref ba, .int (nI cols), .int (nI lc), .int (nI smp)])), (nz, .inl (cy 1, 5, .inl (fun k => nI (nzf k)))), (tl, .inl (cy 1, 5, .inl (fun k => nI (tlf k)))), (li, .inl (cy 4, 24, .inr (.inr (.inr (.inr lnf))))), (ba, .inl (cy 1, 5, .inl (fun k => nI (b2_16 k)))), (pg, .inr (4, [.ref g0, .ref g1, .ref g2, .ref g3, .ref g4, .ref g5, .int (nI (pMk P)), .int (nI (pRs P)), .int (ky)])), (g0, .inl (cy 1, 5, .inl (fun k => nI ((pSt P) k)))), (g1, .inl (cy 1, 24, .inl (pFa P))), (g2, .inl (cy 1, 24, .inl (pCa P))), (g3, .inl (cy 1, 24, .inl (pDc P))), (g4, .inl (cy 1, 24, .inl (pRl P))), (g5, .inl (cy 1, 24, .inl (fun k => nI ((pLr P) k)))), (se, .inr (1, [.ref s1, .ref s2, .int (nI nse)])), (s1, .inl (cy 1, 6, .inl fs)), (s2, .inl (cy 1, 6, .inl gs)), (trO, .inr (4, [.ref t0, .ref t1, .ref t2, .ref t3, .ref t4, .ref t5, .int (nI (pMk (rhS ld cols lc tlf (min sz lc) ((-1)) 0 ky.toInt Zq))), .int (nI (pRs (rhS ld cols lc tlf (min sz lc) ((-1)) 0 ky.toInt Zq))), .int (ky)])), (t0, .inl (cy 1, 5, .inl (fun k => nI ((pSt (rhS ld cols lc tlf (min sz lc) ((-1)) 0 ky.toInt Zq)) k)))), (t1, .inl (cy 1, 24, .inl (pFa (rhS ld cols lc tlf (min sz lc) ((-1)) 0 ky.toInt Zq)))), (t2, .inl (cy 1, 24, .inl (pCa (rhS ld cols lc tlf (min sz lc) ((-1)) 0 ky.toInt Zq)))), (t3, .inl (cy 1, 24, .inl (pDc (rhS ld cols lc tlf (min sz lc) ((-1)) 0 ky.toInt Zq)))), (t4, .inl (cy 1, 24, .inl (pRl (rhS ld cols lc tlf (min sz lc) ((-1)) 0 ky.toInt Zq)))), (t5, .inl (cy 1, 24, .inl (fun k => nI ((pLr (rhS ld cols lc tlf (min sz lc) ((-1)) 0 ky.toInt Zq)) k))))]) (xput_eq2 [0, 1, 13, 14, 15, 16, 17, 18, 19, 20, 21, 22] [2, 3, 4, 5, 6, 7, 8, 9, 10, 11, 12] 23 [(nz, .inl (cy 1, 5, .inl (fun k => nI (nzf k)))), (tl, .inl (cy 1, 5, .inl (fun k => nI (tlf k)))), (li, .inl (cy 4, 24, .inr (.inr (.inr (.inr lnf))))), (ba, .inl (cy 1, 5, .inl (fun k => nI (b2_16 k)))), (pg, .inr (4, [.ref g0, .ref g1, .ref g2, .ref g3, .ref g4, .ref g5, .int (nI (pMk P)), .int (nI (pRs P)), .int (ky)])), (g0, .inl (cy 1, 5, .inl (fun k => nI ((pSt P) k)))), (g1, .inl (cy 1, 24, .inl (pFa P))), (g2, .inl (cy 1, 24, .inl (pCa P))), (g3, .inl (cy 1, 24, .inl (pDc P))), (g4, .inl (cy 1, 24, .inl (pRl P))), (g5, .inl (cy 1, 24, .inl (fun k => nI ((pLr P) k))))] rfl rfl (by decide) rfl rfl rfl (by decide)) ?_
                    have hB9 : fiT ld cols lc tlf ky.toInt (nse, fs, gs) sz = true := fiT_t hc18
                    refine x_if_eq C (tgt := 64) dX9_fits_49 (by decide) (q := 52) rfl (a := 1) rfl (fun h19 => (by omega : False).elim) (fun h19 => ?_)
                    refine x_iinc C (L' := [(2, .int (nI (cn + 1))), (0, .ref fi), (1, .int (x)), (3, .int (le)), (4, .int (nI sz))]) dX9_fits_52 (q := 55) rfl 2 rfl (v := nI (cn + 1)) (nI_add cn 1) (by decide) rfl ?_
                    refine x_iload_n C dX9_fits_55 (q := 56) rfl rfl 3 rfl ?_
                    refine x_bipush C dX9_fits_56 (q := 58) rfl (v := (-5)) (by decide) ?_
                    refine x_icmp_ne C (tgt := 64) dX9_fits_58 (by decide) (q := 61) rfl (a := le.toInt) (b := (-5)) rfl rfl (fun h20 => ?_) (fun h20 => ?_)
                    · first
                      | (exfalso; omega)
                      |
                        refine x_iinc C (L' := [(4, .int (nI (sz + 1))), (2, .int (nI (cn + 1))), (0, .ref fi), (1, .int (x)), (3, .int (le))]) dX9_fits_64 (q := 67) rfl 4 rfl (v := nI (sz + 1)) (nI_add sz 1) (by decide) rfl ?_
                        refine x_goto C (tgt := 19) dX9_fits_67 (by decide) ?_
                        refine x_L (L' := [(0, .ref fi), (1, .int (x)), (2, .int (nI (cn + 1))), (3, .int (le)), (4, .int (nI (sz + 1)))]) [2, 3, 1, 4, 0] rfl ?_
                        exact ih19 (sz + 1) (cn + 1) le b2_16 (rhS ld cols lc tlf (min sz lc) ((-1)) 0 ky.toInt Zq) ky (by first | omega | assumption) (by first | omega | assumption) (by first | exact (congrArg (· + 1) hcn).trans (fiC_t h1 hB9).symm | exact hcn.trans (fiC_f h1 hB9).symm) (by first | exact hle.trans (fiL_f h1 hB9).symm | exact (fiL_t h1 (by rw [← hle]; assumption) hB9).symm | exact hle.trans (fiL_k h1 (by rw [← hle]; assumption)).symm) (by omega)
                    · first
                      | (exfalso; omega)
                      |
                        refine x_iload C dX9_fits_61 (q := 63) rfl 4 rfl ?_
                        refine x_istore_n C (L' := [(3, .int (nI sz)), (2, .int (nI (cn + 1))), (0, .ref fi), (1, .int (x)), (4, .int (nI sz))]) dX9_fits_63 (q := 64) rfl rfl (by decide) rfl ?_
                        refine x_iinc C (L' := [(4, .int (nI (sz + 1))), (3, .int (nI sz)), (2, .int (nI (cn + 1))), (0, .ref fi), (1, .int (x))]) dX9_fits_64 (q := 67) rfl 4 rfl (v := nI (sz + 1)) (nI_add sz 1) (by decide) rfl ?_
                        refine x_goto C (tgt := 19) dX9_fits_67 (by decide) ?_
                        refine x_L (L' := [(0, .ref fi), (1, .int (x)), (2, .int (nI (cn + 1))), (3, .int (nI sz)), (4, .int (nI (sz + 1)))]) [3, 4, 2, 1, 0] rfl ?_
                        exact ih19 (sz + 1) (cn + 1) (nI sz) b2_16 (rhS ld cols lc tlf (min sz lc) ((-1)) 0 ky.toInt Zq) ky (by first | omega | assumption) (by first | omega | assumption) (by first | exact (congrArg (· + 1) hcn).trans (fiC_t h1 hB9).symm | exact hcn.trans (fiC_f h1 hB9).symm) (by first | exact hle.trans (fiL_f h1 hB9).symm | exact (fiL_t h1 (by rw [← hle]; assumption) hB9).symm | exact hle.trans (fiL_k h1 (by rw [← hle]; assumption)).symm) (by omega)
                  · skip
                    obtain ⟨rfl, rfl, hc21⟩ := hp17
                    refine x_ws (ws' := [(fi, .inr (8, [.ref tO, .ref gO, .ref nO, .ref tb, .ref tb', .ref trO, .ref gA, .ref tP, .int (nI kf)])), (tb, .inr (6, [.ref nz, .ref tl, .ref pg, .ref se, .ref pa, .ref bo, .ref li, .ref ba, .int (nI cols), .int (nI lc), .int (nI smp)])), (nz, .inl (cy 1, 5, .inl (fun k => nI (nzf k)))), (tl, .inl (cy 1, 5, .inl (fun k => nI (tlf k)))), (li, .inl (cy 4, 24, .inr (.inr (.inr (.inr lnf))))), (ba, .inl (cy 1, 5, .inl (fun k => nI (b2_16 k)))), (pg, .inr (4, [.ref g0, .ref g1, .ref g2, .ref g3, .ref g4, .ref g5, .int (nI (pMk P)), .int (nI (pRs P)), .int (ky)])), (g0, .inl (cy 1, 5, .inl (fun k => nI ((pSt P) k)))), (g1, .inl (cy 1, 24, .inl (pFa P))), (g2, .inl (cy 1, 24, .inl (pCa P))), (g3, .inl (cy 1, 24, .inl (pDc P))), (g4, .inl (cy 1, 24, .inl (pRl P))), (g5, .inl (cy 1, 24, .inl (fun k => nI ((pLr P) k)))), (se, .inr (1, [.ref s1, .ref s2, .int (nI nse)])), (s1, .inl (cy 1, 6, .inl fs)), (s2, .inl (cy 1, 6, .inl gs)), (trO, .inr (4, [.ref t0, .ref t1, .ref t2, .ref t3, .ref t4, .ref t5, .int (nI (pMk (rhS ld cols lc tlf (min sz lc) ((-1)) 0 ky.toInt Zq))), .int (nI (pRs (rhS ld cols lc tlf (min sz lc) ((-1)) 0 ky.toInt Zq))), .int (ky)])), (t0, .inl (cy 1, 5, .inl (fun k => nI ((pSt (rhS ld cols lc tlf (min sz lc) ((-1)) 0 ky.toInt Zq)) k)))), (t1, .inl (cy 1, 24, .inl (pFa (rhS ld cols lc tlf (min sz lc) ((-1)) 0 ky.toInt Zq)))), (t2, .inl (cy 1, 24, .inl (pCa (rhS ld cols lc tlf (min sz lc) ((-1)) 0 ky.toInt Zq)))), (t3, .inl (cy 1, 24, .inl (pDc (rhS ld cols lc tlf (min sz lc) ((-1)) 0 ky.toInt Zq)))), (t4, .inl (cy 1, 24, .inl (pRl (rhS ld cols lc tlf (min sz lc) ((-1)) 0 ky.toInt Zq)))), (t5, .inl (cy 1, 24, .inl (fun k => nI ((pLr (rhS ld cols lc tlf (min sz lc) ((-1)) 0 ky.toInt Zq)) k))))]) (xput_eq2 [0, 1, 13, 14, 15, 16, 17, 18, 19, 20, 21, 22] [2, 3, 4, 5, 6, 7, 8, 9, 10, 11, 12] 23 [(nz, .inl (cy 1, 5, .inl (fun k => nI (nzf k)))), (tl, .inl (cy 1, 5, .inl (fun k => nI (tlf k)))), (li, .inl (cy 4, 24, .inr (.inr (.inr (.inr lnf))))), (ba, .inl (cy 1, 5, .inl (fun k => nI (b2_16 k)))), (pg, .inr (4, [.ref g0, .ref g1, .ref g2, .ref g3, .ref g4, .ref g5, .int (nI (pMk P)), .int (nI (pRs P)), .int (ky)])), (g0, .inl (cy 1, 5, .inl (fun k => nI ((pSt P) k)))), (g1, .inl (cy 1, 24, .inl (pFa P))), (g2, .inl (cy 1, 24, .inl (pCa P))), (g3, .inl (cy 1, 24, .inl (pDc P))), (g4, .inl (cy 1, 24, .inl (pRl P))), (g5, .inl (cy 1, 24, .inl (fun k => nI ((pLr P) k))))] rfl rfl (by decide) rfl rfl rfl (by decide)) ?_
                    have hB9 : fiT ld cols lc tlf ky.toInt (nse, fs, gs) sz = false := fiT_f hc21
                    refine x_if_eq C (tgt := 64) dX9_fits_49 (by decide) (q := 52) rfl (a := 0) rfl (fun h22 => ?_) (fun h22 => (by omega : False).elim)
                    refine x_iinc C (L' := [(4, .int (nI (sz + 1))), (0, .ref fi), (1, .int (x)), (2, .int (nI cn)), (3, .int (le))]) dX9_fits_64 (q := 67) rfl 4 rfl (v := nI (sz + 1)) (nI_add sz 1) (by decide) rfl ?_
                    refine x_goto C (tgt := 19) dX9_fits_67 (by decide) ?_
                    refine x_L (L' := [(0, .ref fi), (1, .int (x)), (2, .int (nI cn)), (3, .int (le)), (4, .int (nI (sz + 1)))]) [1, 2, 3, 4, 0] rfl ?_
                    exact ih19 (sz + 1) cn le b2_16 (rhS ld cols lc tlf (min sz lc) ((-1)) 0 ky.toInt Zq) ky (by first | omega | assumption) (by first | omega | assumption) (by first | exact (congrArg (· + 1) hcn).trans (fiC_t h1 hB9).symm | exact hcn.trans (fiC_f h1 hB9).symm) (by first | exact hle.trans (fiL_f h1 hB9).symm | exact (fiL_t h1 (by rw [← hle]; assumption) hB9).symm | exact hle.trans (fiL_k h1 (by rw [← hle]; assumption)).symm) (by omega)
          refine x_L (L' := [(0, .ref fi), (1, .int (x)), (2, .int (nI 0)), (3, .int (-5)), (4, .int (nI 1))]) [3, 4, 2, 1, 0] rfl ?_
          exact cut19 (25 - 1 + 1) 1 0 (-5) bal Z kz (by first | omega | assumption) (by first | omega | assumption) (by rfl) (by rfl) (by omega)
      · first
        | (exfalso; omega)
        |
          refine x_iconst C dX9_fits_9 (q := 10) rfl (v := (-1)) (by decide) ?_
          refine x_iret C hA hQ hr dX9_fits_10 (Nat.le_of_ble_eq_true rfl) ?_
          refine ⟨_, _, _, ?_, rfl⟩
          unfold fitA
          repeat (first | rw [if_pos (by omega)] | rw [if_neg (by omega)])
