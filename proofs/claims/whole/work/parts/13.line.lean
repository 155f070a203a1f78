theorem x_front {p : Program} {l : Launch} {e : Env} {R : Room} {s : State} {m : MethodId} {args : Array Value} {below : List Frame} {meth : Method} {c : Code} {Q : State → Prop} {D : va_G} {A : Nat → Prop} {nL : Nat} {X pl : va_W} {z : Nat × va_E} {k n pc : Nat} {L : List (Nat × Value)} {st : List Value} (kk : xG p l e R s m args below meth c Q D A nL ((X ++ [z]) ++ pl) k n pc L st) : xG p l e R s m args below meth c Q D A nL ((X ++ pl) ++ [z]) k n pc L st :=
  fun H locs ls hP hD hS hl => kk H locs ls (va_P.swap hP) (va_D.swap hD) hS hl


section XAA
variable {p : Program} {l : Launch} {e : Env} {R : Room} {s : State} {m : MethodId} {args : Array Value} {below : List Frame} {meth : Method} {c : Code} {Q : State → Prop} {D : va_G} {cy : Nat → ClassId} {A : Nat → Prop} {nL : Nat} {cc : ByteArray} {Ts : List Cond} {own : String} {ws : va_W} {k n pc q : Nat} {L L' : List (Nat × Value)} {st : List Value}
theorem x_aast (C : xC p s m args meth c D cy A nL cc Ts own) {a N j v : Nat} {f f' : Nat → Option Nat} {r : vw_C} {vs : List Value} {i : Int32} {ws' : va_W} (q0 t0 qk ci : Nat) (he : ws[q0]? = some (a, .inl (cy t0, N, .inr (.inr (.inr (.inr f)))))) (ht : (TY cy)[t0]? = some (cy t0, .object r.1)) (hv : ws[qk]? = some (v, .inr (ci, vs))) (hc : vwCl[ci]? = some r) (hi : i.toInt = (j : Int)) (hj : j < N) (hf' : va_up f j (some v) = f') (hws : ws.set q0 (a, .inl (cy t0, N, .inr (.inr (.inr (.inr f'))))) = ws') (hdg : decode cc pc = .ok (.aastore, 1)) (hq : pc + 1 = q) (kk : xG p l e R s m args below meth c Q D A nL ws' k n q L st) : xG p l e R s m args below meth c Q D A nL ws k n pc L (.ref v :: .int i :: .ref a :: st) := by
  subst hq hws hf'
  intro H locs ls hP hD hS hl
  refine va_astq C.1 C.2.1 C.2.2.2.2.2.1 hP hD hS q0 t0 qk ci he ht hv hc (x_in hi hj) hdg (fun H locs hP hD hS => ?_)
  rw [x_cl hi] at hP hD
  exact kk H locs ls hP hD hS hl
theorem x_aastR (C : xC p s m args meth c D cy A nL cc Ts own) {a N j v ci : Nat} {f f' : Nat → Option Nat} {r : vw_C} {vs : List Value} {i : Int32} {ws' : va_W} (q0 t0 : Nat) (hv : xRo D A s (v, .inr (ci, vs))) (he : ws[q0]? = some (a, .inl (cy t0, N, .inr (.inr (.inr (.inr f)))))) (ht : (TY cy)[t0]? = some (cy t0, .object r.1)) (hc : vwCl[ci]? = some r) (hi : i.toInt = (j : Int)) (hj : j < N) (hf' : va_up f j (some v) = f') (hws : ws.set q0 (a, .inl (cy t0, N, .inr (.inr (.inr (.inr f'))))) = ws') (hdg : decode cc pc = .ok (.aastore, 1)) (hq : pc + 1 = q) (kk : xG p l e R s m args below meth c Q D A nL ws' k n q L st) : xG p l e R s m args below meth c Q D A nL ws k n pc L (.ref v :: .int i :: .ref a :: st) := by
  subst hq hws hf'
  intro H locs ls hP hD hS hl
  have hlt : i.toNatClampNeg < N := by rw [x_cl hi]; exact hj
  have h0 : ¬ i < 0 := fun z => (x_in hi hj) (Or.inl z)
  obtain ⟨r', hr', cellV, g1, g2, g3, -⟩ := hv.at hS
  have hK := C.2.2.2.2.2.1
  have hcls := (hK.1 ci r hc).2
  obtain ⟨kA, comp, k1, k2, k3, -⟩ := (hK.2 t0 _ ht).2
  have hcomp : comp = D.1 ci := Option.some.inj (k3.symm.trans hcls.1)
  subst hcomp
  obtain ⟨kC, hkC, -⟩ := hcls.2
  refine W.aast C.1 C.2.1 (hP q0 _ he) (fun q h => by cases h) (fun h => by cases h) k1 k2 rfl hkC ⟨h0, by show _ < (arrV _ _ _).slots.size; rw [arrV_size]; exact hlt⟩ g1 (fun q h => by rw [g3] at h; cases h) (by rw [g2]; exact hkC) (by rw [g2]; exact va_assign hcls) rfl rfl hdg fun H1 e z oq => ?_
  refine kk H1 _ ls (hP.set hD he ?_ oq) (hD.set he) (hS.put z oq (hD.2 q0 _ he)) hl
  show H1[a]? = some (vp_cell _ _)
  rw [e]
  rw [vp_cell_q, vp_cell_q, arrV_store]
  congr 2
  funext q
  rw [x_cl hi]
  by_cases hq : q = j
  · subst hq
    simp [updV, va_up, va_rf]
  · simp [updV, va_up, hq]
end XAA
/-! A LINE'S FIELDS: where each begins and ends -/
def cmm (tx : Nat → Nat) : Nat → Nat
  | 0 => 0
  | k + 1 => cmm tx k + (if tx k = 44 then 1 else 0)
theorem cmm_le (tx : Nat → Nat) : ∀ k, cmm tx k ≤ k
  | 0 => Nat.le_refl 0
  | k + 1 => by
    have := cmm_le tx k
    unfold cmm
    split <;> omega
theorem cmm_run {tx : Nat → Nat} {p : Nat} : ∀ r, (∀ j, p ≤ j → j < p + r → ¬ tx j = 44) → cmm tx (p + r) = cmm tx p
  | 0, _ => rfl
  | r + 1, h => by
    rw [← Nat.add_assoc]
    unfold cmm
    rw [cmm_run r (fun j h1 h2 => h j h1 (by omega)), if_neg (h (p + r) (by omega) (by omega)), Nat.add_zero]
    cases p <;> rfl
def nF (tx : Nat → Nat) (n : Nat) : Nat := cmm tx n + 1
def fEnd (tx : Nat → Nat) (n p : Nat) : Nat := p + runLen (fun k => !decide (tx k = 44)) n (n - p) p
def fSt (tx : Nat → Nat) (n : Nat) : Nat → Nat
  | 0 => 0
  | i + 1 => fEnd tx n (fSt tx n i) + 1
def fLen (tx : Nat → Nat) (n i : Nat) : Nat := fEnd tx n (fSt tx n i) - fSt tx n i
def fBy (tx : Nat → Nat) (n i : Nat) : Nat → Nat := fun k => tx (fSt tx n i + k)
theorem fEnd_ge (tx : Nat → Nat) (n p : Nat) : p ≤ fEnd tx n p := Nat.le_add_right _ _
theorem fEnd_le (tx : Nat → Nat) (n p : Nat) (h : p ≤ n) : fEnd tx n p ≤ n := by
  have := runLen_le (fun k => !decide (tx k = 44)) n (n - p) p
  unfold fEnd
  omega
theorem fEnd_step {tx : Nat → Nat} {n p : Nat} (h : p < n) (h2 : ¬ tx p = 44) : fEnd tx n p = fEnd tx n (p + 1) := by
  unfold fEnd
  rw [runLen_step h (by simp [h2])]
  omega
theorem fEnd_stop {tx : Nat → Nat} {n p : Nat} (h : ¬ (p < n ∧ ¬ tx p = 44)) : fEnd tx n p = p := by
  unfold fEnd
  rw [runLen_stop _ (fun z => h ⟨z.1, by simpa using z.2⟩)]
  rfl
theorem fEnd_no {tx : Nat → Nat} {n p j : Nat} (h1 : p ≤ j) (h2 : j < fEnd tx n p) : ¬ tx j = 44 := by
  have := runLen_all (fun k => !decide (tx k = 44)) n (n - p) p j h1 h2
  simpa using this
theorem fEnd_comma {tx : Nat → Nat} {n p : Nat} (h : p ≤ n) (h2 : fEnd tx n p < n) : tx (fEnd tx n p) = 44 := by
  have := runLen_end (fun k => !decide (tx k = 44)) n (n - p) p (by omega) h2
  show tx (p + runLen (fun k => !decide (tx k = 44)) n (n - p) p) = 44
  simpa using this
theorem fSt_cmm {tx : Nat → Nat} {n : Nat} : ∀ i, i < nF tx n → fSt tx n i ≤ n ∧ cmm tx (fSt tx n i) = i
  | 0, _ => ⟨Nat.zero_le _, rfl⟩
  | i + 1, h => by
    obtain ⟨h1, h2⟩ := fSt_cmm (tx := tx) (n := n) i (by omega)
    have e1 : cmm tx (fEnd tx n (fSt tx n i)) = i := by
      have h3 := fEnd_ge tx n (fSt tx n i)
      rw [show fEnd tx n (fSt tx n i) = fSt tx n i + (fEnd tx n (fSt tx n i) - fSt tx n i) by omega, cmm_run _ (fun j a b => fEnd_no (n := n) a (by omega)), h2]
    have h4 := fEnd_le tx n (fSt tx n i) h1
    by_cases h5 : fEnd tx n (fSt tx n i) < n
    · refine ⟨h5, ?_⟩
      show cmm tx (fEnd tx n (fSt tx n i)) + (if tx (fEnd tx n (fSt tx n i)) = 44 then 1 else 0) = i + 1
      rw [e1, if_pos (fEnd_comma h1 h5)]
    · have e2 : fEnd tx n (fSt tx n i) = n := by omega
      rw [e2] at e1
      unfold nF at h
      omega
theorem fSt_le {tx : Nat → Nat} {n i : Nat} (h : i < nF tx n) : fSt tx n i ≤ n := (fSt_cmm i h).1
theorem fSt_le1 {tx : Nat → Nat} {n i : Nat} (h : i ≤ nF tx n) : fSt tx n i ≤ n + 1 := by
  cases i with
  | zero => exact Nat.zero_le _
  | succ i =>
    have h1 := fSt_le (tx := tx) (n := n) (i := i) (by omega)
    have h2 := fEnd_le tx n (fSt tx n i) h1
    show fEnd tx n (fSt tx n i) + 1 ≤ n + 1
    omega
/-- a line's fields stand among the read-only cells -/
def LnG (cy : Nat → ClassId) (pl : va_W) (nf : Nat) (fm : Nat → Nat) (nm wd : Nat → Int64) (bl : Nat → Nat) (bs : Nat → Nat → Nat) (ad : Nat → Option Nat) : Prop :=
  ∀ i, i < nf → ∃ q sg : Nat, ad i = some q ∧ (q, .inr (0, [.ref sg, .int (nI (fm i)), .long (nm i), .long (wd i)])) ∈ pl ∧ (sg, .inl (cy 0, bl i, .inl (fun k => nI (bs i k)))) ∈ pl
def FM (tx : Nat → Nat) (n i : Nat) : Nat := formS (fBy tx n i) (fLen tx n i)
def NM (tx : Nat → Nat) (n i : Nat) : Int64 := numS (fBy tx n i) (fLen tx n i) (FM tx n i)
def WD (tx : Nat → Nat) (n i : Nat) : Int64 := wordS (fBy tx n i) (fLen tx n i)
def LnF (cy : Nat → ClassId) (pl : va_W) (tx : Nat → Nat) (n : Nat) (ad : Nat → Option Nat) : Prop := LnG cy pl (nF tx n) (FM tx n) (NM tx n) (WD tx n) (fLen tx n) (fBy tx n) ad
theorem LnG.more {cy : Nat → ClassId} {pl pl' : va_W} {nf : Nat} {fm : Nat → Nat} {nm wd : Nat → Int64} {bl : Nat → Nat} {bs : Nat → Nat → Nat} {ad : Nat → Option Nat} (h : LnG cy pl nf fm nm wd bl bs ad) (hs : ∀ q ∈ pl, q ∈ pl') : LnG cy pl' nf fm nm wd bl bs ad := fun i hi => by
  obtain ⟨q, sg, h1, h2, h3⟩ := h i hi
  exact ⟨q, sg, h1, hs _ h2, hs _ h3⟩
def xZA (t0 : Nat) (adK adV : Nat → Nat) (A : Nat → Prop) (U : State) : Prop := xZ t0 adK adV A U ∧ va_AO "FeatureImport$Field" U
theorem xZA_bl (t0 : Nat) (adK adV : Nat → Nat) : xBl (xZA t0 adK adV) := fun A U g mk a h => ⟨xZ_bl t0 adK adV A U g mk a h.1, va_AO.moved (u := U) (Vm.Alike.refl U.vm) h.2⟩
theorem xZA_call {t0 : Nat} {adK adV : Nat → Nat} {A A' : Nat → Prop} {s U : State} {H : Heap} {locs : List Loc} (h : xZA t0 adK adV A s) (hS : va_S A s.heap H locs) (hF : ∀ q, A' q → A q) (hU : U.heap = H) (hW : s.WarmedH U.vm) : xZA t0 adK adV A' U := ⟨xZ_call h.1 hS hF hU hW, va_AO.moved hW.alike h.2⟩

set_option maxHeartbeats 4000000 in
set_option maxRecDepth 100000 in
/-- Line.commasIn -/
theorem c_X4_commasIn (l : Launch) (D : va_G) (cy : Nat → ClassId) (t : Nat) (tb : Nat) (n : Nat) (tx : Nat → Nat) (hn : n ≤ 60) (htx : ∀ k, tx k < 128) : xMet l D cy xT yX4_commasIn wsX4_commasIn ({ frames := 2, cells := 0, slots := 0, locals := 200 } : Room) [.ref t] [] [(t, .inr (5, [.ref tb, .int (nI n)])), (tb, .inl (cy 0, 60, .inl (fun k => nI (tx k))))] (fun (v9 : Option Value) (w9 : va_W) => (v9 = some (.int (nI (cmm tx n))) ∧ w9 = [])) := by
  refine xMet_of (cc := cX4_commasIn) (maxL := 3) (ret := (some .int)) (by decide) rfl (Nat.le_of_ble_eq_true rfl) (fun p e s m args below meth c A R Q hA hR hQ C hr hnm hro hX => ?_)
  have hw0 : ∀ w ∈ u_ws RX6 TX6 2, w ∈ wsX4_commasIn := by decide +kernel
  have hw1 : Cond.fieldLink RX4 38 (TX6 1).1 (TX6 1).2.1 (TX6 1).2.2.1 ∈ wsX4_commasIn := by decide +kernel
  refine x_L (L' := [(0, .ref t)]) [0] rfl ?_
  refine x_iconst C dX4_commasIn_0 (q := 1) rfl (v := nI 0) (by decide) ?_
  refine x_istore_n C (L' := [(1, .int (nI 0)), (0, .ref t)]) dX4_commasIn_1 (q := 2) rfl rfl (by decide) rfl ?_
  refine x_iconst C dX4_commasIn_2 (q := 3) rfl (v := nI 0) (by decide) ?_
  refine x_istore_n C (L' := [(2, .int (nI 0)), (1, .int (nI 0)), (0, .ref t)]) dX4_commasIn_3 (q := 4) rfl rfl (by decide) rfl ?_
  have cut4 : ∀ (fuel : Nat) (i : Nat) (z : Nat), (i ≤ n) → (z = cmm tx i) → n - i < fuel → xG p l e R s m args below meth c Q D A 3 [] 0 0 4 [(0, .ref t), (1, .int (nI z)), (2, .int (nI i))] [] := by
    intro fuel
    induction fuel with
    | zero =>
      intro i z hi hz hmu
      exact absurd hmu (Nat.not_lt_zero _)
    | succ fuel ih =>
      intro i z hi hz hmu
      have hcl := cmm_le tx i
      have ih4 := ih
      clear ih
      refine x_iload_n C dX4_commasIn_4 (q := 5) rfl rfl 2 rfl ?_
      refine x_aload_n C dX4_commasIn_5 (q := 6) rfl rfl 0 rfl ?_
      refine x_getR C (ci := 5) (v := .int (nI n)) hw0 (hro (t, .inr (5, [.ref tb, .int (nI n)])) (List.mem_of_getElem? (i := 0) rfl)) rfl 1 (by decide) hw1 rfl dX4_commasIn_6 (q := 9) rfl ?_
      refine x_icmp_ge C (tgt := 31) dX4_commasIn_9 (by decide) (q := 12) rfl (a := ((i : Nat) : Int)) (b := ((n : Nat) : Int)) (nI_toInt (by omega)) (nI_toInt (by omega)) (fun h1 => ?_) (fun h1 => ?_)
      · first
        | (exfalso; omega)
        |
          refine x_iload_n C dX4_commasIn_31 (q := 32) rfl rfl 1 rfl ?_
          refine x_iret C hA hQ hr dX4_commasIn_32 (Nat.le_of_ble_eq_true rfl) ?_
          have e9 : i = n := by omega
          subst e9
          subst hz
          exact ⟨rfl, rfl⟩
      · first
        | (exfalso; omega)
        |
          refine x_aload_n C dX4_commasIn_12 (q := 13) rfl rfl 0 rfl ?_
          refine x_iload_n C dX4_commasIn_13 (q := 14) rfl rfl 2 rfl ?_
          refine x_callV C (roW := []) (roR := [(t, .inr (5, [.ref tb, .int (nI n)])), (tb, .inl (cy 0, 60, .inl (fun k => nI (tx k))))]) (c_X6_at l D cy t tb n 60 tx i (by first | assumption | omega | (simp only []; omega)) (by first | assumption | omega | (simp only []; omega)) (by first | assumption | omega | (simp only []; omega)) (by assumption)) (cwV 1 C.2.2.2.2.1 gX4_commasIn_X6_at rfl rfl rfl (by decide +kernel) (by rw [hR]; exact ⟨Nat.le_of_ble_eq_true rfl, Nat.le_of_ble_eq_true rfl⟩)) [] [] rfl (by decide) rfl (by decide) (xro_cons (hro (t, .inr (5, [.ref tb, .int (nI n)])) (List.mem_of_getElem? (i := 0) rfl)) (xro_cons (hro (tb, .inl (cy 0, 60, .inl (fun k => nI (tx k)))) (List.mem_of_getElem? (i := 1) rfl)) xro_nil)) (List.mem_of_getElem? (i := 0) rfl) (ci := 5) rfl xT_bl (fun _ _ _ _ _ _ _ => trivial) rfl rfl dX4_commasIn_14 rfl rfl (Nat.le_of_ble_eq_true rfl) (q := 17) rfl (k' := 0) rfl (n' := 0) rfl (by rw [hR]; exact ⟨Nat.le_of_ble_eq_true rfl, Nat.le_of_ble_eq_true rfl⟩) (fun v2 w2 hp2 => ?_)
          obtain ⟨r_3, rfl, rfl, hc4⟩ := hp2
          refine x_ws (ws' := []) (List.append_nil _) ?_
          rw [sgA_in (by omega)] at hc4
          refine x_bipush C dX4_commasIn_17 (q := 19) rfl (v := nI 44) (by decide) ?_
          refine x_icmp_ne C (tgt := 25) dX4_commasIn_19 (by decide) (q := 22) rfl (a := r_3.toInt) (b := 44) rfl rfl (fun h5 => ?_) (fun h5 => ?_)
          · first
            | (exfalso; omega)
            |
              refine x_iinc C (L' := [(2, .int (nI (i + 1))), (0, .ref t), (1, .int (nI z))]) dX4_commasIn_25 (q := 28) rfl 2 rfl (v := nI (i + 1)) (nI_add i 1) (by decide) rfl ?_
              refine x_goto C (tgt := 4) dX4_commasIn_28 (by decide) ?_
              refine x_L (L' := [(0, .ref t), (1, .int (nI z)), (2, .int (nI (i + 1)))]) [1, 2, 0] rfl ?_
              exact ih4 (i + 1) z (by first | omega | assumption) (by unfold cmm; split <;> omega) (by omega)
          · first
            | (exfalso; omega)
            |
              refine x_iinc C (L' := [(1, .int (nI (z + 1))), (0, .ref t), (2, .int (nI i))]) dX4_commasIn_22 (q := 25) rfl 1 rfl (v := nI (z + 1)) (nI_add z 1) (by decide) rfl ?_
              refine x_iinc C (L' := [(2, .int (nI (i + 1))), (1, .int (nI (z + 1))), (0, .ref t)]) dX4_commasIn_25 (q := 28) rfl 2 rfl (v := nI (i + 1)) (nI_add i 1) (by decide) rfl ?_
              refine x_goto C (tgt := 4) dX4_commasIn_28 (by decide) ?_
              refine x_L (L' := [(0, .ref t), (1, .int (nI (z + 1))), (2, .int (nI (i + 1)))]) [2, 1, 0] rfl ?_
              exact ih4 (i + 1) (z + 1) (by first | omega | assumption) (by unfold cmm; split <;> omega) (by omega)
  refine x_L (L' := [(0, .ref t), (1, .int (nI 0)), (2, .int (nI 0))]) [2, 1, 0] rfl ?_
  exact cut4 (n - 0 + 1) 0 0 (by first | omega | assumption) (by rfl) (by omega)

set_option maxHeartbeats 4000000 in
set_option maxRecDepth 100000 in
/-- Line.endFrom -/
theorem c_X4_endFrom (l : Launch) (D : va_G) (cy : Nat → ClassId) (t : Nat) (tb : Nat) (n : Nat) (tx : Nat → Nat) (p0 : Nat) (hn : n ≤ 60) (htx : ∀ k, tx k < 128) (hp : p0 ≤ n) : xMet l D cy xT yX4_endFrom wsX4_endFrom ({ frames := 2, cells := 0, slots := 0, locals := 200 } : Room) [.ref t, .int (nI p0)] [] [(t, .inr (5, [.ref tb, .int (nI n)])), (tb, .inl (cy 0, 60, .inl (fun k => nI (tx k))))] (fun (v9 : Option Value) (w9 : va_W) => (v9 = some (.int (nI (fEnd tx n p0))) ∧ w9 = [])) := by
  refine xMet_of (cc := cX4_endFrom) (maxL := 3) (ret := (some .int)) (by decide) rfl (Nat.le_of_ble_eq_true rfl) (fun p e s m args below meth c A R Q hA hR hQ C hr hnm hro hX => ?_)
  have hw0 : ∀ w ∈ u_ws RX6 TX6 2, w ∈ wsX4_endFrom := by decide +kernel
  have hw1 : Cond.fieldLink RX4 38 (TX6 1).1 (TX6 1).2.1 (TX6 1).2.2.1 ∈ wsX4_endFrom := by decide +kernel
  refine x_L (L' := [(0, .ref t), (1, .int (nI p0))]) [0, 1] rfl ?_
  refine x_iload_n C dX4_endFrom_0 (q := 1) rfl rfl 1 rfl ?_
  refine x_istore_n C (L' := [(2, .int (nI p0)), (0, .ref t), (1, .int (nI p0))]) dX4_endFrom_1 (q := 2) rfl rfl (by decide) rfl ?_
  have cut2 : ∀ (fuel : Nat) (i : Nat), (i ≤ n) → (fEnd tx n p0 = fEnd tx n i) → n - i < fuel → xG p l e R s m args below meth c Q D A 3 [] 0 0 2 [(0, .ref t), (1, .int (nI p0)), (2, .int (nI i))] [] := by
    intro fuel
    induction fuel with
    | zero =>
      intro i hi he hmu
      exact absurd hmu (Nat.not_lt_zero _)
    | succ fuel ih =>
      intro i hi he hmu
      have ih2 := ih
      clear ih
      refine x_iload_n C dX4_endFrom_2 (q := 3) rfl rfl 2 rfl ?_
      refine x_aload_n C dX4_endFrom_3 (q := 4) rfl rfl 0 rfl ?_
      refine x_getR C (ci := 5) (v := .int (nI n)) hw0 (hro (t, .inr (5, [.ref tb, .int (nI n)])) (List.mem_of_getElem? (i := 0) rfl)) rfl 1 (by decide) hw1 rfl dX4_endFrom_4 (q := 7) rfl ?_
      refine x_icmp_ge C (tgt := 26) dX4_endFrom_7 (by decide) (q := 10) rfl (a := ((i : Nat) : Int)) (b := ((n : Nat) : Int)) (nI_toInt (by omega)) (nI_toInt (by omega)) (fun h1 => ?_) (fun h1 => ?_)
      · first
        | (exfalso; omega)
        |
          refine x_iload_n C dX4_endFrom_26 (q := 27) rfl rfl 2 rfl ?_
          refine x_iret C hA hQ hr dX4_endFrom_27 (Nat.le_of_ble_eq_true rfl) ?_
          have e9 := fEnd_stop (tx := tx) (n := n) (p := i) (by omega)
          exact ⟨by rw [he, e9], rfl⟩
      · first
        | (exfalso; omega)
        |
          refine x_aload_n C dX4_endFrom_10 (q := 11) rfl rfl 0 rfl ?_
          refine x_iload_n C dX4_endFrom_11 (q := 12) rfl rfl 2 rfl ?_
          refine x_callV C (roW := []) (roR := [(t, .inr (5, [.ref tb, .int (nI n)])), (tb, .inl (cy 0, 60, .inl (fun k => nI (tx k))))]) (c_X6_at l D cy t tb n 60 tx i (by first | assumption | omega | (simp only []; omega)) (by first | assumption | omega | (simp only []; omega)) (by first | assumption | omega | (simp only []; omega)) (by assumption)) (cwV 1 C.2.2.2.2.1 gX4_endFrom_X6_at rfl rfl rfl (by decide +kernel) (by rw [hR]; exact ⟨Nat.le_of_ble_eq_true rfl, Nat.le_of_ble_eq_true rfl⟩)) [] [] rfl (by decide) rfl (by decide) (xro_cons (hro (t, .inr (5, [.ref tb, .int (nI n)])) (List.mem_of_getElem? (i := 0) rfl)) (xro_cons (hro (tb, .inl (cy 0, 60, .inl (fun k => nI (tx k)))) (List.mem_of_getElem? (i := 1) rfl)) xro_nil)) (List.mem_of_getElem? (i := 0) rfl) (ci := 5) rfl xT_bl (fun _ _ _ _ _ _ _ => trivial) rfl rfl dX4_endFrom_12 rfl rfl (Nat.le_of_ble_eq_true rfl) (q := 15) rfl (k' := 0) rfl (n' := 0) rfl (by rw [hR]; exact ⟨Nat.le_of_ble_eq_true rfl, Nat.le_of_ble_eq_true rfl⟩) (fun v2 w2 hp2 => ?_)
          obtain ⟨r_3, rfl, rfl, hc4⟩ := hp2
          refine x_ws (ws' := []) (List.append_nil _) ?_
          rw [sgA_in (by omega)] at hc4
          refine x_bipush C dX4_endFrom_15 (q := 17) rfl (v := nI 44) (by decide) ?_
          refine x_icmp_eq C (tgt := 26) dX4_endFrom_17 (by decide) (q := 20) rfl (a := r_3.toInt) (b := 44) rfl rfl (fun h5 => ?_) (fun h5 => ?_)
          · first
            | (exfalso; omega)
            |
              refine x_iload_n C dX4_endFrom_26 (q := 27) rfl rfl 2 rfl ?_
              refine x_iret C hA hQ hr dX4_endFrom_27 (Nat.le_of_ble_eq_true rfl) ?_
              have e9 := fEnd_stop (tx := tx) (n := n) (p := i) (by omega)
              exact ⟨by rw [he, e9], rfl⟩
          · first
            | (exfalso; omega)
            |
              refine x_iinc C (L' := [(2, .int (nI (i + 1))), (0, .ref t), (1, .int (nI p0))]) dX4_endFrom_20 (q := 23) rfl 2 rfl (v := nI (i + 1)) (nI_add i 1) (by decide) rfl ?_
              refine x_goto C (tgt := 2) dX4_endFrom_23 (by decide) ?_
              refine x_L (L' := [(0, .ref t), (1, .int (nI p0)), (2, .int (nI (i + 1)))]) [1, 2, 0] rfl ?_
              exact ih2 (i + 1) (by first | omega | assumption) (by rw [he]; exact fEnd_step (by omega) (by omega)) (by omega)
  refine x_L (L' := [(0, .ref t), (1, .int (nI p0)), (2, .int (nI p0))]) [1, 2, 0] rfl ?_
  exact cut2 (n - p0 + 1) p0 (by first | omega | assumption) (by rfl) (by omega)

set_option maxHeartbeats 4000000 in
set_option maxRecDepth 100000 in
/-- Line: cut into its FIELDS -/
theorem c_X4_init (l : Launch) (D : va_G) (cy : Nat → ClassId) (t0 : Nat) (adK : Nat → Nat) (adV : Nat → Nat) (t : Nat) (tb : Nat) (n : Nat) (tx : Nat → Nat) (o : Nat) (hn : n ≤ 60) (htx : ∀ k, tx k < 128) (hL : ∀ i, i < nF tx n → fLen tx n i ≤ 12) : xMet l D cy (xZA t0 adK adV) yX4_init wsX4_init ({ frames := 9, cells := 124, slots := 400, locals := 2400 } : Room) [.ref o, .ref t] [(o, .inr (3, [.null]))] [(t, .inr (5, [.ref tb, .int (nI n)])), (tb, .inl (cy 0, 60, .inl (fun k => nI (tx k))))] (fun (v9 : Option Value) (w9 : va_W) => (∃ fa : Nat, ∃ ad : Nat → Option Nat, ∃ pl : va_W, v9 = none ∧ w9 = [(o, .inr (3, [.ref fa])), (fa, .inl (cy 3, nF tx n, .inr (.inr (.inr (.inr ad)))))] ++ pl ∧ LnF cy pl tx n ad)) := by
  refine xMet_of (cc := cX4_init) (maxL := 7) (ret := none) (by decide) rfl (Nat.le_of_ble_eq_true rfl) (fun p e s m args below meth c A R Q hA hR hQ C hr hnm hro hX => ?_)
  have hw0 : Cond.methodLink RX4 1 Lib.objectInit ∈ wsX4_init := by decide +kernel
  have hw1 : Cond.instanceMethod Lib.objectInit ∈ wsX4_init := by decide +kernel
  have hw2 : Cond.code Lib.objectInit ⟨#[0xb1]⟩ 1 none ∈ wsX4_init := by decide +kernel
  have hw3 : Cond.classLink RX4 13 RX1 ∈ wsX4_init := by decide +kernel
  have hw4 : ∀ w ∈ u_ws RX4 TX4 1, w ∈ wsX4_init := by decide +kernel
  have hw5 : Cond.fieldLink RX4 15 (TX4 0).1 (TX4 0).2.1 (TX4 0).2.2.1 ∈ wsX4_init := by decide +kernel
  have hw6 : Cond.methodLink RX4 23 Lib.Math.max.name ∈ wsX4_init := by decide +kernel
  have hw7 : Cond.static Lib.Math.max.name ∈ wsX4_init := by decide +kernel
  have hw8 : Cond.initialized "java/lang/Math" ∈ wsX4_init := by decide +kernel
  have hw9 : Cond.code Lib.Math.max.name Lib.Math.max.code 2 (some .int) ∈ wsX4_init := by decide +kernel
  have hw10 : Cond.arrayClass .byte ∈ wsX4_init := by decide +kernel
  have hw11 : ∀ w ∈ u_ws RX1 TX1 4, w ∈ wsX4_init := by decide +kernel
  have hw12 : Cond.instantiable RX1 4 ∈ wsX4_init := by decide +kernel
  have hw13 : Cond.initialized RX1 ∈ wsX4_init := by decide +kernel
  have hw14 : Cond.methodLink RX4 35 yX1_init ∈ wsX4_init := by decide +kernel
  have hw15 : Cond.instanceMethod yX1_init ∈ wsX4_init := by decide +kernel
  refine x_L (L' := [(0, .ref o), (1, .ref t)]) [0, 1] rfl ?_
  refine x_aload_n C dX4_init_0 (q := 1) rfl rfl 0 rfl ?_
  refine x_obj C hw0 hw1 hw2 (by rw [hR]; exact Nat.le_of_ble_eq_true rfl) (by rw [hR]; exact Nat.le_of_ble_eq_true rfl) dX4_init_1 (q := 4) rfl ?_
  refine x_aload_n C dX4_init_4 (q := 5) rfl rfl 0 rfl ?_
  refine x_aload_n C dX4_init_5 (q := 6) rfl rfl 1 rfl ?_
  refine x_callS C (roW := []) (roR := [(t, .inr (5, [.ref tb, .int (nI n)])), (tb, .inl (cy 0, 60, .inl (fun k => nI (tx k))))]) (c_X4_commasIn l D cy t tb n tx (by first | assumption | omega | (simp only []; omega)) (by assumption)) (cwS 1 C.2.2.2.2.1 gX4_init_X4_commasIn rfl rfl rfl (by decide +kernel) (by rw [hR]; exact ⟨Nat.le_of_ble_eq_true rfl, Nat.le_of_ble_eq_true rfl⟩)) [] [] rfl (by decide) rfl (by decide) (xro_cons (hro (t, .inr (5, [.ref tb, .int (nI n)])) (List.mem_of_getElem? (i := 0) rfl)) (xro_cons (hro (tb, .inl (cy 0, 60, .inl (fun k => nI (tx k)))) (List.mem_of_getElem? (i := 1) rfl)) xro_nil)) xT_bl (fun _ _ _ _ _ _ _ => trivial) rfl rfl dX4_init_6 rfl rfl (Nat.le_of_ble_eq_true rfl) (q := 9) rfl (k' := 0) rfl (n' := 0) rfl (by rw [hR]; exact ⟨Nat.le_of_ble_eq_true rfl, Nat.le_of_ble_eq_true rfl⟩) (fun v1 w1 hp1 => ?_)
  obtain ⟨rfl, rfl⟩ := hp1
  refine x_ws (ws' := [(o, .inr (3, [.null]))]) (List.append_nil _) ?_
  have hnf := cmm_le tx n
  have hnF : nF tx n = cmm tx n + 1 := rfl
  refine x_iconst C dX4_init_9 (q := 10) rfl (v := nI 1) (by decide) ?_
  refine x_iadd C dX4_init_10 (q := 11) rfl (z := nI (cmm tx n + 1)) (nI_add (cmm tx n) 1) ?_
  refine x_topi (y := nI (nF tx n)) rfl ?_
  refine x_newq3 C (N := nF tx n) hX.2 hw3 (nI_toInt (by omega)) (by omega) (k' := 1) rfl (n' := 0 + (nF tx n)) rfl (by rw [hR]; show _ ≤ 124 ∧ _ ≤ 400; omega) dX4_init_11 (q := 14) rfl (fun fa => ?_)
  refine x_ws (ws' := [(o, .inr (3, [.null])), (fa, .inl (cy 3, nF tx n, .inr (.inr (.inr (.inr (fun _ => none))))))]) rfl ?_
  refine x_putF C (ci := 3) (ty := tyX4 0) (ws' := [(o, .inr (3, [.ref fa])), (fa, .inl (cy 3, nF tx n, .inr (.inr (.inr (.inr (fun _ => none))))))]) hw4 tyX4 tyX4_ok nmX4 0 rfl rfl 0 (by decide) hw5 rfl hnm rfl (by decide +kernel) rfl rfl (Nat.le_of_ble_eq_true rfl) rfl dX4_init_14 (q := 17) rfl ?_
  refine x_iconst C dX4_init_17 (q := 18) rfl (v := nI 0) (by decide) ?_
  refine x_topi (y := nI (fSt tx n 0)) rfl ?_
  refine x_istore_n C (L' := [(2, .int (nI (fSt tx n 0))), (0, .ref o), (1, .ref t)]) dX4_init_18 (q := 19) rfl rfl (by decide) rfl ?_
  refine x_iconst C dX4_init_19 (q := 20) rfl (v := nI 0) (by decide) ?_
  refine x_istore_n C (L' := [(3, .int (nI 0)), (2, .int (nI (fSt tx n 0))), (0, .ref o), (1, .ref t)]) dX4_init_20 (q := 21) rfl rfl (by decide) rfl ?_
  have cut21 : ∀ (fuel : Nat) (i : Nat) (ad : Nat → Option Nat) (pl : va_W), (i ≤ nF tx n) → (∀ j, j < i → ∃ q sg : Nat, ad j = some q ∧ (q, .inr (0, [.ref sg, .int (nI (FM tx n j)), .long (NM tx n j), .long (WD tx n j)])) ∈ pl ∧ (sg, .inl (cy 0, fLen tx n j, .inl (fun k => nI (fBy tx n j k)))) ∈ pl) → nF tx n - i < fuel → xG p l e R s m args below meth c Q D A 7 ([(o, .inr (3, [.ref fa])), (fa, .inl (cy 3, nF tx n, .inr (.inr (.inr (.inr ad)))))] ++ pl) (1 + 2 * i) (nF tx n + 4 * i + fSt tx n i) 21 [(3, .int (nI i)), (0, .ref o), (1, .ref t), (2, .int (nI (fSt tx n i)))] [] := by
    intro fuel
    induction fuel with
    | zero =>
      intro i ad pl hi hG hmu
      exact absurd hmu (Nat.not_lt_zero _)
    | succ fuel ih =>
      intro i ad pl hi hG hmu
      have hnf := cmm_le tx n
      have hnF : nF tx n = cmm tx n + 1 := rfl
      have hf9 := fSt_le1 (tx := tx) (n := n) (i := i) hi
      have ih21 := ih
      clear ih
      refine x_iload_n C dX4_init_21 (q := 22) rfl rfl 0 rfl ?_
      refine x_aload_n C dX4_init_22 (q := 23) rfl rfl 1 rfl ?_
      refine x_get C (ci := 3) (v := .ref fa) hw4 0 rfl rfl 0 (by decide) hw5 rfl dX4_init_23 (q := 26) rfl ?_
      refine x_alen C 1 3 rfl rfl (v := nI (nF tx n)) rfl dX4_init_26 (q := 27) rfl ?_
      refine x_icmp_ge C (tgt := 106) dX4_init_27 (by decide) (q := 30) rfl (a := ((i : Nat) : Int)) (b := ((nF tx n : Nat) : Int)) (nI_toInt (by omega)) (nI_toInt (by omega)) (fun h2 => ?_) (fun h2 => ?_)
      · first
        | (exfalso; omega)
        |
          refine x_widen (k' := 124) (n' := 400) (by omega) (by omega) ?_
          refine x_vret C hA hQ hr dX4_init_106 (by simp) ?_
          have e9 : i = nF tx n := by omega
          exact ⟨fa, ad, pl, rfl, rfl, fun j hj => hG j (by omega)⟩
      · first
        | (exfalso; omega)
        |
          have hfi := fSt_le (tx := tx) (n := n) (i := i) (by omega)
          have hfe := fEnd_le tx n (fSt tx n i) hfi
          have hfg := fEnd_ge tx n (fSt tx n i)
          have hfl : fLen tx n i = fEnd tx n (fSt tx n i) - fSt tx n i := rfl
          have hl12 := hL i (by omega)
          have hnf := cmm_le tx n
          have hnF : nF tx n = cmm tx n + 1 := rfl
          refine x_aload_n C dX4_init_30 (q := 31) rfl rfl 2 rfl ?_
          refine x_iload_n C dX4_init_31 (q := 32) rfl rfl 3 rfl ?_
          refine x_callS C (roW := []) (roR := [(t, .inr (5, [.ref tb, .int (nI n)])), (tb, .inl (cy 0, 60, .inl (fun k => nI (tx k))))]) (c_X4_endFrom l D cy t tb n tx (fSt tx n i) (by first | assumption | omega | (simp only []; omega)) (by assumption) (by first | assumption | omega | (simp only []; omega))) (cwS 2 C.2.2.2.2.1 gX4_init_X4_endFrom rfl rfl rfl (by decide +kernel) (by rw [hR]; exact ⟨Nat.le_of_ble_eq_true rfl, Nat.le_of_ble_eq_true rfl⟩)) [] [] rfl (by decide) rfl (by decide) (xro_cons (hro (t, .inr (5, [.ref tb, .int (nI n)])) (List.mem_of_getElem? (i := 0) rfl)) (xro_cons (hro (tb, .inl (cy 0, 60, .inl (fun k => nI (tx k)))) (List.mem_of_getElem? (i := 1) rfl)) xro_nil)) xT_bl (fun _ _ _ _ _ _ _ => trivial) rfl rfl dX4_init_32 rfl rfl (Nat.le_of_ble_eq_true rfl) (q := 35) rfl (k' := 1 + 2 * i) rfl (n' := nF tx n + 4 * i + fSt tx n i) rfl (by rw [hR]; show _ ≤ 124 ∧ _ ≤ 400; omega) (fun v3 w3 hp3 => ?_)
          obtain ⟨rfl, rfl⟩ := hp3
          refine x_ws (ws' := ([(o, .inr (3, [.ref fa])), (fa, .inl (cy 3, nF tx n, .inr (.inr (.inr (.inr ad)))))] ++ pl)) (List.append_nil _) ?_
          refine x_istore C (L' := [(4, .int (nI (fEnd tx n (fSt tx n i)))), (3, .int (nI i)), (0, .ref o), (1, .ref t), (2, .int (nI (fSt tx n i)))]) dX4_init_35 (q := 37) rfl (by decide) rfl ?_
          refine x_iconst C dX4_init_37 (q := 38) rfl (v := nI 0) (by decide) ?_
          refine x_iload C dX4_init_38 (q := 40) rfl 0 rfl ?_
          refine x_iload_n C dX4_init_40 (q := 41) rfl rfl 4 rfl ?_
          refine x_isub C dX4_init_41 (q := 42) rfl (z := nI (fEnd tx n (fSt tx n i) - (fSt tx n i))) (xi_subN (by omega) (by omega)) ?_
          refine x_mmax C hw6 hw7 hw8 hw9 (by rw [hR]; exact Nat.le_of_ble_eq_true rfl) (by rw [hR]; exact Nat.le_of_ble_eq_true rfl) (by rw [hR]; show _ ≤ 124 ∧ _ ≤ 400; omega) (z := nI (fLen tx n i)) (xi_max0 (by omega)) dX4_init_42 (q := 45) rfl ?_
          refine x_newB C (N := fLen tx n i) hw10 (nI_toInt (by omega)) (by omega) (k' := 1 + 2 * i + 1) rfl (n' := nF tx n + 4 * i + fSt tx n i + (fLen tx n i)) rfl (by rw [hR]; show _ ≤ 124 ∧ _ ≤ 400; omega) dX4_init_45 (q := 47) rfl (fun sg => ?_)
          refine x_front ?_
          refine x_ws (ws' := ([(o, .inr (3, [.ref fa])), (fa, .inl (cy 3, nF tx n, .inr (.inr (.inr (.inr ad))))), (sg, .inl (cy 0, fLen tx n i, .inl (fun _ => 0)))] ++ pl)) rfl ?_
          refine x_astore C (L' := [(5, .ref sg), (4, .int (nI (fEnd tx n (fSt tx n i)))), (3, .int (nI i)), (0, .ref o), (1, .ref t), (2, .int (nI (fSt tx n i)))]) dX4_init_47 (q := 49) rfl (by decide) rfl ?_
          refine x_iconst C dX4_init_49 (q := 50) rfl (v := nI 0) (by decide) ?_
          refine x_istore C (L' := [(6, .int (nI 0)), (5, .ref sg), (4, .int (nI (fEnd tx n (fSt tx n i)))), (3, .int (nI i)), (0, .ref o), (1, .ref t), (2, .int (nI (fSt tx n i)))]) dX4_init_50 (q := 52) rfl (by decide) rfl ?_
          have cut52 : ∀ (fuel : Nat) (j : Nat) (g : Nat → Int32), (j ≤ fLen tx n i) → (∀ z, z < j → g z = nI (fBy tx n i z)) → fLen tx n i - j < fuel → xG p l e R s m args below meth c Q D A 7 ([(o, .inr (3, [.ref fa])), (fa, .inl (cy 3, nF tx n, .inr (.inr (.inr (.inr ad))))), (sg, .inl (cy 0, fLen tx n i, .inl g))] ++ pl) (1 + 2 * i + 1) (nF tx n + 4 * i + fSt tx n i + (fLen tx n i)) 52 [(0, .ref o), (1, .ref t), (2, .int (nI (fSt tx n i))), (3, .int (nI i)), (4, .int (nI (fEnd tx n (fSt tx n i)))), (5, .ref sg), (6, .int (nI j))] [] := by
            intro fuel
            induction fuel with
            | zero =>
              intro j g hj hg hmu
              exact absurd hmu (Nat.not_lt_zero _)
            | succ fuel ih =>
              intro j g hj hg hmu
              have ih52 := ih
              clear ih
              refine x_iload C dX4_init_52 (q := 54) rfl 6 rfl ?_
              refine x_aload C dX4_init_54 (q := 56) rfl 5 rfl ?_
              refine x_alen C 2 0 rfl rfl (v := nI (fLen tx n i)) rfl dX4_init_56 (q := 57) rfl ?_
              refine x_icmp_ge C (tgt := 80) dX4_init_57 (by decide) (q := 60) rfl (a := ((j : Nat) : Int)) (b := ((fLen tx n i : Nat) : Int)) (nI_toInt (by omega)) (nI_toInt (by omega)) (fun h4 => ?_) (fun h4 => ?_)
              · first
                | (exfalso; omega)
                |
                  refine x_recI (ws' := ([(o, .inr (3, [.ref fa])), (fa, .inl (cy 3, nF tx n, .inr (.inr (.inr (.inr ad))))), (sg, .inl (cy 0, fLen tx n i, .inl (fun k => nI ((fBy tx n i) k))))] ++ pl)) 2 rfl (fun z hz => hg z (by omega)) rfl ?_
                  refine x_aload_n C dX4_init_80 (q := 81) rfl rfl 0 rfl ?_
                  refine x_get C (ci := 3) (v := .ref fa) hw4 0 rfl rfl 0 (by decide) hw5 rfl dX4_init_81 (q := 84) rfl ?_
                  refine x_iload_n C dX4_init_84 (q := 85) rfl rfl 3 rfl ?_
                  refine x_new C (ci := 0) (fs := [.null, .int (nI 0), .long (lN 0), .long (lN 0)]) hw11 tyX1 tyX1_ok hw3 hw12 hw13 rfl (by decide +kernel) (k' := 1 + 2 * i + 1 + 1) rfl (n' := nF tx n + 4 * i + fSt tx n i + (fLen tx n i) + 4) rfl (by rw [hR]; show _ ≤ 124 ∧ _ ≤ 400; omega) dX4_init_85 (q := 88) rfl (fun q => ?_)
                  refine x_front ?_
                  refine x_ws (ws' := ([(o, .inr (3, [.ref fa])), (fa, .inl (cy 3, nF tx n, .inr (.inr (.inr (.inr ad))))), (sg, .inl (cy 0, fLen tx n i, .inl (fun k => nI ((fBy tx n i) k)))), (q, .inr (0, [.null, .int (nI 0), .long (lN 0), .long (lN 0)]))] ++ pl)) rfl ?_
                  refine x_dup C dX4_init_88 (q := 89) rfl rfl ?_
                  refine x_aload C dX4_init_89 (q := 91) rfl 5 rfl ?_
                  refine x_callI C (ret := none) (roW := [(sg, .inl (cy 0, fLen tx n i, .inl (fun k => nI ((fBy tx n i) k))))]) (roR := []) (c_X1_init l D cy t0 adK adV sg (fLen tx n i) (fBy tx n i) q (by exact fun k => htx _) (by first | assumption | omega | (simp only []; omega))) (cwI 1 C.2.2.2.2.1 gX4_init_X1_init rfl rfl rfl (C.2.2.2.2.1 _ hw13) (C.2.2.2.2.1 _ hw14) (C.2.2.2.2.1 _ hw15) rfl (by decide +kernel) (by rw [hR]; exact ⟨Nat.le_of_ble_eq_true rfl, Nat.le_of_ble_eq_true rfl⟩)) [3] [2] rfl (by decide) rfl (by decide) xro_nil (xZ_bl t0 adK adV) (fun H9 locs9 U9 hS9 hF9 hU9 hW9 => xZ_call hX.1 hS9 hF9 hU9 hW9) rfl rfl dX4_init_91 rfl rfl (Nat.le_of_ble_eq_true rfl) (q := 94) rfl (k' := 1 + 2 * i + 1 + 1) rfl (n' := nF tx n + 4 * i + fSt tx n i + (fLen tx n i) + 4) rfl (by rw [hR]; show _ ≤ 124 ∧ _ ≤ 400; omega) (fun v5 w5 hp5 => ?_)
                  obtain ⟨rfl, rfl⟩ := hp5
                  refine x_ws (ws' := ([(o, .inr (3, [.ref fa])), (fa, .inl (cy 3, nF tx n, .inr (.inr (.inr (.inr ad))))), (sg, .inl (cy 0, fLen tx n i, .inl (fun k => nI ((fBy tx n i) k)))), (q, .inr (0, [.ref sg, .int (nI (formS (fBy tx n i) (fLen tx n i))), .long (numS (fBy tx n i) (fLen tx n i) (formS (fBy tx n i) (fLen tx n i))), .long (wordS (fBy tx n i) (fLen tx n i))]))] ++ pl)) (List.append_nil _) ?_
                  refine x_aast C (r := (RX1, TX1, 4)) (ws' := ([(o, .inr (3, [.ref fa])), (fa, .inl (cy 3, nF tx n, .inr (.inr (.inr (.inr (va_up ad i (some q))))))), (sg, .inl (cy 0, fLen tx n i, .inl (fun k => nI ((fBy tx n i) k)))), (q, .inr (0, [.ref sg, .int (nI (formS (fBy tx n i) (fLen tx n i))), .long (numS (fBy tx n i) (fLen tx n i) (formS (fBy tx n i) (fLen tx n i))), .long (wordS (fBy tx n i) (fLen tx n i))]))] ++ pl)) 1 3 3 0 rfl rfl rfl rfl (j := i) (nI_toInt (by omega)) (by omega) rfl rfl dX4_init_94 (q := 95) rfl ?_
                  refine x_iload C dX4_init_95 (q := 97) rfl 4 rfl ?_
                  refine x_iconst C dX4_init_97 (q := 98) rfl (v := nI 1) (by decide) ?_
                  refine x_iadd C dX4_init_98 (q := 99) rfl (z := nI (fEnd tx n (fSt tx n i) + 1)) (nI_add (fEnd tx n (fSt tx n i)) 1) ?_
                  have hfs1 : fSt tx n (i + 1) = fEnd tx n (fSt tx n i) + 1 := rfl
                  refine x_topi (y := nI (fSt tx n (i + 1))) rfl ?_
                  refine x_istore_n C (L' := [(2, .int (nI (fSt tx n (i + 1)))), (0, .ref o), (1, .ref t), (3, .int (nI i)), (4, .int (nI (fEnd tx n (fSt tx n i)))), (5, .ref sg), (6, .int (nI j))]) dX4_init_99 (q := 100) rfl rfl (by decide) rfl ?_
                  refine x_iinc C (L' := [(3, .int (nI (i + 1))), (2, .int (nI (fSt tx n (i + 1)))), (0, .ref o), (1, .ref t), (4, .int (nI (fEnd tx n (fSt tx n i)))), (5, .ref sg), (6, .int (nI j))]) dX4_init_100 (q := 103) rfl 3 rfl (v := nI (i + 1)) (nI_add i 1) (by decide) rfl ?_
                  refine x_goto C (tgt := 21) dX4_init_103 (by decide) ?_
                  refine x_widen (k' := 1 + 2 * (i + 1)) (n' := nF tx n + 4 * (i + 1) + fSt tx n (i + 1)) (by omega) (by omega) ?_
                  refine x_L (L' := [(3, .int (nI (i + 1))), (0, .ref o), (1, .ref t), (2, .int (nI (fSt tx n (i + 1))))]) [0, 2, 3, 1] rfl ?_
                  exact ih21 (i + 1) (va_up ad i (some q)) (([(sg, .inl (cy 0, fLen tx n i, .inl (fun k => nI ((fBy tx n i) k)))), (q, .inr (0, [.ref sg, .int (nI (formS (fBy tx n i) (fLen tx n i))), .long (numS (fBy tx n i) (fLen tx n i) (formS (fBy tx n i) (fLen tx n i))), .long (wordS (fBy tx n i) (fLen tx n i))]))] ++ pl)) (by first | omega | assumption) (by intro j hj; by_cases h9 : j = i; (subst h9; exact ⟨_, _, va_up_eq, List.mem_append_left _ (List.mem_of_getElem? (i := 1) rfl), List.mem_append_left _ (List.mem_of_getElem? (i := 0) rfl)⟩); (obtain ⟨q, sg, g1, g2, g3⟩ := hG j (by omega); exact ⟨q, sg, by rw [va_up_ne' h9]; exact g1, List.mem_append_right _ g2, List.mem_append_right _ g3⟩)) (by omega)
              · first
                | (exfalso; omega)
                |
                  refine x_aload C dX4_init_60 (q := 62) rfl 5 rfl ?_
                  refine x_iload C dX4_init_62 (q := 64) rfl 6 rfl ?_
                  refine x_aload_n C dX4_init_64 (q := 65) rfl rfl 1 rfl ?_
                  refine x_iload_n C dX4_init_65 (q := 66) rfl rfl 2 rfl ?_
                  refine x_iload C dX4_init_66 (q := 68) rfl 6 rfl ?_
                  refine x_iadd C dX4_init_68 (q := 69) rfl (z := nI (fSt tx n i + j)) (nI_add (fSt tx n i) j) ?_
                  refine x_callV C (roW := []) (roR := [(t, .inr (5, [.ref tb, .int (nI n)])), (tb, .inl (cy 0, 60, .inl (fun k => nI (tx k))))]) (c_X6_at l D cy t tb n 60 tx (fSt tx n i + j) (by first | assumption | omega | (simp only []; omega)) (by first | assumption | omega | (simp only []; omega)) (by first | assumption | omega | (simp only []; omega)) (by assumption)) (cwV 1 C.2.2.2.2.1 gX4_init_X6_at rfl rfl rfl (by decide +kernel) (by rw [hR]; exact ⟨Nat.le_of_ble_eq_true rfl, Nat.le_of_ble_eq_true rfl⟩)) [] [] rfl (by decide) rfl (by decide) (xro_cons (hro (t, .inr (5, [.ref tb, .int (nI n)])) (List.mem_of_getElem? (i := 0) rfl)) (xro_cons (hro (tb, .inl (cy 0, 60, .inl (fun k => nI (tx k)))) (List.mem_of_getElem? (i := 1) rfl)) xro_nil)) (List.mem_of_getElem? (i := 0) rfl) (ci := 5) rfl xT_bl (fun _ _ _ _ _ _ _ => trivial) rfl rfl dX4_init_69 rfl rfl (Nat.le_of_ble_eq_true rfl) (q := 72) rfl (k' := 1 + 2 * i + 1) rfl (n' := nF tx n + 4 * i + fSt tx n i + (fLen tx n i)) rfl (by rw [hR]; show _ ≤ 124 ∧ _ ≤ 400; omega) (fun v6 w6 hp6 => ?_)
                  obtain ⟨r_7, rfl, rfl, hc8⟩ := hp6
                  refine x_ws (ws' := ([(o, .inr (3, [.ref fa])), (fa, .inl (cy 3, nF tx n, .inr (.inr (.inr (.inr ad))))), (sg, .inl (cy 0, fLen tx n i, .inl g))] ++ pl)) (List.append_nil _) ?_
                  rw [sgA_in (by omega)] at hc8
                  have hby : fBy tx n i j = tx (fSt tx n i + j) := rfl
                  have hbz := htx (fSt tx n i + j)
                  refine x_topi (y := nI (fBy tx n i j)) (Int32.toInt_inj.mp (by rw [hc8, nI_toInt (by omega), hby])) ?_
                  refine x_i2b C dX4_init_72 (q := 73) rfl (v := nI (fBy tx n i j)) (xi_i2b (by omega)) ?_
                  refine x_bast C (ws' := ([(o, .inr (3, [.ref fa])), (fa, .inl (cy 3, nF tx n, .inr (.inr (.inr (.inr ad))))), (sg, .inl (cy 0, fLen tx n i, .inl (va_up g j (nI (fBy tx n i j)))))] ++ pl)) 2 rfl (j := j) (nI_toInt (by omega)) (by omega) (xi_nb (by omega)) (rfl) rfl dX4_init_73 (q := 74) rfl ?_
                  refine x_iinc C (L' := [(6, .int (nI (j + 1))), (0, .ref o), (1, .ref t), (2, .int (nI (fSt tx n i))), (3, .int (nI i)), (4, .int (nI (fEnd tx n (fSt tx n i)))), (5, .ref sg)]) dX4_init_74 (q := 77) rfl 6 rfl (v := nI (j + 1)) (nI_add j 1) (by decide) rfl ?_
                  refine x_goto C (tgt := 52) dX4_init_77 (by decide) ?_
                  refine x_L (L' := [(0, .ref o), (1, .ref t), (2, .int (nI (fSt tx n i))), (3, .int (nI i)), (4, .int (nI (fEnd tx n (fSt tx n i)))), (5, .ref sg), (6, .int (nI (j + 1)))]) [1, 2, 3, 4, 5, 6, 0] rfl ?_
                  exact ih52 (j + 1) (va_up g j (nI (fBy tx n i j))) (by first | omega | assumption) (by intro z hz; by_cases h9 : z = j; (subst h9; exact va_up_eq); (rw [va_up_ne' h9]; exact hg z (by omega))) (by omega)
          refine x_L (L' := [(0, .ref o), (1, .ref t), (2, .int (nI (fSt tx n i))), (3, .int (nI i)), (4, .int (nI (fEnd tx n (fSt tx n i)))), (5, .ref sg), (6, .int (nI 0))]) [4, 5, 6, 3, 2, 1, 0] rfl ?_
          exact cut52 (fLen tx n i - 0 + 1) 0 (fun _ => 0) (by first | omega | assumption) (by intro z hz; omega) (by omega)
  have hf0 : fSt tx n 0 = 0 := rfl
  refine x_widen (k' := 1 + 2 * 0) (n' := nF tx n + 4 * 0 + fSt tx n 0) (by omega) (by omega) ?_
  refine x_ws (ws' := ([(o, .inr (3, [.ref fa])), (fa, .inl (cy 3, nF tx n, .inr (.inr (.inr (.inr (fun _ => none))))))] ++ [])) (by first | rfl | exact (List.append_nil _).symm) ?_
  refine x_L (L' := [(3, .int (nI 0)), (0, .ref o), (1, .ref t), (2, .int (nI (fSt tx n 0)))]) [0, 2, 3, 1] rfl ?_
  exact cut21 (nF tx n - 0 + 1) 0 (fun _ => none) ([]) (by first | omega | assumption) (by intro j hj; omega) (by omega)
