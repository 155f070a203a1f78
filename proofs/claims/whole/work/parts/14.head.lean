set_option maxHeartbeats 4000000 in
set_option maxRecDepth 100000 in
/-- Line.fieldAt -/
theorem c_X4_fieldAt (l : Launch) (D : va_G) (cy : Nat → ClassId) (ln : Nat) (fa : Nat) (nf : Nat) (ad : Nat → Option Nat) (i : Int32) (hnf : nf ≤ 61) (had : ∀ i, i < nf → ∃ q, ad i = some q) : xMet l D cy xT yX4_fieldAt wsX4_fieldAt ({ frames := 1, cells := 0, slots := 0, locals := 0 } : Room) [.ref ln, .int (i)] [] [(ln, .inr (3, [.ref fa])), (fa, .inl (cy 3, nf, .inr (.inr (.inr (.inr ad)))))] (fun (v9 : Option Value) (w9 : va_W) => (∃ q : Nat, v9 = some (.ref q) ∧ w9 = [] ∧ 0 ≤ i.toInt ∧ i.toInt < nf ∧ ad i.toInt.toNat = some q) ∨ (v9 = some (.null) ∧ w9 = [] ∧ (i.toInt < 0 ∨ nf ≤ i.toInt))) := by
  refine xMet_of (cc := cX4_fieldAt) (maxL := 2) (ret := (some (.object "FeatureImport$Field"))) (by decide) rfl (Nat.le_of_ble_eq_true rfl) (fun p e s m args below meth c A R Q hA hR hQ C hr hnm hro hX => ?_)
  have hw0 : ∀ w ∈ u_ws RX4 TX4 1, w ∈ wsX4_fieldAt := by decide +kernel
  have hw1 : Cond.fieldLink RX4 15 (TX4 0).1 (TX4 0).2.1 (TX4 0).2.2.1 ∈ wsX4_fieldAt := by decide +kernel
  refine x_L (L' := [(0, .ref ln), (1, .int (i))]) [0, 1] rfl ?_
  refine x_iload_n C dX4_fieldAt_0 (q := 1) rfl rfl 1 rfl ?_
  refine x_if_lt C (tgt := 22) dX4_fieldAt_1 (by decide) (q := 4) rfl (a := i.toInt) rfl (fun h1 => ?_) (fun h1 => ?_)
  · first
    | (exfalso; omega)
    |
      refine x_null C dX4_fieldAt_22 (q := 23) rfl ?_
      refine x_aret C hA hQ hr (Or.inl ⟨_, rfl⟩) (Or.inl rfl) dX4_fieldAt_23 (Nat.le_of_ble_eq_true rfl) ?_
      first | exact Or.inl ⟨q, rfl, rfl, by omega, by omega, hq⟩ | exact Or.inr ⟨rfl, rfl, by omega⟩
  · first
    | (exfalso; omega)
    |
      refine x_iload_n C dX4_fieldAt_4 (q := 5) rfl rfl 1 rfl ?_
      refine x_aload_n C dX4_fieldAt_5 (q := 6) rfl rfl 0 rfl ?_
      refine x_getR C (ci := 3) (v := .ref fa) hw0 (hro (ln, .inr (3, [.ref fa])) (List.mem_of_getElem? (i := 0) rfl)) rfl 0 (by decide) hw1 rfl dX4_fieldAt_6 (q := 9) rfl ?_
      refine x_alenR C 3 (hro (fa, .inl (cy 3, nf, .inr (.inr (.inr (.inr ad))))) (List.mem_of_getElem? (i := 1) rfl)) rfl (v := nI nf) rfl dX4_fieldAt_9 (q := 10) rfl ?_
      refine x_icmp_ge C (tgt := 22) dX4_fieldAt_10 (by decide) (q := 13) rfl (a := i.toInt) (b := ((nf : Nat) : Int)) rfl (nI_toInt (by omega)) (fun h2 => ?_) (fun h2 => ?_)
      · first
        | (exfalso; omega)
        |
          refine x_null C dX4_fieldAt_22 (q := 23) rfl ?_
          refine x_aret C hA hQ hr (Or.inl ⟨_, rfl⟩) (Or.inl rfl) dX4_fieldAt_23 (Nat.le_of_ble_eq_true rfl) ?_
          first | exact Or.inl ⟨q, rfl, rfl, by omega, by omega, hq⟩ | exact Or.inr ⟨rfl, rfl, by omega⟩
      · first
        | (exfalso; omega)
        |
          refine x_aload_n C dX4_fieldAt_13 (q := 14) rfl rfl 0 rfl ?_
          refine x_getR C (ci := 3) (v := .ref fa) hw0 (hro (ln, .inr (3, [.ref fa])) (List.mem_of_getElem? (i := 0) rfl)) rfl 0 (by decide) hw1 rfl dX4_fieldAt_14 (q := 17) rfl ?_
          refine x_iload_n C dX4_fieldAt_17 (q := 18) rfl rfl 1 rfl ?_
          obtain ⟨q, hq⟩ := had i.toInt.toNat (by omega)
          refine x_aald3R C (j := i.toInt.toNat) (v := .ref q) (hro (fa, .inl (cy 3, nf, .inr (.inr (.inr (.inr ad))))) (List.mem_of_getElem? (i := 1) rfl)) (by have h9 := (rfl : (i : Int32).toInt = i.toInt); omega) (by omega) (by rw [hq]; rfl) dX4_fieldAt_18 (q := 19) rfl ?_
          refine x_goto C (tgt := 23) dX4_fieldAt_19 (by decide) ?_
          refine x_aret C hA hQ hr (Or.inl ⟨_, rfl⟩) (Or.inr ⟨_, rfl⟩) dX4_fieldAt_23 (Nat.le_of_ble_eq_true rfl) ?_
          first | exact Or.inl ⟨q, rfl, rfl, by omega, by omega, hq⟩ | exact Or.inr ⟨rfl, rfl, by omega⟩

set_option maxHeartbeats 4000000 in
set_option maxRecDepth 100000 in
/-- Line.fieldAt -/
theorem c_X4_fieldAt_n (l : Launch) (D : va_G) (cy : Nat → ClassId) (ln : Nat) (fa : Nat) (nf : Nat) (ad : Nat → Option Nat) (i : Nat) (hnf : nf ≤ 61) (had : ∀ i, i < nf → ∃ q, ad i = some q) (hi : i < 1000) : xMet l D cy xT yX4_fieldAt wsX4_fieldAt ({ frames := 1, cells := 0, slots := 0, locals := 0 } : Room) [.ref ln, .int (nI i)] [] [(ln, .inr (3, [.ref fa])), (fa, .inl (cy 3, nf, .inr (.inr (.inr (.inr ad)))))] (fun (v9 : Option Value) (w9 : va_W) => (∃ q : Nat, v9 = some (.ref q) ∧ w9 = [] ∧ i < nf ∧ ad i = some q) ∨ (v9 = some (.null) ∧ w9 = [] ∧ nf ≤ i)) := by
  refine xMet_of (cc := cX4_fieldAt) (maxL := 2) (ret := (some (.object "FeatureImport$Field"))) (by decide) rfl (Nat.le_of_ble_eq_true rfl) (fun p e s m args below meth c A R Q hA hR hQ C hr hnm hro hX => ?_)
  have hw0 : ∀ w ∈ u_ws RX4 TX4 1, w ∈ wsX4_fieldAt := by decide +kernel
  have hw1 : Cond.fieldLink RX4 15 (TX4 0).1 (TX4 0).2.1 (TX4 0).2.2.1 ∈ wsX4_fieldAt := by decide +kernel
  refine x_L (L' := [(0, .ref ln), (1, .int (nI i))]) [0, 1] rfl ?_
  refine x_iload_n C dX4_fieldAt_0 (q := 1) rfl rfl 1 rfl ?_
  refine x_if_lt C (tgt := 22) dX4_fieldAt_1 (by decide) (q := 4) rfl (a := ((i : Nat) : Int)) (nI_toInt (by omega)) (fun h1 => ?_) (fun h1 => ?_)
  · first
    | (exfalso; omega)
    |
      refine x_null C dX4_fieldAt_22 (q := 23) rfl ?_
      refine x_aret C hA hQ hr (Or.inl ⟨_, rfl⟩) (Or.inl rfl) dX4_fieldAt_23 (Nat.le_of_ble_eq_true rfl) ?_
      first | exact Or.inl ⟨q, rfl, rfl, by omega, hq⟩ | exact Or.inr ⟨rfl, rfl, by omega⟩
  · first
    | (exfalso; omega)
    |
      refine x_iload_n C dX4_fieldAt_4 (q := 5) rfl rfl 1 rfl ?_
      refine x_aload_n C dX4_fieldAt_5 (q := 6) rfl rfl 0 rfl ?_
      refine x_getR C (ci := 3) (v := .ref fa) hw0 (hro (ln, .inr (3, [.ref fa])) (List.mem_of_getElem? (i := 0) rfl)) rfl 0 (by decide) hw1 rfl dX4_fieldAt_6 (q := 9) rfl ?_
      refine x_alenR C 3 (hro (fa, .inl (cy 3, nf, .inr (.inr (.inr (.inr ad))))) (List.mem_of_getElem? (i := 1) rfl)) rfl (v := nI nf) rfl dX4_fieldAt_9 (q := 10) rfl ?_
      refine x_icmp_ge C (tgt := 22) dX4_fieldAt_10 (by decide) (q := 13) rfl (a := ((i : Nat) : Int)) (b := ((nf : Nat) : Int)) (nI_toInt (by omega)) (nI_toInt (by omega)) (fun h2 => ?_) (fun h2 => ?_)
      · first
        | (exfalso; omega)
        |
          refine x_null C dX4_fieldAt_22 (q := 23) rfl ?_
          refine x_aret C hA hQ hr (Or.inl ⟨_, rfl⟩) (Or.inl rfl) dX4_fieldAt_23 (Nat.le_of_ble_eq_true rfl) ?_
          first | exact Or.inl ⟨q, rfl, rfl, by omega, hq⟩ | exact Or.inr ⟨rfl, rfl, by omega⟩
      · first
        | (exfalso; omega)
        |
          refine x_aload_n C dX4_fieldAt_13 (q := 14) rfl rfl 0 rfl ?_
          refine x_getR C (ci := 3) (v := .ref fa) hw0 (hro (ln, .inr (3, [.ref fa])) (List.mem_of_getElem? (i := 0) rfl)) rfl 0 (by decide) hw1 rfl dX4_fieldAt_14 (q := 17) rfl ?_
          refine x_iload_n C dX4_fieldAt_17 (q := 18) rfl rfl 1 rfl ?_
          obtain ⟨q, hq⟩ := had i (by omega)
          refine x_aald3R C (j := i) (v := .ref q) (hro (fa, .inl (cy 3, nf, .inr (.inr (.inr (.inr ad))))) (List.mem_of_getElem? (i := 1) rfl)) (nI_toInt (by omega)) (by omega) (by rw [hq]; rfl) dX4_fieldAt_18 (q := 19) rfl ?_
          refine x_goto C (tgt := 23) dX4_fieldAt_19 (by decide) ?_
          refine x_aret C hA hQ hr (Or.inl ⟨_, rfl⟩) (Or.inr ⟨_, rfl⟩) dX4_fieldAt_23 (Nat.le_of_ble_eq_true rfl) ?_
          first | exact Or.inl ⟨q, rfl, rfl, by omega, hq⟩ | exact Or.inr ⟨rfl, rfl, by omega⟩


/-! A HEAD -/
def isLt (tx : Nat → Nat) (n k : Nat) : Bool := decide (k < n) && (decide (97 ≤ tx k) && decide (tx k ≤ 122))
theorem isLt_t {tx : Nat → Nat} {n k : Nat} : isLt tx n k = true ↔ k < n ∧ 97 ≤ tx k ∧ tx k ≤ 122 := by simp [isLt]
/-- letters from a place on, four at most -/
def ltr (tx : Nat → Nat) (n p : Nat) : Nat := runLen (isLt tx n) (p + 4) 4 p
theorem ltr_le (tx : Nat → Nat) (n p : Nat) : ltr tx n p ≤ 4 := by
  have := runLen_le (isLt tx n) (p + 4) 4 p
  unfold ltr
  omega
theorem ltr_in {tx : Nat → Nat} {n p : Nat} (h : p ≤ n) : p + ltr tx n p ≤ n := by
  refine Decidable.byContradiction (fun z => ?_)
  have h1 := runLen_all (isLt tx n) (p + 4) 4 p n h (by unfold ltr at z; omega)
  have := (isLt_t.mp h1).1
  omega
def sameB (tx : Nat → Nat) (a b : Nat) : Nat → Bool
  | 0 => true
  | k + 1 => sameB tx a b k && (tx (a + k) == tx (b + k))
theorem sameB_t {tx : Nat → Nat} {a b : Nat} : ∀ {k}, sameB tx a b k = true ↔ ∀ i, i < k → tx (a + i) = tx (b + i)
  | 0 => ⟨fun _ i hi => absurd hi (Nat.not_lt_zero i), fun _ => rfl⟩
  | k + 1 => by
    unfold sameB
    rw [Bool.and_eq_true, sameB_t, beq_iff_eq]
    constructor
    · rintro ⟨h1, h2⟩ i hi
      by_cases e : i = k
      · rw [e]; exact h2
      · exact h1 i (by omega)
    · intro h
      exact ⟨fun i hi => h i (by omega), h k (by omega)⟩
/-- whether one of the names is this one -/
def twcB (tx ss zs : Nat → Nat) (p z : Nat) : Nat → Bool
  | 0 => false
  | c + 1 => twcB tx ss zs p z c || ((zs c == z) && sameB tx (ss c) p z)
theorem twcB_f {tx ss zs : Nat → Nat} {p z : Nat} : ∀ {m}, twcB tx ss zs p z m = false ↔ ∀ c, c < m → ¬ (zs c = z ∧ sameB tx (ss c) p z = true)
  | 0 => ⟨fun _ i hi => absurd hi (Nat.not_lt_zero i), fun _ => rfl⟩
  | m + 1 => by
    unfold twcB
    rw [Bool.or_eq_false_iff, twcB_f]
    constructor
    · rintro ⟨h1, h2⟩ i hi z1
      by_cases e : i = m
      · subst e
        rw [z1.2, Bool.and_true] at h2
        simp [z1.1] at h2
      · exact h1 i (by omega) z1
    · intro h
      refine ⟨fun i hi => h i (by omega), ?_⟩
      have h3 := h m (by omega)
      cases e : (zs m == z) with
      | false => rfl
      | true =>
        cases e2 : sameB tx (ss m) p z with
        | false => rfl
        | true => exact absurd ⟨beq_iff_eq.mp e, e2⟩ h3
/-- the head's names: its fault's place or -1, how many, where they begin, their sizes -/
def hdR (tx : Nat → Nat) (n : Nat) : Nat → (Nat → Nat) → (Nat → Nat) → Nat → Nat → Int × Nat × (Nat → Nat) × (Nat → Nat)
  | 0, ss, zs, m, p => ((p : Int), m, ss, zs)
  | f + 1, ss, zs, m, p =>
    if ltr tx n p = 0 ∨ twcB tx ss zs p (ltr tx n p) m = true then ((p : Int), m, ss, zs)
    else if p + ltr tx n p = n then (-1, m + 1, va_up ss m p, va_up zs m (ltr tx n p))
    else if ¬ tx (p + ltr tx n p) = 44 ∨ m + 1 = 5 then (((p + ltr tx n p : Nat) : Int), m + 1, va_up ss m p, va_up zs m (ltr tx n p))
    else hdR tx n f (va_up ss m p) (va_up zs m (ltr tx n p)) (m + 1) (p + ltr tx n p + 1)
theorem hdR_go {tx : Nat → Nat} {n f : Nat} {ss zs : Nat → Nat} {m p : Nat} (h1 : ¬ ltr tx n p = 0) (h2 : twcB tx ss zs p (ltr tx n p) m = false) (h3 : ¬ p + ltr tx n p = n) (h4 : tx (p + ltr tx n p) = 44) (h5 : ¬ m + 1 = 5) : hdR tx n (f + 1) ss zs m p = hdR tx n f (va_up ss m p) (va_up zs m (ltr tx n p)) (m + 1) (p + ltr tx n p + 1) := by
  show (if _ then _ else if _ then _ else if _ then _ else _) = _
  rw [if_neg (fun z => by rcases z with z | z; exact h1 z; rw [h2] at z; cases z), if_neg h3, if_neg (fun z => by rcases z with z | z; exact z h4; exact h5 z)]

set_option maxHeartbeats 4000000 in
set_option maxRecDepth 100000 in
/-- HeadNames -/
theorem c_X3_init (l : Launch) (D : va_G) (cy : Nat → ClassId) (o : Nat)  : xMet l D cy xT yX3_init wsX3_init ({ frames := 2, cells := 2, slots := 10, locals := 200 } : Room) [.ref o] [(o, .inr (2, [.null, .null, .int (nI 0)]))] [] (fun (v9 : Option Value) (w9 : va_W) => (∃ sa : Nat, ∃ za : Nat, v9 = none ∧ w9 = [(o, .inr (2, [.ref sa, .ref za, .int (nI 0)])), (sa, .inl (cy 1, 5, .inl (fun k => nI ((fun _ => 0) k)))), (za, .inl (cy 1, 5, .inl (fun k => nI ((fun _ => 0) k))))])) := by
  refine xMet_of (cc := cX3_init) (maxL := 1) (ret := none) (by decide) rfl (Nat.le_of_ble_eq_true rfl) (fun p e s m args below meth c A R Q hA hR hQ C hr hnm hro hX => ?_)
  have hw0 : Cond.methodLink RX3 3 Lib.objectInit ∈ wsX3_init := by decide +kernel
  have hw1 : Cond.instanceMethod Lib.objectInit ∈ wsX3_init := by decide +kernel
  have hw2 : Cond.code Lib.objectInit ⟨#[0xb1]⟩ 1 none ∈ wsX3_init := by decide +kernel
  have hw3 : Cond.arrayClass .int ∈ wsX3_init := by decide +kernel
  have hw4 : ∀ w ∈ u_ws RX3 TX3 3, w ∈ wsX3_init := by decide +kernel
  have hw5 : Cond.fieldLink RX3 9 (TX3 0).1 (TX3 0).2.1 (TX3 0).2.2.1 ∈ wsX3_init := by decide +kernel
  have hw6 : Cond.fieldLink RX3 15 (TX3 1).1 (TX3 1).2.1 (TX3 1).2.2.1 ∈ wsX3_init := by decide +kernel
  have hw7 : Cond.fieldLink RX3 18 (TX3 2).1 (TX3 2).2.1 (TX3 2).2.2.1 ∈ wsX3_init := by decide +kernel
  refine x_L (L' := [(0, .ref o)]) [0] rfl ?_
  refine x_aload_n C dX3_init_0 (q := 1) rfl rfl 0 rfl ?_
  refine x_obj C hw0 hw1 hw2 (by rw [hR]; exact Nat.le_of_ble_eq_true rfl) (by rw [hR]; exact Nat.le_of_ble_eq_true rfl) dX3_init_1 (q := 4) rfl ?_
  refine x_aload_n C dX3_init_4 (q := 5) rfl rfl 0 rfl ?_
  refine x_iconst C dX3_init_5 (q := 6) rfl (v := nI 5) (by decide) ?_
  refine x_newI C (N := 5) hw3 rfl (by decide) (k' := 1) rfl (n' := 5) rfl (by rw [hR]; exact ⟨Nat.le_of_ble_eq_true rfl, Nat.le_of_ble_eq_true rfl⟩) dX3_init_6 (q := 8) rfl (fun sa => ?_)
  refine x_ws (ws' := [(o, .inr (2, [.null, .null, .int (nI 0)])), (sa, .inl (cy 1, 5, .inl (fun _ => 0)))]) rfl ?_
  refine x_putF C (ci := 2) (ty := tyX3 0) (ws' := [(o, .inr (2, [.ref sa, .null, .int (nI 0)])), (sa, .inl (cy 1, 5, .inl (fun _ => 0)))]) hw4 tyX3 tyX3_ok nmX3 0 rfl rfl 0 (by decide) hw5 rfl hnm rfl (by decide +kernel) rfl rfl (Nat.le_of_ble_eq_true rfl) rfl dX3_init_8 (q := 11) rfl ?_
  refine x_aload_n C dX3_init_11 (q := 12) rfl rfl 0 rfl ?_
  refine x_iconst C dX3_init_12 (q := 13) rfl (v := nI 5) (by decide) ?_
  refine x_newI C (N := 5) hw3 rfl (by decide) (k' := 2) rfl (n' := 10) rfl (by rw [hR]; exact ⟨Nat.le_of_ble_eq_true rfl, Nat.le_of_ble_eq_true rfl⟩) dX3_init_13 (q := 15) rfl (fun za => ?_)
  refine x_ws (ws' := [(o, .inr (2, [.ref sa, .null, .int (nI 0)])), (sa, .inl (cy 1, 5, .inl (fun _ => 0))), (za, .inl (cy 1, 5, .inl (fun _ => 0)))]) rfl ?_
  refine x_putF C (ci := 2) (ty := tyX3 1) (ws' := [(o, .inr (2, [.ref sa, .ref za, .int (nI 0)])), (sa, .inl (cy 1, 5, .inl (fun _ => 0))), (za, .inl (cy 1, 5, .inl (fun _ => 0)))]) hw4 tyX3 tyX3_ok nmX3 0 rfl rfl 1 (by decide) hw6 rfl hnm rfl (by decide +kernel) rfl rfl (Nat.le_of_ble_eq_true rfl) rfl dX3_init_15 (q := 18) rfl ?_
  refine x_aload_n C dX3_init_18 (q := 19) rfl rfl 0 rfl ?_
  refine x_iconst C dX3_init_19 (q := 20) rfl (v := nI 0) (by decide) ?_
  refine x_put C (ci := 2) (ty := .int) (ws' := [(o, .inr (2, [.ref sa, .ref za, .int (nI 0)])), (sa, .inl (cy 1, 5, .inl (fun _ => 0))), (za, .inl (cy 1, 5, .inl (fun _ => 0)))]) hw4 tyX3 tyX3_ok nmX3 0 rfl rfl 2 (by decide) hw7 rfl (by decide +kernel) rfl rfl (Nat.le_of_ble_eq_true rfl) rfl dX3_init_20 (q := 23) rfl ?_
  refine x_vret C hA hQ hr dX3_init_23 (Nat.le_of_ble_eq_true rfl) ?_
  exact ⟨sa, za, rfl, rfl⟩

set_option maxHeartbeats 4000000 in
set_option maxRecDepth 100000 in
/-- HeadNames.isLetter -/
theorem c_X3_isLetter (l : Launch) (D : va_G) (cy : Nat → ClassId) (z : Int32)  : xMet l D cy xT yX3_isLetter wsX3_isLetter ({ frames := 1, cells := 0, slots := 0, locals := 0 } : Room) [.int (z)] [] [] (fun (v9 : Option Value) (w9 : va_W) => (v9 = some (.int (nI 1)) ∧ w9 = [] ∧ 97 ≤ z.toInt ∧ z.toInt ≤ 122) ∨ (v9 = some (.int (nI 0)) ∧ w9 = [] ∧ (z.toInt < 97 ∨ 122 < z.toInt))) := by
  refine xMet_of (cc := cX3_isLetter) (maxL := 1) (ret := (some .boolean)) (by decide) rfl (Nat.le_of_ble_eq_true rfl) (fun p e s m args below meth c A R Q hA hR hQ C hr hnm hro hX => ?_)
  refine x_L (L' := [(0, .int (z))]) [0] rfl ?_
  refine x_iload_n C dX3_isLetter_0 (q := 1) rfl rfl 0 rfl ?_
  refine x_bipush C dX3_isLetter_1 (q := 3) rfl (v := nI 97) (by decide) ?_
  refine x_icmp_lt C (tgt := 16) dX3_isLetter_3 (by decide) (q := 6) rfl (a := z.toInt) (b := 97) rfl rfl (fun h1 => ?_) (fun h1 => ?_)
  · first
    | (exfalso; omega)
    |
      refine x_iconst C dX3_isLetter_16 (q := 17) rfl (v := nI 0) (by decide) ?_
      refine x_zret C hA hQ hr (ty := .boolean) (by first | rfl | assumption | exact xz_nar _) dX3_isLetter_17 (Nat.le_of_ble_eq_true rfl) ?_
      first | exact Or.inl ⟨rfl, rfl, by omega, by omega⟩ | exact Or.inr ⟨rfl, rfl, by omega⟩
  · first
    | (exfalso; omega)
    |
      refine x_iload_n C dX3_isLetter_6 (q := 7) rfl rfl 0 rfl ?_
      refine x_bipush C dX3_isLetter_7 (q := 9) rfl (v := nI 122) (by decide) ?_
      refine x_icmp_gt C (tgt := 16) dX3_isLetter_9 (by decide) (q := 12) rfl (a := z.toInt) (b := 122) rfl rfl (fun h2 => ?_) (fun h2 => ?_)
      · first
        | (exfalso; omega)
        |
          refine x_iconst C dX3_isLetter_16 (q := 17) rfl (v := nI 0) (by decide) ?_
          refine x_zret C hA hQ hr (ty := .boolean) (by first | rfl | assumption | exact xz_nar _) dX3_isLetter_17 (Nat.le_of_ble_eq_true rfl) ?_
          first | exact Or.inl ⟨rfl, rfl, by omega, by omega⟩ | exact Or.inr ⟨rfl, rfl, by omega⟩
      · first
        | (exfalso; omega)
        |
          refine x_iconst C dX3_isLetter_12 (q := 13) rfl (v := nI 1) (by decide) ?_
          refine x_goto C (tgt := 17) dX3_isLetter_13 (by decide) ?_
          refine x_zret C hA hQ hr (ty := .boolean) (by first | rfl | assumption | exact xz_nar _) dX3_isLetter_17 (Nat.le_of_ble_eq_true rfl) ?_
          first | exact Or.inl ⟨rfl, rfl, by omega, by omega⟩ | exact Or.inr ⟨rfl, rfl, by omega⟩

set_option maxHeartbeats 4000000 in
set_option maxRecDepth 100000 in
/-- HeadNames.lettersFrom -/
theorem c_X3_lettersFrom (l : Launch) (D : va_G) (cy : Nat → ClassId) (t : Nat) (tb : Nat) (n : Nat) (tx : Nat → Nat) (p0 : Nat) (hn : n ≤ 60) (htx : ∀ k, tx k < 128) (hp : p0 ≤ n) : xMet l D cy xT yX3_lettersFrom wsX3_lettersFrom ({ frames := 3, cells := 0, slots := 0, locals := 300 } : Room) [.ref t, .int (nI p0)] [] [(t, .inr (5, [.ref tb, .int (nI n)])), (tb, .inl (cy 0, 60, .inl (fun k => nI (tx k))))] (fun (v9 : Option Value) (w9 : va_W) => (v9 = some (.int (nI (ltr tx n p0))) ∧ w9 = [])) := by
  refine xMet_of (cc := cX3_lettersFrom) (maxL := 3) (ret := (some .int)) (by decide) rfl (Nat.le_of_ble_eq_true rfl) (fun p e s m args below meth c A R Q hA hR hQ C hr hnm hro hX => ?_)
  refine x_L (L' := [(0, .ref t), (1, .int (nI p0))]) [0, 1] rfl ?_
  refine x_iconst C dX3_lettersFrom_0 (q := 1) rfl (v := nI 0) (by decide) ?_
  refine x_istore_n C (L' := [(2, .int (nI 0)), (0, .ref t), (1, .int (nI p0))]) dX3_lettersFrom_1 (q := 2) rfl rfl (by decide) rfl ?_
  have cut2 : ∀ (fuel : Nat) (i : Nat), (i ≤ 4) → (ltr tx n p0 = i + runLen (isLt tx n) (p0 + 4) (p0 + 4 - (p0 + i)) (p0 + i)) → 4 - i < fuel → xG p l e R s m args below meth c Q D A 3 [] 0 0 2 [(0, .ref t), (1, .int (nI p0)), (2, .int (nI i))] [] := by
    intro fuel
    induction fuel with
    | zero =>
      intro i hi he hmu
      exact absurd hmu (Nat.not_lt_zero _)
    | succ fuel ih =>
      intro i hi he hmu
      have ih2 := ih
      clear ih
      refine x_iload_n C dX3_lettersFrom_2 (q := 3) rfl rfl 2 rfl ?_
      refine x_iconst C dX3_lettersFrom_3 (q := 4) rfl (v := nI 4) (by decide) ?_
      refine x_icmp_ge C (tgt := 26) dX3_lettersFrom_4 (by decide) (q := 7) rfl (a := ((i : Nat) : Int)) (b := 4) (nI_toInt (by omega)) rfl (fun h1 => ?_) (fun h1 => ?_)
      · first
        | (exfalso; omega)
        |
          refine x_iload_n C dX3_lettersFrom_26 (q := 27) rfl rfl 2 rfl ?_
          refine x_iret C hA hQ hr dX3_lettersFrom_27 (Nat.le_of_ble_eq_true rfl) ?_
          have h9 : runLen (isLt tx n) (p0 + 4) (p0 + 4 - (p0 + i)) (p0 + i) = 0 := runLen_stop _ (fun z => by have z1 := isLt_t.mp z.2; omega)
          exact ⟨by rw [he, h9]; rfl, rfl⟩
      · first
        | (exfalso; omega)
        |
          refine x_aload_n C dX3_lettersFrom_7 (q := 8) rfl rfl 0 rfl ?_
          refine x_iload_n C dX3_lettersFrom_8 (q := 9) rfl rfl 1 rfl ?_
          refine x_iload_n C dX3_lettersFrom_9 (q := 10) rfl rfl 2 rfl ?_
          refine x_iadd C dX3_lettersFrom_10 (q := 11) rfl (z := nI (p0 + i)) (nI_add p0 i) ?_
          refine x_callV C (roW := []) (roR := [(t, .inr (5, [.ref tb, .int (nI n)])), (tb, .inl (cy 0, 60, .inl (fun k => nI (tx k))))]) (c_X6_at l D cy t tb n 60 tx (p0 + i) (by first | assumption | omega | (simp only []; omega)) (by first | assumption | omega | (simp only []; omega)) (by first | assumption | omega | (simp only []; omega)) (by assumption)) (cwV 1 C.2.2.2.2.1 gX3_lettersFrom_X6_at rfl rfl rfl (by decide +kernel) (by rw [hR]; exact ⟨Nat.le_of_ble_eq_true rfl, Nat.le_of_ble_eq_true rfl⟩)) [] [] rfl (by decide) rfl (by decide) (xro_cons (hro (t, .inr (5, [.ref tb, .int (nI n)])) (List.mem_of_getElem? (i := 0) rfl)) (xro_cons (hro (tb, .inl (cy 0, 60, .inl (fun k => nI (tx k)))) (List.mem_of_getElem? (i := 1) rfl)) xro_nil)) (List.mem_of_getElem? (i := 0) rfl) (ci := 5) rfl xT_bl (fun _ _ _ _ _ _ _ => trivial) rfl rfl dX3_lettersFrom_11 rfl rfl (Nat.le_of_ble_eq_true rfl) (q := 14) rfl (k' := 0) rfl (n' := 0) rfl (by rw [hR]; exact ⟨Nat.le_of_ble_eq_true rfl, Nat.le_of_ble_eq_true rfl⟩) (fun v2 w2 hp2 => ?_)
          obtain ⟨r_3, rfl, rfl, hc4⟩ := hp2
          refine x_ws (ws' := []) (List.append_nil _) ?_
          have hq5 : (p0 + i < n ∧ sgA tx n (p0 + i) = (tx (p0 + i) : Int)) ∨ (¬ p0 + i < n ∧ sgA tx n (p0 + i) = -1) := by
            by_cases h9 : p0 + i < n
            · exact Or.inl ⟨h9, sgA_in h9⟩
            · exact Or.inr ⟨h9, sgA_out h9⟩
          have hr5 := htx (p0 + i)
          refine x_callS C (roW := []) (roR := []) (c_X3_isLetter l D cy r_3 ) (cwS 1 C.2.2.2.2.1 gX3_lettersFrom_X3_isLetter rfl rfl rfl (by decide +kernel) (by rw [hR]; exact ⟨Nat.le_of_ble_eq_true rfl, Nat.le_of_ble_eq_true rfl⟩)) [] [] rfl (by decide) rfl (by decide) xro_nil xT_bl (fun _ _ _ _ _ _ _ => trivial) rfl rfl dX3_lettersFrom_14 rfl rfl (Nat.le_of_ble_eq_true rfl) (q := 17) rfl (k' := 0) rfl (n' := 0) rfl (by rw [hR]; exact ⟨Nat.le_of_ble_eq_true rfl, Nat.le_of_ble_eq_true rfl⟩) (fun v5 w5 hp5 => ?_)
          rcases hp5 with hp5 | hp5
          · skip
            obtain ⟨rfl, rfl, hc6, hc7⟩ := hp5
            refine x_ws (ws' := []) (List.append_nil _) ?_
            refine x_if_eq C (tgt := 26) dX3_lettersFrom_17 (by decide) (q := 20) rfl (a := 1) rfl (fun h8 => (by omega : False).elim) (fun h8 => ?_)
            refine x_iinc C (L' := [(2, .int (nI (i + 1))), (0, .ref t), (1, .int (nI p0))]) dX3_lettersFrom_20 (q := 23) rfl 2 rfl (v := nI (i + 1)) (nI_add i 1) (by decide) rfl ?_
            refine x_goto C (tgt := 2) dX3_lettersFrom_23 (by decide) ?_
            refine x_L (L' := [(0, .ref t), (1, .int (nI p0)), (2, .int (nI (i + 1)))]) [1, 2, 0] rfl ?_
            exact ih2 (i + 1) (by first | omega | assumption) (by have h8 : isLt tx n (p0 + i) = true := isLt_t.mpr (by omega); have h7 := runLen_step (P := isLt tx n) (to := p0 + 4) (k := p0 + i) (by omega) h8; rw [show p0 + (i + 1) = p0 + i + 1 by omega]; omega) (by omega)
          · skip
            obtain ⟨rfl, rfl, hc9⟩ := hp5
            refine x_ws (ws' := []) (List.append_nil _) ?_
            refine x_if_eq C (tgt := 26) dX3_lettersFrom_17 (by decide) (q := 20) rfl (a := 0) rfl (fun h10 => ?_) (fun h10 => (by omega : False).elim)
            refine x_iload_n C dX3_lettersFrom_26 (q := 27) rfl rfl 2 rfl ?_
            refine x_iret C hA hQ hr dX3_lettersFrom_27 (Nat.le_of_ble_eq_true rfl) ?_
            have h9 : runLen (isLt tx n) (p0 + 4) (p0 + 4 - (p0 + i)) (p0 + i) = 0 := runLen_stop _ (fun z => by have z1 := isLt_t.mp z.2; omega)
            exact ⟨by rw [he, h9]; rfl, rfl⟩
  refine x_L (L' := [(0, .ref t), (1, .int (nI p0)), (2, .int (nI 0))]) [1, 2, 0] rfl ?_
  exact cut2 (4 - 0 + 1) 0 (by first | omega | assumption) (by rw [Nat.zero_add, show p0 + 4 - (p0 + 0) = 4 by omega]; rfl) (by omega)

set_option maxHeartbeats 4000000 in
set_option maxRecDepth 100000 in
/-- HeadNames.isNameAhead -/
theorem c_X3_isNameAhead (l : Launch) (D : va_G) (cy : Nat → ClassId) (o : Nat) (sa : Nat) (za : Nat) (mq : Nat) (ss : Nat → Nat) (zs : Nat → Nat) (t : Nat) (tb : Nat) (n : Nat) (tx : Nat → Nat) (p0 : Nat) (z : Nat) (hn : n ≤ 60) (htx : ∀ k, tx k < 128) (hm : mq ≤ 5) (hpz : p0 + z ≤ n) (hz : z ≤ 4) (hss : ∀ c, c < mq → ss c + zs c ≤ n) (hzs : ∀ c, zs c ≤ 4) (hs60 : ∀ c, ss c ≤ 60) : xMet l D cy xT yX3_isNameAhead wsX3_isNameAhead ({ frames := 2, cells := 0, slots := 0, locals := 200 } : Room) [.ref o, .ref t, .int (nI p0), .int (nI z)] [] [(o, .inr (2, [.ref sa, .ref za, .int (nI mq)])), (sa, .inl (cy 1, 5, .inl (fun k => nI (ss k)))), (za, .inl (cy 1, 5, .inl (fun k => nI (zs k)))), (t, .inr (5, [.ref tb, .int (nI n)])), (tb, .inl (cy 0, 60, .inl (fun k => nI (tx k))))] (fun (v9 : Option Value) (w9 : va_W) => (v9 = some (.int (nI 1)) ∧ w9 = [] ∧ twcB tx ss zs p0 z mq = true) ∨ (v9 = some (.int (nI 0)) ∧ w9 = [] ∧ twcB tx ss zs p0 z mq = false)) := by
  refine xMet_of (cc := cX3_isNameAhead) (maxL := 7) (ret := (some .boolean)) (by decide) rfl (Nat.le_of_ble_eq_true rfl) (fun p e s m args below meth c A R Q hA hR hQ C hr hnm hro hX => ?_)
  have hw0 : ∀ w ∈ u_ws RX3 TX3 3, w ∈ wsX3_isNameAhead := by decide +kernel
  have hw1 : Cond.fieldLink RX3 18 (TX3 2).1 (TX3 2).2.1 (TX3 2).2.2.1 ∈ wsX3_isNameAhead := by decide +kernel
  have hw2 : Cond.fieldLink RX3 9 (TX3 0).1 (TX3 0).2.1 (TX3 0).2.2.1 ∈ wsX3_isNameAhead := by decide +kernel
  have hw3 : Cond.fieldLink RX3 15 (TX3 1).1 (TX3 1).2.1 (TX3 1).2.2.1 ∈ wsX3_isNameAhead := by decide +kernel
  refine x_L (L' := [(0, .ref o), (1, .ref t), (2, .int (nI p0)), (3, .int (nI z))]) [0, 1, 2, 3] rfl ?_
  refine x_iconst C dX3_isNameAhead_0 (q := 1) rfl (v := nI 0) (by decide) ?_
  refine x_istore C (L' := [(4, .int (nI 0)), (0, .ref o), (1, .ref t), (2, .int (nI p0)), (3, .int (nI z))]) dX3_isNameAhead_1 (q := 3) rfl (by decide) rfl ?_
  have cut3 : ∀ (fuel : Nat) (cq : Nat), (cq ≤ mq) → (twcB tx ss zs p0 z cq = false) → mq - cq < fuel → xG p l e R s m args below meth c Q D A 7 [] 0 0 3 [(0, .ref o), (1, .ref t), (2, .int (nI p0)), (3, .int (nI z)), (4, .int (nI cq))] [] := by
    intro fuel
    induction fuel with
    | zero =>
      intro cq hc ht hmu
      exact absurd hmu (Nat.not_lt_zero _)
    | succ fuel ih =>
      intro cq hc ht hmu
      have ih3 := ih
      clear ih
      refine x_iload C dX3_isNameAhead_3 (q := 5) rfl 4 rfl ?_
      refine x_aload_n C dX3_isNameAhead_5 (q := 6) rfl rfl 0 rfl ?_
      refine x_getR C (ci := 2) (v := .int (nI mq)) hw0 (hro (o, .inr (2, [.ref sa, .ref za, .int (nI mq)])) (List.mem_of_getElem? (i := 0) rfl)) rfl 2 (by decide) hw1 rfl dX3_isNameAhead_6 (q := 9) rfl ?_
      refine x_icmp_ge C (tgt := 101) dX3_isNameAhead_9 (by decide) (q := 12) rfl (a := ((cq : Nat) : Int)) (b := ((mq : Nat) : Int)) (nI_toInt (by omega)) (nI_toInt (by omega)) (fun h1 => ?_) (fun h1 => ?_)
      · first
        | (exfalso; omega)
        |
          refine x_iconst C dX3_isNameAhead_101 (q := 102) rfl (v := nI 0) (by decide) ?_
          refine x_zret C hA hQ hr (ty := .boolean) (by first | rfl | assumption | exact xz_nar _) dX3_isNameAhead_102 (Nat.le_of_ble_eq_true rfl) ?_
          exact Or.inr ⟨rfl, rfl, by rw [show mq = cq by omega]; exact ht⟩
      · first
        | (exfalso; omega)
        |
          refine x_iload C dX3_isNameAhead_12 (q := 14) rfl 4 rfl ?_
          refine x_iconst C dX3_isNameAhead_14 (q := 15) rfl (v := nI 5) (by decide) ?_
          refine x_icmp_ge C (tgt := 101) dX3_isNameAhead_15 (by decide) (q := 18) rfl (a := ((cq : Nat) : Int)) (b := 5) (nI_toInt (by omega)) rfl (fun h2 => ?_) (fun h2 => ?_)
          · first
            | (exfalso; omega)
            |
              refine x_iconst C dX3_isNameAhead_101 (q := 102) rfl (v := nI 0) (by decide) ?_
              refine x_zret C hA hQ hr (ty := .boolean) (by first | rfl | assumption | exact xz_nar _) dX3_isNameAhead_102 (Nat.le_of_ble_eq_true rfl) ?_
              exact Or.inr ⟨rfl, rfl, by rw [show mq = cq by omega]; exact ht⟩
          · first
            | (exfalso; omega)
            |
              have hsc9 := hss cq (by omega)
              have cut34 : ∀ (al : Nat), (al ≤ 1 ∧ (al = 1 ↔ zs cq = z)) → xG p l e R s m args below meth c Q D A 7 [] 0 0 34 [(0, .ref o), (1, .ref t), (2, .int (nI p0)), (3, .int (nI z)), (4, .int (nI cq))] [.int (nI al)] := by
                intro al hal
                refine x_istore C (L' := [(5, .int (nI al)), (0, .ref o), (1, .ref t), (2, .int (nI p0)), (3, .int (nI z)), (4, .int (nI cq))]) dX3_isNameAhead_34 (q := 36) rfl (by decide) rfl ?_
                refine x_iconst C dX3_isNameAhead_36 (q := 37) rfl (v := nI 0) (by decide) ?_
                refine x_istore C (L' := [(6, .int (nI 0)), (5, .int (nI al)), (0, .ref o), (1, .ref t), (2, .int (nI p0)), (3, .int (nI z)), (4, .int (nI cq))]) dX3_isNameAhead_37 (q := 39) rfl (by decide) rfl ?_
                have cut39 : ∀ (fuel : Nat) (al : Nat) (i : Nat), (al ≤ 1) → (i ≤ z) → (al = 1 ↔ (zs cq = z ∧ sameB tx (ss cq) p0 i = true)) → z - i < fuel → xG p l e R s m args below meth c Q D A 7 [] 0 0 39 [(0, .ref o), (1, .ref t), (2, .int (nI p0)), (3, .int (nI z)), (4, .int (nI cq)), (5, .int (nI al)), (6, .int (nI i))] [] := by
                  intro fuel
                  induction fuel with
                  | zero =>
                    intro al i hal1 hi hal hmu
                    exact absurd hmu (Nat.not_lt_zero _)
                  | succ fuel ih =>
                    intro al i hal1 hi hal hmu
                    have ih39 := ih
                    clear ih
                    refine x_iload C dX3_isNameAhead_39 (q := 41) rfl 6 rfl ?_
                    refine x_iload_n C dX3_isNameAhead_41 (q := 42) rfl rfl 3 rfl ?_
                    refine x_icmp_ge C (tgt := 88) dX3_isNameAhead_42 (by decide) (q := 45) rfl (a := ((i : Nat) : Int)) (b := ((z : Nat) : Int)) (nI_toInt (by omega)) (nI_toInt (by omega)) (fun h3 => ?_) (fun h3 => ?_)
                    · first
                      | (exfalso; omega)
                      |
                        refine x_iload C dX3_isNameAhead_88 (q := 90) rfl 5 rfl ?_
                        refine x_if_eq C (tgt := 95) dX3_isNameAhead_90 (by decide) (q := 93) rfl (a := ((al : Nat) : Int)) (nI_toInt (by omega)) (fun h4 => ?_) (fun h4 => ?_)
                        · first
                          | (exfalso; omega)
                          |
                            refine x_iinc C (L' := [(4, .int (nI (cq + 1))), (0, .ref o), (1, .ref t), (2, .int (nI p0)), (3, .int (nI z)), (5, .int (nI al)), (6, .int (nI i))]) dX3_isNameAhead_95 (q := 98) rfl 4 rfl (v := nI (cq + 1)) (nI_add cq 1) (by decide) rfl ?_
                            refine x_goto C (tgt := 3) dX3_isNameAhead_98 (by decide) ?_
                            refine x_L (L' := [(0, .ref o), (1, .ref t), (2, .int (nI p0)), (3, .int (nI z)), (4, .int (nI (cq + 1)))]) [1, 2, 3, 4, 0] rfl ?_
                            exact ih3 (cq + 1) (by first | omega | assumption) (by unfold twcB; rw [ht, Bool.false_or]; cases e8 : ((zs cq == z) && sameB tx (ss cq) p0 z) with | false => rfl | true => exact absurd e8 (by intro e7; rw [Bool.and_eq_true, beq_iff_eq] at e7; have e6 := hal.mpr ⟨e7.1, sameB_t.mpr (fun j hj => sameB_t.mp e7.2 j (by omega))⟩; omega)) (by omega)
                        · first
                          | (exfalso; omega)
                          |
                            refine x_iconst C dX3_isNameAhead_93 (q := 94) rfl (v := nI 1) (by decide) ?_
                            refine x_zret C hA hQ hr (ty := .boolean) (by first | rfl | assumption | exact xz_nar _) dX3_isNameAhead_94 (Nat.le_of_ble_eq_true rfl) ?_
                            refine Or.inl ⟨rfl, rfl, ?_⟩
                            cases e9 : twcB tx ss zs p0 z mq with
                            | true => rfl
                            | false => exact absurd ⟨(hal.mp (by omega)).1, by have e8 := (hal.mp (by omega)).2; rw [show i = z by omega] at e8; exact e8⟩ (twcB_f.mp e9 cq (by omega))
                    · first
                      | (exfalso; omega)
                      |
                        refine x_iload C dX3_isNameAhead_45 (q := 47) rfl 5 rfl ?_
                        refine x_if_eq C (tgt := 88) dX3_isNameAhead_47 (by decide) (q := 50) rfl (a := ((al : Nat) : Int)) (nI_toInt (by omega)) (fun h5 => ?_) (fun h5 => ?_)
                        · first
                          | (exfalso; omega)
                          |
                            refine x_iload C dX3_isNameAhead_88 (q := 90) rfl 5 rfl ?_
                            refine x_if_eq C (tgt := 95) dX3_isNameAhead_90 (by decide) (q := 93) rfl (a := ((al : Nat) : Int)) (nI_toInt (by omega)) (fun h6 => ?_) (fun h6 => ?_)
                            · first
                              | (exfalso; omega)
                              |
                                refine x_iinc C (L' := [(4, .int (nI (cq + 1))), (0, .ref o), (1, .ref t), (2, .int (nI p0)), (3, .int (nI z)), (5, .int (nI al)), (6, .int (nI i))]) dX3_isNameAhead_95 (q := 98) rfl 4 rfl (v := nI (cq + 1)) (nI_add cq 1) (by decide) rfl ?_
                                refine x_goto C (tgt := 3) dX3_isNameAhead_98 (by decide) ?_
                                refine x_L (L' := [(0, .ref o), (1, .ref t), (2, .int (nI p0)), (3, .int (nI z)), (4, .int (nI (cq + 1)))]) [1, 2, 3, 4, 0] rfl ?_
                                exact ih3 (cq + 1) (by first | omega | assumption) (by unfold twcB; rw [ht, Bool.false_or]; cases e8 : ((zs cq == z) && sameB tx (ss cq) p0 z) with | false => rfl | true => exact absurd e8 (by intro e7; rw [Bool.and_eq_true, beq_iff_eq] at e7; have e6 := hal.mpr ⟨e7.1, sameB_t.mpr (fun j hj => sameB_t.mp e7.2 j (by omega))⟩; omega)) (by omega)
                            · first
                              | (exfalso; omega)
                              |
                                refine x_iconst C dX3_isNameAhead_93 (q := 94) rfl (v := nI 1) (by decide) ?_
                                refine x_zret C hA hQ hr (ty := .boolean) (by first | rfl | assumption | exact xz_nar _) dX3_isNameAhead_94 (Nat.le_of_ble_eq_true rfl) ?_
                                refine Or.inl ⟨rfl, rfl, ?_⟩
                                cases e9 : twcB tx ss zs p0 z mq with
                                | true => rfl
                                | false => exact absurd ⟨(hal.mp (by omega)).1, by have e8 := (hal.mp (by omega)).2; rw [show i = z by omega] at e8; exact e8⟩ (twcB_f.mp e9 cq (by omega))
                        · first
                          | (exfalso; omega)
                          |
                            have hac := hal.mp (by omega)
                            have hsc := hss cq (by omega)
                            have cut80 : ∀ (ax : Nat), (ax ≤ 1 ∧ (ax = 1 ↔ tx (ss cq + i) = tx (p0 + i))) → xG p l e R s m args below meth c Q D A 7 [] 0 0 80 [(0, .ref o), (1, .ref t), (2, .int (nI p0)), (3, .int (nI z)), (4, .int (nI cq)), (6, .int (nI i))] [.int (nI ax)] := by
                              intro ax hax
                              refine x_istore C (L' := [(5, .int (nI ax)), (0, .ref o), (1, .ref t), (2, .int (nI p0)), (3, .int (nI z)), (4, .int (nI cq)), (6, .int (nI i))]) dX3_isNameAhead_80 (q := 82) rfl (by decide) rfl ?_
                              refine x_iinc C (L' := [(6, .int (nI (i + 1))), (5, .int (nI ax)), (0, .ref o), (1, .ref t), (2, .int (nI p0)), (3, .int (nI z)), (4, .int (nI cq))]) dX3_isNameAhead_82 (q := 85) rfl 6 rfl (v := nI (i + 1)) (nI_add i 1) (by decide) rfl ?_
                              refine x_goto C (tgt := 39) dX3_isNameAhead_85 (by decide) ?_
                              refine x_L (L' := [(0, .ref o), (1, .ref t), (2, .int (nI p0)), (3, .int (nI z)), (4, .int (nI cq)), (5, .int (nI ax)), (6, .int (nI (i + 1)))]) [2, 3, 4, 5, 6, 1, 0] rfl ?_
                              exact ih39 ax (i + 1) (by first | omega | assumption) (by first | omega | assumption) (by have e5 := (hal.mp (by omega)); unfold sameB; rw [Bool.and_eq_true, beq_iff_eq]; constructor; (intro e4; exact ⟨e5.1, e5.2, by omega⟩); (intro e4; have e3 := e4.2.2; omega)) (by omega)
                            refine x_aload_n C dX3_isNameAhead_50 (q := 51) rfl rfl 1 rfl ?_
                            refine x_aload_n C dX3_isNameAhead_51 (q := 52) rfl rfl 0 rfl ?_
                            refine x_getR C (ci := 2) (v := .ref sa) hw0 (hro (o, .inr (2, [.ref sa, .ref za, .int (nI mq)])) (List.mem_of_getElem? (i := 0) rfl)) rfl 0 (by decide) hw2 rfl dX3_isNameAhead_52 (q := 55) rfl ?_
                            refine x_iload C dX3_isNameAhead_55 (q := 57) rfl 4 rfl ?_
                            have hb7 := hs60 cq
                            refine x_ialdR C (j := cq) (v := nI (ss cq)) (hro (sa, .inl (cy 1, 5, .inl (fun k => nI (ss k)))) (List.mem_of_getElem? (i := 1) rfl)) (nI_toInt (by omega)) (by omega) rfl dX3_isNameAhead_57 (q := 58) rfl ?_
                            refine x_iload C dX3_isNameAhead_58 (q := 60) rfl 6 rfl ?_
                            refine x_iadd C dX3_isNameAhead_60 (q := 61) rfl (z := nI (ss cq + i)) (nI_add (ss cq) i) ?_
                            refine x_callV C (roW := []) (roR := [(t, .inr (5, [.ref tb, .int (nI n)])), (tb, .inl (cy 0, 60, .inl (fun k => nI (tx k))))]) (c_X6_at l D cy t tb n 60 tx (ss cq + i) (by first | assumption | omega | (simp only []; omega)) (by first | assumption | omega | (simp only []; omega)) (by first | assumption | omega | (simp only []; omega)) (by assumption)) (cwV 1 C.2.2.2.2.1 gX3_isNameAhead_X6_at rfl rfl rfl (by decide +kernel) (by rw [hR]; exact ⟨Nat.le_of_ble_eq_true rfl, Nat.le_of_ble_eq_true rfl⟩)) [] [] rfl (by decide) rfl (by decide) (xro_cons (hro (t, .inr (5, [.ref tb, .int (nI n)])) (List.mem_of_getElem? (i := 3) rfl)) (xro_cons (hro (tb, .inl (cy 0, 60, .inl (fun k => nI (tx k)))) (List.mem_of_getElem? (i := 4) rfl)) xro_nil)) (List.mem_of_getElem? (i := 0) rfl) (ci := 5) rfl xT_bl (fun _ _ _ _ _ _ _ => trivial) rfl rfl dX3_isNameAhead_61 rfl rfl (Nat.le_of_ble_eq_true rfl) (q := 64) rfl (k' := 0) rfl (n' := 0) rfl (by rw [hR]; exact ⟨Nat.le_of_ble_eq_true rfl, Nat.le_of_ble_eq_true rfl⟩) (fun v8 w8 hp8 => ?_)
                            obtain ⟨r_9, rfl, rfl, hc10⟩ := hp8
                            refine x_ws (ws' := []) (List.append_nil _) ?_
                            rw [sgA_in (by omega)] at hc10
                            refine x_aload_n C dX3_isNameAhead_64 (q := 65) rfl rfl 1 rfl ?_
                            refine x_iload_n C dX3_isNameAhead_65 (q := 66) rfl rfl 2 rfl ?_
                            refine x_iload C dX3_isNameAhead_66 (q := 68) rfl 6 rfl ?_
                            refine x_iadd C dX3_isNameAhead_68 (q := 69) rfl (z := nI (p0 + i)) (nI_add p0 i) ?_
                            refine x_callV C (roW := []) (roR := [(t, .inr (5, [.ref tb, .int (nI n)])), (tb, .inl (cy 0, 60, .inl (fun k => nI (tx k))))]) (c_X6_at l D cy t tb n 60 tx (p0 + i) (by first | assumption | omega | (simp only []; omega)) (by first | assumption | omega | (simp only []; omega)) (by first | assumption | omega | (simp only []; omega)) (by assumption)) (cwV 1 C.2.2.2.2.1 gX3_isNameAhead_X6_at rfl rfl rfl (by decide +kernel) (by rw [hR]; exact ⟨Nat.le_of_ble_eq_true rfl, Nat.le_of_ble_eq_true rfl⟩)) [] [] rfl (by decide) rfl (by decide) (xro_cons (hro (t, .inr (5, [.ref tb, .int (nI n)])) (List.mem_of_getElem? (i := 3) rfl)) (xro_cons (hro (tb, .inl (cy 0, 60, .inl (fun k => nI (tx k)))) (List.mem_of_getElem? (i := 4) rfl)) xro_nil)) (List.mem_of_getElem? (i := 0) rfl) (ci := 5) rfl xT_bl (fun _ _ _ _ _ _ _ => trivial) rfl rfl dX3_isNameAhead_69 rfl rfl (Nat.le_of_ble_eq_true rfl) (q := 72) rfl (k' := 0) rfl (n' := 0) rfl (by rw [hR]; exact ⟨Nat.le_of_ble_eq_true rfl, Nat.le_of_ble_eq_true rfl⟩) (fun v11 w11 hp11 => ?_)
                            obtain ⟨r_12, rfl, rfl, hc13⟩ := hp11
                            refine x_ws (ws' := []) (List.append_nil _) ?_
                            rw [sgA_in (by omega)] at hc13
                            refine x_icmp_ne C (tgt := 79) dX3_isNameAhead_72 (by decide) (q := 75) rfl (a := r_9.toInt) (b := r_12.toInt) rfl rfl (fun h14 => ?_) (fun h14 => ?_)
                            · first
                              | (exfalso; omega)
                              |
                                refine x_iconst C dX3_isNameAhead_79 (q := 80) rfl (v := nI 0) (by decide) ?_
                                refine x_L (L' := [(0, .ref o), (1, .ref t), (2, .int (nI p0)), (3, .int (nI z)), (4, .int (nI cq)), (6, .int (nI i))]) [0, 1, 2, 3, 4, 6] rfl ?_
                                exact cut80 0 (by omega)
                            · first
                              | (exfalso; omega)
                              |
                                refine x_iconst C dX3_isNameAhead_75 (q := 76) rfl (v := nI 1) (by decide) ?_
                                refine x_goto C (tgt := 80) dX3_isNameAhead_76 (by decide) ?_
                                refine x_L (L' := [(0, .ref o), (1, .ref t), (2, .int (nI p0)), (3, .int (nI z)), (4, .int (nI cq)), (6, .int (nI i))]) [0, 1, 2, 3, 4, 6] rfl ?_
                                exact cut80 1 (by omega)
                refine x_L (L' := [(0, .ref o), (1, .ref t), (2, .int (nI p0)), (3, .int (nI z)), (4, .int (nI cq)), (5, .int (nI al)), (6, .int (nI 0))]) [2, 3, 4, 5, 6, 1, 0] rfl ?_
                exact cut39 (z - 0 + 1) al 0 (by first | omega | assumption) (by first | omega | assumption) (by rw [hal.2]; exact ⟨fun h => ⟨h, rfl⟩, fun h => h.1⟩) (by omega)
              refine x_aload_n C dX3_isNameAhead_18 (q := 19) rfl rfl 0 rfl ?_
              refine x_getR C (ci := 2) (v := .ref za) hw0 (hro (o, .inr (2, [.ref sa, .ref za, .int (nI mq)])) (List.mem_of_getElem? (i := 0) rfl)) rfl 1 (by decide) hw3 rfl dX3_isNameAhead_19 (q := 22) rfl ?_
              refine x_iload C dX3_isNameAhead_22 (q := 24) rfl 4 rfl ?_
              have hb15 := hzs cq
              refine x_ialdR C (j := cq) (v := nI (zs cq)) (hro (za, .inl (cy 1, 5, .inl (fun k => nI (zs k)))) (List.mem_of_getElem? (i := 2) rfl)) (nI_toInt (by omega)) (by omega) rfl dX3_isNameAhead_24 (q := 25) rfl ?_
              refine x_iload_n C dX3_isNameAhead_25 (q := 26) rfl rfl 3 rfl ?_
              refine x_icmp_ne C (tgt := 33) dX3_isNameAhead_26 (by decide) (q := 29) rfl (a := ((zs cq : Nat) : Int)) (b := ((z : Nat) : Int)) (nI_toInt (by omega)) (nI_toInt (by omega)) (fun h16 => ?_) (fun h16 => ?_)
              · first
                | (exfalso; omega)
                |
                  refine x_iconst C dX3_isNameAhead_33 (q := 34) rfl (v := nI 0) (by decide) ?_
                  exact cut34 0 (by omega)
              · first
                | (exfalso; omega)
                |
                  refine x_iconst C dX3_isNameAhead_29 (q := 30) rfl (v := nI 1) (by decide) ?_
                  refine x_goto C (tgt := 34) dX3_isNameAhead_30 (by decide) ?_
                  exact cut34 1 (by omega)
  refine x_L (L' := [(0, .ref o), (1, .ref t), (2, .int (nI p0)), (3, .int (nI z)), (4, .int (nI 0))]) [1, 2, 3, 4, 0] rfl ?_
  exact cut3 (mq - 0 + 1) 0 (by first | omega | assumption) (by rfl) (by omega)

set_option maxHeartbeats 4000000 in
set_option maxRecDepth 100000 in
/-- HeadNames.faultPlaceIn -/
theorem c_X3_faultPlaceIn (l : Launch) (D : va_G) (cy : Nat → ClassId) (o : Nat) (sa : Nat) (za : Nat) (mq : Nat) (ss : Nat → Nat) (zs : Nat → Nat) (t : Nat) (tb : Nat) (n : Nat) (tx : Nat → Nat) (hn : n ≤ 60) (htx : ∀ k, tx k < 128) (hzs : ∀ c, zs c ≤ 4) (hs60 : ∀ c, ss c ≤ 60) : xMet l D cy xT yX3_faultPlaceIn wsX3_faultPlaceIn ({ frames := 4, cells := 0, slots := 0, locals := 400 } : Room) [.ref o, .ref t] [(o, .inr (2, [.ref sa, .ref za, .int (nI mq)])), (sa, .inl (cy 1, 5, .inl (fun k => nI (ss k)))), (za, .inl (cy 1, 5, .inl (fun k => nI (zs k))))] [(t, .inr (5, [.ref tb, .int (nI n)])), (tb, .inl (cy 0, 60, .inl (fun k => nI (tx k))))] (fun (v9 : Option Value) (w9 : va_W) => (∃ r : Int32, ∃ m2 : Nat, ∃ ss2 : Nat → Nat, ∃ zs2 : Nat → Nat, v9 = some (.int (r)) ∧ w9 = [(o, .inr (2, [.ref sa, .ref za, .int (nI m2)])), (sa, .inl (cy 1, 5, .inl (fun k => nI (ss2 k)))), (za, .inl (cy 1, 5, .inl (fun k => nI (zs2 k))))] ∧ hdR tx n 5 ss zs 0 0 = (r.toInt, m2, ss2, zs2) ∧ m2 ≤ 5 ∧ (∀ c, zs2 c ≤ 4) ∧ (∀ c, ss2 c ≤ 60))) := by
  refine xMet_of (cc := cX3_faultPlaceIn) (maxL := 4) (ret := (some .int)) (by decide) rfl (Nat.le_of_ble_eq_true rfl) (fun p e s m args below meth c A R Q hA hR hQ C hr hnm hro hX => ?_)
  have hw0 : ∀ w ∈ u_ws RX3 TX3 3, w ∈ wsX3_faultPlaceIn := by decide +kernel
  have hw1 : Cond.fieldLink RX3 18 (TX3 2).1 (TX3 2).2.1 (TX3 2).2.2.1 ∈ wsX3_faultPlaceIn := by decide +kernel
  have hw2 : Cond.fieldLink RX3 9 (TX3 0).1 (TX3 0).2.1 (TX3 0).2.2.1 ∈ wsX3_faultPlaceIn := by decide +kernel
  have hw3 : Cond.fieldLink RX3 15 (TX3 1).1 (TX3 1).2.1 (TX3 1).2.2.1 ∈ wsX3_faultPlaceIn := by decide +kernel
  have hw4 : ∀ w ∈ u_ws RX6 TX6 2, w ∈ wsX3_faultPlaceIn := by decide +kernel
  have hw5 : Cond.fieldLink RX3 30 (TX6 1).1 (TX6 1).2.1 (TX6 1).2.2.1 ∈ wsX3_faultPlaceIn := by decide +kernel
  refine x_L (L' := [(0, .ref o), (1, .ref t)]) [0, 1] rfl ?_
  refine x_aload_n C dX3_faultPlaceIn_0 (q := 1) rfl rfl 0 rfl ?_
  refine x_iconst C dX3_faultPlaceIn_1 (q := 2) rfl (v := nI 0) (by decide) ?_
  refine x_put C (ci := 2) (ty := .int) (ws' := [(o, .inr (2, [.ref sa, .ref za, .int (nI 0)])), (sa, .inl (cy 1, 5, .inl (fun k => nI (ss k)))), (za, .inl (cy 1, 5, .inl (fun k => nI (zs k))))]) hw0 tyX3 tyX3_ok nmX3 0 rfl rfl 2 (by decide) hw1 rfl (by decide +kernel) rfl rfl (Nat.le_of_ble_eq_true rfl) rfl dX3_faultPlaceIn_2 (q := 5) rfl ?_
  refine x_iconst C dX3_faultPlaceIn_5 (q := 6) rfl (v := nI 0) (by decide) ?_
  refine x_istore_n C (L' := [(2, .int (nI 0)), (0, .ref o), (1, .ref t)]) dX3_faultPlaceIn_6 (q := 7) rfl rfl (by decide) rfl ?_
  have cut7 : ∀ (fuel : Nat) (m1 : Nat) (ss1 : Nat → Nat) (zs1 : Nat → Nat) (p1 : Nat), (m1 ≤ 4) → (p1 ≤ n) → (∀ c, zs1 c ≤ 4) → (∀ c, ss1 c ≤ 60) → (∀ c, c < m1 → ss1 c + zs1 c ≤ n) → (hdR tx n 5 ss zs 0 0 = hdR tx n (5 - m1) ss1 zs1 m1 p1) → 5 - m1 < fuel → xG p l e R s m args below meth c Q D A 4 [(o, .inr (2, [.ref sa, .ref za, .int (nI m1)])), (sa, .inl (cy 1, 5, .inl (fun k => nI (ss1 k)))), (za, .inl (cy 1, 5, .inl (fun k => nI (zs1 k))))] 0 0 7 [(0, .ref o), (1, .ref t), (2, .int (nI p1))] [] := by
    intro fuel
    induction fuel with
    | zero =>
      intro m1 ss1 zs1 p1 hm1 hp1 hz1 hs1 hss he hmu
      exact absurd hmu (Nat.not_lt_zero _)
    | succ fuel ih =>
      intro m1 ss1 zs1 p1 hm1 hp1 hz1 hs1 hss he hmu
      have hll := ltr_le tx n p1
      have hli := ltr_in (tx := tx) hp1
      have ih7 := ih
      clear ih
      refine x_aload_n C dX3_faultPlaceIn_7 (q := 8) rfl rfl 0 rfl ?_
      refine x_get C (ci := 2) (v := .int (nI m1)) hw0 0 rfl rfl 2 (by decide) hw1 rfl dX3_faultPlaceIn_8 (q := 11) rfl ?_
      refine x_iconst C dX3_faultPlaceIn_11 (q := 12) rfl (v := nI 5) (by decide) ?_
      refine x_icmp_ge C (tgt := 107) dX3_faultPlaceIn_12 (by decide) (q := 15) rfl (a := ((m1 : Nat) : Int)) (b := 5) (nI_toInt (by omega)) rfl (fun h1 => (by omega : False).elim) (fun h1 => ?_)
      refine x_aload_n C dX3_faultPlaceIn_15 (q := 16) rfl rfl 1 rfl ?_
      refine x_iload_n C dX3_faultPlaceIn_16 (q := 17) rfl rfl 2 rfl ?_
      refine x_callS C (roW := []) (roR := [(t, .inr (5, [.ref tb, .int (nI n)])), (tb, .inl (cy 0, 60, .inl (fun k => nI (tx k))))]) (c_X3_lettersFrom l D cy t tb n tx p1 (by first | assumption | omega | (simp only []; omega)) (by assumption) (by first | assumption | omega | (simp only []; omega))) (cwS 2 C.2.2.2.2.1 gX3_faultPlaceIn_X3_lettersFrom rfl rfl rfl (by decide +kernel) (by rw [hR]; exact ⟨Nat.le_of_ble_eq_true rfl, Nat.le_of_ble_eq_true rfl⟩)) [] [] rfl (by decide) rfl (by decide) (xro_cons (hro (t, .inr (5, [.ref tb, .int (nI n)])) (List.mem_of_getElem? (i := 0) rfl)) (xro_cons (hro (tb, .inl (cy 0, 60, .inl (fun k => nI (tx k)))) (List.mem_of_getElem? (i := 1) rfl)) xro_nil)) xT_bl (fun _ _ _ _ _ _ _ => trivial) rfl rfl dX3_faultPlaceIn_17 rfl rfl (Nat.le_of_ble_eq_true rfl) (q := 20) rfl (k' := 0) rfl (n' := 0) rfl (by rw [hR]; exact ⟨Nat.le_of_ble_eq_true rfl, Nat.le_of_ble_eq_true rfl⟩) (fun v2 w2 hp2 => ?_)
      obtain ⟨rfl, rfl⟩ := hp2
      refine x_ws (ws' := [(o, .inr (2, [.ref sa, .ref za, .int (nI m1)])), (sa, .inl (cy 1, 5, .inl (fun k => nI (ss1 k)))), (za, .inl (cy 1, 5, .inl (fun k => nI (zs1 k))))]) (List.append_nil _) ?_
      refine x_istore_n C (L' := [(3, .int (nI (ltr tx n p1))), (0, .ref o), (1, .ref t), (2, .int (nI p1))]) dX3_faultPlaceIn_20 (q := 21) rfl rfl (by decide) rfl ?_
      have cut37 : (¬ ltr tx n p1 = 0) → (twcB tx ss1 zs1 p1 (ltr tx n p1) m1 = false) → xG p l e R s m args below meth c Q D A 4 [(o, .inr (2, [.ref sa, .ref za, .int (nI m1)])), (sa, .inl (cy 1, 5, .inl (fun k => nI (ss1 k)))), (za, .inl (cy 1, 5, .inl (fun k => nI (zs1 k))))] 0 0 37 [(0, .ref o), (1, .ref t), (2, .int (nI p1)), (3, .int (nI (ltr tx n p1)))] [] := by
        intro  hl0 hn9
        refine x_aload_n C dX3_faultPlaceIn_37 (q := 38) rfl rfl 0 rfl ?_
        refine x_get C (ci := 2) (v := .ref sa) hw0 0 rfl rfl 0 (by decide) hw2 rfl dX3_faultPlaceIn_38 (q := 41) rfl ?_
        refine x_aload_n C dX3_faultPlaceIn_41 (q := 42) rfl rfl 0 rfl ?_
        refine x_get C (ci := 2) (v := .int (nI m1)) hw0 0 rfl rfl 2 (by decide) hw1 rfl dX3_faultPlaceIn_42 (q := 45) rfl ?_
        refine x_iload_n C dX3_faultPlaceIn_45 (q := 46) rfl rfl 2 rfl ?_
        refine x_iast C (ws' := [(o, .inr (2, [.ref sa, .ref za, .int (nI m1)])), (sa, .inl (cy 1, 5, .inl (fun k => nI ((va_up ss1 m1 p1) k)))), (za, .inl (cy 1, 5, .inl (fun k => nI (zs1 k))))]) 1 rfl (j := m1) (nI_toInt (by omega)) (by omega) (xup_n ss1 m1 p1) rfl dX3_faultPlaceIn_46 (q := 47) rfl ?_
        refine x_aload_n C dX3_faultPlaceIn_47 (q := 48) rfl rfl 0 rfl ?_
        refine x_get C (ci := 2) (v := .ref za) hw0 0 rfl rfl 1 (by decide) hw3 rfl dX3_faultPlaceIn_48 (q := 51) rfl ?_
        refine x_aload_n C dX3_faultPlaceIn_51 (q := 52) rfl rfl 0 rfl ?_
        refine x_get C (ci := 2) (v := .int (nI m1)) hw0 0 rfl rfl 2 (by decide) hw1 rfl dX3_faultPlaceIn_52 (q := 55) rfl ?_
        refine x_iload_n C dX3_faultPlaceIn_55 (q := 56) rfl rfl 3 rfl ?_
        refine x_iast C (ws' := [(o, .inr (2, [.ref sa, .ref za, .int (nI m1)])), (sa, .inl (cy 1, 5, .inl (fun k => nI ((va_up ss1 m1 p1) k)))), (za, .inl (cy 1, 5, .inl (fun k => nI ((va_up zs1 m1 (ltr tx n p1)) k))))]) 2 rfl (j := m1) (nI_toInt (by omega)) (by omega) (xup_n zs1 m1 (ltr tx n p1)) rfl dX3_faultPlaceIn_56 (q := 57) rfl ?_
        refine x_aload_n C dX3_faultPlaceIn_57 (q := 58) rfl rfl 0 rfl ?_
        refine x_dup C dX3_faultPlaceIn_58 (q := 59) rfl rfl ?_
        refine x_get C (ci := 2) (v := .int (nI m1)) hw0 0 rfl rfl 2 (by decide) hw1 rfl dX3_faultPlaceIn_59 (q := 62) rfl ?_
        refine x_iconst C dX3_faultPlaceIn_62 (q := 63) rfl (v := nI 1) (by decide) ?_
        refine x_iadd C dX3_faultPlaceIn_63 (q := 64) rfl (z := nI (m1 + 1)) (nI_add m1 1) ?_
        refine x_put C (ci := 2) (ty := .int) (ws' := [(o, .inr (2, [.ref sa, .ref za, .int (nI (m1 + 1))])), (sa, .inl (cy 1, 5, .inl (fun k => nI ((va_up ss1 m1 p1) k)))), (za, .inl (cy 1, 5, .inl (fun k => nI ((va_up zs1 m1 (ltr tx n p1)) k))))]) hw0 tyX3 tyX3_ok nmX3 0 rfl rfl 2 (by decide) hw1 rfl (by decide +kernel) rfl rfl (Nat.le_of_ble_eq_true rfl) rfl dX3_faultPlaceIn_64 (q := 67) rfl ?_
        refine x_iload_n C dX3_faultPlaceIn_67 (q := 68) rfl rfl 2 rfl ?_
        refine x_iload_n C dX3_faultPlaceIn_68 (q := 69) rfl rfl 3 rfl ?_
        refine x_iadd C dX3_faultPlaceIn_69 (q := 70) rfl (z := nI (p1 + (ltr tx n p1))) (nI_add p1 (ltr tx n p1)) ?_
        refine x_istore_n C (L' := [(2, .int (nI (p1 + (ltr tx n p1)))), (0, .ref o), (1, .ref t), (3, .int (nI (ltr tx n p1)))]) dX3_faultPlaceIn_70 (q := 71) rfl rfl (by decide) rfl ?_
        refine x_iload_n C dX3_faultPlaceIn_71 (q := 72) rfl rfl 0 rfl ?_
        refine x_aload_n C dX3_faultPlaceIn_72 (q := 73) rfl rfl 2 rfl ?_
        refine x_getR C (ci := 5) (v := .int (nI n)) hw4 (hro (t, .inr (5, [.ref tb, .int (nI n)])) (List.mem_of_getElem? (i := 0) rfl)) rfl 1 (by decide) hw5 rfl dX3_faultPlaceIn_73 (q := 76) rfl ?_
        refine x_icmp_ne C (tgt := 81) dX3_faultPlaceIn_76 (by decide) (q := 79) rfl (a := ((p1 + (ltr tx n p1) : Nat) : Int)) (b := ((n : Nat) : Int)) (nI_toInt (by omega)) (nI_toInt (by omega)) (fun h3 => ?_) (fun h3 => ?_)
        · first
          | (exfalso; omega)
          |
            refine x_aload_n C dX3_faultPlaceIn_81 (q := 82) rfl rfl 2 rfl ?_
            refine x_iload_n C dX3_faultPlaceIn_82 (q := 83) rfl rfl 0 rfl ?_
            refine x_callV C (roW := []) (roR := [(t, .inr (5, [.ref tb, .int (nI n)])), (tb, .inl (cy 0, 60, .inl (fun k => nI (tx k))))]) (c_X6_at l D cy t tb n 60 tx (p1 + (ltr tx n p1)) (by first | assumption | omega | (simp only []; omega)) (by first | assumption | omega | (simp only []; omega)) (by first | assumption | omega | (simp only []; omega)) (by assumption)) (cwV 1 C.2.2.2.2.1 gX3_faultPlaceIn_X6_at rfl rfl rfl (by decide +kernel) (by rw [hR]; exact ⟨Nat.le_of_ble_eq_true rfl, Nat.le_of_ble_eq_true rfl⟩)) [] [] rfl (by decide) rfl (by decide) (xro_cons (hro (t, .inr (5, [.ref tb, .int (nI n)])) (List.mem_of_getElem? (i := 0) rfl)) (xro_cons (hro (tb, .inl (cy 0, 60, .inl (fun k => nI (tx k)))) (List.mem_of_getElem? (i := 1) rfl)) xro_nil)) (List.mem_of_getElem? (i := 0) rfl) (ci := 5) rfl xT_bl (fun _ _ _ _ _ _ _ => trivial) rfl rfl dX3_faultPlaceIn_83 rfl rfl (Nat.le_of_ble_eq_true rfl) (q := 86) rfl (k' := 0) rfl (n' := 0) rfl (by rw [hR]; exact ⟨Nat.le_of_ble_eq_true rfl, Nat.le_of_ble_eq_true rfl⟩) (fun v4 w4 hp4 => ?_)
            obtain ⟨r_5, rfl, rfl, hc6⟩ := hp4
            refine x_ws (ws' := [(o, .inr (2, [.ref sa, .ref za, .int (nI (m1 + 1))])), (sa, .inl (cy 1, 5, .inl (fun k => nI ((va_up ss1 m1 p1) k)))), (za, .inl (cy 1, 5, .inl (fun k => nI ((va_up zs1 m1 (ltr tx n p1)) k))))]) (List.append_nil _) ?_
            have hq8 := hc6
            rw [sgA_in (by omega)] at hq8
            have hr8 := htx (p1 + ltr tx n p1)
            refine x_bipush C dX3_faultPlaceIn_86 (q := 88) rfl (v := nI 44) (by decide) ?_
            refine x_icmp_ne C (tgt := 99) dX3_faultPlaceIn_88 (by decide) (q := 91) rfl (a := r_5.toInt) (b := 44) rfl rfl (fun h7 => ?_) (fun h7 => ?_)
            · first
              | (exfalso; omega)
              |
                refine x_iload_n C dX3_faultPlaceIn_99 (q := 100) rfl rfl 0 rfl ?_
                refine x_iret C hA hQ hr dX3_faultPlaceIn_100 (Nat.le_of_ble_eq_true rfl) ?_
                refine ⟨_, m1 + 1, _, _, rfl, rfl, ?_, by omega, by intro c; by_cases h9 : c = m1; (subst h9; rw [va_up_eq]; omega); (rw [va_up_ne' h9]; exact hz1 c), by intro c; by_cases h9 : c = m1; (subst h9; rw [va_up_eq]; omega); (rw [va_up_ne' h9]; exact hs1 c)⟩
                rw [he, show 5 - m1 = (5 - (m1 + 1)) + 1 by omega]; unfold hdR
                rw [if_neg (by intro e6; rcases e6 with e6 | e6; omega; rw [e6] at hn9; cases hn9), if_neg (by omega), if_pos (by omega), nI_toInt (by omega)]
            · first
              | (exfalso; omega)
              |
                refine x_aload_n C dX3_faultPlaceIn_91 (q := 92) rfl rfl 1 rfl ?_
                refine x_get C (ci := 2) (v := .int (nI (m1 + 1))) hw0 0 rfl rfl 2 (by decide) hw1 rfl dX3_faultPlaceIn_92 (q := 95) rfl ?_
                refine x_iconst C dX3_faultPlaceIn_95 (q := 96) rfl (v := nI 5) (by decide) ?_
                refine x_icmp_ne C (tgt := 101) dX3_faultPlaceIn_96 (by decide) (q := 99) rfl (a := ((m1 + 1 : Nat) : Int)) (b := 5) (nI_toInt (by omega)) rfl (fun h8 => ?_) (fun h8 => ?_)
                · first
                  | (exfalso; omega)
                  |
                    refine x_iinc C (L' := [(2, .int (nI (p1 + (ltr tx n p1) + 1))), (0, .ref o), (1, .ref t), (3, .int (nI (ltr tx n p1)))]) dX3_faultPlaceIn_101 (q := 104) rfl 0 rfl (v := nI (p1 + (ltr tx n p1) + 1)) (nI_add (p1 + (ltr tx n p1)) 1) (by decide) rfl ?_
                    refine x_goto C (tgt := 7) dX3_faultPlaceIn_104 (by decide) ?_
                    refine x_L (L' := [(0, .ref o), (1, .ref t), (2, .int (nI (p1 + (ltr tx n p1) + 1)))]) [1, 2, 0] rfl ?_
                    exact ih7 (m1 + 1) (va_up ss1 m1 p1) (va_up zs1 m1 (ltr tx n p1)) (p1 + (ltr tx n p1) + 1) (by first | omega | assumption) (by first | omega | assumption) (by intro c; by_cases h9 : c = m1; (subst h9; rw [va_up_eq]; omega); (rw [va_up_ne' h9]; exact hz1 c)) (by intro c; by_cases h9 : c = m1; (subst h9; rw [va_up_eq]; omega); (rw [va_up_ne' h9]; exact hs1 c)) (by intro c hc; by_cases h9 : c = m1; (subst h9; rw [va_up_eq, va_up_eq]; omega); (rw [va_up_ne' h9, va_up_ne' h9]; exact hss c (by omega))) (by rw [he, show 5 - m1 = (5 - (m1 + 1)) + 1 by omega]; exact hdR_go (by omega) hn9 (by omega) (by omega) (by omega)) (by omega)
                · first
                  | (exfalso; omega)
                  |
                    refine x_iload_n C dX3_faultPlaceIn_99 (q := 100) rfl rfl 0 rfl ?_
                    refine x_iret C hA hQ hr dX3_faultPlaceIn_100 (Nat.le_of_ble_eq_true rfl) ?_
                    refine ⟨_, m1 + 1, _, _, rfl, rfl, ?_, by omega, by intro c; by_cases h9 : c = m1; (subst h9; rw [va_up_eq]; omega); (rw [va_up_ne' h9]; exact hz1 c), by intro c; by_cases h9 : c = m1; (subst h9; rw [va_up_eq]; omega); (rw [va_up_ne' h9]; exact hs1 c)⟩
                    rw [he, show 5 - m1 = (5 - (m1 + 1)) + 1 by omega]; unfold hdR
                    rw [if_neg (by intro e6; rcases e6 with e6 | e6; omega; rw [e6] at hn9; cases hn9), if_neg (by omega), if_pos (by omega), nI_toInt (by omega)]
        · first
          | (exfalso; omega)
          |
            refine x_iconst C dX3_faultPlaceIn_79 (q := 80) rfl (v := (-1)) (by decide) ?_
            refine x_iret C hA hQ hr dX3_faultPlaceIn_80 (Nat.le_of_ble_eq_true rfl) ?_
            refine ⟨_, m1 + 1, _, _, rfl, rfl, ?_, by omega, by intro c; by_cases h9 : c = m1; (subst h9; rw [va_up_eq]; omega); (rw [va_up_ne' h9]; exact hz1 c), by intro c; by_cases h9 : c = m1; (subst h9; rw [va_up_eq]; omega); (rw [va_up_ne' h9]; exact hs1 c)⟩
            rw [he, show 5 - m1 = (5 - (m1 + 1)) + 1 by omega]; unfold hdR
            rw [if_neg (by intro e6; rcases e6 with e6 | e6; omega; rw [e6] at hn9; cases hn9), if_pos (by omega)]
            rfl
      refine x_iload_n C dX3_faultPlaceIn_21 (q := 22) rfl rfl 0 rfl ?_
      refine x_if_eq C (tgt := 35) dX3_faultPlaceIn_22 (by decide) (q := 25) rfl (a := ((ltr tx n p1 : Nat) : Int)) (nI_toInt (by omega)) (fun h9 => ?_) (fun h9 => ?_)
      · first
        | (exfalso; omega)
        |
          refine x_iload_n C dX3_faultPlaceIn_35 (q := 36) rfl rfl 3 rfl ?_
          refine x_iret C hA hQ hr dX3_faultPlaceIn_36 (Nat.le_of_ble_eq_true rfl) ?_
          refine ⟨_, m1, ss1, zs1, rfl, rfl, ?_, by omega, hz1, hs1⟩
          rw [he, show 5 - m1 = (5 - (m1 + 1)) + 1 by omega]; unfold hdR
          rw [if_pos (by first | exact Or.inl (by omega) | exact Or.inr (by assumption)), nI_toInt (by omega)]
      · first
        | (exfalso; omega)
        |
          refine x_aload_n C dX3_faultPlaceIn_25 (q := 26) rfl rfl 1 rfl ?_
          refine x_aload_n C dX3_faultPlaceIn_26 (q := 27) rfl rfl 2 rfl ?_
          refine x_iload_n C dX3_faultPlaceIn_27 (q := 28) rfl rfl 3 rfl ?_
          refine x_iload_n C dX3_faultPlaceIn_28 (q := 29) rfl rfl 0 rfl ?_
          refine x_callV C (roW := [(o, .inr (2, [.ref sa, .ref za, .int (nI m1)])), (sa, .inl (cy 1, 5, .inl (fun k => nI (ss1 k)))), (za, .inl (cy 1, 5, .inl (fun k => nI (zs1 k))))]) (roR := [(t, .inr (5, [.ref tb, .int (nI n)])), (tb, .inl (cy 0, 60, .inl (fun k => nI (tx k))))]) (c_X3_isNameAhead l D cy o sa za m1 ss1 zs1 t tb n tx p1 (ltr tx n p1) (by first | assumption | omega | (simp only []; omega)) (by assumption) (by first | assumption | omega | (simp only []; omega)) (by first | assumption | omega | (simp only []; omega)) (by first | assumption | omega | (simp only []; omega)) (by assumption) (by assumption) (by assumption)) (cwV 3 C.2.2.2.2.1 gX3_faultPlaceIn_X3_isNameAhead rfl rfl rfl (by decide +kernel) (by rw [hR]; exact ⟨Nat.le_of_ble_eq_true rfl, Nat.le_of_ble_eq_true rfl⟩)) [] [0, 1, 2] rfl (by decide) rfl (by decide) (xro_cons (hro (t, .inr (5, [.ref tb, .int (nI n)])) (List.mem_of_getElem? (i := 0) rfl)) (xro_cons (hro (tb, .inl (cy 0, 60, .inl (fun k => nI (tx k)))) (List.mem_of_getElem? (i := 1) rfl)) xro_nil)) (List.mem_of_getElem? (i := 0) rfl) (ci := 2) rfl xT_bl (fun _ _ _ _ _ _ _ => trivial) rfl rfl dX3_faultPlaceIn_29 rfl rfl (Nat.le_of_ble_eq_true rfl) (q := 32) rfl (k' := 0) rfl (n' := 0) rfl (by rw [hR]; exact ⟨Nat.le_of_ble_eq_true rfl, Nat.le_of_ble_eq_true rfl⟩) (fun v10 w10 hp10 => ?_)
          rcases hp10 with hp10 | hp10
          · skip
            obtain ⟨rfl, rfl, hc11⟩ := hp10
            refine x_ws (ws' := [(o, .inr (2, [.ref sa, .ref za, .int (nI m1)])), (sa, .inl (cy 1, 5, .inl (fun k => nI (ss1 k)))), (za, .inl (cy 1, 5, .inl (fun k => nI (zs1 k))))]) (List.append_nil _) ?_
            refine x_if_eq C (tgt := 37) dX3_faultPlaceIn_32 (by decide) (q := 35) rfl (a := 1) rfl (fun h12 => (by omega : False).elim) (fun h12 => ?_)
            refine x_iload_n C dX3_faultPlaceIn_35 (q := 36) rfl rfl 3 rfl ?_
            refine x_iret C hA hQ hr dX3_faultPlaceIn_36 (Nat.le_of_ble_eq_true rfl) ?_
            refine ⟨_, m1, ss1, zs1, rfl, rfl, ?_, by omega, hz1, hs1⟩
            rw [he, show 5 - m1 = (5 - (m1 + 1)) + 1 by omega]; unfold hdR
            rw [if_pos (by first | exact Or.inl (by omega) | exact Or.inr (by assumption)), nI_toInt (by omega)]
          · skip
            obtain ⟨rfl, rfl, hc13⟩ := hp10
            refine x_ws (ws' := [(o, .inr (2, [.ref sa, .ref za, .int (nI m1)])), (sa, .inl (cy 1, 5, .inl (fun k => nI (ss1 k)))), (za, .inl (cy 1, 5, .inl (fun k => nI (zs1 k))))]) (List.append_nil _) ?_
            refine x_if_eq C (tgt := 37) dX3_faultPlaceIn_32 (by decide) (q := 35) rfl (a := 0) rfl (fun h14 => ?_) (fun h14 => (by omega : False).elim)
            refine x_L (L' := [(0, .ref o), (1, .ref t), (2, .int (nI p1)), (3, .int (nI (ltr tx n p1)))]) [1, 2, 3, 0] rfl ?_
            exact cut37  (by first | omega | assumption) (by first | omega | assumption)
  refine x_L (L' := [(0, .ref o), (1, .ref t), (2, .int (nI 0))]) [1, 2, 0] rfl ?_
  exact cut7 (5 - 0 + 1) 0 ss zs 0 (by first | omega | assumption) (by first | omega | assumption) (by assumption) (by assumption) (by intro c hc; omega) (by rfl) (by omega)
