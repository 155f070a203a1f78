set_option maxHeartbeats 4000000 in
set_option maxRecDepth 100000 in
/-- Days.isDigit -/
theorem c_X0_isDigit (l : Launch) (D : va_G) (cy : Nat → ClassId) (v : Nat) (hv : v < 128) : xMet l D cy xT yX0_isDigit wsX0_isDigit ({ frames := 1, cells := 0, slots := 0, locals := 0 } : Room) [.int (nI v)] [] [] (fun (v9 : Option Value) (w9 : va_W) => (v9 = some (.int (nI 1)) ∧ w9 = [] ∧ 48 ≤ v ∧ v ≤ 57) ∨ (v9 = some (.int (nI 0)) ∧ w9 = [] ∧ (v < 48 ∨ 57 < v))) := by
  refine xMet_of (cc := cX0_isDigit) (maxL := 1) (ret := (some .boolean)) (by decide) rfl (Nat.le_of_ble_eq_true rfl) (fun p e s m args below meth c A R Q hA hR hQ C hr hnm hro hX => ?_)
  refine x_L (L' := [(0, .int (nI v))]) [0] rfl ?_
  refine x_iload_n C dX0_isDigit_0 (q := 1) rfl rfl 0 rfl ?_
  refine x_bipush C dX0_isDigit_1 (q := 3) rfl (v := nI 48) (by decide) ?_
  refine x_icmp_lt C (tgt := 16) dX0_isDigit_3 (by decide) (q := 6) rfl (a := ((v : Nat) : Int)) (b := 48) (nI_toInt (by omega)) rfl (fun h1 => ?_) (fun h1 => ?_)
  · first
    | (exfalso; omega)
    |
      refine x_iconst C dX0_isDigit_16 (q := 17) rfl (v := nI 0) (by decide) ?_
      refine x_zret C hA hQ hr (ty := .boolean) (by first | rfl | assumption | exact xz_nar _) dX0_isDigit_17 (Nat.le_of_ble_eq_true rfl) ?_
      first | exact Or.inl ⟨rfl, rfl, by omega, by omega⟩ | exact Or.inr ⟨rfl, rfl, by omega⟩
  · first
    | (exfalso; omega)
    |
      refine x_iload_n C dX0_isDigit_6 (q := 7) rfl rfl 0 rfl ?_
      refine x_bipush C dX0_isDigit_7 (q := 9) rfl (v := nI 57) (by decide) ?_
      refine x_icmp_gt C (tgt := 16) dX0_isDigit_9 (by decide) (q := 12) rfl (a := ((v : Nat) : Int)) (b := 57) (nI_toInt (by omega)) rfl (fun h2 => ?_) (fun h2 => ?_)
      · first
        | (exfalso; omega)
        |
          refine x_iconst C dX0_isDigit_16 (q := 17) rfl (v := nI 0) (by decide) ?_
          refine x_zret C hA hQ hr (ty := .boolean) (by first | rfl | assumption | exact xz_nar _) dX0_isDigit_17 (Nat.le_of_ble_eq_true rfl) ?_
          first | exact Or.inl ⟨rfl, rfl, by omega, by omega⟩ | exact Or.inr ⟨rfl, rfl, by omega⟩
      · first
        | (exfalso; omega)
        |
          refine x_iconst C dX0_isDigit_12 (q := 13) rfl (v := nI 1) (by decide) ?_
          refine x_goto C (tgt := 17) dX0_isDigit_13 (by decide) ?_
          refine x_zret C hA hQ hr (ty := .boolean) (by first | rfl | assumption | exact xz_nar _) dX0_isDigit_17 (Nat.le_of_ble_eq_true rfl) ?_
          first | exact Or.inl ⟨rfl, rfl, by omega, by omega⟩ | exact Or.inr ⟨rfl, rfl, by omega⟩

set_option maxHeartbeats 4000000 in
set_option maxRecDepth 100000 in
/-- Days.isDayFirst -/
theorem c_X0_isDayFirst (l : Launch) (D : va_G) (cy : Nat → ClassId) (sg : Nat) (len : Nat) (b : Nat → Nat) (hb : ∀ k, b k < 128) (hlen : len = 10) : xMet l D cy xT yX0_isDayFirst wsX0_isDayFirst ({ frames := 1, cells := 0, slots := 0, locals := 0 } : Room) [.ref sg] [] [(sg, .inl (cy 0, len, .inl (fun k => nI (b k))))] (fun (v9 : Option Value) (w9 : va_W) => (v9 = some (.int (nI 1)) ∧ w9 = [] ∧ b 2 = 47) ∨ (v9 = some (.int (nI 0)) ∧ w9 = [] ∧ ¬ b 2 = 47)) := by
  refine xMet_of (cc := cX0_isDayFirst) (maxL := 1) (ret := (some .boolean)) (by decide) rfl (Nat.le_of_ble_eq_true rfl) (fun p e s m args below meth c A R Q hA hR hQ C hr hnm hro hX => ?_)
  refine x_L (L' := [(0, .ref sg)]) [0] rfl ?_
  refine x_aload_n C dX0_isDayFirst_0 (q := 1) rfl rfl 0 rfl ?_
  refine x_alenR C 0 (hro (sg, .inl (cy 0, len, .inl (fun k => nI (b k)))) (List.mem_of_getElem? (i := 0) rfl)) rfl (v := nI len) rfl dX0_isDayFirst_1 (q := 2) rfl ?_
  refine x_iconst C dX0_isDayFirst_2 (q := 3) rfl (v := nI 2) (by decide) ?_
  refine x_icmp_le C (tgt := 18) dX0_isDayFirst_3 (by decide) (q := 6) rfl (a := ((len : Nat) : Int)) (b := 2) (nI_toInt (by omega)) rfl (fun h1 => ?_) (fun h1 => ?_)
  · first
    | (exfalso; omega)
    |
      refine x_iconst C dX0_isDayFirst_18 (q := 19) rfl (v := nI 0) (by decide) ?_
      refine x_zret C hA hQ hr (ty := .boolean) (by first | rfl | assumption | exact xz_nar _) dX0_isDayFirst_19 (Nat.le_of_ble_eq_true rfl) ?_
      first | exact Or.inl ⟨rfl, rfl, by omega⟩ | exact Or.inr ⟨rfl, rfl, by omega⟩
  · first
    | (exfalso; omega)
    |
      refine x_aload_n C dX0_isDayFirst_6 (q := 7) rfl rfl 0 rfl ?_
      refine x_iconst C dX0_isDayFirst_7 (q := 8) rfl (v := nI 2) (by decide) ?_
      have hb2 := hb 2
      refine x_baldR C (j := 2) (v := nI (b 2)) (hro (sg, .inl (cy 0, len, .inl (fun k => nI (b k)))) (List.mem_of_getElem? (i := 0) rfl)) rfl (by omega) rfl dX0_isDayFirst_8 (q := 9) rfl ?_
      refine x_bipush C dX0_isDayFirst_9 (q := 11) rfl (v := nI 47) (by decide) ?_
      refine x_icmp_ne C (tgt := 18) dX0_isDayFirst_11 (by decide) (q := 14) rfl (a := ((b 2 : Nat) : Int)) (b := 47) (nI_toInt (by omega)) rfl (fun h3 => ?_) (fun h3 => ?_)
      · first
        | (exfalso; omega)
        |
          refine x_iconst C dX0_isDayFirst_18 (q := 19) rfl (v := nI 0) (by decide) ?_
          refine x_zret C hA hQ hr (ty := .boolean) (by first | rfl | assumption | exact xz_nar _) dX0_isDayFirst_19 (Nat.le_of_ble_eq_true rfl) ?_
          first | exact Or.inl ⟨rfl, rfl, by omega⟩ | exact Or.inr ⟨rfl, rfl, by omega⟩
      · first
        | (exfalso; omega)
        |
          refine x_iconst C dX0_isDayFirst_14 (q := 15) rfl (v := nI 1) (by decide) ?_
          refine x_goto C (tgt := 19) dX0_isDayFirst_15 (by decide) ?_
          refine x_zret C hA hQ hr (ty := .boolean) (by first | rfl | assumption | exact xz_nar _) dX0_isDayFirst_19 (Nat.le_of_ble_eq_true rfl) ?_
          first | exact Or.inl ⟨rfl, rfl, by omega⟩ | exact Or.inr ⟨rfl, rfl, by omega⟩

set_option maxHeartbeats 4000000 in
set_option maxRecDepth 100000 in
/-- Days.digits -/
theorem c_X0_digits (l : Launch) (D : va_G) (cy : Nat → ClassId) (sg : Nat) (len : Nat) (b : Nat → Nat) (p0 : Nat) (p1 : Nat) (hb : ∀ k, b k < 128) (hlen : len ≤ 60) (h01 : p0 ≤ p1) (hp1 : p1 ≤ len) (h4 : p1 ≤ p0 + 4) (hd : ∀ k, p0 ≤ k → k < p1 → 48 ≤ b k ∧ b k ≤ 57) : xMet l D cy xT yX0_digits wsX0_digits ({ frames := 1, cells := 0, slots := 0, locals := 0 } : Room) [.ref sg, .int (nI p0), .int (nI p1)] [] [(sg, .inl (cy 0, len, .inl (fun k => nI (b k))))] (fun (v9 : Option Value) (w9 : va_W) => (v9 = some (.int (nI (numD b p0 (p1 - p0)))) ∧ w9 = [])) := by
  refine xMet_of (cc := cX0_digits) (maxL := 5) (ret := (some .int)) (by decide) rfl (Nat.le_of_ble_eq_true rfl) (fun p e s m args below meth c A R Q hA hR hQ C hr hnm hro hX => ?_)
  refine x_L (L' := [(0, .ref sg), (1, .int (nI p0)), (2, .int (nI p1))]) [0, 1, 2] rfl ?_
  refine x_iconst C dX0_digits_0 (q := 1) rfl (v := nI 0) (by decide) ?_
  refine x_istore_n C (L' := [(3, .int (nI 0)), (0, .ref sg), (1, .int (nI p0)), (2, .int (nI p1))]) dX0_digits_1 (q := 2) rfl rfl (by decide) rfl ?_
  refine x_iload_n C dX0_digits_2 (q := 3) rfl rfl 2 rfl ?_
  refine x_istore C (L' := [(4, .int (nI p0)), (3, .int (nI 0)), (0, .ref sg), (1, .int (nI p0)), (2, .int (nI p1))]) dX0_digits_3 (q := 5) rfl (by decide) rfl ?_
  have cut5 : ∀ (fuel : Nat) (i : Nat) (t : Nat), (p0 ≤ i) → (i ≤ p1) → (t = numD b p0 (i - p0)) → (t < 10000) → p1 - i < fuel → xG p l e R s m args below meth c Q D A 5 [] 0 0 5 [(0, .ref sg), (1, .int (nI p0)), (2, .int (nI p1)), (3, .int (nI t)), (4, .int (nI i))] [] := by
    intro fuel
    induction fuel with
    | zero =>
      intro i t hi hi2 ht ht2 hmu
      exact absurd hmu (Nat.not_lt_zero _)
    | succ fuel ih =>
      intro i t hi hi2 ht ht2 hmu
      have ih5 := ih
      clear ih
      refine x_iload C dX0_digits_5 (q := 7) rfl 4 rfl ?_
      refine x_iload_n C dX0_digits_7 (q := 8) rfl rfl 2 rfl ?_
      refine x_icmp_ge C (tgt := 37) dX0_digits_8 (by decide) (q := 11) rfl (a := ((i : Nat) : Int)) (b := ((p1 : Nat) : Int)) (nI_toInt (by omega)) (nI_toInt (by omega)) (fun h1 => ?_) (fun h1 => ?_)
      · first
        | (exfalso; omega)
        |
          refine x_iload_n C dX0_digits_37 (q := 38) rfl rfl 3 rfl ?_
          refine x_iret C hA hQ hr dX0_digits_38 (Nat.le_of_ble_eq_true rfl) ?_
          have e9 : i = p1 := by omega
          subst e9
          subst ht
          exact ⟨rfl, rfl⟩
      · first
        | (exfalso; omega)
        |
          refine x_iload C dX0_digits_11 (q := 13) rfl 4 rfl ?_
          refine x_aload_n C dX0_digits_13 (q := 14) rfl rfl 0 rfl ?_
          refine x_alenR C 0 (hro (sg, .inl (cy 0, len, .inl (fun k => nI (b k)))) (List.mem_of_getElem? (i := 0) rfl)) rfl (v := nI len) rfl dX0_digits_14 (q := 15) rfl ?_
          refine x_icmp_ge C (tgt := 37) dX0_digits_15 (by decide) (q := 18) rfl (a := ((i : Nat) : Int)) (b := ((len : Nat) : Int)) (nI_toInt (by omega)) (nI_toInt (by omega)) (fun h2 => ?_) (fun h2 => ?_)
          · first
            | (exfalso; omega)
            |
              refine x_iload_n C dX0_digits_37 (q := 38) rfl rfl 3 rfl ?_
              refine x_iret C hA hQ hr dX0_digits_38 (Nat.le_of_ble_eq_true rfl) ?_
              have e9 : i = p1 := by omega
              subst e9
              subst ht
              exact ⟨rfl, rfl⟩
          · first
            | (exfalso; omega)
            |
              refine x_iload_n C dX0_digits_18 (q := 19) rfl rfl 3 rfl ?_
              refine x_bipush C dX0_digits_19 (q := 21) rfl (v := nI 10) (by decide) ?_
              refine x_imul C dX0_digits_21 (q := 22) rfl (z := nI (t * 10)) (pk_mul t 10) ?_
              refine x_aload_n C dX0_digits_22 (q := 23) rfl rfl 0 rfl ?_
              refine x_iload C dX0_digits_23 (q := 25) rfl 4 rfl ?_
              have hd9 := hd i hi (by omega)
              have hb3 := hb i
              refine x_baldR C (j := i) (v := nI (b i)) (hro (sg, .inl (cy 0, len, .inl (fun k => nI (b k)))) (List.mem_of_getElem? (i := 0) rfl)) (nI_toInt (by omega)) (by omega) rfl dX0_digits_25 (q := 26) rfl ?_
              refine x_iadd C dX0_digits_26 (q := 27) rfl (z := nI (t * 10 + (b i))) (nI_add (t * 10) (b i)) ?_
              refine x_bipush C dX0_digits_27 (q := 29) rfl (v := nI 48) (by decide) ?_
              refine x_isub C dX0_digits_29 (q := 30) rfl (z := nI (t * 10 + (b i) - 48)) (xi_subN (by omega) (by omega)) ?_
              refine x_istore_n C (L' := [(3, .int (nI (t * 10 + (b i) - 48))), (0, .ref sg), (1, .int (nI p0)), (2, .int (nI p1)), (4, .int (nI i))]) dX0_digits_30 (q := 31) rfl rfl (by decide) rfl ?_
              refine x_iinc C (L' := [(4, .int (nI (i + 1))), (3, .int (nI (t * 10 + (b i) - 48))), (0, .ref sg), (1, .int (nI p0)), (2, .int (nI p1))]) dX0_digits_31 (q := 34) rfl 4 rfl (v := nI (i + 1)) (nI_add i 1) (by decide) rfl ?_
              refine x_goto C (tgt := 5) dX0_digits_34 (by decide) ?_
              refine x_L (L' := [(0, .ref sg), (1, .int (nI p0)), (2, .int (nI p1)), (3, .int (nI (t * 10 + (b i) - 48))), (4, .int (nI (i + 1)))]) [2, 3, 4, 1, 0] rfl ?_
              exact ih5 (i + 1) (t * 10 + (b i) - 48) (by first | omega | assumption) (by first | omega | assumption) (by rw [show i + 1 - p0 = (i - p0) + 1 by omega]; unfold numD; rw [show p0 + (i - p0) = i by omega]; have h7 := hd i hi (by omega); omega) (by have h6 := numD_lt (b := b) (p := p0) (i + 1 - p0) (fun j hj => (hd (p0 + j) (by omega) (by omega)).2); have h8 : (10:Nat) ^ (i + 1 - p0) ≤ 10 ^ 4 := Nat.pow_le_pow_right (by omega) (by omega); rw [show i + 1 - p0 = (i - p0) + 1 by omega] at h6 h8; unfold numD at h6; rw [show p0 + (i - p0) = i by omega] at h6; have h7 := hd i hi (by omega); omega) (by omega)
  refine x_L (L' := [(0, .ref sg), (1, .int (nI p0)), (2, .int (nI p1)), (3, .int (nI 0)), (4, .int (nI p0))]) [2, 3, 4, 1, 0] rfl ?_
  exact cut5 (p1 - p0 + 1) p0 0 (by first | omega | assumption) (by first | omega | assumption) (by rw [Nat.sub_self]; rfl) (by first | omega | assumption) (by omega)


theorem pat_d {b : Nat → Nat} (h : patD b ∨ patY b) (h2 : b 2 = 47) : patD b := by
  rcases h with h | h
  · exact h
  · have := h.2.2.1; omega
theorem pat_y {b : Nat → Nat} (h : patD b ∨ patY b) (h2 : ¬ b 2 = 47) : patY b := by
  rcases h with h | h
  · exact absurd h.2.2.1 h2
  · exact h

set_option maxHeartbeats 4000000 in
set_option maxRecDepth 100000 in
/-- Days: a part of a date -/
theorem c_X0_yearIn (l : Launch) (D : va_G) (cy : Nat → ClassId) (sg : Nat) (len : Nat) (b : Nat → Nat) (hb : ∀ k, b k < 128) (hlen : len = 10) (hp : patD b ∨ patY b) : xMet l D cy xT yX0_yearIn wsX0_yearIn ({ frames := 2, cells := 0, slots := 0, locals := 200 } : Room) [.ref sg] [] [(sg, .inl (cy 0, len, .inl (fun k => nI (b k))))] (fun (v9 : Option Value) (w9 : va_W) => (v9 = some (.int (nI (yrS b))) ∧ w9 = [])) := by
  refine xMet_of (cc := cX0_yearIn) (maxL := 1) (ret := (some .int)) (by decide) rfl (Nat.le_of_ble_eq_true rfl) (fun p e s m args below meth c A R Q hA hR hQ C hr hnm hro hX => ?_)
  refine x_L (L' := [(0, .ref sg)]) [0] rfl ?_
  refine x_aload_n C dX0_yearIn_0 (q := 1) rfl rfl 0 rfl ?_
  refine x_callS C (roW := []) (roR := [(sg, .inl (cy 0, len, .inl (fun k => nI (b k))))]) (c_X0_isDayFirst l D cy sg len b (by assumption) (by first | assumption | omega | (simp only []; omega))) (cwS 1 C.2.2.2.2.1 gX0_yearIn_X0_isDayFirst rfl rfl rfl (by decide +kernel) (by rw [hR]; exact ⟨Nat.le_of_ble_eq_true rfl, Nat.le_of_ble_eq_true rfl⟩)) [] [] rfl (by decide) rfl (by decide) (xro_cons (hro (sg, .inl (cy 0, len, .inl (fun k => nI (b k)))) (List.mem_of_getElem? (i := 0) rfl)) xro_nil) xT_bl (fun _ _ _ _ _ _ _ => trivial) rfl rfl dX0_yearIn_1 rfl rfl (Nat.le_of_ble_eq_true rfl) (q := 4) rfl (k' := 0) rfl (n' := 0) rfl (by rw [hR]; exact ⟨Nat.le_of_ble_eq_true rfl, Nat.le_of_ble_eq_true rfl⟩) (fun v1 w1 hp1 => ?_)
  rcases hp1 with hp1 | hp1
  · skip
    obtain ⟨rfl, rfl, hc2⟩ := hp1
    refine x_ws (ws' := []) (List.append_nil _) ?_
    refine x_if_eq C (tgt := 18) dX0_yearIn_4 (by decide) (q := 7) rfl (a := 1) rfl (fun h3 => (by omega : False).elim) (fun h3 => ?_)
    refine x_aload_n C dX0_yearIn_7 (q := 8) rfl rfl 0 rfl ?_
    refine x_bipush C dX0_yearIn_8 (q := 10) rfl (v := nI 6) (by decide) ?_
    refine x_bipush C dX0_yearIn_10 (q := 12) rfl (v := nI 10) (by decide) ?_
    refine x_callS C (roW := []) (roR := [(sg, .inl (cy 0, len, .inl (fun k => nI (b k))))]) (c_X0_digits l D cy sg len b 6 10 (by assumption) (by omega) (by first | assumption | omega | (simp only []; omega)) (by first | assumption | omega | (simp only []; omega)) (by first | assumption | omega | (simp only []; omega)) (by intro k h1 h2; obtain ⟨q0, q1, q2, q3, q4, q5, q6, q7, q8, q9⟩ := pat_d hp (by assumption); have h3 : k = 6 ∨ k = 7 ∨ k = 8 ∨ k = 9 := (by omega); rcases h3 with rfl | rfl | rfl | rfl <;> omega)) (cwS 3 C.2.2.2.2.1 gX0_yearIn_X0_digits rfl rfl rfl (by decide +kernel) (by rw [hR]; exact ⟨Nat.le_of_ble_eq_true rfl, Nat.le_of_ble_eq_true rfl⟩)) [] [] rfl (by decide) rfl (by decide) (xro_cons (hro (sg, .inl (cy 0, len, .inl (fun k => nI (b k)))) (List.mem_of_getElem? (i := 0) rfl)) xro_nil) xT_bl (fun _ _ _ _ _ _ _ => trivial) rfl rfl dX0_yearIn_12 rfl rfl (Nat.le_of_ble_eq_true rfl) (q := 15) rfl (k' := 0) rfl (n' := 0) rfl (by rw [hR]; exact ⟨Nat.le_of_ble_eq_true rfl, Nat.le_of_ble_eq_true rfl⟩) (fun v4 w4 hp4 => ?_)
    obtain ⟨rfl, rfl⟩ := hp4
    refine x_ws (ws' := []) (List.append_nil _) ?_
    refine x_goto C (tgt := 24) dX0_yearIn_15 (by decide) ?_
    refine x_iret C hA hQ hr dX0_yearIn_24 (Nat.le_of_ble_eq_true rfl) ?_
    first | exact ⟨by unfold yrS; rw [if_pos (by assumption)], rfl⟩ | exact ⟨by unfold yrS; rw [if_neg (by assumption)], rfl⟩
  · skip
    obtain ⟨rfl, rfl, hc5⟩ := hp1
    refine x_ws (ws' := []) (List.append_nil _) ?_
    refine x_if_eq C (tgt := 18) dX0_yearIn_4 (by decide) (q := 7) rfl (a := 0) rfl (fun h6 => ?_) (fun h6 => (by omega : False).elim)
    refine x_aload_n C dX0_yearIn_18 (q := 19) rfl rfl 0 rfl ?_
    refine x_iconst C dX0_yearIn_19 (q := 20) rfl (v := nI 0) (by decide) ?_
    refine x_iconst C dX0_yearIn_20 (q := 21) rfl (v := nI 4) (by decide) ?_
    refine x_callS C (roW := []) (roR := [(sg, .inl (cy 0, len, .inl (fun k => nI (b k))))]) (c_X0_digits l D cy sg len b 0 4 (by assumption) (by omega) (by first | assumption | omega | (simp only []; omega)) (by first | assumption | omega | (simp only []; omega)) (by first | assumption | omega | (simp only []; omega)) (by intro k h1 h2; obtain ⟨q0, q1, q2, q3, q4, q5, q6, q7, q8, q9⟩ := pat_y hp (by assumption); have h3 : k = 0 ∨ k = 1 ∨ k = 2 ∨ k = 3 := (by omega); rcases h3 with rfl | rfl | rfl | rfl <;> omega)) (cwS 3 C.2.2.2.2.1 gX0_yearIn_X0_digits rfl rfl rfl (by decide +kernel) (by rw [hR]; exact ⟨Nat.le_of_ble_eq_true rfl, Nat.le_of_ble_eq_true rfl⟩)) [] [] rfl (by decide) rfl (by decide) (xro_cons (hro (sg, .inl (cy 0, len, .inl (fun k => nI (b k)))) (List.mem_of_getElem? (i := 0) rfl)) xro_nil) xT_bl (fun _ _ _ _ _ _ _ => trivial) rfl rfl dX0_yearIn_21 rfl rfl (Nat.le_of_ble_eq_true rfl) (q := 24) rfl (k' := 0) rfl (n' := 0) rfl (by rw [hR]; exact ⟨Nat.le_of_ble_eq_true rfl, Nat.le_of_ble_eq_true rfl⟩) (fun v7 w7 hp7 => ?_)
    obtain ⟨rfl, rfl⟩ := hp7
    refine x_ws (ws' := []) (List.append_nil _) ?_
    refine x_iret C hA hQ hr dX0_yearIn_24 (Nat.le_of_ble_eq_true rfl) ?_
    first | exact ⟨by unfold yrS; rw [if_pos (by assumption)], rfl⟩ | exact ⟨by unfold yrS; rw [if_neg (by assumption)], rfl⟩

set_option maxHeartbeats 4000000 in
set_option maxRecDepth 100000 in
/-- Days: a part of a date -/
theorem c_X0_monthIn (l : Launch) (D : va_G) (cy : Nat → ClassId) (sg : Nat) (len : Nat) (b : Nat → Nat) (hb : ∀ k, b k < 128) (hlen : len = 10) (hp : patD b ∨ patY b) : xMet l D cy xT yX0_monthIn wsX0_monthIn ({ frames := 2, cells := 0, slots := 0, locals := 200 } : Room) [.ref sg] [] [(sg, .inl (cy 0, len, .inl (fun k => nI (b k))))] (fun (v9 : Option Value) (w9 : va_W) => (v9 = some (.int (nI (moS b))) ∧ w9 = [])) := by
  refine xMet_of (cc := cX0_monthIn) (maxL := 1) (ret := (some .int)) (by decide) rfl (Nat.le_of_ble_eq_true rfl) (fun p e s m args below meth c A R Q hA hR hQ C hr hnm hro hX => ?_)
  refine x_L (L' := [(0, .ref sg)]) [0] rfl ?_
  refine x_aload_n C dX0_monthIn_0 (q := 1) rfl rfl 0 rfl ?_
  refine x_callS C (roW := []) (roR := [(sg, .inl (cy 0, len, .inl (fun k => nI (b k))))]) (c_X0_isDayFirst l D cy sg len b (by assumption) (by first | assumption | omega | (simp only []; omega))) (cwS 1 C.2.2.2.2.1 gX0_monthIn_X0_isDayFirst rfl rfl rfl (by decide +kernel) (by rw [hR]; exact ⟨Nat.le_of_ble_eq_true rfl, Nat.le_of_ble_eq_true rfl⟩)) [] [] rfl (by decide) rfl (by decide) (xro_cons (hro (sg, .inl (cy 0, len, .inl (fun k => nI (b k)))) (List.mem_of_getElem? (i := 0) rfl)) xro_nil) xT_bl (fun _ _ _ _ _ _ _ => trivial) rfl rfl dX0_monthIn_1 rfl rfl (Nat.le_of_ble_eq_true rfl) (q := 4) rfl (k' := 0) rfl (n' := 0) rfl (by rw [hR]; exact ⟨Nat.le_of_ble_eq_true rfl, Nat.le_of_ble_eq_true rfl⟩) (fun v1 w1 hp1 => ?_)
  rcases hp1 with hp1 | hp1
  · skip
    obtain ⟨rfl, rfl, hc2⟩ := hp1
    refine x_ws (ws' := []) (List.append_nil _) ?_
    refine x_if_eq C (tgt := 16) dX0_monthIn_4 (by decide) (q := 7) rfl (a := 1) rfl (fun h3 => (by omega : False).elim) (fun h3 => ?_)
    refine x_aload_n C dX0_monthIn_7 (q := 8) rfl rfl 0 rfl ?_
    refine x_iconst C dX0_monthIn_8 (q := 9) rfl (v := nI 3) (by decide) ?_
    refine x_iconst C dX0_monthIn_9 (q := 10) rfl (v := nI 5) (by decide) ?_
    refine x_callS C (roW := []) (roR := [(sg, .inl (cy 0, len, .inl (fun k => nI (b k))))]) (c_X0_digits l D cy sg len b 3 5 (by assumption) (by omega) (by first | assumption | omega | (simp only []; omega)) (by first | assumption | omega | (simp only []; omega)) (by first | assumption | omega | (simp only []; omega)) (by intro k h1 h2; obtain ⟨q0, q1, q2, q3, q4, q5, q6, q7, q8, q9⟩ := pat_d hp (by assumption); have h3 : k = 3 ∨ k = 4 := (by omega); rcases h3 with rfl | rfl <;> omega)) (cwS 3 C.2.2.2.2.1 gX0_monthIn_X0_digits rfl rfl rfl (by decide +kernel) (by rw [hR]; exact ⟨Nat.le_of_ble_eq_true rfl, Nat.le_of_ble_eq_true rfl⟩)) [] [] rfl (by decide) rfl (by decide) (xro_cons (hro (sg, .inl (cy 0, len, .inl (fun k => nI (b k)))) (List.mem_of_getElem? (i := 0) rfl)) xro_nil) xT_bl (fun _ _ _ _ _ _ _ => trivial) rfl rfl dX0_monthIn_10 rfl rfl (Nat.le_of_ble_eq_true rfl) (q := 13) rfl (k' := 0) rfl (n' := 0) rfl (by rw [hR]; exact ⟨Nat.le_of_ble_eq_true rfl, Nat.le_of_ble_eq_true rfl⟩) (fun v4 w4 hp4 => ?_)
    obtain ⟨rfl, rfl⟩ := hp4
    refine x_ws (ws' := []) (List.append_nil _) ?_
    refine x_goto C (tgt := 23) dX0_monthIn_13 (by decide) ?_
    refine x_iret C hA hQ hr dX0_monthIn_23 (Nat.le_of_ble_eq_true rfl) ?_
    first | exact ⟨by unfold moS; rw [if_pos (by assumption)], rfl⟩ | exact ⟨by unfold moS; rw [if_neg (by assumption)], rfl⟩
  · skip
    obtain ⟨rfl, rfl, hc5⟩ := hp1
    refine x_ws (ws' := []) (List.append_nil _) ?_
    refine x_if_eq C (tgt := 16) dX0_monthIn_4 (by decide) (q := 7) rfl (a := 0) rfl (fun h6 => ?_) (fun h6 => (by omega : False).elim)
    refine x_aload_n C dX0_monthIn_16 (q := 17) rfl rfl 0 rfl ?_
    refine x_iconst C dX0_monthIn_17 (q := 18) rfl (v := nI 5) (by decide) ?_
    refine x_bipush C dX0_monthIn_18 (q := 20) rfl (v := nI 7) (by decide) ?_
    refine x_callS C (roW := []) (roR := [(sg, .inl (cy 0, len, .inl (fun k => nI (b k))))]) (c_X0_digits l D cy sg len b 5 7 (by assumption) (by omega) (by first | assumption | omega | (simp only []; omega)) (by first | assumption | omega | (simp only []; omega)) (by first | assumption | omega | (simp only []; omega)) (by intro k h1 h2; obtain ⟨q0, q1, q2, q3, q4, q5, q6, q7, q8, q9⟩ := pat_y hp (by assumption); have h3 : k = 5 ∨ k = 6 := (by omega); rcases h3 with rfl | rfl <;> omega)) (cwS 3 C.2.2.2.2.1 gX0_monthIn_X0_digits rfl rfl rfl (by decide +kernel) (by rw [hR]; exact ⟨Nat.le_of_ble_eq_true rfl, Nat.le_of_ble_eq_true rfl⟩)) [] [] rfl (by decide) rfl (by decide) (xro_cons (hro (sg, .inl (cy 0, len, .inl (fun k => nI (b k)))) (List.mem_of_getElem? (i := 0) rfl)) xro_nil) xT_bl (fun _ _ _ _ _ _ _ => trivial) rfl rfl dX0_monthIn_20 rfl rfl (Nat.le_of_ble_eq_true rfl) (q := 23) rfl (k' := 0) rfl (n' := 0) rfl (by rw [hR]; exact ⟨Nat.le_of_ble_eq_true rfl, Nat.le_of_ble_eq_true rfl⟩) (fun v7 w7 hp7 => ?_)
    obtain ⟨rfl, rfl⟩ := hp7
    refine x_ws (ws' := []) (List.append_nil _) ?_
    refine x_iret C hA hQ hr dX0_monthIn_23 (Nat.le_of_ble_eq_true rfl) ?_
    first | exact ⟨by unfold moS; rw [if_pos (by assumption)], rfl⟩ | exact ⟨by unfold moS; rw [if_neg (by assumption)], rfl⟩

set_option maxHeartbeats 4000000 in
set_option maxRecDepth 100000 in
/-- Days: a part of a date -/
theorem c_X0_dayIn (l : Launch) (D : va_G) (cy : Nat → ClassId) (sg : Nat) (len : Nat) (b : Nat → Nat) (hb : ∀ k, b k < 128) (hlen : len = 10) (hp : patD b ∨ patY b) : xMet l D cy xT yX0_dayIn wsX0_dayIn ({ frames := 2, cells := 0, slots := 0, locals := 200 } : Room) [.ref sg] [] [(sg, .inl (cy 0, len, .inl (fun k => nI (b k))))] (fun (v9 : Option Value) (w9 : va_W) => (v9 = some (.int (nI (dyS b))) ∧ w9 = [])) := by
  refine xMet_of (cc := cX0_dayIn) (maxL := 1) (ret := (some .int)) (by decide) rfl (Nat.le_of_ble_eq_true rfl) (fun p e s m args below meth c A R Q hA hR hQ C hr hnm hro hX => ?_)
  refine x_L (L' := [(0, .ref sg)]) [0] rfl ?_
  refine x_aload_n C dX0_dayIn_0 (q := 1) rfl rfl 0 rfl ?_
  refine x_callS C (roW := []) (roR := [(sg, .inl (cy 0, len, .inl (fun k => nI (b k))))]) (c_X0_isDayFirst l D cy sg len b (by assumption) (by first | assumption | omega | (simp only []; omega))) (cwS 1 C.2.2.2.2.1 gX0_dayIn_X0_isDayFirst rfl rfl rfl (by decide +kernel) (by rw [hR]; exact ⟨Nat.le_of_ble_eq_true rfl, Nat.le_of_ble_eq_true rfl⟩)) [] [] rfl (by decide) rfl (by decide) (xro_cons (hro (sg, .inl (cy 0, len, .inl (fun k => nI (b k)))) (List.mem_of_getElem? (i := 0) rfl)) xro_nil) xT_bl (fun _ _ _ _ _ _ _ => trivial) rfl rfl dX0_dayIn_1 rfl rfl (Nat.le_of_ble_eq_true rfl) (q := 4) rfl (k' := 0) rfl (n' := 0) rfl (by rw [hR]; exact ⟨Nat.le_of_ble_eq_true rfl, Nat.le_of_ble_eq_true rfl⟩) (fun v1 w1 hp1 => ?_)
  rcases hp1 with hp1 | hp1
  · skip
    obtain ⟨rfl, rfl, hc2⟩ := hp1
    refine x_ws (ws' := []) (List.append_nil _) ?_
    refine x_if_eq C (tgt := 16) dX0_dayIn_4 (by decide) (q := 7) rfl (a := 1) rfl (fun h3 => (by omega : False).elim) (fun h3 => ?_)
    refine x_aload_n C dX0_dayIn_7 (q := 8) rfl rfl 0 rfl ?_
    refine x_iconst C dX0_dayIn_8 (q := 9) rfl (v := nI 0) (by decide) ?_
    refine x_iconst C dX0_dayIn_9 (q := 10) rfl (v := nI 2) (by decide) ?_
    refine x_callS C (roW := []) (roR := [(sg, .inl (cy 0, len, .inl (fun k => nI (b k))))]) (c_X0_digits l D cy sg len b 0 2 (by assumption) (by omega) (by first | assumption | omega | (simp only []; omega)) (by first | assumption | omega | (simp only []; omega)) (by first | assumption | omega | (simp only []; omega)) (by intro k h1 h2; obtain ⟨q0, q1, q2, q3, q4, q5, q6, q7, q8, q9⟩ := pat_d hp (by assumption); have h3 : k = 0 ∨ k = 1 := (by omega); rcases h3 with rfl | rfl <;> omega)) (cwS 3 C.2.2.2.2.1 gX0_dayIn_X0_digits rfl rfl rfl (by decide +kernel) (by rw [hR]; exact ⟨Nat.le_of_ble_eq_true rfl, Nat.le_of_ble_eq_true rfl⟩)) [] [] rfl (by decide) rfl (by decide) (xro_cons (hro (sg, .inl (cy 0, len, .inl (fun k => nI (b k)))) (List.mem_of_getElem? (i := 0) rfl)) xro_nil) xT_bl (fun _ _ _ _ _ _ _ => trivial) rfl rfl dX0_dayIn_10 rfl rfl (Nat.le_of_ble_eq_true rfl) (q := 13) rfl (k' := 0) rfl (n' := 0) rfl (by rw [hR]; exact ⟨Nat.le_of_ble_eq_true rfl, Nat.le_of_ble_eq_true rfl⟩) (fun v4 w4 hp4 => ?_)
    obtain ⟨rfl, rfl⟩ := hp4
    refine x_ws (ws' := []) (List.append_nil _) ?_
    refine x_goto C (tgt := 24) dX0_dayIn_13 (by decide) ?_
    refine x_iret C hA hQ hr dX0_dayIn_24 (Nat.le_of_ble_eq_true rfl) ?_
    first | exact ⟨by unfold dyS; rw [if_pos (by assumption)], rfl⟩ | exact ⟨by unfold dyS; rw [if_neg (by assumption)], rfl⟩
  · skip
    obtain ⟨rfl, rfl, hc5⟩ := hp1
    refine x_ws (ws' := []) (List.append_nil _) ?_
    refine x_if_eq C (tgt := 16) dX0_dayIn_4 (by decide) (q := 7) rfl (a := 0) rfl (fun h6 => ?_) (fun h6 => (by omega : False).elim)
    refine x_aload_n C dX0_dayIn_16 (q := 17) rfl rfl 0 rfl ?_
    refine x_bipush C dX0_dayIn_17 (q := 19) rfl (v := nI 8) (by decide) ?_
    refine x_bipush C dX0_dayIn_19 (q := 21) rfl (v := nI 10) (by decide) ?_
    refine x_callS C (roW := []) (roR := [(sg, .inl (cy 0, len, .inl (fun k => nI (b k))))]) (c_X0_digits l D cy sg len b 8 10 (by assumption) (by omega) (by first | assumption | omega | (simp only []; omega)) (by first | assumption | omega | (simp only []; omega)) (by first | assumption | omega | (simp only []; omega)) (by intro k h1 h2; obtain ⟨q0, q1, q2, q3, q4, q5, q6, q7, q8, q9⟩ := pat_y hp (by assumption); have h3 : k = 8 ∨ k = 9 := (by omega); rcases h3 with rfl | rfl <;> omega)) (cwS 3 C.2.2.2.2.1 gX0_dayIn_X0_digits rfl rfl rfl (by decide +kernel) (by rw [hR]; exact ⟨Nat.le_of_ble_eq_true rfl, Nat.le_of_ble_eq_true rfl⟩)) [] [] rfl (by decide) rfl (by decide) (xro_cons (hro (sg, .inl (cy 0, len, .inl (fun k => nI (b k)))) (List.mem_of_getElem? (i := 0) rfl)) xro_nil) xT_bl (fun _ _ _ _ _ _ _ => trivial) rfl rfl dX0_dayIn_21 rfl rfl (Nat.le_of_ble_eq_true rfl) (q := 24) rfl (k' := 0) rfl (n' := 0) rfl (by rw [hR]; exact ⟨Nat.le_of_ble_eq_true rfl, Nat.le_of_ble_eq_true rfl⟩) (fun v7 w7 hp7 => ?_)
    obtain ⟨rfl, rfl⟩ := hp7
    refine x_ws (ws' := []) (List.append_nil _) ?_
    refine x_iret C hA hQ hr dX0_dayIn_24 (Nat.le_of_ble_eq_true rfl) ?_
    first | exact ⟨by unfold dyS; rw [if_pos (by assumption)], rfl⟩ | exact ⟨by unfold dyS; rw [if_neg (by assumption)], rfl⟩

set_option maxHeartbeats 4000000 in
set_option maxRecDepth 100000 in
/-- Days.isLeap -/
theorem c_X0_isLeap (l : Launch) (D : va_G) (cy : Nat → ClassId) (y : Nat) (hy : y < 10000) : xMet l D cy xT yX0_isLeap wsX0_isLeap ({ frames := 1, cells := 0, slots := 0, locals := 0 } : Room) [.int (nI y)] [] [] (fun (v9 : Option Value) (w9 : va_W) => (v9 = some (.int (nI 1)) ∧ w9 = [] ∧ isLp y) ∨ (v9 = some (.int (nI 0)) ∧ w9 = [] ∧ ¬ isLp y)) := by
  refine xMet_of (cc := cX0_isLeap) (maxL := 1) (ret := (some .boolean)) (by decide) rfl (Nat.le_of_ble_eq_true rfl) (fun p e s m args below meth c A R Q hA hR hQ C hr hnm hro hX => ?_)
  refine x_L (L' := [(0, .int (nI y))]) [0] rfl ?_
  refine x_iload_n C dX0_isLeap_0 (q := 1) rfl rfl 0 rfl ?_
  refine x_iconst C dX0_isLeap_1 (q := 2) rfl (v := nI 4) (by decide) ?_
  refine x_irem C dX0_isLeap_2 (q := 3) rfl (xi_ne0 (b := 4) rfl (by omega)) (z := nI (y % 4)) (pk_rem (by omega) (by omega) (by omega)) ?_
  refine x_if_ne C (tgt := 25) dX0_isLeap_3 (by decide) (q := 6) rfl (a := ((y % 4 : Nat) : Int)) (nI_toInt (by omega)) (fun h1 => ?_) (fun h1 => ?_)
  · first
    | (exfalso; omega)
    |
      refine x_iconst C dX0_isLeap_25 (q := 26) rfl (v := nI 0) (by decide) ?_
      refine x_zret C hA hQ hr (ty := .boolean) (by first | rfl | assumption | exact xz_nar _) dX0_isLeap_26 (Nat.le_of_ble_eq_true rfl) ?_
      first | exact Or.inl ⟨rfl, rfl, by unfold isLp; omega⟩ | exact Or.inr ⟨rfl, rfl, by unfold isLp; omega⟩
  · first
    | (exfalso; omega)
    |
      refine x_iload_n C dX0_isLeap_6 (q := 7) rfl rfl 0 rfl ?_
      refine x_bipush C dX0_isLeap_7 (q := 9) rfl (v := nI 100) (by decide) ?_
      refine x_irem C dX0_isLeap_9 (q := 10) rfl (xi_ne0 (b := 100) rfl (by omega)) (z := nI (y % 100)) (pk_rem (by omega) (by omega) (by omega)) ?_
      refine x_if_ne C (tgt := 21) dX0_isLeap_10 (by decide) (q := 13) rfl (a := ((y % 100 : Nat) : Int)) (nI_toInt (by omega)) (fun h2 => ?_) (fun h2 => ?_)
      · first
        | (exfalso; omega)
        |
          refine x_iconst C dX0_isLeap_21 (q := 22) rfl (v := nI 1) (by decide) ?_
          refine x_goto C (tgt := 26) dX0_isLeap_22 (by decide) ?_
          refine x_zret C hA hQ hr (ty := .boolean) (by first | rfl | assumption | exact xz_nar _) dX0_isLeap_26 (Nat.le_of_ble_eq_true rfl) ?_
          first | exact Or.inl ⟨rfl, rfl, by unfold isLp; omega⟩ | exact Or.inr ⟨rfl, rfl, by unfold isLp; omega⟩
      · first
        | (exfalso; omega)
        |
          refine x_iload_n C dX0_isLeap_13 (q := 14) rfl rfl 0 rfl ?_
          refine x_sipush C dX0_isLeap_14 (q := 17) rfl (v := nI 400) (by decide) ?_
          refine x_irem C dX0_isLeap_17 (q := 18) rfl (xi_ne0 (b := 400) rfl (by omega)) (z := nI (y % 400)) (pk_rem (by omega) (by omega) (by omega)) ?_
          refine x_if_ne C (tgt := 25) dX0_isLeap_18 (by decide) (q := 21) rfl (a := ((y % 400 : Nat) : Int)) (nI_toInt (by omega)) (fun h3 => ?_) (fun h3 => ?_)
          · first
            | (exfalso; omega)
            |
              refine x_iconst C dX0_isLeap_25 (q := 26) rfl (v := nI 0) (by decide) ?_
              refine x_zret C hA hQ hr (ty := .boolean) (by first | rfl | assumption | exact xz_nar _) dX0_isLeap_26 (Nat.le_of_ble_eq_true rfl) ?_
              first | exact Or.inl ⟨rfl, rfl, by unfold isLp; omega⟩ | exact Or.inr ⟨rfl, rfl, by unfold isLp; omega⟩
          · first
            | (exfalso; omega)
            |
              refine x_iconst C dX0_isLeap_21 (q := 22) rfl (v := nI 1) (by decide) ?_
              refine x_goto C (tgt := 26) dX0_isLeap_22 (by decide) ?_
              refine x_zret C hA hQ hr (ty := .boolean) (by first | rfl | assumption | exact xz_nar _) dX0_isLeap_26 (Nat.le_of_ble_eq_true rfl) ?_
              first | exact Or.inl ⟨rfl, rfl, by unfold isLp; omega⟩ | exact Or.inr ⟨rfl, rfl, by unfold isLp; omega⟩

set_option maxHeartbeats 4000000 in
set_option maxRecDepth 100000 in
/-- Days.aheadOfYear -/
theorem c_X0_aheadOfYear (l : Launch) (D : va_G) (cy : Nat → ClassId) (y : Nat) (hy : y < 10000) (hy1 : 1 ≤ y) : xMet l D cy xT yX0_aheadOfYear wsX0_aheadOfYear ({ frames := 1, cells := 0, slots := 0, locals := 0 } : Room) [.int (nI y)] [] [] (fun (v9 : Option Value) (w9 : va_W) => (v9 = some (.int (nI (yD y))) ∧ w9 = [])) := by
  refine xMet_of (cc := cX0_aheadOfYear) (maxL := 2) (ret := (some .int)) (by decide) rfl (Nat.le_of_ble_eq_true rfl) (fun p e s m args below meth c A R Q hA hR hQ C hr hnm hro hX => ?_)
  refine x_L (L' := [(0, .int (nI y))]) [0] rfl ?_
  refine x_iload_n C dX0_aheadOfYear_0 (q := 1) rfl rfl 0 rfl ?_
  refine x_iconst C dX0_aheadOfYear_1 (q := 2) rfl (v := nI 1) (by decide) ?_
  refine x_isub C dX0_aheadOfYear_2 (q := 3) rfl (z := nI (y - 1)) (xi_subN (by omega) (by omega)) ?_
  refine x_istore_n C (L' := [(1, .int (nI (y - 1))), (0, .int (nI y))]) dX0_aheadOfYear_3 (q := 4) rfl rfl (by decide) rfl ?_
  refine x_iload_n C dX0_aheadOfYear_4 (q := 5) rfl rfl 0 rfl ?_
  refine x_sipush C dX0_aheadOfYear_5 (q := 8) rfl (v := nI 365) (by decide) ?_
  refine x_imul C dX0_aheadOfYear_8 (q := 9) rfl (z := nI ((y - 1) * 365)) (pk_mul (y - 1) 365) ?_
  refine x_iload_n C dX0_aheadOfYear_9 (q := 10) rfl rfl 0 rfl ?_
  refine x_iconst C dX0_aheadOfYear_10 (q := 11) rfl (v := nI 4) (by decide) ?_
  refine x_idiv C dX0_aheadOfYear_11 (q := 12) rfl (xi_ne0 (b := 4) rfl (by omega)) (z := nI ((y - 1) / 4)) (pk_div (by omega) (by omega) (by omega)) ?_
  refine x_iadd C dX0_aheadOfYear_12 (q := 13) rfl (z := nI ((y - 1) * 365 + ((y - 1) / 4))) (nI_add ((y - 1) * 365) ((y - 1) / 4)) ?_
  refine x_iload_n C dX0_aheadOfYear_13 (q := 14) rfl rfl 0 rfl ?_
  refine x_bipush C dX0_aheadOfYear_14 (q := 16) rfl (v := nI 100) (by decide) ?_
  refine x_idiv C dX0_aheadOfYear_16 (q := 17) rfl (xi_ne0 (b := 100) rfl (by omega)) (z := nI ((y - 1) / 100)) (pk_div (by omega) (by omega) (by omega)) ?_
  refine x_isub C dX0_aheadOfYear_17 (q := 18) rfl (z := nI ((y - 1) * 365 + ((y - 1) / 4) - ((y - 1) / 100))) (xi_subN (by omega) (by omega)) ?_
  refine x_iload_n C dX0_aheadOfYear_18 (q := 19) rfl rfl 0 rfl ?_
  refine x_sipush C dX0_aheadOfYear_19 (q := 22) rfl (v := nI 400) (by decide) ?_
  refine x_idiv C dX0_aheadOfYear_22 (q := 23) rfl (xi_ne0 (b := 400) rfl (by omega)) (z := nI ((y - 1) / 400)) (pk_div (by omega) (by omega) (by omega)) ?_
  refine x_iadd C dX0_aheadOfYear_23 (q := 24) rfl (z := nI ((y - 1) * 365 + ((y - 1) / 4) - ((y - 1) / 100) + ((y - 1) / 400))) (nI_add ((y - 1) * 365 + ((y - 1) / 4) - ((y - 1) / 100)) ((y - 1) / 400)) ?_
  refine x_iret C hA hQ hr dX0_aheadOfYear_24 (Nat.le_of_ble_eq_true rfl) ?_
  exact ⟨rfl, rfl⟩
