set_option maxHeartbeats 4000000 in
set_option maxRecDepth 100000 in
/-- Field.digitsFrom -/
theorem c_X1_digitsFrom (l : Launch) (D : va_G) (cy : Nat → ClassId) (sg : Nat) (len : Nat) (b : Nat → Nat) (p0 : Nat) (hb : ∀ k, b k < 128) (hlen : len ≤ 60) (hp0 : p0 ≤ len) : xMet l D cy xT yX1_digitsFrom wsX1_digitsFrom ({ frames := 2, cells := 0, slots := 0, locals := 200 } : Room) [.ref sg, .int (nI p0)] [] [(sg, .inl (cy 0, len, .inl (fun k => nI (b k))))] (fun (v9 : Option Value) (w9 : va_W) => (v9 = some (.int (nI (dgs b len p0))) ∧ w9 = [])) := by
  refine xMet_of (cc := cX1_digitsFrom) (maxL := 3) (ret := (some .int)) (by decide) rfl (Nat.le_of_ble_eq_true rfl) (fun p e s m args below meth c A R Q hA hR hQ C hr hnm hro hX => ?_)
  refine x_L (L' := [(0, .ref sg), (1, .int (nI p0))]) [0, 1] rfl ?_
  refine x_iload_n C dX1_digitsFrom_0 (q := 1) rfl rfl 1 rfl ?_
  refine x_istore_n C (L' := [(2, .int (nI p0)), (0, .ref sg), (1, .int (nI p0))]) dX1_digitsFrom_1 (q := 2) rfl rfl (by decide) rfl ?_
  have cut2 : ∀ (fuel : Nat) (i : Nat), (p0 ≤ i) → (i ≤ len) → (dgs b len p0 = (i - p0) + dgs b len i) → len - i < fuel → xG p l e R s m args below meth c Q D A 3 [] 0 0 2 [(0, .ref sg), (1, .int (nI p0)), (2, .int (nI i))] [] := by
    intro fuel
    induction fuel with
    | zero =>
      intro i hi hi2 hg hmu
      exact absurd hmu (Nat.not_lt_zero _)
    | succ fuel ih =>
      intro i hi hi2 hg hmu
      have ih2 := ih
      clear ih
      refine x_iload_n C dX1_digitsFrom_2 (q := 3) rfl rfl 2 rfl ?_
      refine x_if_lt C (tgt := 27) dX1_digitsFrom_3 (by decide) (q := 6) rfl (a := ((i : Nat) : Int)) (nI_toInt (by omega)) (fun h1 => ?_) (fun h1 => ?_)
      · first
        | (exfalso; omega)
        |
          refine x_iload_n C dX1_digitsFrom_27 (q := 28) rfl rfl 2 rfl ?_
          refine x_iload_n C dX1_digitsFrom_28 (q := 29) rfl rfl 1 rfl ?_
          refine x_isub C dX1_digitsFrom_29 (q := 30) rfl (z := nI (i - p0)) (xi_subN (by omega) (by omega)) ?_
          refine x_iret C hA hQ hr dX1_digitsFrom_30 (Nat.le_of_ble_eq_true rfl) ?_
          have h8 := dgs_stop (b := b) (to := len) (k := i) (by omega)
          exact ⟨by rw [show i - p0 = dgs b len p0 by omega], rfl⟩
      · first
        | (exfalso; omega)
        |
          refine x_iload_n C dX1_digitsFrom_6 (q := 7) rfl rfl 2 rfl ?_
          refine x_aload_n C dX1_digitsFrom_7 (q := 8) rfl rfl 0 rfl ?_
          refine x_alenR C 0 (hro (sg, .inl (cy 0, len, .inl (fun k => nI (b k)))) (List.mem_of_getElem? (i := 0) rfl)) rfl (v := nI len) rfl dX1_digitsFrom_8 (q := 9) rfl ?_
          refine x_icmp_ge C (tgt := 27) dX1_digitsFrom_9 (by decide) (q := 12) rfl (a := ((i : Nat) : Int)) (b := ((len : Nat) : Int)) (nI_toInt (by omega)) (nI_toInt (by omega)) (fun h2 => ?_) (fun h2 => ?_)
          · first
            | (exfalso; omega)
            |
              refine x_iload_n C dX1_digitsFrom_27 (q := 28) rfl rfl 2 rfl ?_
              refine x_iload_n C dX1_digitsFrom_28 (q := 29) rfl rfl 1 rfl ?_
              refine x_isub C dX1_digitsFrom_29 (q := 30) rfl (z := nI (i - p0)) (xi_subN (by omega) (by omega)) ?_
              refine x_iret C hA hQ hr dX1_digitsFrom_30 (Nat.le_of_ble_eq_true rfl) ?_
              have h8 := dgs_stop (b := b) (to := len) (k := i) (by omega)
              exact ⟨by rw [show i - p0 = dgs b len p0 by omega], rfl⟩
          · first
            | (exfalso; omega)
            |
              refine x_aload_n C dX1_digitsFrom_12 (q := 13) rfl rfl 0 rfl ?_
              refine x_iload_n C dX1_digitsFrom_13 (q := 14) rfl rfl 2 rfl ?_
              have hb3 := hb i
              refine x_baldR C (j := i) (v := nI (b i)) (hro (sg, .inl (cy 0, len, .inl (fun k => nI (b k)))) (List.mem_of_getElem? (i := 0) rfl)) (nI_toInt (by omega)) (by omega) rfl dX1_digitsFrom_14 (q := 15) rfl ?_
              refine x_callS C (roW := []) (roR := []) (c_X0_isDigit l D cy (b i) (by first | assumption | omega | (simp only []; omega))) (va_cwS 1 C.2.2.2.2.1 gX1_digitsFrom_X0_isDigit rfl rfl rfl (by decide +kernel) (by rw [hR]; exact ⟨Nat.le_of_ble_eq_true rfl, Nat.le_of_ble_eq_true rfl⟩)) [] [] rfl (by decide) rfl (by decide) xro_nil xT_bl (fun _ _ _ _ _ _ _ => trivial) rfl rfl dX1_digitsFrom_15 rfl rfl (Nat.le_of_ble_eq_true rfl) (q := 18) rfl (k' := 0) rfl (n' := 0) rfl (by rw [hR]; exact ⟨Nat.le_of_ble_eq_true rfl, Nat.le_of_ble_eq_true rfl⟩) (fun v4 w4 hp4 => ?_)
              rcases hp4 with hp4 | hp4
              · skip
                obtain ⟨rfl, rfl, hc5, hc6⟩ := hp4
                refine x_ws (ws' := []) (List.append_nil _) ?_
                refine x_if_eq C (tgt := 27) dX1_digitsFrom_18 (by decide) (q := 21) rfl (a := 1) rfl (fun h7 => (by omega : False).elim) (fun h7 => ?_)
                refine x_iinc C (L' := [(2, .int (nI (i + 1))), (0, .ref sg), (1, .int (nI p0))]) dX1_digitsFrom_21 (q := 24) rfl 2 rfl (v := nI (i + 1)) (nI_add i 1) (by decide) rfl ?_
                refine x_goto C (tgt := 2) dX1_digitsFrom_24 (by decide) ?_
                refine x_L (L' := [(0, .ref sg), (1, .int (nI p0)), (2, .int (nI (i + 1)))]) [1, 2, 0] rfl ?_
                exact ih2 (i + 1) (by first | omega | assumption) (by first | omega | assumption) (by have h8 := dgs_step (b := b) (to := len) (k := i) (by omega) (by omega) (by omega); omega) (by omega)
              · skip
                obtain ⟨rfl, rfl, hc8⟩ := hp4
                refine x_ws (ws' := []) (List.append_nil _) ?_
                refine x_if_eq C (tgt := 27) dX1_digitsFrom_18 (by decide) (q := 21) rfl (a := 0) rfl (fun h9 => ?_) (fun h9 => (by omega : False).elim)
                refine x_iload_n C dX1_digitsFrom_27 (q := 28) rfl rfl 2 rfl ?_
                refine x_iload_n C dX1_digitsFrom_28 (q := 29) rfl rfl 1 rfl ?_
                refine x_isub C dX1_digitsFrom_29 (q := 30) rfl (z := nI (i - p0)) (xi_subN (by omega) (by omega)) ?_
                refine x_iret C hA hQ hr dX1_digitsFrom_30 (Nat.le_of_ble_eq_true rfl) ?_
                have h8 := dgs_stop (b := b) (to := len) (k := i) (by omega)
                exact ⟨by rw [show i - p0 = dgs b len p0 by omega], rfl⟩
  refine x_L (L' := [(0, .ref sg), (1, .int (nI p0)), (2, .int (nI p0))]) [1, 2, 0] rfl ?_
  exact cut2 (len - p0 + 1) p0 (by first | omega | assumption) (by first | omega | assumption) (by rw [Nat.sub_self, Nat.zero_add]) (by omega)

set_option maxHeartbeats 4000000 in
set_option maxRecDepth 100000 in
/-- Field.isFraction -/
theorem c_X1_isFraction (l : Launch) (D : va_G) (cy : Nat → ClassId) (sg : Nat) (len : Nat) (b : Nat → Nat) (p0 : Nat) (hb : ∀ k, b k < 128) (hlen : len ≤ 60) (hp0 : p0 ≤ len) : xMet l D cy xT yX1_isFraction wsX1_isFraction ({ frames := 3, cells := 0, slots := 0, locals := 300 } : Room) [.ref sg, .int (nI p0)] [] [(sg, .inl (cy 0, len, .inl (fun k => nI (b k))))] (fun (v9 : Option Value) (w9 : va_W) => (v9 = some (.int (nI 1)) ∧ w9 = [] ∧ fracS b len p0) ∨ (v9 = some (.int (nI 0)) ∧ w9 = [] ∧ ¬ fracS b len p0)) := by
  refine xMet_of (cc := cX1_isFraction) (maxL := 3) (ret := (some .boolean)) (by decide) rfl (Nat.le_of_ble_eq_true rfl) (fun p e s m args below meth c A R Q hA hR hQ C hr hnm hro hX => ?_)
  refine x_L (L' := [(0, .ref sg), (1, .int (nI p0))]) [0, 1] rfl ?_
  have hdl := dgs_le b len p0
  refine x_aload_n C dX1_isFraction_0 (q := 1) rfl rfl 0 rfl ?_
  refine x_iload_n C dX1_isFraction_1 (q := 2) rfl rfl 1 rfl ?_
  refine x_callS C (roW := []) (roR := [(sg, .inl (cy 0, len, .inl (fun k => nI (b k))))]) (c_X1_digitsFrom l D cy sg len b p0 (by assumption) (by first | assumption | omega | (simp only []; omega)) (by first | assumption | omega | (simp only []; omega))) (cwS 2 C.2.2.2.2.1 gX1_isFraction_X1_digitsFrom rfl rfl rfl (by decide +kernel) (by rw [hR]; exact ⟨Nat.le_of_ble_eq_true rfl, Nat.le_of_ble_eq_true rfl⟩)) [] [] rfl (by decide) rfl (by decide) (xro_cons (hro (sg, .inl (cy 0, len, .inl (fun k => nI (b k)))) (List.mem_of_getElem? (i := 0) rfl)) xro_nil) xT_bl (fun _ _ _ _ _ _ _ => trivial) rfl rfl dX1_isFraction_2 rfl rfl (Nat.le_of_ble_eq_true rfl) (q := 5) rfl (k' := 0) rfl (n' := 0) rfl (by rw [hR]; exact ⟨Nat.le_of_ble_eq_true rfl, Nat.le_of_ble_eq_true rfl⟩) (fun v1 w1 hp1 => ?_)
  obtain ⟨rfl, rfl⟩ := hp1
  refine x_ws (ws' := []) (List.append_nil _) ?_
  refine x_istore_n C (L' := [(2, .int (nI (dgs b len p0))), (0, .ref sg), (1, .int (nI p0))]) dX1_isFraction_5 (q := 6) rfl rfl (by decide) rfl ?_
  refine x_iload_n C dX1_isFraction_6 (q := 7) rfl rfl 0 rfl ?_
  refine x_iconst C dX1_isFraction_7 (q := 8) rfl (v := nI 1) (by decide) ?_
  refine x_icmp_lt C (tgt := 28) dX1_isFraction_8 (by decide) (q := 11) rfl (a := ((dgs b len p0 : Nat) : Int)) (b := 1) (nI_toInt (by omega)) rfl (fun h2 => ?_) (fun h2 => ?_)
  · first
    | (exfalso; omega)
    |
      refine x_iconst C dX1_isFraction_28 (q := 29) rfl (v := nI 0) (by decide) ?_
      refine x_zret C hA hQ hr (ty := .boolean) (by first | rfl | assumption | exact xz_nar _) dX1_isFraction_29 (Nat.le_of_ble_eq_true rfl) ?_
      first | exact Or.inl ⟨rfl, rfl, by unfold fracS; omega⟩ | exact Or.inr ⟨rfl, rfl, by unfold fracS; omega⟩
  · first
    | (exfalso; omega)
    |
      refine x_iload_n C dX1_isFraction_11 (q := 12) rfl rfl 0 rfl ?_
      refine x_iconst C dX1_isFraction_12 (q := 13) rfl (v := nI 3) (by decide) ?_
      refine x_icmp_gt C (tgt := 28) dX1_isFraction_13 (by decide) (q := 16) rfl (a := ((dgs b len p0 : Nat) : Int)) (b := 3) (nI_toInt (by omega)) rfl (fun h3 => ?_) (fun h3 => ?_)
      · first
        | (exfalso; omega)
        |
          refine x_iconst C dX1_isFraction_28 (q := 29) rfl (v := nI 0) (by decide) ?_
          refine x_zret C hA hQ hr (ty := .boolean) (by first | rfl | assumption | exact xz_nar _) dX1_isFraction_29 (Nat.le_of_ble_eq_true rfl) ?_
          first | exact Or.inl ⟨rfl, rfl, by unfold fracS; omega⟩ | exact Or.inr ⟨rfl, rfl, by unfold fracS; omega⟩
      · first
        | (exfalso; omega)
        |
          refine x_iload_n C dX1_isFraction_16 (q := 17) rfl rfl 2 rfl ?_
          refine x_iload_n C dX1_isFraction_17 (q := 18) rfl rfl 0 rfl ?_
          refine x_iadd C dX1_isFraction_18 (q := 19) rfl (z := nI (p0 + (dgs b len p0))) (nI_add p0 (dgs b len p0)) ?_
          refine x_aload_n C dX1_isFraction_19 (q := 20) rfl rfl 1 rfl ?_
          refine x_alenR C 0 (hro (sg, .inl (cy 0, len, .inl (fun k => nI (b k)))) (List.mem_of_getElem? (i := 0) rfl)) rfl (v := nI len) rfl dX1_isFraction_20 (q := 21) rfl ?_
          refine x_icmp_ne C (tgt := 28) dX1_isFraction_21 (by decide) (q := 24) rfl (a := ((p0 + (dgs b len p0) : Nat) : Int)) (b := ((len : Nat) : Int)) (nI_toInt (by omega)) (nI_toInt (by omega)) (fun h4 => ?_) (fun h4 => ?_)
          · first
            | (exfalso; omega)
            |
              refine x_iconst C dX1_isFraction_28 (q := 29) rfl (v := nI 0) (by decide) ?_
              refine x_zret C hA hQ hr (ty := .boolean) (by first | rfl | assumption | exact xz_nar _) dX1_isFraction_29 (Nat.le_of_ble_eq_true rfl) ?_
              first | exact Or.inl ⟨rfl, rfl, by unfold fracS; omega⟩ | exact Or.inr ⟨rfl, rfl, by unfold fracS; omega⟩
          · first
            | (exfalso; omega)
            |
              refine x_iconst C dX1_isFraction_24 (q := 25) rfl (v := nI 1) (by decide) ?_
              refine x_goto C (tgt := 29) dX1_isFraction_25 (by decide) ?_
              refine x_zret C hA hQ hr (ty := .boolean) (by first | rfl | assumption | exact xz_nar _) dX1_isFraction_29 (Nat.le_of_ble_eq_true rfl) ?_
              first | exact Or.inl ⟨rfl, rfl, by unfold fracS; omega⟩ | exact Or.inr ⟨rfl, rfl, by unfold fracS; omega⟩

set_option maxHeartbeats 4000000 in
set_option maxRecDepth 100000 in
/-- Field.formIn -/
theorem c_X1_formIn (l : Launch) (D : va_G) (cy : Nat → ClassId) (t0 : Nat) (adK : Nat → Nat) (adV : Nat → Nat) (sg : Nat) (len : Nat) (b : Nat → Nat) (hb : ∀ k, b k < 128) (hlen : len ≤ 60) : xMet l D cy (xZ t0 adK adV) yX1_formIn wsX1_formIn ({ frames := 7, cells := 0, slots := 0, locals := 1600 } : Room) [.ref sg] [] [(sg, .inl (cy 0, len, .inl (fun k => nI (b k))))] (fun (v9 : Option Value) (w9 : va_W) => (v9 = some (.int (nI (formS b len))) ∧ w9 = [])) := by
  refine xMet_of (cc := cX1_formIn) (maxL := 4) (ret := (some .int)) (by decide) rfl (Nat.le_of_ble_eq_true rfl) (fun p e s m args below meth c A R Q hA hR hQ C hr hnm hro hX => ?_)
  refine x_L (L' := [(0, .ref sg)]) [0] rfl ?_
  refine x_aload_n C dX1_formIn_0 (q := 1) rfl rfl 0 rfl ?_
  refine x_alenR C 0 (hro (sg, .inl (cy 0, len, .inl (fun k => nI (b k)))) (List.mem_of_getElem? (i := 0) rfl)) rfl (v := nI len) rfl dX1_formIn_1 (q := 2) rfl ?_
  refine x_if_ne C (tgt := 7) dX1_formIn_2 (by decide) (q := 5) rfl (a := ((len : Nat) : Int)) (nI_toInt (by omega)) (fun h1 => ?_) (fun h1 => ?_)
  · first
    | (exfalso; omega)
    |
      refine x_aload_n C dX1_formIn_7 (q := 8) rfl rfl 0 rfl ?_
      refine x_iconst C dX1_formIn_8 (q := 9) rfl (v := nI 0) (by decide) ?_
      have hb2 := hb 0
      refine x_baldR C (j := 0) (v := nI (b 0)) (hro (sg, .inl (cy 0, len, .inl (fun k => nI (b k)))) (List.mem_of_getElem? (i := 0) rfl)) rfl (by omega) rfl dX1_formIn_9 (q := 10) rfl ?_
      refine x_bipush C dX1_formIn_10 (q := 12) rfl (v := nI 45) (by decide) ?_
      refine x_icmp_ne C (tgt := 19) dX1_formIn_12 (by decide) (q := 15) rfl (a := ((b 0 : Nat) : Int)) (b := 45) (nI_toInt (by omega)) rfl (fun h3 => ?_) (fun h3 => ?_)
      · first
        | (exfalso; omega)
        |
          refine x_iconst C dX1_formIn_19 (q := 20) rfl (v := nI 0) (by decide) ?_
          refine x_istore_n C (L' := [(1, .int (nI 0)), (0, .ref sg)]) dX1_formIn_20 (q := 21) rfl rfl (by decide) rfl ?_
          refine x_aload_n C dX1_formIn_21 (q := 22) rfl rfl 1 rfl ?_
          refine x_iload_n C dX1_formIn_22 (q := 23) rfl rfl 0 rfl ?_
          refine x_callS C (roW := []) (roR := [(sg, .inl (cy 0, len, .inl (fun k => nI (b k))))]) (c_X1_digitsFrom l D cy sg len b 0 (by assumption) (by first | assumption | omega | (simp only []; omega)) (by first | assumption | omega | (simp only []; omega))) (cwS 2 C.2.2.2.2.1 gX1_formIn_X1_digitsFrom rfl rfl rfl (by decide +kernel) (by rw [hR]; exact ⟨Nat.le_of_ble_eq_true rfl, Nat.le_of_ble_eq_true rfl⟩)) [] [] rfl (by decide) rfl (by decide) (xro_cons (hro (sg, .inl (cy 0, len, .inl (fun k => nI (b k)))) (List.mem_of_getElem? (i := 0) rfl)) xro_nil) xT_bl (fun _ _ _ _ _ _ _ => trivial) rfl rfl dX1_formIn_23 rfl rfl (Nat.le_of_ble_eq_true rfl) (q := 26) rfl (k' := 0) rfl (n' := 0) rfl (by rw [hR]; exact ⟨Nat.le_of_ble_eq_true rfl, Nat.le_of_ble_eq_true rfl⟩) (fun v4 w4 hp4 => ?_)
          obtain ⟨rfl, rfl⟩ := hp4
          refine x_ws (ws' := []) (List.append_nil _) ?_
          refine x_istore_n C (L' := [(2, .int (nI (dgs b len 0))), (1, .int (nI 0)), (0, .ref sg)]) dX1_formIn_26 (q := 27) rfl rfl (by decide) rfl ?_
          have hdl := dgs_le b len 0
          refine x_iload_n C dX1_formIn_27 (q := 28) rfl rfl 1 rfl ?_
          refine x_iload_n C dX1_formIn_28 (q := 29) rfl rfl 0 rfl ?_
          refine x_iadd C dX1_formIn_29 (q := 30) rfl (z := nI (0 + (dgs b len 0))) (nI_add 0 (dgs b len 0)) ?_
          refine x_istore_n C (L' := [(3, .int (nI (0 + (dgs b len 0)))), (2, .int (nI (dgs b len 0))), (1, .int (nI 0)), (0, .ref sg)]) dX1_formIn_30 (q := 31) rfl rfl (by decide) rfl ?_
          refine x_iload_n C dX1_formIn_31 (q := 32) rfl rfl 1 rfl ?_
          refine x_iconst C dX1_formIn_32 (q := 33) rfl (v := nI 1) (by decide) ?_
          refine x_icmp_lt C (tgt := 70) dX1_formIn_33 (by decide) (q := 36) rfl (a := ((dgs b len 0 : Nat) : Int)) (b := 1) (nI_toInt (by omega)) rfl (fun h5 => ?_) (fun h5 => ?_)
          · first
            | (exfalso; omega)
            |
              refine x_aload_n C dX1_formIn_70 (q := 71) rfl rfl 3 rfl ?_
              refine x_callS C (roW := []) (roR := [(sg, .inl (cy 0, len, .inl (fun k => nI (b k))))]) (c_X0_isDate l D cy t0 adK adV sg len b (by assumption) (by first | assumption | omega | (simp only []; omega))) (va_cwS 1 C.2.2.2.2.1 gX1_formIn_X0_isDate rfl rfl rfl (by decide +kernel) (by rw [hR]; exact ⟨Nat.le_of_ble_eq_true rfl, Nat.le_of_ble_eq_true rfl⟩)) [] [] rfl (by decide) rfl (by decide) (xro_cons (hro (sg, .inl (cy 0, len, .inl (fun k => nI (b k)))) (List.mem_of_getElem? (i := 0) rfl)) xro_nil) (xZ_bl t0 adK adV) (fun H9 locs9 U9 hS9 hF9 hU9 hW9 => xZ_call hX hS9 hF9 hU9 hW9) rfl rfl dX1_formIn_71 rfl rfl (Nat.le_of_ble_eq_true rfl) (q := 74) rfl (k' := 0) rfl (n' := 0) rfl (by rw [hR]; exact ⟨Nat.le_of_ble_eq_true rfl, Nat.le_of_ble_eq_true rfl⟩) (fun v6 w6 hp6 => ?_)
              rcases hp6 with hp6 | hp6
              · skip
                obtain ⟨rfl, rfl, hc7⟩ := hp6
                refine x_ws (ws' := []) (List.append_nil _) ?_
                refine x_if_eq C (tgt := 81) dX1_formIn_74 (by decide) (q := 77) rfl (a := 1) rfl (fun h8 => (by omega : False).elim) (fun h8 => ?_)
                refine x_iconst C dX1_formIn_77 (q := 78) rfl (v := nI 3) (by decide) ?_
                refine x_goto C (tgt := 82) dX1_formIn_78 (by decide) ?_
                refine x_iret C hA hQ hr dX1_formIn_82 (Nat.le_of_ble_eq_true rfl) ?_
                have e9 : formS b len = 3 := (formS_34 (b := b) (len := len) (fr := 0) (if_neg (by omega)) (by omega) (by omega) (fun z => by have z1 := z.1; have z2 := z.2.1; have z3 := z.2.2.1; first | omega | exact absurd z.2.2.2 (by assumption))).trans (if_pos (by assumption))
                exact ⟨by rw [e9], rfl⟩
              · skip
                obtain ⟨rfl, rfl, hc9⟩ := hp6
                refine x_ws (ws' := []) (List.append_nil _) ?_
                refine x_if_eq C (tgt := 81) dX1_formIn_74 (by decide) (q := 77) rfl (a := 0) rfl (fun h10 => ?_) (fun h10 => (by omega : False).elim)
                refine x_iconst C dX1_formIn_81 (q := 82) rfl (v := nI 4) (by decide) ?_
                refine x_iret C hA hQ hr dX1_formIn_82 (Nat.le_of_ble_eq_true rfl) ?_
                have e9 : formS b len = 4 := (formS_34 (b := b) (len := len) (fr := 0) (if_neg (by omega)) (by omega) (by omega) (fun z => by have z1 := z.1; have z2 := z.2.1; have z3 := z.2.2.1; first | omega | exact absurd z.2.2.2 (by assumption))).trans (if_neg (by assumption))
                exact ⟨by rw [e9], rfl⟩
          · first
            | (exfalso; omega)
            |
              refine x_iload_n C dX1_formIn_36 (q := 37) rfl rfl 1 rfl ?_
              refine x_bipush C dX1_formIn_37 (q := 39) rfl (v := nI 6) (by decide) ?_
              refine x_icmp_gt C (tgt := 70) dX1_formIn_39 (by decide) (q := 42) rfl (a := ((dgs b len 0 : Nat) : Int)) (b := 6) (nI_toInt (by omega)) rfl (fun h11 => ?_) (fun h11 => ?_)
              · first
                | (exfalso; omega)
                |
                  refine x_aload_n C dX1_formIn_70 (q := 71) rfl rfl 3 rfl ?_
                  refine x_callS C (roW := []) (roR := [(sg, .inl (cy 0, len, .inl (fun k => nI (b k))))]) (c_X0_isDate l D cy t0 adK adV sg len b (by assumption) (by first | assumption | omega | (simp only []; omega))) (va_cwS 1 C.2.2.2.2.1 gX1_formIn_X0_isDate rfl rfl rfl (by decide +kernel) (by rw [hR]; exact ⟨Nat.le_of_ble_eq_true rfl, Nat.le_of_ble_eq_true rfl⟩)) [] [] rfl (by decide) rfl (by decide) (xro_cons (hro (sg, .inl (cy 0, len, .inl (fun k => nI (b k)))) (List.mem_of_getElem? (i := 0) rfl)) xro_nil) (xZ_bl t0 adK adV) (fun H9 locs9 U9 hS9 hF9 hU9 hW9 => xZ_call hX hS9 hF9 hU9 hW9) rfl rfl dX1_formIn_71 rfl rfl (Nat.le_of_ble_eq_true rfl) (q := 74) rfl (k' := 0) rfl (n' := 0) rfl (by rw [hR]; exact ⟨Nat.le_of_ble_eq_true rfl, Nat.le_of_ble_eq_true rfl⟩) (fun v12 w12 hp12 => ?_)
                  rcases hp12 with hp12 | hp12
                  · skip
                    obtain ⟨rfl, rfl, hc13⟩ := hp12
                    refine x_ws (ws' := []) (List.append_nil _) ?_
                    refine x_if_eq C (tgt := 81) dX1_formIn_74 (by decide) (q := 77) rfl (a := 1) rfl (fun h14 => (by omega : False).elim) (fun h14 => ?_)
                    refine x_iconst C dX1_formIn_77 (q := 78) rfl (v := nI 3) (by decide) ?_
                    refine x_goto C (tgt := 82) dX1_formIn_78 (by decide) ?_
                    refine x_iret C hA hQ hr dX1_formIn_82 (Nat.le_of_ble_eq_true rfl) ?_
                    have e9 : formS b len = 3 := (formS_34 (b := b) (len := len) (fr := 0) (if_neg (by omega)) (by omega) (by omega) (fun z => by have z1 := z.1; have z2 := z.2.1; have z3 := z.2.2.1; first | omega | exact absurd z.2.2.2 (by assumption))).trans (if_pos (by assumption))
                    exact ⟨by rw [e9], rfl⟩
                  · skip
                    obtain ⟨rfl, rfl, hc15⟩ := hp12
                    refine x_ws (ws' := []) (List.append_nil _) ?_
                    refine x_if_eq C (tgt := 81) dX1_formIn_74 (by decide) (q := 77) rfl (a := 0) rfl (fun h16 => ?_) (fun h16 => (by omega : False).elim)
                    refine x_iconst C dX1_formIn_81 (q := 82) rfl (v := nI 4) (by decide) ?_
                    refine x_iret C hA hQ hr dX1_formIn_82 (Nat.le_of_ble_eq_true rfl) ?_
                    have e9 : formS b len = 4 := (formS_34 (b := b) (len := len) (fr := 0) (if_neg (by omega)) (by omega) (by omega) (fun z => by have z1 := z.1; have z2 := z.2.1; have z3 := z.2.2.1; first | omega | exact absurd z.2.2.2 (by assumption))).trans (if_neg (by assumption))
                    exact ⟨by rw [e9], rfl⟩
              · first
                | (exfalso; omega)
                |
                  refine x_iload_n C dX1_formIn_42 (q := 43) rfl rfl 0 rfl ?_
                  refine x_aload_n C dX1_formIn_43 (q := 44) rfl rfl 3 rfl ?_
                  refine x_alenR C 0 (hro (sg, .inl (cy 0, len, .inl (fun k => nI (b k)))) (List.mem_of_getElem? (i := 0) rfl)) rfl (v := nI len) rfl dX1_formIn_44 (q := 45) rfl ?_
                  refine x_icmp_ne C (tgt := 50) dX1_formIn_45 (by decide) (q := 48) rfl (a := ((0 + (dgs b len 0) : Nat) : Int)) (b := ((len : Nat) : Int)) (nI_toInt (by omega)) (nI_toInt (by omega)) (fun h17 => ?_) (fun h17 => ?_)
                  · first
                    | (exfalso; omega)
                    |
                      refine x_aload_n C dX1_formIn_50 (q := 51) rfl rfl 3 rfl ?_
                      refine x_iload_n C dX1_formIn_51 (q := 52) rfl rfl 0 rfl ?_
                      have hb18 := hb (0 + (dgs b len 0))
                      refine x_baldR C (j := 0 + (dgs b len 0)) (v := nI (b (0 + (dgs b len 0)))) (hro (sg, .inl (cy 0, len, .inl (fun k => nI (b k)))) (List.mem_of_getElem? (i := 0) rfl)) (nI_toInt (by omega)) (by omega) rfl dX1_formIn_52 (q := 53) rfl ?_
                      refine x_bipush C dX1_formIn_53 (q := 55) rfl (v := nI 46) (by decide) ?_
                      refine x_icmp_ne C (tgt := 70) dX1_formIn_55 (by decide) (q := 58) rfl (a := ((b (0 + (dgs b len 0)) : Nat) : Int)) (b := 46) (nI_toInt (by omega)) rfl (fun h19 => ?_) (fun h19 => ?_)
                      · first
                        | (exfalso; omega)
                        |
                          refine x_aload_n C dX1_formIn_70 (q := 71) rfl rfl 3 rfl ?_
                          refine x_callS C (roW := []) (roR := [(sg, .inl (cy 0, len, .inl (fun k => nI (b k))))]) (c_X0_isDate l D cy t0 adK adV sg len b (by assumption) (by first | assumption | omega | (simp only []; omega))) (va_cwS 1 C.2.2.2.2.1 gX1_formIn_X0_isDate rfl rfl rfl (by decide +kernel) (by rw [hR]; exact ⟨Nat.le_of_ble_eq_true rfl, Nat.le_of_ble_eq_true rfl⟩)) [] [] rfl (by decide) rfl (by decide) (xro_cons (hro (sg, .inl (cy 0, len, .inl (fun k => nI (b k)))) (List.mem_of_getElem? (i := 0) rfl)) xro_nil) (xZ_bl t0 adK adV) (fun H9 locs9 U9 hS9 hF9 hU9 hW9 => xZ_call hX hS9 hF9 hU9 hW9) rfl rfl dX1_formIn_71 rfl rfl (Nat.le_of_ble_eq_true rfl) (q := 74) rfl (k' := 0) rfl (n' := 0) rfl (by rw [hR]; exact ⟨Nat.le_of_ble_eq_true rfl, Nat.le_of_ble_eq_true rfl⟩) (fun v20 w20 hp20 => ?_)
                          rcases hp20 with hp20 | hp20
                          · skip
                            obtain ⟨rfl, rfl, hc21⟩ := hp20
                            refine x_ws (ws' := []) (List.append_nil _) ?_
                            refine x_if_eq C (tgt := 81) dX1_formIn_74 (by decide) (q := 77) rfl (a := 1) rfl (fun h22 => (by omega : False).elim) (fun h22 => ?_)
                            refine x_iconst C dX1_formIn_77 (q := 78) rfl (v := nI 3) (by decide) ?_
                            refine x_goto C (tgt := 82) dX1_formIn_78 (by decide) ?_
                            refine x_iret C hA hQ hr dX1_formIn_82 (Nat.le_of_ble_eq_true rfl) ?_
                            have e9 : formS b len = 3 := (formS_34 (b := b) (len := len) (fr := 0) (if_neg (by omega)) (by omega) (by omega) (fun z => by have z1 := z.1; have z2 := z.2.1; have z3 := z.2.2.1; first | omega | exact absurd z.2.2.2 (by assumption))).trans (if_pos (by assumption))
                            exact ⟨by rw [e9], rfl⟩
                          · skip
                            obtain ⟨rfl, rfl, hc23⟩ := hp20
                            refine x_ws (ws' := []) (List.append_nil _) ?_
                            refine x_if_eq C (tgt := 81) dX1_formIn_74 (by decide) (q := 77) rfl (a := 0) rfl (fun h24 => ?_) (fun h24 => (by omega : False).elim)
                            refine x_iconst C dX1_formIn_81 (q := 82) rfl (v := nI 4) (by decide) ?_
                            refine x_iret C hA hQ hr dX1_formIn_82 (Nat.le_of_ble_eq_true rfl) ?_
                            have e9 : formS b len = 4 := (formS_34 (b := b) (len := len) (fr := 0) (if_neg (by omega)) (by omega) (by omega) (fun z => by have z1 := z.1; have z2 := z.2.1; have z3 := z.2.2.1; first | omega | exact absurd z.2.2.2 (by assumption))).trans (if_neg (by assumption))
                            exact ⟨by rw [e9], rfl⟩
                      · first
                        | (exfalso; omega)
                        |
                          refine x_aload_n C dX1_formIn_58 (q := 59) rfl rfl 3 rfl ?_
                          refine x_iload_n C dX1_formIn_59 (q := 60) rfl rfl 0 rfl ?_
                          refine x_iconst C dX1_formIn_60 (q := 61) rfl (v := nI 1) (by decide) ?_
                          refine x_iadd C dX1_formIn_61 (q := 62) rfl (z := nI (0 + (dgs b len 0) + 1)) (nI_add (0 + (dgs b len 0)) 1) ?_
                          refine x_callS C (roW := []) (roR := [(sg, .inl (cy 0, len, .inl (fun k => nI (b k))))]) (c_X1_isFraction l D cy sg len b (0 + (dgs b len 0) + 1) (by assumption) (by first | assumption | omega | (simp only []; omega)) (by first | assumption | omega | (simp only []; omega))) (cwS 2 C.2.2.2.2.1 gX1_formIn_X1_isFraction rfl rfl rfl (by decide +kernel) (by rw [hR]; exact ⟨Nat.le_of_ble_eq_true rfl, Nat.le_of_ble_eq_true rfl⟩)) [] [] rfl (by decide) rfl (by decide) (xro_cons (hro (sg, .inl (cy 0, len, .inl (fun k => nI (b k)))) (List.mem_of_getElem? (i := 0) rfl)) xro_nil) xT_bl (fun _ _ _ _ _ _ _ => trivial) rfl rfl dX1_formIn_62 rfl rfl (Nat.le_of_ble_eq_true rfl) (q := 65) rfl (k' := 0) rfl (n' := 0) rfl (by rw [hR]; exact ⟨Nat.le_of_ble_eq_true rfl, Nat.le_of_ble_eq_true rfl⟩) (fun v25 w25 hp25 => ?_)
                          rcases hp25 with hp25 | hp25
                          · skip
                            obtain ⟨rfl, rfl, hc26⟩ := hp25
                            refine x_ws (ws' := []) (List.append_nil _) ?_
                            refine x_if_eq C (tgt := 70) dX1_formIn_65 (by decide) (q := 68) rfl (a := 1) rfl (fun h27 => (by omega : False).elim) (fun h27 => ?_)
                            refine x_iconst C dX1_formIn_68 (q := 69) rfl (v := nI 2) (by decide) ?_
                            refine x_iret C hA hQ hr dX1_formIn_69 (Nat.le_of_ble_eq_true rfl) ?_
                            have e9 : formS b len = 2 := formS_2 (b := b) (len := len) (fr := 0) (if_neg (by omega)) (by omega) (by omega) (by omega) (by omega) (by omega) (by assumption)
                            exact ⟨by rw [e9], rfl⟩
                          · skip
                            obtain ⟨rfl, rfl, hc28⟩ := hp25
                            refine x_ws (ws' := []) (List.append_nil _) ?_
                            refine x_if_eq C (tgt := 70) dX1_formIn_65 (by decide) (q := 68) rfl (a := 0) rfl (fun h29 => ?_) (fun h29 => (by omega : False).elim)
                            refine x_aload_n C dX1_formIn_70 (q := 71) rfl rfl 3 rfl ?_
                            refine x_callS C (roW := []) (roR := [(sg, .inl (cy 0, len, .inl (fun k => nI (b k))))]) (c_X0_isDate l D cy t0 adK adV sg len b (by assumption) (by first | assumption | omega | (simp only []; omega))) (va_cwS 1 C.2.2.2.2.1 gX1_formIn_X0_isDate rfl rfl rfl (by decide +kernel) (by rw [hR]; exact ⟨Nat.le_of_ble_eq_true rfl, Nat.le_of_ble_eq_true rfl⟩)) [] [] rfl (by decide) rfl (by decide) (xro_cons (hro (sg, .inl (cy 0, len, .inl (fun k => nI (b k)))) (List.mem_of_getElem? (i := 0) rfl)) xro_nil) (xZ_bl t0 adK adV) (fun H9 locs9 U9 hS9 hF9 hU9 hW9 => xZ_call hX hS9 hF9 hU9 hW9) rfl rfl dX1_formIn_71 rfl rfl (Nat.le_of_ble_eq_true rfl) (q := 74) rfl (k' := 0) rfl (n' := 0) rfl (by rw [hR]; exact ⟨Nat.le_of_ble_eq_true rfl, Nat.le_of_ble_eq_true rfl⟩) (fun v30 w30 hp30 => ?_)
                            rcases hp30 with hp30 | hp30
                            · skip
                              obtain ⟨rfl, rfl, hc31⟩ := hp30
                              refine x_ws (ws' := []) (List.append_nil _) ?_
                              refine x_if_eq C (tgt := 81) dX1_formIn_74 (by decide) (q := 77) rfl (a := 1) rfl (fun h32 => (by omega : False).elim) (fun h32 => ?_)
                              refine x_iconst C dX1_formIn_77 (q := 78) rfl (v := nI 3) (by decide) ?_
                              refine x_goto C (tgt := 82) dX1_formIn_78 (by decide) ?_
                              refine x_iret C hA hQ hr dX1_formIn_82 (Nat.le_of_ble_eq_true rfl) ?_
                              have e9 : formS b len = 3 := (formS_34 (b := b) (len := len) (fr := 0) (if_neg (by omega)) (by omega) (by omega) (fun z => by have z1 := z.1; have z2 := z.2.1; have z3 := z.2.2.1; first | omega | exact absurd z.2.2.2 (by assumption))).trans (if_pos (by assumption))
                              exact ⟨by rw [e9], rfl⟩
                            · skip
                              obtain ⟨rfl, rfl, hc33⟩ := hp30
                              refine x_ws (ws' := []) (List.append_nil _) ?_
                              refine x_if_eq C (tgt := 81) dX1_formIn_74 (by decide) (q := 77) rfl (a := 0) rfl (fun h34 => ?_) (fun h34 => (by omega : False).elim)
                              refine x_iconst C dX1_formIn_81 (q := 82) rfl (v := nI 4) (by decide) ?_
                              refine x_iret C hA hQ hr dX1_formIn_82 (Nat.le_of_ble_eq_true rfl) ?_
                              have e9 : formS b len = 4 := (formS_34 (b := b) (len := len) (fr := 0) (if_neg (by omega)) (by omega) (by omega) (fun z => by have z1 := z.1; have z2 := z.2.1; have z3 := z.2.2.1; first | omega | exact absurd z.2.2.2 (by assumption))).trans (if_neg (by assumption))
                              exact ⟨by rw [e9], rfl⟩
                  · first
                    | (exfalso; omega)
                    |
                      refine x_iconst C dX1_formIn_48 (q := 49) rfl (v := nI 1) (by decide) ?_
                      refine x_iret C hA hQ hr dX1_formIn_49 (Nat.le_of_ble_eq_true rfl) ?_
                      have e9 : formS b len = 1 := formS_1 (b := b) (len := len) (fr := 0) (if_neg (by omega)) (by omega) (by omega) (by omega) (by omega)
                      exact ⟨by rw [e9], rfl⟩
      · first
        | (exfalso; omega)
        |
          refine x_iconst C dX1_formIn_15 (q := 16) rfl (v := nI 1) (by decide) ?_
          refine x_goto C (tgt := 20) dX1_formIn_16 (by decide) ?_
          refine x_istore_n C (L' := [(1, .int (nI 1)), (0, .ref sg)]) dX1_formIn_20 (q := 21) rfl rfl (by decide) rfl ?_
          refine x_aload_n C dX1_formIn_21 (q := 22) rfl rfl 1 rfl ?_
          refine x_iload_n C dX1_formIn_22 (q := 23) rfl rfl 0 rfl ?_
          refine x_callS C (roW := []) (roR := [(sg, .inl (cy 0, len, .inl (fun k => nI (b k))))]) (c_X1_digitsFrom l D cy sg len b 1 (by assumption) (by first | assumption | omega | (simp only []; omega)) (by first | assumption | omega | (simp only []; omega))) (cwS 2 C.2.2.2.2.1 gX1_formIn_X1_digitsFrom rfl rfl rfl (by decide +kernel) (by rw [hR]; exact ⟨Nat.le_of_ble_eq_true rfl, Nat.le_of_ble_eq_true rfl⟩)) [] [] rfl (by decide) rfl (by decide) (xro_cons (hro (sg, .inl (cy 0, len, .inl (fun k => nI (b k)))) (List.mem_of_getElem? (i := 0) rfl)) xro_nil) xT_bl (fun _ _ _ _ _ _ _ => trivial) rfl rfl dX1_formIn_23 rfl rfl (Nat.le_of_ble_eq_true rfl) (q := 26) rfl (k' := 0) rfl (n' := 0) rfl (by rw [hR]; exact ⟨Nat.le_of_ble_eq_true rfl, Nat.le_of_ble_eq_true rfl⟩) (fun v35 w35 hp35 => ?_)
          obtain ⟨rfl, rfl⟩ := hp35
          refine x_ws (ws' := []) (List.append_nil _) ?_
          refine x_istore_n C (L' := [(2, .int (nI (dgs b len 1))), (1, .int (nI 1)), (0, .ref sg)]) dX1_formIn_26 (q := 27) rfl rfl (by decide) rfl ?_
          have hdl := dgs_le b len 1
          refine x_iload_n C dX1_formIn_27 (q := 28) rfl rfl 1 rfl ?_
          refine x_iload_n C dX1_formIn_28 (q := 29) rfl rfl 0 rfl ?_
          refine x_iadd C dX1_formIn_29 (q := 30) rfl (z := nI (1 + (dgs b len 1))) (nI_add 1 (dgs b len 1)) ?_
          refine x_istore_n C (L' := [(3, .int (nI (1 + (dgs b len 1)))), (2, .int (nI (dgs b len 1))), (1, .int (nI 1)), (0, .ref sg)]) dX1_formIn_30 (q := 31) rfl rfl (by decide) rfl ?_
          refine x_iload_n C dX1_formIn_31 (q := 32) rfl rfl 1 rfl ?_
          refine x_iconst C dX1_formIn_32 (q := 33) rfl (v := nI 1) (by decide) ?_
          refine x_icmp_lt C (tgt := 70) dX1_formIn_33 (by decide) (q := 36) rfl (a := ((dgs b len 1 : Nat) : Int)) (b := 1) (nI_toInt (by omega)) rfl (fun h36 => ?_) (fun h36 => ?_)
          · first
            | (exfalso; omega)
            |
              refine x_aload_n C dX1_formIn_70 (q := 71) rfl rfl 3 rfl ?_
              refine x_callS C (roW := []) (roR := [(sg, .inl (cy 0, len, .inl (fun k => nI (b k))))]) (c_X0_isDate l D cy t0 adK adV sg len b (by assumption) (by first | assumption | omega | (simp only []; omega))) (va_cwS 1 C.2.2.2.2.1 gX1_formIn_X0_isDate rfl rfl rfl (by decide +kernel) (by rw [hR]; exact ⟨Nat.le_of_ble_eq_true rfl, Nat.le_of_ble_eq_true rfl⟩)) [] [] rfl (by decide) rfl (by decide) (xro_cons (hro (sg, .inl (cy 0, len, .inl (fun k => nI (b k)))) (List.mem_of_getElem? (i := 0) rfl)) xro_nil) (xZ_bl t0 adK adV) (fun H9 locs9 U9 hS9 hF9 hU9 hW9 => xZ_call hX hS9 hF9 hU9 hW9) rfl rfl dX1_formIn_71 rfl rfl (Nat.le_of_ble_eq_true rfl) (q := 74) rfl (k' := 0) rfl (n' := 0) rfl (by rw [hR]; exact ⟨Nat.le_of_ble_eq_true rfl, Nat.le_of_ble_eq_true rfl⟩) (fun v37 w37 hp37 => ?_)
              rcases hp37 with hp37 | hp37
              · skip
                obtain ⟨rfl, rfl, hc38⟩ := hp37
                refine x_ws (ws' := []) (List.append_nil _) ?_
                refine x_if_eq C (tgt := 81) dX1_formIn_74 (by decide) (q := 77) rfl (a := 1) rfl (fun h39 => (by omega : False).elim) (fun h39 => ?_)
                refine x_iconst C dX1_formIn_77 (q := 78) rfl (v := nI 3) (by decide) ?_
                refine x_goto C (tgt := 82) dX1_formIn_78 (by decide) ?_
                refine x_iret C hA hQ hr dX1_formIn_82 (Nat.le_of_ble_eq_true rfl) ?_
                have e9 : formS b len = 3 := (formS_34 (b := b) (len := len) (fr := 1) (if_pos (by omega)) (by omega) (by omega) (fun z => by have z1 := z.1; have z2 := z.2.1; have z3 := z.2.2.1; first | omega | exact absurd z.2.2.2 (by assumption))).trans (if_pos (by assumption))
                exact ⟨by rw [e9], rfl⟩
              · skip
                obtain ⟨rfl, rfl, hc40⟩ := hp37
                refine x_ws (ws' := []) (List.append_nil _) ?_
                refine x_if_eq C (tgt := 81) dX1_formIn_74 (by decide) (q := 77) rfl (a := 0) rfl (fun h41 => ?_) (fun h41 => (by omega : False).elim)
                refine x_iconst C dX1_formIn_81 (q := 82) rfl (v := nI 4) (by decide) ?_
                refine x_iret C hA hQ hr dX1_formIn_82 (Nat.le_of_ble_eq_true rfl) ?_
                have e9 : formS b len = 4 := (formS_34 (b := b) (len := len) (fr := 1) (if_pos (by omega)) (by omega) (by omega) (fun z => by have z1 := z.1; have z2 := z.2.1; have z3 := z.2.2.1; first | omega | exact absurd z.2.2.2 (by assumption))).trans (if_neg (by assumption))
                exact ⟨by rw [e9], rfl⟩
          · first
            | (exfalso; omega)
            |
              refine x_iload_n C dX1_formIn_36 (q := 37) rfl rfl 1 rfl ?_
              refine x_bipush C dX1_formIn_37 (q := 39) rfl (v := nI 6) (by decide) ?_
              refine x_icmp_gt C (tgt := 70) dX1_formIn_39 (by decide) (q := 42) rfl (a := ((dgs b len 1 : Nat) : Int)) (b := 6) (nI_toInt (by omega)) rfl (fun h42 => ?_) (fun h42 => ?_)
              · first
                | (exfalso; omega)
                |
                  refine x_aload_n C dX1_formIn_70 (q := 71) rfl rfl 3 rfl ?_
                  refine x_callS C (roW := []) (roR := [(sg, .inl (cy 0, len, .inl (fun k => nI (b k))))]) (c_X0_isDate l D cy t0 adK adV sg len b (by assumption) (by first | assumption | omega | (simp only []; omega))) (va_cwS 1 C.2.2.2.2.1 gX1_formIn_X0_isDate rfl rfl rfl (by decide +kernel) (by rw [hR]; exact ⟨Nat.le_of_ble_eq_true rfl, Nat.le_of_ble_eq_true rfl⟩)) [] [] rfl (by decide) rfl (by decide) (xro_cons (hro (sg, .inl (cy 0, len, .inl (fun k => nI (b k)))) (List.mem_of_getElem? (i := 0) rfl)) xro_nil) (xZ_bl t0 adK adV) (fun H9 locs9 U9 hS9 hF9 hU9 hW9 => xZ_call hX hS9 hF9 hU9 hW9) rfl rfl dX1_formIn_71 rfl rfl (Nat.le_of_ble_eq_true rfl) (q := 74) rfl (k' := 0) rfl (n' := 0) rfl (by rw [hR]; exact ⟨Nat.le_of_ble_eq_true rfl, Nat.le_of_ble_eq_true rfl⟩) (fun v43 w43 hp43 => ?_)
                  rcases hp43 with hp43 | hp43
                  · skip
                    obtain ⟨rfl, rfl, hc44⟩ := hp43
                    refine x_ws (ws' := []) (List.append_nil _) ?_
                    refine x_if_eq C (tgt := 81) dX1_formIn_74 (by decide) (q := 77) rfl (a := 1) rfl (fun h45 => (by omega : False).elim) (fun h45 => ?_)
                    refine x_iconst C dX1_formIn_77 (q := 78) rfl (v := nI 3) (by decide) ?_
                    refine x_goto C (tgt := 82) dX1_formIn_78 (by decide) ?_
                    refine x_iret C hA hQ hr dX1_formIn_82 (Nat.le_of_ble_eq_true rfl) ?_
                    have e9 : formS b len = 3 := (formS_34 (b := b) (len := len) (fr := 1) (if_pos (by omega)) (by omega) (by omega) (fun z => by have z1 := z.1; have z2 := z.2.1; have z3 := z.2.2.1; first | omega | exact absurd z.2.2.2 (by assumption))).trans (if_pos (by assumption))
                    exact ⟨by rw [e9], rfl⟩
                  · skip
                    obtain ⟨rfl, rfl, hc46⟩ := hp43
                    refine x_ws (ws' := []) (List.append_nil _) ?_
                    refine x_if_eq C (tgt := 81) dX1_formIn_74 (by decide) (q := 77) rfl (a := 0) rfl (fun h47 => ?_) (fun h47 => (by omega : False).elim)
                    refine x_iconst C dX1_formIn_81 (q := 82) rfl (v := nI 4) (by decide) ?_
                    refine x_iret C hA hQ hr dX1_formIn_82 (Nat.le_of_ble_eq_true rfl) ?_
                    have e9 : formS b len = 4 := (formS_34 (b := b) (len := len) (fr := 1) (if_pos (by omega)) (by omega) (by omega) (fun z => by have z1 := z.1; have z2 := z.2.1; have z3 := z.2.2.1; first | omega | exact absurd z.2.2.2 (by assumption))).trans (if_neg (by assumption))
                    exact ⟨by rw [e9], rfl⟩
              · first
                | (exfalso; omega)
                |
                  refine x_iload_n C dX1_formIn_42 (q := 43) rfl rfl 0 rfl ?_
                  refine x_aload_n C dX1_formIn_43 (q := 44) rfl rfl 3 rfl ?_
                  refine x_alenR C 0 (hro (sg, .inl (cy 0, len, .inl (fun k => nI (b k)))) (List.mem_of_getElem? (i := 0) rfl)) rfl (v := nI len) rfl dX1_formIn_44 (q := 45) rfl ?_
                  refine x_icmp_ne C (tgt := 50) dX1_formIn_45 (by decide) (q := 48) rfl (a := ((1 + (dgs b len 1) : Nat) : Int)) (b := ((len : Nat) : Int)) (nI_toInt (by omega)) (nI_toInt (by omega)) (fun h48 => ?_) (fun h48 => ?_)
                  · first
                    | (exfalso; omega)
                    |
                      refine x_aload_n C dX1_formIn_50 (q := 51) rfl rfl 3 rfl ?_
                      refine x_iload_n C dX1_formIn_51 (q := 52) rfl rfl 0 rfl ?_
                      have hb49 := hb (1 + (dgs b len 1))
                      refine x_baldR C (j := 1 + (dgs b len 1)) (v := nI (b (1 + (dgs b len 1)))) (hro (sg, .inl (cy 0, len, .inl (fun k => nI (b k)))) (List.mem_of_getElem? (i := 0) rfl)) (nI_toInt (by omega)) (by omega) rfl dX1_formIn_52 (q := 53) rfl ?_
                      refine x_bipush C dX1_formIn_53 (q := 55) rfl (v := nI 46) (by decide) ?_
                      refine x_icmp_ne C (tgt := 70) dX1_formIn_55 (by decide) (q := 58) rfl (a := ((b (1 + (dgs b len 1)) : Nat) : Int)) (b := 46) (nI_toInt (by omega)) rfl (fun h50 => ?_) (fun h50 => ?_)
                      · first
                        | (exfalso; omega)
                        |
                          refine x_aload_n C dX1_formIn_70 (q := 71) rfl rfl 3 rfl ?_
                          refine x_callS C (roW := []) (roR := [(sg, .inl (cy 0, len, .inl (fun k => nI (b k))))]) (c_X0_isDate l D cy t0 adK adV sg len b (by assumption) (by first | assumption | omega | (simp only []; omega))) (va_cwS 1 C.2.2.2.2.1 gX1_formIn_X0_isDate rfl rfl rfl (by decide +kernel) (by rw [hR]; exact ⟨Nat.le_of_ble_eq_true rfl, Nat.le_of_ble_eq_true rfl⟩)) [] [] rfl (by decide) rfl (by decide) (xro_cons (hro (sg, .inl (cy 0, len, .inl (fun k => nI (b k)))) (List.mem_of_getElem? (i := 0) rfl)) xro_nil) (xZ_bl t0 adK adV) (fun H9 locs9 U9 hS9 hF9 hU9 hW9 => xZ_call hX hS9 hF9 hU9 hW9) rfl rfl dX1_formIn_71 rfl rfl (Nat.le_of_ble_eq_true rfl) (q := 74) rfl (k' := 0) rfl (n' := 0) rfl (by rw [hR]; exact ⟨Nat.le_of_ble_eq_true rfl, Nat.le_of_ble_eq_true rfl⟩) (fun v51 w51 hp51 => ?_)
                          rcases hp51 with hp51 | hp51
                          · skip
                            obtain ⟨rfl, rfl, hc52⟩ := hp51
                            refine x_ws (ws' := []) (List.append_nil _) ?_
                            refine x_if_eq C (tgt := 81) dX1_formIn_74 (by decide) (q := 77) rfl (a := 1) rfl (fun h53 => (by omega : False).elim) (fun h53 => ?_)
                            refine x_iconst C dX1_formIn_77 (q := 78) rfl (v := nI 3) (by decide) ?_
                            refine x_goto C (tgt := 82) dX1_formIn_78 (by decide) ?_
                            refine x_iret C hA hQ hr dX1_formIn_82 (Nat.le_of_ble_eq_true rfl) ?_
                            have e9 : formS b len = 3 := (formS_34 (b := b) (len := len) (fr := 1) (if_pos (by omega)) (by omega) (by omega) (fun z => by have z1 := z.1; have z2 := z.2.1; have z3 := z.2.2.1; first | omega | exact absurd z.2.2.2 (by assumption))).trans (if_pos (by assumption))
                            exact ⟨by rw [e9], rfl⟩
                          · skip
                            obtain ⟨rfl, rfl, hc54⟩ := hp51
                            refine x_ws (ws' := []) (List.append_nil _) ?_
                            refine x_if_eq C (tgt := 81) dX1_formIn_74 (by decide) (q := 77) rfl (a := 0) rfl (fun h55 => ?_) (fun h55 => (by omega : False).elim)
                            refine x_iconst C dX1_formIn_81 (q := 82) rfl (v := nI 4) (by decide) ?_
                            refine x_iret C hA hQ hr dX1_formIn_82 (Nat.le_of_ble_eq_true rfl) ?_
                            have e9 : formS b len = 4 := (formS_34 (b := b) (len := len) (fr := 1) (if_pos (by omega)) (by omega) (by omega) (fun z => by have z1 := z.1; have z2 := z.2.1; have z3 := z.2.2.1; first | omega | exact absurd z.2.2.2 (by assumption))).trans (if_neg (by assumption))
                            exact ⟨by rw [e9], rfl⟩
                      · first
                        | (exfalso; omega)
                        |
                          refine x_aload_n C dX1_formIn_58 (q := 59) rfl rfl 3 rfl ?_
                          refine x_iload_n C dX1_formIn_59 (q := 60) rfl rfl 0 rfl ?_
                          refine x_iconst C dX1_formIn_60 (q := 61) rfl (v := nI 1) (by decide) ?_
                          refine x_iadd C dX1_formIn_61 (q := 62) rfl (z := nI (1 + (dgs b len 1) + 1)) (nI_add (1 + (dgs b len 1)) 1) ?_
                          refine x_callS C (roW := []) (roR := [(sg, .inl (cy 0, len, .inl (fun k => nI (b k))))]) (c_X1_isFraction l D cy sg len b (1 + (dgs b len 1) + 1) (by assumption) (by first | assumption | omega | (simp only []; omega)) (by first | assumption | omega | (simp only []; omega))) (cwS 2 C.2.2.2.2.1 gX1_formIn_X1_isFraction rfl rfl rfl (by decide +kernel) (by rw [hR]; exact ⟨Nat.le_of_ble_eq_true rfl, Nat.le_of_ble_eq_true rfl⟩)) [] [] rfl (by decide) rfl (by decide) (xro_cons (hro (sg, .inl (cy 0, len, .inl (fun k => nI (b k)))) (List.mem_of_getElem? (i := 0) rfl)) xro_nil) xT_bl (fun _ _ _ _ _ _ _ => trivial) rfl rfl dX1_formIn_62 rfl rfl (Nat.le_of_ble_eq_true rfl) (q := 65) rfl (k' := 0) rfl (n' := 0) rfl (by rw [hR]; exact ⟨Nat.le_of_ble_eq_true rfl, Nat.le_of_ble_eq_true rfl⟩) (fun v56 w56 hp56 => ?_)
                          rcases hp56 with hp56 | hp56
                          · skip
                            obtain ⟨rfl, rfl, hc57⟩ := hp56
                            refine x_ws (ws' := []) (List.append_nil _) ?_
                            refine x_if_eq C (tgt := 70) dX1_formIn_65 (by decide) (q := 68) rfl (a := 1) rfl (fun h58 => (by omega : False).elim) (fun h58 => ?_)
                            refine x_iconst C dX1_formIn_68 (q := 69) rfl (v := nI 2) (by decide) ?_
                            refine x_iret C hA hQ hr dX1_formIn_69 (Nat.le_of_ble_eq_true rfl) ?_
                            have e9 : formS b len = 2 := formS_2 (b := b) (len := len) (fr := 1) (if_pos (by omega)) (by omega) (by omega) (by omega) (by omega) (by omega) (by assumption)
                            exact ⟨by rw [e9], rfl⟩
                          · skip
                            obtain ⟨rfl, rfl, hc59⟩ := hp56
                            refine x_ws (ws' := []) (List.append_nil _) ?_
                            refine x_if_eq C (tgt := 70) dX1_formIn_65 (by decide) (q := 68) rfl (a := 0) rfl (fun h60 => ?_) (fun h60 => (by omega : False).elim)
                            refine x_aload_n C dX1_formIn_70 (q := 71) rfl rfl 3 rfl ?_
                            refine x_callS C (roW := []) (roR := [(sg, .inl (cy 0, len, .inl (fun k => nI (b k))))]) (c_X0_isDate l D cy t0 adK adV sg len b (by assumption) (by first | assumption | omega | (simp only []; omega))) (va_cwS 1 C.2.2.2.2.1 gX1_formIn_X0_isDate rfl rfl rfl (by decide +kernel) (by rw [hR]; exact ⟨Nat.le_of_ble_eq_true rfl, Nat.le_of_ble_eq_true rfl⟩)) [] [] rfl (by decide) rfl (by decide) (xro_cons (hro (sg, .inl (cy 0, len, .inl (fun k => nI (b k)))) (List.mem_of_getElem? (i := 0) rfl)) xro_nil) (xZ_bl t0 adK adV) (fun H9 locs9 U9 hS9 hF9 hU9 hW9 => xZ_call hX hS9 hF9 hU9 hW9) rfl rfl dX1_formIn_71 rfl rfl (Nat.le_of_ble_eq_true rfl) (q := 74) rfl (k' := 0) rfl (n' := 0) rfl (by rw [hR]; exact ⟨Nat.le_of_ble_eq_true rfl, Nat.le_of_ble_eq_true rfl⟩) (fun v61 w61 hp61 => ?_)
                            rcases hp61 with hp61 | hp61
                            · skip
                              obtain ⟨rfl, rfl, hc62⟩ := hp61
                              refine x_ws (ws' := []) (List.append_nil _) ?_
                              refine x_if_eq C (tgt := 81) dX1_formIn_74 (by decide) (q := 77) rfl (a := 1) rfl (fun h63 => (by omega : False).elim) (fun h63 => ?_)
                              refine x_iconst C dX1_formIn_77 (q := 78) rfl (v := nI 3) (by decide) ?_
                              refine x_goto C (tgt := 82) dX1_formIn_78 (by decide) ?_
                              refine x_iret C hA hQ hr dX1_formIn_82 (Nat.le_of_ble_eq_true rfl) ?_
                              have e9 : formS b len = 3 := (formS_34 (b := b) (len := len) (fr := 1) (if_pos (by omega)) (by omega) (by omega) (fun z => by have z1 := z.1; have z2 := z.2.1; have z3 := z.2.2.1; first | omega | exact absurd z.2.2.2 (by assumption))).trans (if_pos (by assumption))
                              exact ⟨by rw [e9], rfl⟩
                            · skip
                              obtain ⟨rfl, rfl, hc64⟩ := hp61
                              refine x_ws (ws' := []) (List.append_nil _) ?_
                              refine x_if_eq C (tgt := 81) dX1_formIn_74 (by decide) (q := 77) rfl (a := 0) rfl (fun h65 => ?_) (fun h65 => (by omega : False).elim)
                              refine x_iconst C dX1_formIn_81 (q := 82) rfl (v := nI 4) (by decide) ?_
                              refine x_iret C hA hQ hr dX1_formIn_82 (Nat.le_of_ble_eq_true rfl) ?_
                              have e9 : formS b len = 4 := (formS_34 (b := b) (len := len) (fr := 1) (if_pos (by omega)) (by omega) (by omega) (fun z => by have z1 := z.1; have z2 := z.2.1; have z3 := z.2.2.1; first | omega | exact absurd z.2.2.2 (by assumption))).trans (if_neg (by assumption))
                              exact ⟨by rw [e9], rfl⟩
                  · first
                    | (exfalso; omega)
                    |
                      refine x_iconst C dX1_formIn_48 (q := 49) rfl (v := nI 1) (by decide) ?_
                      refine x_iret C hA hQ hr dX1_formIn_49 (Nat.le_of_ble_eq_true rfl) ?_
                      have e9 : formS b len = 1 := formS_1 (b := b) (len := len) (fr := 1) (if_pos (by omega)) (by omega) (by omega) (by omega) (by omega)
                      exact ⟨by rw [e9], rfl⟩
  · first
    | (exfalso; omega)
    |
      refine x_iconst C dX1_formIn_5 (q := 6) rfl (v := nI 0) (by decide) ?_
      refine x_iret C hA hQ hr dX1_formIn_6 (Nat.le_of_ble_eq_true rfl) ?_
      exact ⟨by rw [formS_0 (b := b) (len := len) (by omega)], rfl⟩

set_option maxHeartbeats 4000000 in
set_option maxRecDepth 100000 in
/-- Field.wordIn -/
theorem c_X1_wordIn (l : Launch) (D : va_G) (cy : Nat → ClassId) (sg : Nat) (len : Nat) (b : Nat → Nat) (hb : ∀ k, b k < 128) (hlen : len ≤ 60) : xMet l D cy xT yX1_wordIn wsX1_wordIn ({ frames := 1, cells := 0, slots := 0, locals := 0 } : Room) [.ref sg] [] [(sg, .inl (cy 0, len, .inl (fun k => nI (b k))))] (fun (v9 : Option Value) (w9 : va_W) => (v9 = some (.long (wordS b len)) ∧ w9 = [])) := by
  refine xMet_of (cc := cX1_wordIn) (maxL := 4) (ret := (some .long)) (by decide) rfl (Nat.le_of_ble_eq_true rfl) (fun p e s m args below meth c A R Q hA hR hQ C hr hnm hro hX => ?_)
  have hw0 : Jvm.Cond.constantLong RX1 68 (257) ∈ wsX1_wordIn := by decide +kernel
  refine x_L (L' := [(0, .ref sg)]) [0] rfl ?_
  refine x_lconst C dX1_wordIn_0 (q := 1) rfl (v := lN 0) rfl ?_
  refine x_lstore_n C (L' := [(1, .long (lN 0)), (0, .ref sg)]) dX1_wordIn_1 (q := 2) rfl rfl (by decide) rfl ?_
  refine x_iconst C dX1_wordIn_2 (q := 3) rfl (v := nI 0) (by decide) ?_
  refine x_istore_n C (L' := [(3, .int (nI 0)), (1, .long (lN 0)), (0, .ref sg)]) dX1_wordIn_3 (q := 4) rfl rfl (by decide) rfl ?_
  have cut4 : ∀ (fuel : Nat) (i : Nat) (t : Int64), (i ≤ len) → (t = wordF b i) → len - i < fuel → xG p l e R s m args below meth c Q D A 4 [] 0 0 4 [(0, .ref sg), (1, .long (t)), (3, .int (nI i))] [] := by
    intro fuel
    induction fuel with
    | zero =>
      intro i t hi ht hmu
      exact absurd hmu (Nat.not_lt_zero _)
    | succ fuel ih =>
      intro i t hi ht hmu
      have ih4 := ih
      clear ih
      refine x_iload_n C dX1_wordIn_4 (q := 5) rfl rfl 2 rfl ?_
      refine x_aload_n C dX1_wordIn_5 (q := 6) rfl rfl 0 rfl ?_
      refine x_alenR C 0 (hro (sg, .inl (cy 0, len, .inl (fun k => nI (b k)))) (List.mem_of_getElem? (i := 0) rfl)) rfl (v := nI len) rfl dX1_wordIn_6 (q := 7) rfl ?_
      refine x_icmp_ge C (tgt := 27) dX1_wordIn_7 (by decide) (q := 10) rfl (a := ((i : Nat) : Int)) (b := ((len : Nat) : Int)) (nI_toInt (by omega)) (nI_toInt (by omega)) (fun h1 => ?_) (fun h1 => ?_)
      · first
        | (exfalso; omega)
        |
          refine x_lload_n C dX1_wordIn_27 (q := 28) rfl rfl 1 rfl ?_
          refine x_lret C hA hQ hr dX1_wordIn_28 (Nat.le_of_ble_eq_true rfl) ?_
          have e9 : i = len := by omega
          subst e9
          subst ht
          exact ⟨rfl, rfl⟩
      · first
        | (exfalso; omega)
        |
          refine x_lload_n C dX1_wordIn_10 (q := 11) rfl rfl 1 rfl ?_
          refine x_ldc2 C (v := lN 257) hw0 dX1_wordIn_11 (q := 14) rfl ?_
          refine x_lmul C dX1_wordIn_14 (q := 15) rfl (z := t * (lN 257)) (rfl) ?_
          refine x_aload_n C dX1_wordIn_15 (q := 16) rfl rfl 0 rfl ?_
          refine x_iload_n C dX1_wordIn_16 (q := 17) rfl rfl 2 rfl ?_
          have hb2 := hb i
          refine x_baldR C (j := i) (v := nI (b i)) (hro (sg, .inl (cy 0, len, .inl (fun k => nI (b k)))) (List.mem_of_getElem? (i := 0) rfl)) (nI_toInt (by omega)) (by omega) rfl dX1_wordIn_17 (q := 18) rfl ?_
          refine x_i2l C dX1_wordIn_18 (q := 19) rfl (v := lN (b i)) (nI_l (by omega)) ?_
          refine x_ladd C dX1_wordIn_19 (q := 20) rfl (z := (t * (lN 257)) + (lN (b i))) (rfl) ?_
          refine x_lstore_n C (L' := [(1, .long ((t * (lN 257)) + (lN (b i)))), (0, .ref sg), (3, .int (nI i))]) dX1_wordIn_20 (q := 21) rfl rfl (by decide) rfl ?_
          refine x_iinc C (L' := [(3, .int (nI (i + 1))), (1, .long ((t * (lN 257)) + (lN (b i)))), (0, .ref sg)]) dX1_wordIn_21 (q := 24) rfl 2 rfl (v := nI (i + 1)) (nI_add i 1) (by decide) rfl ?_
          refine x_goto C (tgt := 4) dX1_wordIn_24 (by decide) ?_
          refine x_L (L' := [(0, .ref sg), (1, .long ((t * (lN 257)) + (lN (b i)))), (3, .int (nI (i + 1)))]) [2, 1, 0] rfl ?_
          exact ih4 (i + 1) ((t * (lN 257)) + (lN (b i))) (by first | omega | assumption) (by rw [ht]; rfl) (by omega)
  refine x_L (L' := [(0, .ref sg), (1, .long (lN 0)), (3, .int (nI 0))]) [2, 1, 0] rfl ?_
  exact cut4 (len - 0 + 1) 0 (lN 0) (by first | omega | assumption) (by rfl) (by omega)

set_option maxHeartbeats 4000000 in
set_option maxRecDepth 100000 in
/-- Field.scaledNumber -/
theorem c_X1_scaledNumber (l : Launch) (D : va_G) (cy : Nat → ClassId) (sg : Nat) (len : Nat) (b : Nat → Nat) (pl : Nat) (hb : ∀ k, b k < 128) (hlen : len ≤ 12) (hpl : pl ≤ 3) : xMet l D cy xT yX1_scaledNumber wsX1_scaledNumber ({ frames := 2, cells := 0, slots := 0, locals := 200 } : Room) [.ref sg, .int (nI pl)] [] [(sg, .inl (cy 0, len, .inl (fun k => nI (b k))))] (fun (v9 : Option Value) (w9 : va_W) => (v9 = some (.long (scaS b len pl)) ∧ w9 = [])) := by
  refine xMet_of (cc := cX1_scaledNumber) (maxL := 7) (ret := (some .long)) (by decide) rfl (Nat.le_of_ble_eq_true rfl) (fun p e s m args below meth c A R Q hA hR hQ C hr hnm hro hX => ?_)
  have hw0 : Jvm.Cond.constantLong RX1 64 (10) ∈ wsX1_scaledNumber := by decide +kernel
  have hw1 : Jvm.Cond.constantLong RX1 66 (48) ∈ wsX1_scaledNumber := by decide +kernel
  refine x_L (L' := [(0, .ref sg), (1, .int (nI pl))]) [0, 1] rfl ?_
  refine x_lconst C dX1_scaledNumber_0 (q := 1) rfl (v := lN 0) rfl ?_
  refine x_lstore_n C (L' := [(2, .long (lN 0)), (0, .ref sg), (1, .int (nI pl))]) dX1_scaledNumber_1 (q := 2) rfl rfl (by decide) rfl ?_
  refine x_iconst C dX1_scaledNumber_2 (q := 3) rfl (v := nI 0) (by decide) ?_
  refine x_istore C (L' := [(4, .int (nI 0)), (2, .long (lN 0)), (0, .ref sg), (1, .int (nI pl))]) dX1_scaledNumber_3 (q := 5) rfl (by decide) rfl ?_
  refine x_iconst C dX1_scaledNumber_5 (q := 6) rfl (v := nI 0) (by decide) ?_
  refine x_istore C (L' := [(5, .int (nI 0)), (4, .int (nI 0)), (2, .long (lN 0)), (0, .ref sg), (1, .int (nI pl))]) dX1_scaledNumber_6 (q := 8) rfl (by decide) rfl ?_
  refine x_iconst C dX1_scaledNumber_8 (q := 9) rfl (v := nI 0) (by decide) ?_
  refine x_istore C (L' := [(6, .int (nI 0)), (5, .int (nI 0)), (4, .int (nI 0)), (2, .long (lN 0)), (0, .ref sg), (1, .int (nI pl))]) dX1_scaledNumber_9 (q := 11) rfl (by decide) rfl ?_
  have cut11 : ∀ (fuel : Nat) (i : Nat) (v : Nat) (d : Nat) (t : Nat), (i ≤ len) → (v = (numF b i).1) → (d = (numF b i).2.1) → (t = (numF b i).2.2) → (v < 10 ^ i) → (d ≤ 1) → (t ≤ i) → len - i < fuel → xG p l e R s m args below meth c Q D A 7 [] 0 0 11 [(0, .ref sg), (1, .int (nI pl)), (2, .long (lN v)), (4, .int (nI t)), (5, .int (nI d)), (6, .int (nI i))] [] := by
    intro fuel
    induction fuel with
    | zero =>
      intro i v d t hi hv hd ht hvl hdl htl hmu
      exact absurd hmu (Nat.not_lt_zero _)
    | succ fuel ih =>
      intro i v d t hi hv hd ht hvl hdl htl hmu
      have hpw : (10:Nat) ^ i ≤ 10 ^ 12 := Nat.pow_le_pow_right (by omega) (by omega)
      have ih11 := ih
      clear ih
      refine x_iload C dX1_scaledNumber_11 (q := 13) rfl 5 rfl ?_
      refine x_aload_n C dX1_scaledNumber_13 (q := 14) rfl rfl 0 rfl ?_
      refine x_alenR C 0 (hro (sg, .inl (cy 0, len, .inl (fun k => nI (b k)))) (List.mem_of_getElem? (i := 0) rfl)) rfl (v := nI len) rfl dX1_scaledNumber_14 (q := 15) rfl ?_
      refine x_icmp_ge C (tgt := 70) dX1_scaledNumber_15 (by decide) (q := 18) rfl (a := ((i : Nat) : Int)) (b := ((len : Nat) : Int)) (nI_toInt (by omega)) (nI_toInt (by omega)) (fun h1 => ?_) (fun h1 => ?_)
      · first
        | (exfalso; omega)
        |
          refine x_iload C dX1_scaledNumber_70 (q := 72) rfl 3 rfl ?_
          refine x_istore C (L' := [(6, .int (nI t)), (0, .ref sg), (1, .int (nI pl)), (2, .long (lN v)), (4, .int (nI t)), (5, .int (nI d))]) dX1_scaledNumber_72 (q := 74) rfl (by decide) rfl ?_
          have cut74 : ∀ (fuel : Nat) (j : Nat) (u : Nat), (j ≤ 12) → (u * 10 ^ (pl - j) = (numF b len).1 * 10 ^ (pl - (numF b len).2.2)) → pl - j < fuel → xG p l e R s m args below meth c Q D A 7 [] 0 0 74 [(0, .ref sg), (1, .int (nI pl)), (2, .long (lN u)), (6, .int (nI j))] [] := by
            intro fuel
            induction fuel with
            | zero =>
              intro j u hj hu hmu
              exact absurd hmu (Nat.not_lt_zero _)
            | succ fuel ih =>
              intro j u hj hu hmu
              have hu2 : u ≤ u * 10 ^ (pl - j) := Nat.le_mul_of_pos_right _ (Nat.pow_pos (by decide))
              have hu3 := sca_lt (t := (numF b len).2.2) (pl := pl) (numF_lt b len) hlen hpl
              have hul : u < 1000000000000000 := by omega
              have ih74 := ih
              clear ih
              refine x_iload C dX1_scaledNumber_74 (q := 76) rfl 3 rfl ?_
              refine x_iload_n C dX1_scaledNumber_76 (q := 77) rfl rfl 1 rfl ?_
              refine x_icmp_ge C (tgt := 92) dX1_scaledNumber_77 (by decide) (q := 80) rfl (a := ((j : Nat) : Int)) (b := ((pl : Nat) : Int)) (nI_toInt (by omega)) (nI_toInt (by omega)) (fun h2 => ?_) (fun h2 => ?_)
              · first
                | (exfalso; omega)
                |
                  refine x_aload_n C dX1_scaledNumber_92 (q := 93) rfl rfl 0 rfl ?_
                  refine x_alenR C 0 (hro (sg, .inl (cy 0, len, .inl (fun k => nI (b k)))) (List.mem_of_getElem? (i := 0) rfl)) rfl (v := nI len) rfl dX1_scaledNumber_93 (q := 94) rfl ?_
                  refine x_if_le C (tgt := 110) dX1_scaledNumber_94 (by decide) (q := 97) rfl (a := ((len : Nat) : Int)) (nI_toInt (by omega)) (fun h3 => ?_) (fun h3 => ?_)
                  · first
                    | (exfalso; omega)
                    |
                      refine x_lload_n C dX1_scaledNumber_110 (q := 111) rfl rfl 2 rfl ?_
                      refine x_lret C hA hQ hr dX1_scaledNumber_111 (Nat.le_of_ble_eq_true rfl) ?_
                      have e8 : pl - j = 0 := by omega
                      rw [e8, Nat.pow_zero, Nat.mul_one] at hu
                      refine ⟨?_, rfl⟩
                      unfold scaS
                      rw [← hu]
                      first | rw [if_pos (by omega)] | rw [if_neg (by omega)]
                  · first
                    | (exfalso; omega)
                    |
                      refine x_aload_n C dX1_scaledNumber_97 (q := 98) rfl rfl 0 rfl ?_
                      refine x_iconst C dX1_scaledNumber_98 (q := 99) rfl (v := nI 0) (by decide) ?_
                      have hb4 := hb 0
                      refine x_baldR C (j := 0) (v := nI (b 0)) (hro (sg, .inl (cy 0, len, .inl (fun k => nI (b k)))) (List.mem_of_getElem? (i := 0) rfl)) rfl (by omega) rfl dX1_scaledNumber_99 (q := 100) rfl ?_
                      refine x_bipush C dX1_scaledNumber_100 (q := 102) rfl (v := nI 45) (by decide) ?_
                      refine x_icmp_ne C (tgt := 110) dX1_scaledNumber_102 (by decide) (q := 105) rfl (a := ((b 0 : Nat) : Int)) (b := 45) (nI_toInt (by omega)) rfl (fun h5 => ?_) (fun h5 => ?_)
                      · first
                        | (exfalso; omega)
                        |
                          refine x_lload_n C dX1_scaledNumber_110 (q := 111) rfl rfl 2 rfl ?_
                          refine x_lret C hA hQ hr dX1_scaledNumber_111 (Nat.le_of_ble_eq_true rfl) ?_
                          have e8 : pl - j = 0 := by omega
                          rw [e8, Nat.pow_zero, Nat.mul_one] at hu
                          refine ⟨?_, rfl⟩
                          unfold scaS
                          rw [← hu]
                          first | rw [if_pos (by omega)] | rw [if_neg (by omega)]
                      · first
                        | (exfalso; omega)
                        |
                          refine x_lload_n C dX1_scaledNumber_105 (q := 106) rfl rfl 2 rfl ?_
                          refine x_lneg C dX1_scaledNumber_106 (q := 107) rfl ?_
                          refine x_goto C (tgt := 111) dX1_scaledNumber_107 (by decide) ?_
                          refine x_lret C hA hQ hr dX1_scaledNumber_111 (Nat.le_of_ble_eq_true rfl) ?_
                          have e8 : pl - j = 0 := by omega
                          rw [e8, Nat.pow_zero, Nat.mul_one] at hu
                          refine ⟨?_, rfl⟩
                          unfold scaS
                          rw [← hu]
                          first | rw [if_pos (by omega)] | rw [if_neg (by omega)]
              · first
                | (exfalso; omega)
                |
                  refine x_lload_n C dX1_scaledNumber_80 (q := 81) rfl rfl 2 rfl ?_
                  refine x_ldc2 C (v := lN 10) hw0 dX1_scaledNumber_81 (q := 84) rfl ?_
                  refine x_lmul C dX1_scaledNumber_84 (q := 85) rfl (z := lN (u * 10)) (lN_mul u 10) ?_
                  refine x_lstore_n C (L' := [(2, .long (lN (u * 10))), (0, .ref sg), (1, .int (nI pl)), (6, .int (nI j))]) dX1_scaledNumber_85 (q := 86) rfl rfl (by decide) rfl ?_
                  refine x_iinc C (L' := [(6, .int (nI (j + 1))), (2, .long (lN (u * 10))), (0, .ref sg), (1, .int (nI pl))]) dX1_scaledNumber_86 (q := 89) rfl 3 rfl (v := nI (j + 1)) (nI_add j 1) (by decide) rfl ?_
                  refine x_goto C (tgt := 74) dX1_scaledNumber_89 (by decide) ?_
                  refine x_L (L' := [(0, .ref sg), (1, .int (nI pl)), (2, .long (lN (u * 10))), (6, .int (nI (j + 1)))]) [2, 3, 1, 0] rfl ?_
                  exact ih74 (j + 1) (u * 10) (by first | omega | assumption) (by rw [← hu, show pl - j = (pl - (j + 1)) + 1 by omega, Nat.pow_succ, Nat.mul_assoc u 10, Nat.mul_comm 10]) (by omega)
          refine x_L (L' := [(0, .ref sg), (1, .int (nI pl)), (2, .long (lN v)), (6, .int (nI t))]) [1, 2, 3, 0] rfl ?_
          exact cut74 (pl - t + 1) t v (by first | omega | assumption) (by rw [hv, ht, show i = len by omega]) (by omega)
      · first
        | (exfalso; omega)
        |
          refine x_aload_n C dX1_scaledNumber_18 (q := 19) rfl rfl 0 rfl ?_
          refine x_iload C dX1_scaledNumber_19 (q := 21) rfl 5 rfl ?_
          have hb6 := hb i
          refine x_baldR C (j := i) (v := nI (b i)) (hro (sg, .inl (cy 0, len, .inl (fun k => nI (b k)))) (List.mem_of_getElem? (i := 0) rfl)) (nI_toInt (by omega)) (by omega) rfl dX1_scaledNumber_21 (q := 22) rfl ?_
          refine x_bipush C dX1_scaledNumber_22 (q := 24) rfl (v := nI 46) (by decide) ?_
          refine x_icmp_ne C (tgt := 30) dX1_scaledNumber_24 (by decide) (q := 27) rfl (a := ((b i : Nat) : Int)) (b := 46) (nI_toInt (by omega)) rfl (fun h7 => ?_) (fun h7 => ?_)
          · first
            | (exfalso; omega)
            |
              refine x_aload_n C dX1_scaledNumber_30 (q := 31) rfl rfl 0 rfl ?_
              refine x_iload C dX1_scaledNumber_31 (q := 33) rfl 5 rfl ?_
              have hb8 := hb i
              refine x_baldR C (j := i) (v := nI (b i)) (hro (sg, .inl (cy 0, len, .inl (fun k => nI (b k)))) (List.mem_of_getElem? (i := 0) rfl)) (nI_toInt (by omega)) (by omega) rfl dX1_scaledNumber_33 (q := 34) rfl ?_
              refine x_callS C (roW := []) (roR := []) (c_X0_isDigit l D cy (b i) (by first | assumption | omega | (simp only []; omega))) (va_cwS 1 C.2.2.2.2.1 gX1_scaledNumber_X0_isDigit rfl rfl rfl (by decide +kernel) (by rw [hR]; exact ⟨Nat.le_of_ble_eq_true rfl, Nat.le_of_ble_eq_true rfl⟩)) [] [] rfl (by decide) rfl (by decide) xro_nil xT_bl (fun _ _ _ _ _ _ _ => trivial) rfl rfl dX1_scaledNumber_34 rfl rfl (Nat.le_of_ble_eq_true rfl) (q := 37) rfl (k' := 0) rfl (n' := 0) rfl (by rw [hR]; exact ⟨Nat.le_of_ble_eq_true rfl, Nat.le_of_ble_eq_true rfl⟩) (fun v9 w9 hp9 => ?_)
              rcases hp9 with hp9 | hp9
              · skip
                obtain ⟨rfl, rfl, hc10, hc11⟩ := hp9
                refine x_ws (ws' := []) (List.append_nil _) ?_
                refine x_if_eq C (tgt := 64) dX1_scaledNumber_37 (by decide) (q := 40) rfl (a := 1) rfl (fun h12 => (by omega : False).elim) (fun h12 => ?_)
                refine x_lload_n C dX1_scaledNumber_40 (q := 41) rfl rfl 2 rfl ?_
                refine x_ldc2 C (v := lN 10) hw0 dX1_scaledNumber_41 (q := 44) rfl ?_
                refine x_lmul C dX1_scaledNumber_44 (q := 45) rfl (z := lN (v * 10)) (lN_mul v 10) ?_
                refine x_aload_n C dX1_scaledNumber_45 (q := 46) rfl rfl 0 rfl ?_
                refine x_iload C dX1_scaledNumber_46 (q := 48) rfl 5 rfl ?_
                have hb13 := hb i
                refine x_baldR C (j := i) (v := nI (b i)) (hro (sg, .inl (cy 0, len, .inl (fun k => nI (b k)))) (List.mem_of_getElem? (i := 0) rfl)) (nI_toInt (by omega)) (by omega) rfl dX1_scaledNumber_48 (q := 49) rfl ?_
                refine x_i2l C dX1_scaledNumber_49 (q := 50) rfl (v := lN (b i)) (nI_l (by omega)) ?_
                refine x_ladd C dX1_scaledNumber_50 (q := 51) rfl (z := lN (v * 10 + (b i))) (lN_add (v * 10) (b i)) ?_
                refine x_ldc2 C (v := lN 48) hw1 dX1_scaledNumber_51 (q := 54) rfl ?_
                refine x_lsub C dX1_scaledNumber_54 (q := 55) rfl (z := lN (v * 10 + (b i) - 48)) (lN_sub (by omega)) ?_
                refine x_lstore_n C (L' := [(2, .long (lN (v * 10 + (b i) - 48))), (0, .ref sg), (1, .int (nI pl)), (4, .int (nI t)), (5, .int (nI d)), (6, .int (nI i))]) dX1_scaledNumber_55 (q := 56) rfl rfl (by decide) rfl ?_
                refine x_iload C dX1_scaledNumber_56 (q := 58) rfl 4 rfl ?_
                refine x_if_eq C (tgt := 64) dX1_scaledNumber_58 (by decide) (q := 61) rfl (a := ((d : Nat) : Int)) (nI_toInt (by omega)) (fun h14 => ?_) (fun h14 => ?_)
                · first
                  | (exfalso; omega)
                  |
                    refine x_iinc C (L' := [(6, .int (nI (i + 1))), (2, .long (lN (v * 10 + (b i) - 48))), (0, .ref sg), (1, .int (nI pl)), (4, .int (nI t)), (5, .int (nI d))]) dX1_scaledNumber_64 (q := 67) rfl 5 rfl (v := nI (i + 1)) (nI_add i 1) (by decide) rfl ?_
                    refine x_goto C (tgt := 11) dX1_scaledNumber_67 (by decide) ?_
                    refine x_L (L' := [(0, .ref sg), (1, .int (nI pl)), (2, .long (lN (v * 10 + (b i) - 48))), (4, .int (nI t)), (5, .int (nI d)), (6, .int (nI (i + 1)))]) [2, 3, 1, 4, 5, 0] rfl ?_
                    exact ih11 (i + 1) (v * 10 + (b i) - 48) d t (by first | omega | assumption) (by show _ = (if 48 ≤ b i ∧ b i ≤ 57 then (numF b i).1 * 10 + (b i - 48) else (numF b i).1); split <;> omega) (by show _ = (if b i = 46 then 1 else (numF b i).2.1); split <;> omega) (by show _ = (if (48 ≤ b i ∧ b i ≤ 57) ∧ (numF b i).2.1 = 1 then (numF b i).2.2 + 1 else (numF b i).2.2); split <;> omega) (by rw [Nat.pow_succ]; omega) (by first | omega | assumption) (by first | omega | assumption) (by omega)
                · first
                  | (exfalso; omega)
                  |
                    refine x_iinc C (L' := [(4, .int (nI (t + 1))), (2, .long (lN (v * 10 + (b i) - 48))), (0, .ref sg), (1, .int (nI pl)), (5, .int (nI d)), (6, .int (nI i))]) dX1_scaledNumber_61 (q := 64) rfl 3 rfl (v := nI (t + 1)) (nI_add t 1) (by decide) rfl ?_
                    refine x_iinc C (L' := [(6, .int (nI (i + 1))), (4, .int (nI (t + 1))), (2, .long (lN (v * 10 + (b i) - 48))), (0, .ref sg), (1, .int (nI pl)), (5, .int (nI d))]) dX1_scaledNumber_64 (q := 67) rfl 5 rfl (v := nI (i + 1)) (nI_add i 1) (by decide) rfl ?_
                    refine x_goto C (tgt := 11) dX1_scaledNumber_67 (by decide) ?_
                    refine x_L (L' := [(0, .ref sg), (1, .int (nI pl)), (2, .long (lN (v * 10 + (b i) - 48))), (4, .int (nI (t + 1))), (5, .int (nI d)), (6, .int (nI (i + 1)))]) [3, 4, 2, 1, 5, 0] rfl ?_
                    exact ih11 (i + 1) (v * 10 + (b i) - 48) d (t + 1) (by first | omega | assumption) (by show _ = (if 48 ≤ b i ∧ b i ≤ 57 then (numF b i).1 * 10 + (b i - 48) else (numF b i).1); split <;> omega) (by show _ = (if b i = 46 then 1 else (numF b i).2.1); split <;> omega) (by show _ = (if (48 ≤ b i ∧ b i ≤ 57) ∧ (numF b i).2.1 = 1 then (numF b i).2.2 + 1 else (numF b i).2.2); split <;> omega) (by rw [Nat.pow_succ]; omega) (by first | omega | assumption) (by first | omega | assumption) (by omega)
              · skip
                obtain ⟨rfl, rfl, hc15⟩ := hp9
                refine x_ws (ws' := []) (List.append_nil _) ?_
                refine x_if_eq C (tgt := 64) dX1_scaledNumber_37 (by decide) (q := 40) rfl (a := 0) rfl (fun h16 => ?_) (fun h16 => (by omega : False).elim)
                refine x_iinc C (L' := [(6, .int (nI (i + 1))), (0, .ref sg), (1, .int (nI pl)), (2, .long (lN v)), (4, .int (nI t)), (5, .int (nI d))]) dX1_scaledNumber_64 (q := 67) rfl 5 rfl (v := nI (i + 1)) (nI_add i 1) (by decide) rfl ?_
                refine x_goto C (tgt := 11) dX1_scaledNumber_67 (by decide) ?_
                refine x_L (L' := [(0, .ref sg), (1, .int (nI pl)), (2, .long (lN v)), (4, .int (nI t)), (5, .int (nI d)), (6, .int (nI (i + 1)))]) [1, 2, 3, 4, 5, 0] rfl ?_
                exact ih11 (i + 1) v d t (by first | omega | assumption) (by show _ = (if 48 ≤ b i ∧ b i ≤ 57 then (numF b i).1 * 10 + (b i - 48) else (numF b i).1); split <;> omega) (by show _ = (if b i = 46 then 1 else (numF b i).2.1); split <;> omega) (by show _ = (if (48 ≤ b i ∧ b i ≤ 57) ∧ (numF b i).2.1 = 1 then (numF b i).2.2 + 1 else (numF b i).2.2); split <;> omega) (by rw [Nat.pow_succ]; omega) (by first | omega | assumption) (by first | omega | assumption) (by omega)
          · first
            | (exfalso; omega)
            |
              refine x_iconst C dX1_scaledNumber_27 (q := 28) rfl (v := nI 1) (by decide) ?_
              refine x_istore C (L' := [(5, .int (nI 1)), (0, .ref sg), (1, .int (nI pl)), (2, .long (lN v)), (4, .int (nI t)), (6, .int (nI i))]) dX1_scaledNumber_28 (q := 30) rfl (by decide) rfl ?_
              refine x_aload_n C dX1_scaledNumber_30 (q := 31) rfl rfl 1 rfl ?_
              refine x_iload C dX1_scaledNumber_31 (q := 33) rfl 5 rfl ?_
              have hb17 := hb i
              refine x_baldR C (j := i) (v := nI (b i)) (hro (sg, .inl (cy 0, len, .inl (fun k => nI (b k)))) (List.mem_of_getElem? (i := 0) rfl)) (nI_toInt (by omega)) (by omega) rfl dX1_scaledNumber_33 (q := 34) rfl ?_
              refine x_callS C (roW := []) (roR := []) (c_X0_isDigit l D cy (b i) (by first | assumption | omega | (simp only []; omega))) (va_cwS 1 C.2.2.2.2.1 gX1_scaledNumber_X0_isDigit rfl rfl rfl (by decide +kernel) (by rw [hR]; exact ⟨Nat.le_of_ble_eq_true rfl, Nat.le_of_ble_eq_true rfl⟩)) [] [] rfl (by decide) rfl (by decide) xro_nil xT_bl (fun _ _ _ _ _ _ _ => trivial) rfl rfl dX1_scaledNumber_34 rfl rfl (Nat.le_of_ble_eq_true rfl) (q := 37) rfl (k' := 0) rfl (n' := 0) rfl (by rw [hR]; exact ⟨Nat.le_of_ble_eq_true rfl, Nat.le_of_ble_eq_true rfl⟩) (fun v18 w18 hp18 => ?_)
              rcases hp18 with hp18 | hp18
              · skip
                obtain ⟨rfl, rfl, hc19, hc20⟩ := hp18
                refine x_ws (ws' := []) (List.append_nil _) ?_
                refine x_if_eq C (tgt := 64) dX1_scaledNumber_37 (by decide) (q := 40) rfl (a := 1) rfl (fun h21 => (by omega : False).elim) (fun h21 => ?_)
                refine x_lload_n C dX1_scaledNumber_40 (q := 41) rfl rfl 3 rfl ?_
                refine x_ldc2 C (v := lN 10) hw0 dX1_scaledNumber_41 (q := 44) rfl ?_
                refine x_lmul C dX1_scaledNumber_44 (q := 45) rfl (z := lN (v * 10)) (lN_mul v 10) ?_
                refine x_aload_n C dX1_scaledNumber_45 (q := 46) rfl rfl 1 rfl ?_
                refine x_iload C dX1_scaledNumber_46 (q := 48) rfl 5 rfl ?_
                have hb22 := hb i
                refine x_baldR C (j := i) (v := nI (b i)) (hro (sg, .inl (cy 0, len, .inl (fun k => nI (b k)))) (List.mem_of_getElem? (i := 0) rfl)) (nI_toInt (by omega)) (by omega) rfl dX1_scaledNumber_48 (q := 49) rfl ?_
                refine x_i2l C dX1_scaledNumber_49 (q := 50) rfl (v := lN (b i)) (nI_l (by omega)) ?_
                refine x_ladd C dX1_scaledNumber_50 (q := 51) rfl (z := lN (v * 10 + (b i))) (lN_add (v * 10) (b i)) ?_
                refine x_ldc2 C (v := lN 48) hw1 dX1_scaledNumber_51 (q := 54) rfl ?_
                refine x_lsub C dX1_scaledNumber_54 (q := 55) rfl (z := lN (v * 10 + (b i) - 48)) (lN_sub (by omega)) ?_
                refine x_lstore_n C (L' := [(2, .long (lN (v * 10 + (b i) - 48))), (5, .int (nI 1)), (0, .ref sg), (1, .int (nI pl)), (4, .int (nI t)), (6, .int (nI i))]) dX1_scaledNumber_55 (q := 56) rfl rfl (by decide) rfl ?_
                refine x_iload C dX1_scaledNumber_56 (q := 58) rfl 1 rfl ?_
                refine x_if_eq C (tgt := 64) dX1_scaledNumber_58 (by decide) (q := 61) rfl (a := 1) rfl (fun h23 => (by omega : False).elim) (fun h23 => ?_)
                refine x_iinc C (L' := [(4, .int (nI (t + 1))), (2, .long (lN (v * 10 + (b i) - 48))), (5, .int (nI 1)), (0, .ref sg), (1, .int (nI pl)), (6, .int (nI i))]) dX1_scaledNumber_61 (q := 64) rfl 4 rfl (v := nI (t + 1)) (nI_add t 1) (by decide) rfl ?_
                refine x_iinc C (L' := [(6, .int (nI (i + 1))), (4, .int (nI (t + 1))), (2, .long (lN (v * 10 + (b i) - 48))), (5, .int (nI 1)), (0, .ref sg), (1, .int (nI pl))]) dX1_scaledNumber_64 (q := 67) rfl 5 rfl (v := nI (i + 1)) (nI_add i 1) (by decide) rfl ?_
                refine x_goto C (tgt := 11) dX1_scaledNumber_67 (by decide) ?_
                refine x_L (L' := [(0, .ref sg), (1, .int (nI pl)), (2, .long (lN (v * 10 + (b i) - 48))), (4, .int (nI (t + 1))), (5, .int (nI 1)), (6, .int (nI (i + 1)))]) [4, 5, 2, 1, 3, 0] rfl ?_
                exact ih11 (i + 1) (v * 10 + (b i) - 48) 1 (t + 1) (by first | omega | assumption) (by show _ = (if 48 ≤ b i ∧ b i ≤ 57 then (numF b i).1 * 10 + (b i - 48) else (numF b i).1); split <;> omega) (by show _ = (if b i = 46 then 1 else (numF b i).2.1); split <;> omega) (by show _ = (if (48 ≤ b i ∧ b i ≤ 57) ∧ (numF b i).2.1 = 1 then (numF b i).2.2 + 1 else (numF b i).2.2); split <;> omega) (by rw [Nat.pow_succ]; omega) (by first | omega | assumption) (by first | omega | assumption) (by omega)
              · skip
                obtain ⟨rfl, rfl, hc24⟩ := hp18
                refine x_ws (ws' := []) (List.append_nil _) ?_
                refine x_if_eq C (tgt := 64) dX1_scaledNumber_37 (by decide) (q := 40) rfl (a := 0) rfl (fun h25 => ?_) (fun h25 => (by omega : False).elim)
                refine x_iinc C (L' := [(6, .int (nI (i + 1))), (5, .int (nI 1)), (0, .ref sg), (1, .int (nI pl)), (2, .long (lN v)), (4, .int (nI t))]) dX1_scaledNumber_64 (q := 67) rfl 5 rfl (v := nI (i + 1)) (nI_add i 1) (by decide) rfl ?_
                refine x_goto C (tgt := 11) dX1_scaledNumber_67 (by decide) ?_
                refine x_L (L' := [(0, .ref sg), (1, .int (nI pl)), (2, .long (lN v)), (4, .int (nI t)), (5, .int (nI 1)), (6, .int (nI (i + 1)))]) [2, 3, 4, 5, 1, 0] rfl ?_
                exact ih11 (i + 1) v 1 t (by first | omega | assumption) (by show _ = (if 48 ≤ b i ∧ b i ≤ 57 then (numF b i).1 * 10 + (b i - 48) else (numF b i).1); split <;> omega) (by show _ = (if b i = 46 then 1 else (numF b i).2.1); split <;> omega) (by show _ = (if (48 ≤ b i ∧ b i ≤ 57) ∧ (numF b i).2.1 = 1 then (numF b i).2.2 + 1 else (numF b i).2.2); split <;> omega) (by rw [Nat.pow_succ]; omega) (by first | omega | assumption) (by first | omega | assumption) (by omega)
  refine x_L (L' := [(0, .ref sg), (1, .int (nI pl)), (2, .long (lN 0)), (4, .int (nI 0)), (5, .int (nI 0)), (6, .int (nI 0))]) [4, 5, 3, 2, 1, 0] rfl ?_
  exact cut11 (len - 0 + 1) 0 0 0 0 (by first | omega | assumption) (by rfl) (by rfl) (by rfl) (by decide) (by first | omega | assumption) (by first | omega | assumption) (by omega)


abbrev canS (fm ty : Nat) : Prop := fm = 0 ∨ fm = ty ∨ ty = 4 ∨ (fm = 1 ∧ ty = 2)
/-- a field's value by a type: out of its number and its word -/
def valS (fm : Nat) (nm wd : Int64) (ty : Nat) : Int64 := if ty = 4 then wd else if fm = 1 ∧ ty = 2 then nm * lN 1000 else nm

set_option maxHeartbeats 4000000 in
set_option maxRecDepth 100000 in
/-- Field.canBe -/
theorem c_X1_canBe (l : Launch) (D : va_G) (cy : Nat → ClassId) (o : Nat) (sg : Nat) (fm : Nat) (nm : Int64) (wd : Int64) (ty : Nat) (hf : fm ≤ 4) (ht : ty ≤ 4) : xMet l D cy xT yX1_canBe wsX1_canBe ({ frames := 1, cells := 0, slots := 0, locals := 0 } : Room) [.ref o, .int (nI ty)] [] [(o, .inr (0, [.ref sg, .int (nI fm), .long (nm), .long (wd)]))] (fun (v9 : Option Value) (w9 : va_W) => (v9 = some (.int (nI 1)) ∧ w9 = [] ∧ canS fm ty) ∨ (v9 = some (.int (nI 0)) ∧ w9 = [] ∧ ¬ canS fm ty)) := by
  refine xMet_of (cc := cX1_canBe) (maxL := 2) (ret := (some .boolean)) (by decide) rfl (Nat.le_of_ble_eq_true rfl) (fun p e s m args below meth c A R Q hA hR hQ C hr hnm hro hX => ?_)
  have hw0 : ∀ w ∈ u_ws RX1 TX1 4, w ∈ wsX1_canBe := by decide +kernel
  have hw1 : Cond.fieldLink RX1 19 (TX1 1).1 (TX1 1).2.1 (TX1 1).2.2.1 ∈ wsX1_canBe := by decide +kernel
  refine x_L (L' := [(0, .ref o), (1, .int (nI ty))]) [0, 1] rfl ?_
  refine x_aload_n C dX1_canBe_0 (q := 1) rfl rfl 0 rfl ?_
  refine x_getR C (ci := 0) (v := .int (nI fm)) hw0 (hro (o, .inr (0, [.ref sg, .int (nI fm), .long (nm), .long (wd)])) (List.mem_of_getElem? (i := 0) rfl)) rfl 1 (by decide) hw1 rfl dX1_canBe_1 (q := 4) rfl ?_
  refine x_if_eq C (tgt := 33) dX1_canBe_4 (by decide) (q := 7) rfl (a := ((fm : Nat) : Int)) (nI_toInt (by omega)) (fun h1 => ?_) (fun h1 => ?_)
  · first
    | (exfalso; omega)
    |
      refine x_iconst C dX1_canBe_33 (q := 34) rfl (v := nI 1) (by decide) ?_
      refine x_goto C (tgt := 38) dX1_canBe_34 (by decide) ?_
      refine x_zret C hA hQ hr (ty := .boolean) (by first | rfl | assumption | exact xz_nar _) dX1_canBe_38 (Nat.le_of_ble_eq_true rfl) ?_
      first | exact Or.inl ⟨rfl, rfl, by unfold canS; omega⟩ | exact Or.inr ⟨rfl, rfl, by unfold canS; omega⟩
  · first
    | (exfalso; omega)
    |
      refine x_aload_n C dX1_canBe_7 (q := 8) rfl rfl 0 rfl ?_
      refine x_getR C (ci := 0) (v := .int (nI fm)) hw0 (hro (o, .inr (0, [.ref sg, .int (nI fm), .long (nm), .long (wd)])) (List.mem_of_getElem? (i := 0) rfl)) rfl 1 (by decide) hw1 rfl dX1_canBe_8 (q := 11) rfl ?_
      refine x_iload_n C dX1_canBe_11 (q := 12) rfl rfl 1 rfl ?_
      refine x_icmp_eq C (tgt := 33) dX1_canBe_12 (by decide) (q := 15) rfl (a := ((fm : Nat) : Int)) (b := ((ty : Nat) : Int)) (nI_toInt (by omega)) (nI_toInt (by omega)) (fun h2 => ?_) (fun h2 => ?_)
      · first
        | (exfalso; omega)
        |
          refine x_iconst C dX1_canBe_33 (q := 34) rfl (v := nI 1) (by decide) ?_
          refine x_goto C (tgt := 38) dX1_canBe_34 (by decide) ?_
          refine x_zret C hA hQ hr (ty := .boolean) (by first | rfl | assumption | exact xz_nar _) dX1_canBe_38 (Nat.le_of_ble_eq_true rfl) ?_
          first | exact Or.inl ⟨rfl, rfl, by unfold canS; omega⟩ | exact Or.inr ⟨rfl, rfl, by unfold canS; omega⟩
      · first
        | (exfalso; omega)
        |
          refine x_iload_n C dX1_canBe_15 (q := 16) rfl rfl 1 rfl ?_
          refine x_iconst C dX1_canBe_16 (q := 17) rfl (v := nI 4) (by decide) ?_
          refine x_icmp_eq C (tgt := 33) dX1_canBe_17 (by decide) (q := 20) rfl (a := ((ty : Nat) : Int)) (b := 4) (nI_toInt (by omega)) rfl (fun h3 => ?_) (fun h3 => ?_)
          · first
            | (exfalso; omega)
            |
              refine x_iconst C dX1_canBe_33 (q := 34) rfl (v := nI 1) (by decide) ?_
              refine x_goto C (tgt := 38) dX1_canBe_34 (by decide) ?_
              refine x_zret C hA hQ hr (ty := .boolean) (by first | rfl | assumption | exact xz_nar _) dX1_canBe_38 (Nat.le_of_ble_eq_true rfl) ?_
              first | exact Or.inl ⟨rfl, rfl, by unfold canS; omega⟩ | exact Or.inr ⟨rfl, rfl, by unfold canS; omega⟩
          · first
            | (exfalso; omega)
            |
              refine x_aload_n C dX1_canBe_20 (q := 21) rfl rfl 0 rfl ?_
              refine x_getR C (ci := 0) (v := .int (nI fm)) hw0 (hro (o, .inr (0, [.ref sg, .int (nI fm), .long (nm), .long (wd)])) (List.mem_of_getElem? (i := 0) rfl)) rfl 1 (by decide) hw1 rfl dX1_canBe_21 (q := 24) rfl ?_
              refine x_iconst C dX1_canBe_24 (q := 25) rfl (v := nI 1) (by decide) ?_
              refine x_icmp_ne C (tgt := 37) dX1_canBe_25 (by decide) (q := 28) rfl (a := ((fm : Nat) : Int)) (b := 1) (nI_toInt (by omega)) rfl (fun h4 => ?_) (fun h4 => ?_)
              · first
                | (exfalso; omega)
                |
                  refine x_iconst C dX1_canBe_37 (q := 38) rfl (v := nI 0) (by decide) ?_
                  refine x_zret C hA hQ hr (ty := .boolean) (by first | rfl | assumption | exact xz_nar _) dX1_canBe_38 (Nat.le_of_ble_eq_true rfl) ?_
                  first | exact Or.inl ⟨rfl, rfl, by unfold canS; omega⟩ | exact Or.inr ⟨rfl, rfl, by unfold canS; omega⟩
              · first
                | (exfalso; omega)
                |
                  refine x_iload_n C dX1_canBe_28 (q := 29) rfl rfl 1 rfl ?_
                  refine x_iconst C dX1_canBe_29 (q := 30) rfl (v := nI 2) (by decide) ?_
                  refine x_icmp_ne C (tgt := 37) dX1_canBe_30 (by decide) (q := 33) rfl (a := ((ty : Nat) : Int)) (b := 2) (nI_toInt (by omega)) rfl (fun h5 => ?_) (fun h5 => ?_)
                  · first
                    | (exfalso; omega)
                    |
                      refine x_iconst C dX1_canBe_37 (q := 38) rfl (v := nI 0) (by decide) ?_
                      refine x_zret C hA hQ hr (ty := .boolean) (by first | rfl | assumption | exact xz_nar _) dX1_canBe_38 (Nat.le_of_ble_eq_true rfl) ?_
                      first | exact Or.inl ⟨rfl, rfl, by unfold canS; omega⟩ | exact Or.inr ⟨rfl, rfl, by unfold canS; omega⟩
                  · first
                    | (exfalso; omega)
                    |
                      refine x_iconst C dX1_canBe_33 (q := 34) rfl (v := nI 1) (by decide) ?_
                      refine x_goto C (tgt := 38) dX1_canBe_34 (by decide) ?_
                      refine x_zret C hA hQ hr (ty := .boolean) (by first | rfl | assumption | exact xz_nar _) dX1_canBe_38 (Nat.le_of_ble_eq_true rfl) ?_
                      first | exact Or.inl ⟨rfl, rfl, by unfold canS; omega⟩ | exact Or.inr ⟨rfl, rfl, by unfold canS; omega⟩

set_option maxHeartbeats 4000000 in
set_option maxRecDepth 100000 in
/-- Field.valueAs -/
theorem c_X1_valueAs (l : Launch) (D : va_G) (cy : Nat → ClassId) (o : Nat) (sg : Nat) (fm : Nat) (nm : Int64) (wd : Int64) (ty : Nat) (hf : fm ≤ 4) (ht : ty ≤ 4) : xMet l D cy xT yX1_valueAs wsX1_valueAs ({ frames := 1, cells := 0, slots := 0, locals := 0 } : Room) [.ref o, .int (nI ty)] [] [(o, .inr (0, [.ref sg, .int (nI fm), .long (nm), .long (wd)]))] (fun (v9 : Option Value) (w9 : va_W) => (v9 = some (.long (valS fm nm wd ty)) ∧ w9 = [])) := by
  refine xMet_of (cc := cX1_valueAs) (maxL := 2) (ret := (some .long)) (by decide) rfl (Nat.le_of_ble_eq_true rfl) (fun p e s m args below meth c A R Q hA hR hQ C hr hnm hro hX => ?_)
  have hw0 : ∀ w ∈ u_ws RX1 TX1 4, w ∈ wsX1_valueAs := by decide +kernel
  have hw1 : Cond.fieldLink RX1 19 (TX1 1).1 (TX1 1).2.1 (TX1 1).2.2.1 ∈ wsX1_valueAs := by decide +kernel
  have hw2 : Cond.fieldLink RX1 27 (TX1 2).1 (TX1 2).2.1 (TX1 2).2.2.1 ∈ wsX1_valueAs := by decide +kernel
  have hw3 : Jvm.Cond.constantLong RX1 38 (1000) ∈ wsX1_valueAs := by decide +kernel
  have hw4 : Cond.fieldLink RX1 35 (TX1 3).1 (TX1 3).2.1 (TX1 3).2.2.1 ∈ wsX1_valueAs := by decide +kernel
  refine x_L (L' := [(0, .ref o), (1, .int (nI ty))]) [0, 1] rfl ?_
  refine x_iload_n C dX1_valueAs_0 (q := 1) rfl rfl 1 rfl ?_
  refine x_iconst C dX1_valueAs_1 (q := 2) rfl (v := nI 4) (by decide) ?_
  refine x_icmp_ne C (tgt := 10) dX1_valueAs_2 (by decide) (q := 5) rfl (a := ((ty : Nat) : Int)) (b := 4) (nI_toInt (by omega)) rfl (fun h1 => ?_) (fun h1 => ?_)
  · first
    | (exfalso; omega)
    |
      refine x_aload_n C dX1_valueAs_10 (q := 11) rfl rfl 0 rfl ?_
      refine x_getR C (ci := 0) (v := .int (nI fm)) hw0 (hro (o, .inr (0, [.ref sg, .int (nI fm), .long (nm), .long (wd)])) (List.mem_of_getElem? (i := 0) rfl)) rfl 1 (by decide) hw1 rfl dX1_valueAs_11 (q := 14) rfl ?_
      refine x_iconst C dX1_valueAs_14 (q := 15) rfl (v := nI 1) (by decide) ?_
      refine x_icmp_ne C (tgt := 34) dX1_valueAs_15 (by decide) (q := 18) rfl (a := ((fm : Nat) : Int)) (b := 1) (nI_toInt (by omega)) rfl (fun h2 => ?_) (fun h2 => ?_)
      · first
        | (exfalso; omega)
        |
          refine x_aload_n C dX1_valueAs_34 (q := 35) rfl rfl 0 rfl ?_
          refine x_getR C (ci := 0) (v := .long (nm)) hw0 (hro (o, .inr (0, [.ref sg, .int (nI fm), .long (nm), .long (wd)])) (List.mem_of_getElem? (i := 0) rfl)) rfl 2 (by decide) hw2 rfl dX1_valueAs_35 (q := 38) rfl ?_
          refine x_lret C hA hQ hr dX1_valueAs_38 (Nat.le_of_ble_eq_true rfl) ?_
          first | exact ⟨by unfold valS; rw [if_pos (by omega)], rfl⟩ | exact ⟨by unfold valS; rw [if_neg (by omega), if_pos (by omega)], rfl⟩ | exact ⟨by unfold valS; rw [if_neg (by omega), if_neg (by omega)], rfl⟩
      · first
        | (exfalso; omega)
        |
          refine x_iload_n C dX1_valueAs_18 (q := 19) rfl rfl 1 rfl ?_
          refine x_iconst C dX1_valueAs_19 (q := 20) rfl (v := nI 2) (by decide) ?_
          refine x_icmp_ne C (tgt := 34) dX1_valueAs_20 (by decide) (q := 23) rfl (a := ((ty : Nat) : Int)) (b := 2) (nI_toInt (by omega)) rfl (fun h3 => ?_) (fun h3 => ?_)
          · first
            | (exfalso; omega)
            |
              refine x_aload_n C dX1_valueAs_34 (q := 35) rfl rfl 0 rfl ?_
              refine x_getR C (ci := 0) (v := .long (nm)) hw0 (hro (o, .inr (0, [.ref sg, .int (nI fm), .long (nm), .long (wd)])) (List.mem_of_getElem? (i := 0) rfl)) rfl 2 (by decide) hw2 rfl dX1_valueAs_35 (q := 38) rfl ?_
              refine x_lret C hA hQ hr dX1_valueAs_38 (Nat.le_of_ble_eq_true rfl) ?_
              first | exact ⟨by unfold valS; rw [if_pos (by omega)], rfl⟩ | exact ⟨by unfold valS; rw [if_neg (by omega), if_pos (by omega)], rfl⟩ | exact ⟨by unfold valS; rw [if_neg (by omega), if_neg (by omega)], rfl⟩
          · first
            | (exfalso; omega)
            |
              refine x_aload_n C dX1_valueAs_23 (q := 24) rfl rfl 0 rfl ?_
              refine x_getR C (ci := 0) (v := .long (nm)) hw0 (hro (o, .inr (0, [.ref sg, .int (nI fm), .long (nm), .long (wd)])) (List.mem_of_getElem? (i := 0) rfl)) rfl 2 (by decide) hw2 rfl dX1_valueAs_24 (q := 27) rfl ?_
              refine x_ldc2 C (v := lN 1000) hw3 dX1_valueAs_27 (q := 30) rfl ?_
              refine x_lmul C dX1_valueAs_30 (q := 31) rfl (z := nm * (lN 1000)) (rfl) ?_
              refine x_goto C (tgt := 38) dX1_valueAs_31 (by decide) ?_
              refine x_lret C hA hQ hr dX1_valueAs_38 (Nat.le_of_ble_eq_true rfl) ?_
              first | exact ⟨by unfold valS; rw [if_pos (by omega)], rfl⟩ | exact ⟨by unfold valS; rw [if_neg (by omega), if_pos (by omega)], rfl⟩ | exact ⟨by unfold valS; rw [if_neg (by omega), if_neg (by omega)], rfl⟩
  · first
    | (exfalso; omega)
    |
      refine x_aload_n C dX1_valueAs_5 (q := 6) rfl rfl 0 rfl ?_
      refine x_getR C (ci := 0) (v := .long (wd)) hw0 (hro (o, .inr (0, [.ref sg, .int (nI fm), .long (nm), .long (wd)])) (List.mem_of_getElem? (i := 0) rfl)) rfl 3 (by decide) hw4 rfl dX1_valueAs_6 (q := 9) rfl ?_
      refine x_lret C hA hQ hr dX1_valueAs_9 (Nat.le_of_ble_eq_true rfl) ?_
      first | exact ⟨by unfold valS; rw [if_pos (by omega)], rfl⟩ | exact ⟨by unfold valS; rw [if_neg (by omega), if_pos (by omega)], rfl⟩ | exact ⟨by unfold valS; rw [if_neg (by omega), if_neg (by omega)], rfl⟩

set_option maxHeartbeats 4000000 in
set_option maxRecDepth 100000 in
/-- Field.numberIn -/
theorem c_X1_numberIn (l : Launch) (D : va_G) (cy : Nat → ClassId) (t0 : Nat) (adK : Nat → Nat) (adV : Nat → Nat) (sg : Nat) (len : Nat) (b : Nat → Nat) (fm : Nat) (hb : ∀ k, b k < 128) (hlen : len ≤ 12) (hf : fm ≤ 4) (hd : fm = 3 → dateS b len) : xMet l D cy (xZ t0 adK adV) yX1_numberIn wsX1_numberIn ({ frames := 4, cells := 0, slots := 0, locals := 600 } : Room) [.ref sg, .int (nI fm)] [] [(sg, .inl (cy 0, len, .inl (fun k => nI (b k))))] (fun (v9 : Option Value) (w9 : va_W) => (v9 = some (.long (numS b len fm)) ∧ w9 = [])) := by
  refine xMet_of (cc := cX1_numberIn) (maxL := 2) (ret := (some .long)) (by decide) rfl (Nat.le_of_ble_eq_true rfl) (fun p e s m args below meth c A R Q hA hR hQ C hr hnm hro hX => ?_)
  refine x_L (L' := [(0, .ref sg), (1, .int (nI fm))]) [0, 1] rfl ?_
  refine x_iload_n C dX1_numberIn_0 (q := 1) rfl rfl 1 rfl ?_
  refine x_iconst C dX1_numberIn_1 (q := 2) rfl (v := nI 1) (by decide) ?_
  refine x_icmp_ne C (tgt := 11) dX1_numberIn_2 (by decide) (q := 5) rfl (a := ((fm : Nat) : Int)) (b := 1) (nI_toInt (by omega)) rfl (fun h1 => ?_) (fun h1 => ?_)
  · first
    | (exfalso; omega)
    |
      refine x_iload_n C dX1_numberIn_11 (q := 12) rfl rfl 1 rfl ?_
      refine x_iconst C dX1_numberIn_12 (q := 13) rfl (v := nI 2) (by decide) ?_
      refine x_icmp_ne C (tgt := 22) dX1_numberIn_13 (by decide) (q := 16) rfl (a := ((fm : Nat) : Int)) (b := 2) (nI_toInt (by omega)) rfl (fun h2 => ?_) (fun h2 => ?_)
      · first
        | (exfalso; omega)
        |
          refine x_iload_n C dX1_numberIn_22 (q := 23) rfl rfl 1 rfl ?_
          refine x_iconst C dX1_numberIn_23 (q := 24) rfl (v := nI 3) (by decide) ?_
          refine x_icmp_ne C (tgt := 34) dX1_numberIn_24 (by decide) (q := 27) rfl (a := ((fm : Nat) : Int)) (b := 3) (nI_toInt (by omega)) rfl (fun h3 => ?_) (fun h3 => ?_)
          · first
            | (exfalso; omega)
            |
              refine x_lconst C dX1_numberIn_34 (q := 35) rfl (v := lN 0) rfl ?_
              refine x_lret C hA hQ hr dX1_numberIn_35 (Nat.le_of_ble_eq_true rfl) ?_
              first | exact ⟨by unfold numS; rw [if_pos (by omega)], rfl⟩ | exact ⟨by unfold numS; rw [if_neg (by omega), if_pos (by omega)], rfl⟩ | exact ⟨by unfold numS; rw [if_neg (by omega), if_neg (by omega), if_pos (by omega)], rfl⟩ | exact ⟨by unfold numS; rw [if_neg (by omega), if_neg (by omega), if_neg (by omega)], rfl⟩
          · first
            | (exfalso; omega)
            |
              refine x_aload_n C dX1_numberIn_27 (q := 28) rfl rfl 0 rfl ?_
              refine x_callS C (roW := []) (roR := [(sg, .inl (cy 0, len, .inl (fun k => nI (b k))))]) (c_X0_since2000 l D cy t0 adK adV sg len b (by assumption) (by first | assumption | omega | (simp only []; omega)) (by exact hd (by omega))) (va_cwS 1 C.2.2.2.2.1 gX1_numberIn_X0_since2000 rfl rfl rfl (by decide +kernel) (by rw [hR]; exact ⟨Nat.le_of_ble_eq_true rfl, Nat.le_of_ble_eq_true rfl⟩)) [] [] rfl (by decide) rfl (by decide) (xro_cons (hro (sg, .inl (cy 0, len, .inl (fun k => nI (b k)))) (List.mem_of_getElem? (i := 0) rfl)) xro_nil) (xZ_bl t0 adK adV) (fun H9 locs9 U9 hS9 hF9 hU9 hW9 => xZ_call hX hS9 hF9 hU9 hW9) rfl rfl dX1_numberIn_28 rfl rfl (Nat.le_of_ble_eq_true rfl) (q := 31) rfl (k' := 0) rfl (n' := 0) rfl (by rw [hR]; exact ⟨Nat.le_of_ble_eq_true rfl, Nat.le_of_ble_eq_true rfl⟩) (fun v4 w4 hp4 => ?_)
              obtain ⟨rfl, rfl⟩ := hp4
              refine x_ws (ws' := []) (List.append_nil _) ?_
              refine x_goto C (tgt := 35) dX1_numberIn_31 (by decide) ?_
              refine x_lret C hA hQ hr dX1_numberIn_35 (Nat.le_of_ble_eq_true rfl) ?_
              first | exact ⟨by unfold numS; rw [if_pos (by omega)], rfl⟩ | exact ⟨by unfold numS; rw [if_neg (by omega), if_pos (by omega)], rfl⟩ | exact ⟨by unfold numS; rw [if_neg (by omega), if_neg (by omega), if_pos (by omega)], rfl⟩ | exact ⟨by unfold numS; rw [if_neg (by omega), if_neg (by omega), if_neg (by omega)], rfl⟩
      · first
        | (exfalso; omega)
        |
          refine x_aload_n C dX1_numberIn_16 (q := 17) rfl rfl 0 rfl ?_
          refine x_iconst C dX1_numberIn_17 (q := 18) rfl (v := nI 3) (by decide) ?_
          refine x_callS C (roW := []) (roR := [(sg, .inl (cy 0, len, .inl (fun k => nI (b k))))]) (c_X1_scaledNumber l D cy sg len b 3 (by assumption) (by first | assumption | omega | (simp only []; omega)) (by first | assumption | omega | (simp only []; omega))) (cwS 2 C.2.2.2.2.1 gX1_numberIn_X1_scaledNumber rfl rfl rfl (by decide +kernel) (by rw [hR]; exact ⟨Nat.le_of_ble_eq_true rfl, Nat.le_of_ble_eq_true rfl⟩)) [] [] rfl (by decide) rfl (by decide) (xro_cons (hro (sg, .inl (cy 0, len, .inl (fun k => nI (b k)))) (List.mem_of_getElem? (i := 0) rfl)) xro_nil) xT_bl (fun _ _ _ _ _ _ _ => trivial) rfl rfl dX1_numberIn_18 rfl rfl (Nat.le_of_ble_eq_true rfl) (q := 21) rfl (k' := 0) rfl (n' := 0) rfl (by rw [hR]; exact ⟨Nat.le_of_ble_eq_true rfl, Nat.le_of_ble_eq_true rfl⟩) (fun v5 w5 hp5 => ?_)
          obtain ⟨rfl, rfl⟩ := hp5
          refine x_ws (ws' := []) (List.append_nil _) ?_
          refine x_lret C hA hQ hr dX1_numberIn_21 (Nat.le_of_ble_eq_true rfl) ?_
          first | exact ⟨by unfold numS; rw [if_pos (by omega)], rfl⟩ | exact ⟨by unfold numS; rw [if_neg (by omega), if_pos (by omega)], rfl⟩ | exact ⟨by unfold numS; rw [if_neg (by omega), if_neg (by omega), if_pos (by omega)], rfl⟩ | exact ⟨by unfold numS; rw [if_neg (by omega), if_neg (by omega), if_neg (by omega)], rfl⟩
  · first
    | (exfalso; omega)
    |
      refine x_aload_n C dX1_numberIn_5 (q := 6) rfl rfl 0 rfl ?_
      refine x_iconst C dX1_numberIn_6 (q := 7) rfl (v := nI 0) (by decide) ?_
      refine x_callS C (roW := []) (roR := [(sg, .inl (cy 0, len, .inl (fun k => nI (b k))))]) (c_X1_scaledNumber l D cy sg len b 0 (by assumption) (by first | assumption | omega | (simp only []; omega)) (by first | assumption | omega | (simp only []; omega))) (cwS 2 C.2.2.2.2.1 gX1_numberIn_X1_scaledNumber rfl rfl rfl (by decide +kernel) (by rw [hR]; exact ⟨Nat.le_of_ble_eq_true rfl, Nat.le_of_ble_eq_true rfl⟩)) [] [] rfl (by decide) rfl (by decide) (xro_cons (hro (sg, .inl (cy 0, len, .inl (fun k => nI (b k)))) (List.mem_of_getElem? (i := 0) rfl)) xro_nil) xT_bl (fun _ _ _ _ _ _ _ => trivial) rfl rfl dX1_numberIn_7 rfl rfl (Nat.le_of_ble_eq_true rfl) (q := 10) rfl (k' := 0) rfl (n' := 0) rfl (by rw [hR]; exact ⟨Nat.le_of_ble_eq_true rfl, Nat.le_of_ble_eq_true rfl⟩) (fun v6 w6 hp6 => ?_)
      obtain ⟨rfl, rfl⟩ := hp6
      refine x_ws (ws' := []) (List.append_nil _) ?_
      refine x_lret C hA hQ hr dX1_numberIn_10 (Nat.le_of_ble_eq_true rfl) ?_
      first | exact ⟨by unfold numS; rw [if_pos (by omega)], rfl⟩ | exact ⟨by unfold numS; rw [if_neg (by omega), if_pos (by omega)], rfl⟩ | exact ⟨by unfold numS; rw [if_neg (by omega), if_neg (by omega), if_pos (by omega)], rfl⟩ | exact ⟨by unfold numS; rw [if_neg (by omega), if_neg (by omega), if_neg (by omega)], rfl⟩


theorem formS_3 {b : Nat → Nat} {len : Nat} (h : formS b len = 3) : dateS b len := by
  unfold formS at h
  split at h
  · omega
  · split at h
    · omega
    · split at h
      · omega
      · split at h
        · assumption
        · omega

set_option maxHeartbeats 4000000 in
set_option maxRecDepth 100000 in
/-- Field: its bytes, form, numbers -/
theorem c_X1_init (l : Launch) (D : va_G) (cy : Nat → ClassId) (t0 : Nat) (adK : Nat → Nat) (adV : Nat → Nat) (sg : Nat) (len : Nat) (b : Nat → Nat) (o : Nat) (hb : ∀ k, b k < 128) (hlen : len ≤ 12) : xMet l D cy (xZ t0 adK adV) yX1_init wsX1_init ({ frames := 8, cells := 0, slots := 0, locals := 2000 } : Room) [.ref o, .ref sg] [(o, .inr (0, [.null, .int (nI 0), .long (lN 0), .long (lN 0)]))] [(sg, .inl (cy 0, len, .inl (fun k => nI (b k))))] (fun (v9 : Option Value) (w9 : va_W) => (v9 = none ∧ w9 = [(o, .inr (0, [.ref sg, .int (nI (formS b len)), .long (numS b len (formS b len)), .long (wordS b len)]))])) := by
  refine xMet_of (cc := cX1_init) (maxL := 2) (ret := none) (by decide) rfl (Nat.le_of_ble_eq_true rfl) (fun p e s m args below meth c A R Q hA hR hQ C hr hnm hro hX => ?_)
  have hw0 : Cond.methodLink RX1 3 Lib.objectInit ∈ wsX1_init := by decide +kernel
  have hw1 : Cond.instanceMethod Lib.objectInit ∈ wsX1_init := by decide +kernel
  have hw2 : Cond.code Lib.objectInit ⟨#[0xb1]⟩ 1 none ∈ wsX1_init := by decide +kernel
  have hw3 : ∀ w ∈ u_ws RX1 TX1 4, w ∈ wsX1_init := by decide +kernel
  have hw4 : Cond.fieldLink RX1 9 (TX1 0).1 (TX1 0).2.1 (TX1 0).2.2.1 ∈ wsX1_init := by decide +kernel
  have hw5 : Cond.fieldLink RX1 19 (TX1 1).1 (TX1 1).2.1 (TX1 1).2.2.1 ∈ wsX1_init := by decide +kernel
  have hw6 : Cond.fieldLink RX1 27 (TX1 2).1 (TX1 2).2.1 (TX1 2).2.2.1 ∈ wsX1_init := by decide +kernel
  have hw7 : Cond.fieldLink RX1 35 (TX1 3).1 (TX1 3).2.1 (TX1 3).2.2.1 ∈ wsX1_init := by decide +kernel
  refine x_L (L' := [(0, .ref o), (1, .ref sg)]) [0, 1] rfl ?_
  have hfl := formS_le b len
  refine x_aload_n C dX1_init_0 (q := 1) rfl rfl 0 rfl ?_
  refine x_obj C hw0 hw1 hw2 (by rw [hR]; exact Nat.le_of_ble_eq_true rfl) (by rw [hR]; exact Nat.le_of_ble_eq_true rfl) dX1_init_1 (q := 4) rfl ?_
  refine x_aload_n C dX1_init_4 (q := 5) rfl rfl 0 rfl ?_
  refine x_aload_n C dX1_init_5 (q := 6) rfl rfl 1 rfl ?_
  refine x_putF C (ci := 0) (ty := tyX1 0) (ws' := [(o, .inr (0, [.ref sg, .int (nI 0), .long (lN 0), .long (lN 0)]))]) hw3 tyX1 tyX1_ok nmX1 0 rfl rfl 0 (by decide) hw4 rfl hnm rfl (by decide +kernel) rfl rfl (Nat.le_of_ble_eq_true rfl) rfl dX1_init_6 (q := 9) rfl ?_
  refine x_aload_n C dX1_init_9 (q := 10) rfl rfl 0 rfl ?_
  refine x_aload_n C dX1_init_10 (q := 11) rfl rfl 1 rfl ?_
  refine x_callS C (roW := []) (roR := [(sg, .inl (cy 0, len, .inl (fun k => nI (b k))))]) (c_X1_formIn l D cy t0 adK adV sg len b (by assumption) (by first | assumption | omega | (simp only []; omega))) (cwS 1 C.2.2.2.2.1 gX1_init_X1_formIn rfl rfl rfl (by decide +kernel) (by rw [hR]; exact ⟨Nat.le_of_ble_eq_true rfl, Nat.le_of_ble_eq_true rfl⟩)) [] [] rfl (by decide) rfl (by decide) (xro_cons (hro (sg, .inl (cy 0, len, .inl (fun k => nI (b k)))) (List.mem_of_getElem? (i := 0) rfl)) xro_nil) (xZ_bl t0 adK adV) (fun H9 locs9 U9 hS9 hF9 hU9 hW9 => xZ_call hX hS9 hF9 hU9 hW9) rfl rfl dX1_init_11 rfl rfl (Nat.le_of_ble_eq_true rfl) (q := 14) rfl (k' := 0) rfl (n' := 0) rfl (by rw [hR]; exact ⟨Nat.le_of_ble_eq_true rfl, Nat.le_of_ble_eq_true rfl⟩) (fun v1 w1 hp1 => ?_)
  obtain ⟨rfl, rfl⟩ := hp1
  refine x_ws (ws' := [(o, .inr (0, [.ref sg, .int (nI 0), .long (lN 0), .long (lN 0)]))]) (List.append_nil _) ?_
  refine x_putF C (ci := 0) (ty := .int) (ws' := [(o, .inr (0, [.ref sg, .int (nI (formS b len)), .long (lN 0), .long (lN 0)]))]) hw3 tyX1 tyX1_ok nmX1 0 rfl rfl 1 (by decide) hw5 rfl hnm rfl (by decide +kernel) rfl rfl (Nat.le_of_ble_eq_true rfl) rfl dX1_init_14 (q := 17) rfl ?_
  refine x_aload_n C dX1_init_17 (q := 18) rfl rfl 0 rfl ?_
  refine x_aload_n C dX1_init_18 (q := 19) rfl rfl 1 rfl ?_
  refine x_aload_n C dX1_init_19 (q := 20) rfl rfl 0 rfl ?_
  refine x_get C (ci := 0) (v := .int (nI (formS b len))) hw3 0 rfl rfl 1 (by decide) hw5 rfl dX1_init_20 (q := 23) rfl ?_
  refine x_callS C (roW := []) (roR := [(sg, .inl (cy 0, len, .inl (fun k => nI (b k))))]) (c_X1_numberIn l D cy t0 adK adV sg len b (formS b len) (by assumption) (by first | assumption | omega | (simp only []; omega)) (by first | assumption | omega | (simp only []; omega)) (by exact fun z => formS_3 z)) (cwS 2 C.2.2.2.2.1 gX1_init_X1_numberIn rfl rfl rfl (by decide +kernel) (by rw [hR]; exact ⟨Nat.le_of_ble_eq_true rfl, Nat.le_of_ble_eq_true rfl⟩)) [] [] rfl (by decide) rfl (by decide) (xro_cons (hro (sg, .inl (cy 0, len, .inl (fun k => nI (b k)))) (List.mem_of_getElem? (i := 0) rfl)) xro_nil) (xZ_bl t0 adK adV) (fun H9 locs9 U9 hS9 hF9 hU9 hW9 => xZ_call hX hS9 hF9 hU9 hW9) rfl rfl dX1_init_23 rfl rfl (Nat.le_of_ble_eq_true rfl) (q := 26) rfl (k' := 0) rfl (n' := 0) rfl (by rw [hR]; exact ⟨Nat.le_of_ble_eq_true rfl, Nat.le_of_ble_eq_true rfl⟩) (fun v2 w2 hp2 => ?_)
  obtain ⟨rfl, rfl⟩ := hp2
  refine x_ws (ws' := [(o, .inr (0, [.ref sg, .int (nI (formS b len)), .long (lN 0), .long (lN 0)]))]) (List.append_nil _) ?_
  refine x_putF C (ci := 0) (ty := .long) (ws' := [(o, .inr (0, [.ref sg, .int (nI (formS b len)), .long (numS b len (formS b len)), .long (lN 0)]))]) hw3 tyX1 tyX1_ok nmX1 0 rfl rfl 2 (by decide) hw6 rfl hnm rfl (by decide +kernel) rfl rfl (Nat.le_of_ble_eq_true rfl) rfl dX1_init_26 (q := 29) rfl ?_
  refine x_aload_n C dX1_init_29 (q := 30) rfl rfl 0 rfl ?_
  refine x_aload_n C dX1_init_30 (q := 31) rfl rfl 1 rfl ?_
  refine x_callS C (roW := []) (roR := [(sg, .inl (cy 0, len, .inl (fun k => nI (b k))))]) (c_X1_wordIn l D cy sg len b (by assumption) (by first | assumption | omega | (simp only []; omega))) (cwS 1 C.2.2.2.2.1 gX1_init_X1_wordIn rfl rfl rfl (by decide +kernel) (by rw [hR]; exact ⟨Nat.le_of_ble_eq_true rfl, Nat.le_of_ble_eq_true rfl⟩)) [] [] rfl (by decide) rfl (by decide) (xro_cons (hro (sg, .inl (cy 0, len, .inl (fun k => nI (b k)))) (List.mem_of_getElem? (i := 0) rfl)) xro_nil) xT_bl (fun _ _ _ _ _ _ _ => trivial) rfl rfl dX1_init_31 rfl rfl (Nat.le_of_ble_eq_true rfl) (q := 34) rfl (k' := 0) rfl (n' := 0) rfl (by rw [hR]; exact ⟨Nat.le_of_ble_eq_true rfl, Nat.le_of_ble_eq_true rfl⟩) (fun v3 w3 hp3 => ?_)
  obtain ⟨rfl, rfl⟩ := hp3
  refine x_ws (ws' := [(o, .inr (0, [.ref sg, .int (nI (formS b len)), .long (numS b len (formS b len)), .long (lN 0)]))]) (List.append_nil _) ?_
  refine x_putF C (ci := 0) (ty := .long) (ws' := [(o, .inr (0, [.ref sg, .int (nI (formS b len)), .long (numS b len (formS b len)), .long (wordS b len)]))]) hw3 tyX1 tyX1_ok nmX1 0 rfl rfl 3 (by decide) hw7 rfl hnm rfl (by decide +kernel) rfl rfl (Nat.le_of_ble_eq_true rfl) rfl dX1_init_34 (q := 37) rfl ?_
  refine x_vret C hA hQ hr dX1_init_37 (Nat.le_of_ble_eq_true rfl) ?_
  first | exact ⟨rfl, rfl⟩ | exact ⟨_, rfl, rfl, by first | rfl | omega | assumption⟩ | (refine ⟨_, rfl, rfl, ?_⟩; (first | rfl | omega | (simp only []; omega)))
