
theorem xl_of {d : Int} (h1 : -10000000 ≤ d) (h2 : d ≤ 10000000) : (Int64.ofInt d).toInt = d := Int64.toInt_ofInt_of_le (by omega) (by omega)
theorem nF46 {b : Nat → Nat} {i : Nat} (h : b i = 46) (hf : (numF b i).2.1 = 0) : numF b (i + 1) = ((numF b i).1, 1, (numF b i).2.2) := by
  show (if 48 ≤ b i ∧ b i ≤ 57 then _ else _, if b i = 46 then 1 else _, if (48 ≤ b i ∧ b i ≤ 57) ∧ (numF b i).2.1 = 1 then _ else _) = _
  rw [if_neg (by omega), if_pos h, if_neg (by omega)]
theorem nF45 {b : Nat → Nat} {i : Nat} (h : b i = 45) : numF b (i + 1) = numF b i := by
  show (if 48 ≤ b i ∧ b i ≤ 57 then _ else _, if b i = 46 then 1 else _, if (48 ≤ b i ∧ b i ≤ 57) ∧ (numF b i).2.1 = 1 then _ else _) = _
  rw [if_neg (by omega), if_neg (by omega), if_neg (by omega)]
theorem nFd0 {b : Nat → Nat} {i : Nat} (h : 48 ≤ b i ∧ b i ≤ 57) (hf : (numF b i).2.1 = 0) : numF b (i + 1) = ((numF b i).1 * 10 + (b i - 48), (numF b i).2.1, (numF b i).2.2) := by
  show (if 48 ≤ b i ∧ b i ≤ 57 then _ else _, if b i = 46 then 1 else _, if (48 ≤ b i ∧ b i ≤ 57) ∧ (numF b i).2.1 = 1 then _ else _) = _
  rw [if_pos h, if_neg (by omega), if_neg (by omega)]
theorem nFd1 {b : Nat → Nat} {i : Nat} (h : 48 ≤ b i ∧ b i ≤ 57) (hf : (numF b i).2.1 = 1) : numF b (i + 1) = ((numF b i).1 * 10 + (b i - 48), (numF b i).2.1, (numF b i).2.2 + 1) := by
  show (if 48 ≤ b i ∧ b i ≤ 57 then _ else _, if b i = 46 then 1 else _, if (48 ≤ b i ∧ b i ≤ 57) ∧ (numF b i).2.1 = 1 then _ else _) = _
  rw [if_pos h, if_neg (by omega), if_pos ⟨h, hf⟩]
theorem numF_c0 (b : Nat → Nat) : ∀ i, (numF b i).2.1 = 0 → (numF b i).2.2 = 0
  | 0, _ => rfl
  | i + 1, h => by
    have h0 := numF_c0 b i
    have hb := (numF_bits b i).1
    have h1 : (if b i = 46 then 1 else (numF b i).2.1) = 0 := h
    show (if (48 ≤ b i ∧ b i ≤ 57) ∧ (numF b i).2.1 = 1 then _ else _) = 0
    by_cases e : b i = 46
    · rw [if_pos e] at h1; cases h1
    · rw [if_neg e] at h1
      rw [if_neg (by omega)]
      exact h0 h1
/-- no dot yet: no flag -/
theorem numF_f0 (b : Nat → Nat) : ∀ i, (∀ j, j < i → ¬ b j = 46) → (numF b i).2.1 = 0
  | 0, _ => rfl
  | i + 1, h => by
    show (if b i = 46 then 1 else (numF b i).2.1) = 0
    rw [if_neg (h i (by omega))]
    exact numF_f0 b i (fun j hj => h j (by omega))
/-- of what a number is made -/
abbrev shN (b : Nat → Nat) (len : Nat) : Prop := ∀ j, j < len → (48 ≤ b j ∧ b j ≤ 57) ∨ b j = 45 ∨ (b j = 46 ∧ (numF b j).2.1 = 0)
theorem formS_cases {b : Nat → Nat} {len : Nat} : (len = 0 ∧ formS b len = 0) ∨ (1 ≤ len ∧ 1 ≤ dgs b len (frB b) ∧ dgs b len (frB b) ≤ 6 ∧ frB b + dgs b len (frB b) = len ∧ formS b len = 1) ∨ (1 ≤ len ∧ 1 ≤ dgs b len (frB b) ∧ dgs b len (frB b) ≤ 6 ∧ b (frB b + dgs b len (frB b)) = 46 ∧ fracS b len (frB b + dgs b len (frB b) + 1) ∧ formS b len = 2) ∨ (1 ≤ len ∧ dateS b len ∧ formS b len = 3) ∨ (1 ≤ len ∧ ¬ dateS b len ∧ formS b len = 4) := by
  unfold formS
  by_cases h0 : len = 0
  · exact Or.inl ⟨h0, if_pos h0⟩
  · rw [if_neg h0]
    by_cases h1 : 1 ≤ dgs b len (frB b) ∧ dgs b len (frB b) ≤ 6 ∧ frB b + dgs b len (frB b) = len
    · exact Or.inr (Or.inl ⟨by omega, h1.1, h1.2.1, h1.2.2, if_pos h1⟩)
    · rw [if_neg h1]
      by_cases h2 : 1 ≤ dgs b len (frB b) ∧ dgs b len (frB b) ≤ 6 ∧ b (frB b + dgs b len (frB b)) = 46 ∧ fracS b len (frB b + dgs b len (frB b) + 1)
      · exact Or.inr (Or.inr (Or.inl ⟨by omega, h2.1, h2.2.1, h2.2.2.1, h2.2.2.2, if_pos h2⟩))
      · rw [if_neg h2]
        by_cases h3 : dateS b len
        · exact Or.inr (Or.inr (Or.inr (Or.inl ⟨by omega, h3, if_pos h3⟩)))
        · exact Or.inr (Or.inr (Or.inr (Or.inr ⟨by omega, h3, if_neg h3⟩)))
theorem frB_01 (b : Nat → Nat) : (frB b = 0 ∧ ¬ b 0 = 45) ∨ (frB b = 1 ∧ b 0 = 45) := by
  unfold frB
  by_cases h : b 0 = 45
  · exact Or.inr ⟨if_pos h, h⟩
  · exact Or.inl ⟨if_neg h, h⟩
theorem shN_form {b : Nat → Nat} {len : Nat} (h : formS b len = 1 ∨ formS b len = 2) : 1 ≤ len ∧ shN b len := by
  have hfr := frB_01 b
  rcases formS_cases (b := b) (len := len) with c | c | c | c | c
  · omega
  · obtain ⟨c0, c1, c2, c3, _⟩ := c
    refine ⟨c0, fun j hj => ?_⟩
    rcases Nat.lt_or_ge j (frB b) with z | z
    · exact Or.inr (Or.inl (by rw [show j = 0 by omega]; omega))
    · exact Or.inl (dgs_all (to := len) z (by omega))
  · obtain ⟨c0, c1, c2, c3, c4, _⟩ := c
    obtain ⟨c5, c6, c7⟩ := c4
    have hno : ∀ j, j < frB b + dgs b len (frB b) → ¬ b j = 46 := fun j hj => by
      rcases Nat.lt_or_ge j (frB b) with z | z
      · rw [show j = 0 by omega]; omega
      · have := dgs_all (b := b) (to := len) (k := frB b) z hj
        omega
    refine ⟨c0, fun j hj => ?_⟩
    rcases Nat.lt_or_ge j (frB b) with z | z
    · exact Or.inr (Or.inl (by rw [show j = 0 by omega]; omega))
    · rcases Nat.lt_or_ge j (frB b + dgs b len (frB b)) with y | y
      · exact Or.inl (dgs_all (to := len) z y)
      · rcases Nat.lt_or_ge (frB b + dgs b len (frB b)) j with x | x
        · exact Or.inl (dgs_all (to := len) (k := frB b + dgs b len (frB b) + 1) (by omega) (by omega))
        · have e : j = frB b + dgs b len (frB b) := by omega
          subst e
          exact Or.inr (Or.inr ⟨c3, numF_f0 b _ hno⟩)
  · omega
  · omega
theorem form3 {b : Nat → Nat} {len : Nat} (h : formS b len = 3) : len = 10 ∧ dtC b := by
  rcases formS_cases (b := b) (len := len) with c | c | c | c | c
  · omega
  · omega
  · omega
  · exact ⟨c.2.1.1, c.2.1.2⟩
  · omega

set_option maxHeartbeats 4000000 in
set_option maxRecDepth 100000 in
/-- a field's FORM -/
theorem c_X10_form (l : Launch) (D : va_G) (cy : Nat → ClassId) (mo : Nat) (mr : Nat → Nat) (cols : Nat) (lc : Nat) (smp : Nat) (mk : Nat) (rs : Nat) (nse : Nat) (npa : Nat) (nbo : Nat) (tn : Nat) (ik : Nat) (ky : Int32) (j0 : Int32) (j1 : Int32) (j2 : Int32) (j3 : Int32) (j4 : Int32) (by9 : Nat → Nat) (fr : Nat) (to : Nat) (len : Nat) (b : Nat → Nat) (hby : ∀ k, by9 k < 128) (hto : to = fr + len) (hl : to ≤ 1440) (hb : ∀ j, j < len → by9 (fr + j) = b j) : xMet l D cy xT yX10_form wsX10_form ({ frames := 4, cells := 0, slots := 0, locals := 600 } : Room) [.ref mo, .int (nI fr), .int (nI to)] [(mo, .inr (9, [.int (nI cols), .int (nI lc), .int (nI smp), .int (ky), .ref (mr 0), .ref (mr 1), .ref (mr 2), .ref (mr 3), .ref (mr 4), .ref (mr 5), .ref (mr 6), .ref (mr 7), .ref (mr 8), .ref (mr 9), .int (nI mk), .int (nI rs), .ref (mr 10), .ref (mr 11), .ref (mr 12), .ref (mr 13), .ref (mr 14), .ref (mr 15), .ref (mr 16), .ref (mr 17), .ref (mr 18), .ref (mr 19), .ref (mr 20), .int (nI nse), .int (nI npa), .int (nI nbo), .ref (mr 21), .int (nI tn), .ref (mr 22), .int (nI ik), .int (j0), .int (j1), .ref (mr 23), .int (j2), .ref (mr 24), .ref (mr 25), .int (j3), .ref (mr 26), .int (j4), .ref (mr 27), .ref (mr 28), .ref (mr 29), .ref (mr 30)])), (mr 4, .inl (cy 1, 1440, .inl (fun k => nI (by9 k))))] [] (fun (v9 : Option Value) (w9 : va_W) => (v9 = some (.int (nI (formS b len))) ∧ w9 = [(mo, .inr (9, [.int (nI cols), .int (nI lc), .int (nI smp), .int (ky), .ref (mr 0), .ref (mr 1), .ref (mr 2), .ref (mr 3), .ref (mr 4), .ref (mr 5), .ref (mr 6), .ref (mr 7), .ref (mr 8), .ref (mr 9), .int (nI mk), .int (nI rs), .ref (mr 10), .ref (mr 11), .ref (mr 12), .ref (mr 13), .ref (mr 14), .ref (mr 15), .ref (mr 16), .ref (mr 17), .ref (mr 18), .ref (mr 19), .ref (mr 20), .int (nI nse), .int (nI npa), .int (nI nbo), .ref (mr 21), .int (nI tn), .ref (mr 22), .int (nI ik), .int (j0), .int (j1), .ref (mr 23), .int (j2), .ref (mr 24), .ref (mr 25), .int (j3), .ref (mr 26), .int (j4), .ref (mr 27), .ref (mr 28), .ref (mr 29), .ref (mr 30)])), (mr 4, .inl (cy 1, 1440, .inl (fun k => nI (by9 k))))])) := by
  refine xMet_of (cc := cX10_form) (maxL := 7) (ret := (some .int)) (by decide) rfl (Nat.le_of_ble_eq_true rfl) (fun p e s m args below meth c A R Q hA hR hQ C hr hnm hro hX => ?_)
  have hw0 : Jvm.Cond.constantLong RX10 245 (-9223372036854775808) ∈ wsX10_form := by decide +kernel
  have hw1 : Jvm.Cond.constantLong RX10 241 (6) ∈ wsX10_form := by decide +kernel
  have hw2 : Jvm.Cond.constantLong RX10 243 (3) ∈ wsX10_form := by decide +kernel
  have hw3 : ∀ w ∈ u_ws RX10 TX10 47, w ∈ wsX10_form := by decide +kernel
  have hw4 : Cond.fieldLink RX10 31 (TX10 8).1 (TX10 8).2.1 (TX10 8).2.2.1 ∈ wsX10_form := by decide +kernel
  refine x_L (L' := [(0, .ref mo), (1, .int (nI fr)), (2, .int (nI to))]) [0, 1, 2] rfl ?_
  refine x_iload_n C dX10_form_0 (q := 1) rfl rfl 1 rfl ?_
  refine x_iload_n C dX10_form_1 (q := 2) rfl rfl 2 rfl ?_
  refine x_icmp_ne C (tgt := 7) dX10_form_2 (by decide) (q := 5) rfl (a := ((fr : Nat) : Int)) (b := ((to : Nat) : Int)) (nI_toInt (by omega)) (nI_toInt (by omega)) (fun h1 => ?_) (fun h1 => ?_)
  · first
    | (exfalso; omega)
    |
      have hb0 := hb 0 (by omega)
      rw [Nat.add_zero] at hb0
      have hf01 := frB_01 b
      have cut25 : ∀ (at9 : Nat), (at9 = fr + frB b) → (frB b ≤ len) → (¬ len = 0) → xG p l e R s m args below meth c Q D A 7 [(mo, .inr (9, [.int (nI cols), .int (nI lc), .int (nI smp), .int (ky), .ref (mr 0), .ref (mr 1), .ref (mr 2), .ref (mr 3), .ref (mr 4), .ref (mr 5), .ref (mr 6), .ref (mr 7), .ref (mr 8), .ref (mr 9), .int (nI mk), .int (nI rs), .ref (mr 10), .ref (mr 11), .ref (mr 12), .ref (mr 13), .ref (mr 14), .ref (mr 15), .ref (mr 16), .ref (mr 17), .ref (mr 18), .ref (mr 19), .ref (mr 20), .int (nI nse), .int (nI npa), .int (nI nbo), .ref (mr 21), .int (nI tn), .ref (mr 22), .int (nI ik), .int (j0), .int (j1), .ref (mr 23), .int (j2), .ref (mr 24), .ref (mr 25), .int (j3), .ref (mr 26), .int (j4), .ref (mr 27), .ref (mr 28), .ref (mr 29), .ref (mr 30)])), (mr 4, .inl (cy 1, 1440, .inl (fun k => nI (by9 k))))] 0 0 25 [(0, .ref mo), (1, .int (nI fr)), (2, .int (nI to))] [.int (nI at9)] := by
        intro at9 hat hfb h0
        refine x_istore_n C (L' := [(3, .int (nI at9)), (0, .ref mo), (1, .int (nI fr)), (2, .int (nI to))]) dX10_form_25 (q := 26) rfl rfl (by decide) rfl ?_
        have cut114 : (formS b len = if dateS b len then 3 else 4) → xG p l e R s m args below meth c Q D A 7 [(mo, .inr (9, [.int (nI cols), .int (nI lc), .int (nI smp), .int (ky), .ref (mr 0), .ref (mr 1), .ref (mr 2), .ref (mr 3), .ref (mr 4), .ref (mr 5), .ref (mr 6), .ref (mr 7), .ref (mr 8), .ref (mr 9), .int (nI mk), .int (nI rs), .ref (mr 10), .ref (mr 11), .ref (mr 12), .ref (mr 13), .ref (mr 14), .ref (mr 15), .ref (mr 16), .ref (mr 17), .ref (mr 18), .ref (mr 19), .ref (mr 20), .int (nI nse), .int (nI npa), .int (nI nbo), .ref (mr 21), .int (nI tn), .ref (mr 22), .int (nI ik), .int (j0), .int (j1), .ref (mr 23), .int (j2), .ref (mr 24), .ref (mr 25), .int (j3), .ref (mr 26), .int (j4), .ref (mr 27), .ref (mr 28), .ref (mr 29), .ref (mr 30)])), (mr 4, .inl (cy 1, 1440, .inl (fun k => nI (by9 k))))] 0 0 114 [(0, .ref mo), (1, .int (nI fr)), (2, .int (nI to))] [] := by
          intro  hn
          refine x_iload_n C dX10_form_114 (q := 115) rfl rfl 2 rfl ?_
          refine x_iload_n C dX10_form_115 (q := 116) rfl rfl 1 rfl ?_
          refine x_isub C dX10_form_116 (q := 117) rfl (z := nI (to - fr)) (xi_subN (by omega) (by omega)) ?_
          refine x_bipush C dX10_form_117 (q := 119) rfl (v := nI 10) (by decide) ?_
          refine x_icmp_ne C (tgt := 138) dX10_form_119 (by decide) (q := 122) rfl (a := ((to - fr : Nat) : Int)) (b := 10) (nI_toInt (by omega)) rfl (fun h2 => ?_) (fun h2 => ?_)
          · first
            | (exfalso; omega)
            |
              refine x_iconst C dX10_form_138 (q := 139) rfl (v := nI 4) (by decide) ?_
              refine x_iret C hA hQ hr dX10_form_139 (Nat.le_of_ble_eq_true rfl) ?_
              exact ⟨by rw [hn, if_neg (fun z => by first | exact hdt9 z.2 | (have z1 := z.1; omega))], rfl⟩
          · first
            | (exfalso; omega)
            |
              refine x_aload_n C dX10_form_122 (q := 123) rfl rfl 0 rfl ?_
              refine x_iload_n C dX10_form_123 (q := 124) rfl rfl 1 rfl ?_
              refine x_callV C (roW := []) (roR := []) (c_X10_day l D cy mo mr cols lc smp mk rs nse npa nbo tn ik ky j0 j1 j2 j3 j4 by9 fr b (by assumption) (by first | assumption | omega | (simp only []; omega)) (by exact fun j hj => hb j (by omega))) (cwV 1 C.2.2.2.2.1 gX10_form_X10_day rfl rfl rfl (by decide +kernel) (by rw [hR]; exact ⟨Nat.le_of_ble_eq_true rfl, Nat.le_of_ble_eq_true rfl⟩)) [0, 1] [] rfl (by decide) rfl (by decide) xro_nil (List.mem_of_getElem? (i := 0) rfl) (ci := 9) rfl xT_bl (fun _ _ _ _ _ _ _ => trivial) rfl rfl dX10_form_124 rfl rfl (Nat.le_of_ble_eq_true rfl) (q := 127) rfl (k' := 0) rfl (n' := 0) rfl (by rw [hR]; exact ⟨Nat.le_of_ble_eq_true rfl, Nat.le_of_ble_eq_true rfl⟩) (fun v3 w3 hp3 => ?_)
              rcases hp3 with hp3 | hp3
              · skip
                obtain ⟨rfl, rfl, hc4, hc5, hc6⟩ := hp3
                refine x_ws (ws' := [(mo, .inr (9, [.int (nI cols), .int (nI lc), .int (nI smp), .int (ky), .ref (mr 0), .ref (mr 1), .ref (mr 2), .ref (mr 3), .ref (mr 4), .ref (mr 5), .ref (mr 6), .ref (mr 7), .ref (mr 8), .ref (mr 9), .int (nI mk), .int (nI rs), .ref (mr 10), .ref (mr 11), .ref (mr 12), .ref (mr 13), .ref (mr 14), .ref (mr 15), .ref (mr 16), .ref (mr 17), .ref (mr 18), .ref (mr 19), .ref (mr 20), .int (nI nse), .int (nI npa), .int (nI nbo), .ref (mr 21), .int (nI tn), .ref (mr 22), .int (nI ik), .int (j0), .int (j1), .ref (mr 23), .int (j2), .ref (mr 24), .ref (mr 25), .int (j3), .ref (mr 26), .int (j4), .ref (mr 27), .ref (mr 28), .ref (mr 29), .ref (mr 30)])), (mr 4, .inl (cy 1, 1440, .inl (fun k => nI (by9 k))))]) rfl ?_
                have hod := xl_of hc5 hc6
                have hdt9 : dtC b := hc4
                refine x_ldc2 C (v := (-9223372036854775808)) hw0 dX10_form_127 (q := 130) rfl ?_
                refine x_lcmp_eq C (tgt := 138) dX10_form_130 dX10_form_131 (by decide) (q := 134) rfl (a := ((Int64.ofInt (dayS b))).toInt) (b := (-9223372036854775808)) rfl rfl (fun h7 => ?_) (fun h7 => ?_)
                · first
                  | (exfalso; omega)
                  |
                    refine x_iconst C dX10_form_138 (q := 139) rfl (v := nI 4) (by decide) ?_
                    refine x_iret C hA hQ hr dX10_form_139 (Nat.le_of_ble_eq_true rfl) ?_
                    exact ⟨by rw [hn, if_neg (fun z => by first | exact hdt9 z.2 | (have z1 := z.1; omega))], rfl⟩
                · first
                  | (exfalso; omega)
                  |
                    refine x_iconst C dX10_form_134 (q := 135) rfl (v := nI 3) (by decide) ?_
                    refine x_goto C (tgt := 139) dX10_form_135 (by decide) ?_
                    refine x_iret C hA hQ hr dX10_form_139 (Nat.le_of_ble_eq_true rfl) ?_
                    exact ⟨by rw [hn, if_pos ⟨by omega, hdt9⟩], rfl⟩
              · skip
                obtain ⟨rfl, rfl, hc8⟩ := hp3
                refine x_ws (ws' := [(mo, .inr (9, [.int (nI cols), .int (nI lc), .int (nI smp), .int (ky), .ref (mr 0), .ref (mr 1), .ref (mr 2), .ref (mr 3), .ref (mr 4), .ref (mr 5), .ref (mr 6), .ref (mr 7), .ref (mr 8), .ref (mr 9), .int (nI mk), .int (nI rs), .ref (mr 10), .ref (mr 11), .ref (mr 12), .ref (mr 13), .ref (mr 14), .ref (mr 15), .ref (mr 16), .ref (mr 17), .ref (mr 18), .ref (mr 19), .ref (mr 20), .int (nI nse), .int (nI npa), .int (nI nbo), .ref (mr 21), .int (nI tn), .ref (mr 22), .int (nI ik), .int (j0), .int (j1), .ref (mr 23), .int (j2), .ref (mr 24), .ref (mr 25), .int (j3), .ref (mr 26), .int (j4), .ref (mr 27), .ref (mr 28), .ref (mr 29), .ref (mr 30)])), (mr 4, .inl (cy 1, 1440, .inl (fun k => nI (by9 k))))]) rfl ?_
                have hdt9 : ¬ dtC b := hc8
                refine x_ldc2 C (v := (-9223372036854775808)) hw0 dX10_form_127 (q := 130) rfl ?_
                refine x_lcmp_eq C (tgt := 138) dX10_form_130 dX10_form_131 (by decide) (q := 134) rfl (a := (-9223372036854775808)) (b := (-9223372036854775808)) rfl rfl (fun h9 => ?_) (fun h9 => ?_)
                · first
                  | (exfalso; omega)
                  |
                    refine x_iconst C dX10_form_138 (q := 139) rfl (v := nI 4) (by decide) ?_
                    refine x_iret C hA hQ hr dX10_form_139 (Nat.le_of_ble_eq_true rfl) ?_
                    exact ⟨by rw [hn, if_neg (fun z => by first | exact hdt9 z.2 | (have z1 := z.1; omega))], rfl⟩
                · first
                  | (exfalso; omega)
                  |
                    refine x_iconst C dX10_form_134 (q := 135) rfl (v := nI 3) (by decide) ?_
                    refine x_goto C (tgt := 139) dX10_form_135 (by decide) ?_
                    refine x_iret C hA hQ hr dX10_form_139 (Nat.le_of_ble_eq_true rfl) ?_
                    exact ⟨by rw [hn, if_pos ⟨by omega, hdt9⟩], rfl⟩
        refine x_aload_n C dX10_form_26 (q := 27) rfl rfl 1 rfl ?_
        refine x_iload_n C dX10_form_27 (q := 28) rfl rfl 0 rfl ?_
        refine x_iload_n C dX10_form_28 (q := 29) rfl rfl 3 rfl ?_
        refine x_callV C (roW := []) (roR := []) (c_X10_digits l D cy mo mr cols lc smp mk rs nse npa nbo tn ik ky j0 j1 j2 j3 j4 by9 at9 to (by assumption) (by first | assumption | omega | (simp only []; omega)) (by first | assumption | omega | (simp only []; omega))) (cwV 2 C.2.2.2.2.1 gX10_form_X10_digits rfl rfl rfl (by decide +kernel) (by rw [hR]; exact ⟨Nat.le_of_ble_eq_true rfl, Nat.le_of_ble_eq_true rfl⟩)) [0, 1] [] rfl (by decide) rfl (by decide) xro_nil (List.mem_of_getElem? (i := 0) rfl) (ci := 9) rfl xT_bl (fun _ _ _ _ _ _ _ => trivial) rfl rfl dX10_form_29 rfl rfl (Nat.le_of_ble_eq_true rfl) (q := 32) rfl (k' := 0) rfl (n' := 0) rfl (by rw [hR]; exact ⟨Nat.le_of_ble_eq_true rfl, Nat.le_of_ble_eq_true rfl⟩) (fun v10 w10 hp10 => ?_)
        obtain ⟨rfl, rfl⟩ := hp10
        refine x_ws (ws' := [(mo, .inr (9, [.int (nI cols), .int (nI lc), .int (nI smp), .int (ky), .ref (mr 0), .ref (mr 1), .ref (mr 2), .ref (mr 3), .ref (mr 4), .ref (mr 5), .ref (mr 6), .ref (mr 7), .ref (mr 8), .ref (mr 9), .int (nI mk), .int (nI rs), .ref (mr 10), .ref (mr 11), .ref (mr 12), .ref (mr 13), .ref (mr 14), .ref (mr 15), .ref (mr 16), .ref (mr 17), .ref (mr 18), .ref (mr 19), .ref (mr 20), .int (nI nse), .int (nI npa), .int (nI nbo), .ref (mr 21), .int (nI tn), .ref (mr 22), .int (nI ik), .int (j0), .int (j1), .ref (mr 23), .int (j2), .ref (mr 24), .ref (mr 25), .int (j3), .ref (mr 26), .int (j4), .ref (mr 27), .ref (mr 28), .ref (mr 29), .ref (mr 30)])), (mr 4, .inl (cy 1, 1440, .inl (fun k => nI (by9 k))))]) rfl ?_
        have hdg : dgs by9 to at9 = dgs b len (frB b) := (by rw [hto, hat]; exact dgs_shift (b := by9) (c := b) fr (to := len) (k := frB b) (fun j _ hj => hb j hj))
        have hdl9 := dgs_le b len (frB b)
        have hbd : frB b + dgs b len (frB b) < len → by9 (at9 + dgs by9 to at9) = b (frB b + dgs b len (frB b)) := fun h => (by rw [hdg, hat, Nat.add_assoc]; exact hb _ h)
        refine x_istore C (L' := [(4, .int (nI (dgs by9 to at9))), (3, .int (nI at9)), (0, .ref mo), (1, .int (nI fr)), (2, .int (nI to))]) dX10_form_32 (q := 34) rfl (by decide) rfl ?_
        refine x_iload C dX10_form_34 (q := 36) rfl 0 rfl ?_
        refine x_i2l C dX10_form_36 (q := 37) rfl (v := lN (dgs by9 to at9)) (nI_l (by omega)) ?_
        refine x_lconst C dX10_form_37 (q := 38) rfl (v := lN 1) rfl ?_
        refine x_ldc2 C (v := lN 6) hw1 dX10_form_38 (q := 41) rfl ?_
        refine x_callS C (roW := []) (roR := []) (c_X10_in l D cy (lN (dgs by9 to at9)) (lN 1) (lN 6) (((dgs by9 to at9 : Nat) : Int)) 1 6 (pk_lT (by omega)) rfl rfl) (cwS 3 C.2.2.2.2.1 gX10_form_X10_in rfl rfl rfl (by decide +kernel) (by rw [hR]; exact ⟨Nat.le_of_ble_eq_true rfl, Nat.le_of_ble_eq_true rfl⟩)) [] [] rfl (by decide) rfl (by decide) xro_nil xT_bl (fun _ _ _ _ _ _ _ => trivial) rfl rfl dX10_form_41 rfl rfl (Nat.le_of_ble_eq_true rfl) (q := 44) rfl (k' := 0) rfl (n' := 0) rfl (by rw [hR]; exact ⟨Nat.le_of_ble_eq_true rfl, Nat.le_of_ble_eq_true rfl⟩) (fun v11 w11 hp11 => ?_)
        rcases hp11 with hp11 | hp11
        · skip
          obtain ⟨rfl, rfl, hc12, hc13⟩ := hp11
          refine x_ws (ws' := [(mo, .inr (9, [.int (nI cols), .int (nI lc), .int (nI smp), .int (ky), .ref (mr 0), .ref (mr 1), .ref (mr 2), .ref (mr 3), .ref (mr 4), .ref (mr 5), .ref (mr 6), .ref (mr 7), .ref (mr 8), .ref (mr 9), .int (nI mk), .int (nI rs), .ref (mr 10), .ref (mr 11), .ref (mr 12), .ref (mr 13), .ref (mr 14), .ref (mr 15), .ref (mr 16), .ref (mr 17), .ref (mr 18), .ref (mr 19), .ref (mr 20), .int (nI nse), .int (nI npa), .int (nI nbo), .ref (mr 21), .int (nI tn), .ref (mr 22), .int (nI ik), .int (j0), .int (j1), .ref (mr 23), .int (j2), .ref (mr 24), .ref (mr 25), .int (j3), .ref (mr 26), .int (j4), .ref (mr 27), .ref (mr 28), .ref (mr 29), .ref (mr 30)])), (mr 4, .inl (cy 1, 1440, .inl (fun k => nI (by9 k))))]) (List.append_nil _) ?_
          refine x_if_eq C (tgt := 114) dX10_form_44 (by decide) (q := 47) rfl (a := 1) rfl (fun h14 => (by omega : False).elim) (fun h14 => ?_)
          have cut86 : ∀ (bh : Nat), ((b (frB b + dgs b len (frB b)) = 46 ∧ bh = dgs b len (frB b + dgs b len (frB b) + 1)) ∨ (¬ b (frB b + dgs b len (frB b)) = 46 ∧ bh = 0)) → (bh ≤ 1440) → (¬ frB b + dgs b len (frB b) = len) → xG p l e R s m args below meth c Q D A 7 [(mo, .inr (9, [.int (nI cols), .int (nI lc), .int (nI smp), .int (ky), .ref (mr 0), .ref (mr 1), .ref (mr 2), .ref (mr 3), .ref (mr 4), .ref (mr 5), .ref (mr 6), .ref (mr 7), .ref (mr 8), .ref (mr 9), .int (nI mk), .int (nI rs), .ref (mr 10), .ref (mr 11), .ref (mr 12), .ref (mr 13), .ref (mr 14), .ref (mr 15), .ref (mr 16), .ref (mr 17), .ref (mr 18), .ref (mr 19), .ref (mr 20), .int (nI nse), .int (nI npa), .int (nI nbo), .ref (mr 21), .int (nI tn), .ref (mr 22), .int (nI ik), .int (j0), .int (j1), .ref (mr 23), .int (j2), .ref (mr 24), .ref (mr 25), .int (j3), .ref (mr 26), .int (j4), .ref (mr 27), .ref (mr 28), .ref (mr 29), .ref (mr 30)])), (mr 4, .inl (cy 1, 1440, .inl (fun k => nI (by9 k))))] 0 0 86 [(0, .ref mo), (1, .int (nI fr)), (2, .int (nI to)), (5, .int (nI (at9 + (dgs by9 to at9))))] [.int (nI bh)] := by
            intro bh hbh hbl hne
            refine x_istore C (L' := [(6, .int (nI bh)), (0, .ref mo), (1, .int (nI fr)), (2, .int (nI to)), (5, .int (nI (at9 + (dgs by9 to at9))))]) dX10_form_86 (q := 88) rfl (by decide) rfl ?_
            refine x_iload C dX10_form_88 (q := 90) rfl 0 rfl ?_
            refine x_i2l C dX10_form_90 (q := 91) rfl (v := lN bh) (nI_l (by omega)) ?_
            refine x_lconst C dX10_form_91 (q := 92) rfl (v := lN 1) rfl ?_
            refine x_ldc2 C (v := lN 3) hw2 dX10_form_92 (q := 95) rfl ?_
            refine x_callS C (roW := []) (roR := []) (c_X10_in l D cy (lN bh) (lN 1) (lN 3) (((bh : Nat) : Int)) 1 3 (pk_lT (by omega)) rfl rfl) (cwS 3 C.2.2.2.2.1 gX10_form_X10_in rfl rfl rfl (by decide +kernel) (by rw [hR]; exact ⟨Nat.le_of_ble_eq_true rfl, Nat.le_of_ble_eq_true rfl⟩)) [] [] rfl (by decide) rfl (by decide) xro_nil xT_bl (fun _ _ _ _ _ _ _ => trivial) rfl rfl dX10_form_95 rfl rfl (Nat.le_of_ble_eq_true rfl) (q := 98) rfl (k' := 0) rfl (n' := 0) rfl (by rw [hR]; exact ⟨Nat.le_of_ble_eq_true rfl, Nat.le_of_ble_eq_true rfl⟩) (fun v15 w15 hp15 => ?_)
            rcases hp15 with hp15 | hp15
            · skip
              obtain ⟨rfl, rfl, hc16, hc17⟩ := hp15
              refine x_ws (ws' := [(mo, .inr (9, [.int (nI cols), .int (nI lc), .int (nI smp), .int (ky), .ref (mr 0), .ref (mr 1), .ref (mr 2), .ref (mr 3), .ref (mr 4), .ref (mr 5), .ref (mr 6), .ref (mr 7), .ref (mr 8), .ref (mr 9), .int (nI mk), .int (nI rs), .ref (mr 10), .ref (mr 11), .ref (mr 12), .ref (mr 13), .ref (mr 14), .ref (mr 15), .ref (mr 16), .ref (mr 17), .ref (mr 18), .ref (mr 19), .ref (mr 20), .int (nI nse), .int (nI npa), .int (nI nbo), .ref (mr 21), .int (nI tn), .ref (mr 22), .int (nI ik), .int (j0), .int (j1), .ref (mr 23), .int (j2), .ref (mr 24), .ref (mr 25), .int (j3), .ref (mr 26), .int (j4), .ref (mr 27), .ref (mr 28), .ref (mr 29), .ref (mr 30)])), (mr 4, .inl (cy 1, 1440, .inl (fun k => nI (by9 k))))]) (List.append_nil _) ?_
              refine x_if_eq C (tgt := 114) dX10_form_98 (by decide) (q := 101) rfl (a := 1) rfl (fun h18 => (by omega : False).elim) (fun h18 => ?_)
              refine x_iload C dX10_form_101 (q := 103) rfl 4 rfl ?_
              refine x_iconst C dX10_form_103 (q := 104) rfl (v := nI 1) (by decide) ?_
              refine x_iadd C dX10_form_104 (q := 105) rfl (z := nI (at9 + (dgs by9 to at9) + 1)) (nI_add (at9 + (dgs by9 to at9)) 1) ?_
              refine x_iload C dX10_form_105 (q := 107) rfl 0 rfl ?_
              refine x_iadd C dX10_form_107 (q := 108) rfl (z := nI (at9 + (dgs by9 to at9) + 1 + bh)) (nI_add (at9 + (dgs by9 to at9) + 1) bh) ?_
              refine x_iload_n C dX10_form_108 (q := 109) rfl rfl 3 rfl ?_
              refine x_icmp_ne C (tgt := 114) dX10_form_109 (by decide) (q := 112) rfl (a := ((at9 + (dgs by9 to at9) + 1 + bh : Nat) : Int)) (b := ((to : Nat) : Int)) (nI_toInt (by omega)) (nI_toInt (by omega)) (fun h19 => ?_) (fun h19 => ?_)
              · first
                | (exfalso; omega)
                |
                  refine x_L (L' := [(0, .ref mo), (1, .int (nI fr)), (2, .int (nI to))]) [1, 2, 3] rfl ?_
                  exact cut114  (by exact formS_34 rfl (by omega) (by omega) (by unfold fracS; omega))
              · first
                | (exfalso; omega)
                |
                  refine x_iconst C dX10_form_112 (q := 113) rfl (v := nI 2) (by decide) ?_
                  refine x_iret C hA hQ hr dX10_form_113 (Nat.le_of_ble_eq_true rfl) ?_
                  exact ⟨by rw [formS_2 rfl (by omega) (by omega) (by omega) (by omega) (by omega) ⟨by omega, by omega, by omega⟩], rfl⟩
            · skip
              obtain ⟨rfl, rfl, hc20⟩ := hp15
              refine x_ws (ws' := [(mo, .inr (9, [.int (nI cols), .int (nI lc), .int (nI smp), .int (ky), .ref (mr 0), .ref (mr 1), .ref (mr 2), .ref (mr 3), .ref (mr 4), .ref (mr 5), .ref (mr 6), .ref (mr 7), .ref (mr 8), .ref (mr 9), .int (nI mk), .int (nI rs), .ref (mr 10), .ref (mr 11), .ref (mr 12), .ref (mr 13), .ref (mr 14), .ref (mr 15), .ref (mr 16), .ref (mr 17), .ref (mr 18), .ref (mr 19), .ref (mr 20), .int (nI nse), .int (nI npa), .int (nI nbo), .ref (mr 21), .int (nI tn), .ref (mr 22), .int (nI ik), .int (j0), .int (j1), .ref (mr 23), .int (j2), .ref (mr 24), .ref (mr 25), .int (j3), .ref (mr 26), .int (j4), .ref (mr 27), .ref (mr 28), .ref (mr 29), .ref (mr 30)])), (mr 4, .inl (cy 1, 1440, .inl (fun k => nI (by9 k))))]) (List.append_nil _) ?_
              refine x_if_eq C (tgt := 114) dX10_form_98 (by decide) (q := 101) rfl (a := 0) rfl (fun h21 => ?_) (fun h21 => (by omega : False).elim)
              refine x_L (L' := [(0, .ref mo), (1, .int (nI fr)), (2, .int (nI to))]) [1, 2, 3] rfl ?_
              exact cut114  (by exact formS_34 rfl (by omega) (by omega) (by unfold fracS; omega))
          refine x_iload_n C dX10_form_47 (q := 48) rfl rfl 1 rfl ?_
          refine x_iload C dX10_form_48 (q := 50) rfl 0 rfl ?_
          refine x_iadd C dX10_form_50 (q := 51) rfl (z := nI (at9 + (dgs by9 to at9))) (nI_add at9 (dgs by9 to at9)) ?_
          refine x_istore C (L' := [(5, .int (nI (at9 + (dgs by9 to at9)))), (4, .int (nI (dgs by9 to at9))), (3, .int (nI at9)), (0, .ref mo), (1, .int (nI fr)), (2, .int (nI to))]) dX10_form_51 (q := 53) rfl (by decide) rfl ?_
          refine x_iload C dX10_form_53 (q := 55) rfl 0 rfl ?_
          refine x_iload_n C dX10_form_55 (q := 56) rfl rfl 5 rfl ?_
          refine x_icmp_ne C (tgt := 61) dX10_form_56 (by decide) (q := 59) rfl (a := ((at9 + (dgs by9 to at9) : Nat) : Int)) (b := ((to : Nat) : Int)) (nI_toInt (by omega)) (nI_toInt (by omega)) (fun h22 => ?_) (fun h22 => ?_)
          · first
            | (exfalso; omega)
            |
              refine x_aload_n C dX10_form_61 (q := 62) rfl rfl 3 rfl ?_
              refine x_get C (ci := 9) (v := .ref (mr 4)) hw3 0 rfl rfl 8 (by decide) hw4 rfl dX10_form_62 (q := 65) rfl ?_
              refine x_iload C dX10_form_65 (q := 67) rfl 0 rfl ?_
              have hb23 := hby (at9 + (dgs by9 to at9))
              refine x_iald C (j := at9 + (dgs by9 to at9)) (v := nI (by9 (at9 + (dgs by9 to at9)))) 1 rfl (nI_toInt (by omega)) (by omega) rfl dX10_form_67 (q := 68) rfl ?_
              refine x_bipush C dX10_form_68 (q := 70) rfl (v := nI 46) (by decide) ?_
              refine x_icmp_ne C (tgt := 85) dX10_form_70 (by decide) (q := 73) rfl (a := ((by9 (at9 + (dgs by9 to at9)) : Nat) : Int)) (b := 46) (nI_toInt (by omega)) rfl (fun h24 => ?_) (fun h24 => ?_)
              · first
                | (exfalso; omega)
                |
                  refine x_iconst C dX10_form_85 (q := 86) rfl (v := nI 0) (by decide) ?_
                  refine x_L (L' := [(0, .ref mo), (1, .int (nI fr)), (2, .int (nI to)), (5, .int (nI (at9 + (dgs by9 to at9))))]) [3, 4, 5, 0] rfl ?_
                  exact cut86 0 (by omega) (by omega) (by omega)
              · first
                | (exfalso; omega)
                |
                  refine x_aload_n C dX10_form_73 (q := 74) rfl rfl 3 rfl ?_
                  refine x_iload C dX10_form_74 (q := 76) rfl 0 rfl ?_
                  refine x_iconst C dX10_form_76 (q := 77) rfl (v := nI 1) (by decide) ?_
                  refine x_iadd C dX10_form_77 (q := 78) rfl (z := nI (at9 + (dgs by9 to at9) + 1)) (nI_add (at9 + (dgs by9 to at9)) 1) ?_
                  refine x_iload_n C dX10_form_78 (q := 79) rfl rfl 5 rfl ?_
                  refine x_callV C (roW := []) (roR := []) (c_X10_digits l D cy mo mr cols lc smp mk rs nse npa nbo tn ik ky j0 j1 j2 j3 j4 by9 (at9 + (dgs by9 to at9) + 1) to (by assumption) (by first | assumption | omega | (simp only []; omega)) (by first | assumption | omega | (simp only []; omega))) (cwV 2 C.2.2.2.2.1 gX10_form_X10_digits rfl rfl rfl (by decide +kernel) (by rw [hR]; exact ⟨Nat.le_of_ble_eq_true rfl, Nat.le_of_ble_eq_true rfl⟩)) [0, 1] [] rfl (by decide) rfl (by decide) xro_nil (List.mem_of_getElem? (i := 0) rfl) (ci := 9) rfl xT_bl (fun _ _ _ _ _ _ _ => trivial) rfl rfl dX10_form_79 rfl rfl (Nat.le_of_ble_eq_true rfl) (q := 82) rfl (k' := 0) rfl (n' := 0) rfl (by rw [hR]; exact ⟨Nat.le_of_ble_eq_true rfl, Nat.le_of_ble_eq_true rfl⟩) (fun v25 w25 hp25 => ?_)
                  obtain ⟨rfl, rfl⟩ := hp25
                  refine x_ws (ws' := [(mo, .inr (9, [.int (nI cols), .int (nI lc), .int (nI smp), .int (ky), .ref (mr 0), .ref (mr 1), .ref (mr 2), .ref (mr 3), .ref (mr 4), .ref (mr 5), .ref (mr 6), .ref (mr 7), .ref (mr 8), .ref (mr 9), .int (nI mk), .int (nI rs), .ref (mr 10), .ref (mr 11), .ref (mr 12), .ref (mr 13), .ref (mr 14), .ref (mr 15), .ref (mr 16), .ref (mr 17), .ref (mr 18), .ref (mr 19), .ref (mr 20), .int (nI nse), .int (nI npa), .int (nI nbo), .ref (mr 21), .int (nI tn), .ref (mr 22), .int (nI ik), .int (j0), .int (j1), .ref (mr 23), .int (j2), .ref (mr 24), .ref (mr 25), .int (j3), .ref (mr 26), .int (j4), .ref (mr 27), .ref (mr 28), .ref (mr 29), .ref (mr 30)])), (mr 4, .inl (cy 1, 1440, .inl (fun k => nI (by9 k))))]) rfl ?_
                  have hdg2 : dgs by9 to (at9 + dgs by9 to at9 + 1) = dgs b len (frB b + dgs b len (frB b) + 1) := (by rw [hdg, hto, hat, show fr + frB b + dgs b len (frB b) + 1 = fr + (frB b + dgs b len (frB b) + 1) by omega]; exact dgs_shift (b := by9) (c := b) fr (to := len) (k := frB b + dgs b len (frB b) + 1) (fun j _ hj => hb j hj))
                  have hdl8 := dgs_le b len (frB b + dgs b len (frB b) + 1)
                  refine x_goto C (tgt := 86) dX10_form_82 (by decide) ?_
                  refine x_L (L' := [(0, .ref mo), (1, .int (nI fr)), (2, .int (nI to)), (5, .int (nI (at9 + (dgs by9 to at9))))]) [3, 4, 5, 0] rfl ?_
                  exact cut86 (dgs by9 to (at9 + (dgs by9 to at9) + 1)) (by omega) (by omega) (by omega)
          · first
            | (exfalso; omega)
            |
              refine x_iconst C dX10_form_59 (q := 60) rfl (v := nI 1) (by decide) ?_
              refine x_iret C hA hQ hr dX10_form_60 (Nat.le_of_ble_eq_true rfl) ?_
              exact ⟨by rw [formS_1 rfl (by omega) (by omega) (by omega) (by omega)], rfl⟩
        · skip
          obtain ⟨rfl, rfl, hc26⟩ := hp11
          refine x_ws (ws' := [(mo, .inr (9, [.int (nI cols), .int (nI lc), .int (nI smp), .int (ky), .ref (mr 0), .ref (mr 1), .ref (mr 2), .ref (mr 3), .ref (mr 4), .ref (mr 5), .ref (mr 6), .ref (mr 7), .ref (mr 8), .ref (mr 9), .int (nI mk), .int (nI rs), .ref (mr 10), .ref (mr 11), .ref (mr 12), .ref (mr 13), .ref (mr 14), .ref (mr 15), .ref (mr 16), .ref (mr 17), .ref (mr 18), .ref (mr 19), .ref (mr 20), .int (nI nse), .int (nI npa), .int (nI nbo), .ref (mr 21), .int (nI tn), .ref (mr 22), .int (nI ik), .int (j0), .int (j1), .ref (mr 23), .int (j2), .ref (mr 24), .ref (mr 25), .int (j3), .ref (mr 26), .int (j4), .ref (mr 27), .ref (mr 28), .ref (mr 29), .ref (mr 30)])), (mr 4, .inl (cy 1, 1440, .inl (fun k => nI (by9 k))))]) (List.append_nil _) ?_
          refine x_if_eq C (tgt := 114) dX10_form_44 (by decide) (q := 47) rfl (a := 0) rfl (fun h27 => ?_) (fun h27 => (by omega : False).elim)
          refine x_L (L' := [(0, .ref mo), (1, .int (nI fr)), (2, .int (nI to))]) [2, 3, 4] rfl ?_
          exact cut114  (by exact formS_34 rfl (by omega) (by omega) (by unfold fracS; omega))
      refine x_aload_n C dX10_form_7 (q := 8) rfl rfl 0 rfl ?_
      refine x_get C (ci := 9) (v := .ref (mr 4)) hw3 0 rfl rfl 8 (by decide) hw4 rfl dX10_form_8 (q := 11) rfl ?_
      refine x_iload_n C dX10_form_11 (q := 12) rfl rfl 1 rfl ?_
      have hb28 := hby fr
      refine x_iald C (j := fr) (v := nI (by9 fr)) 1 rfl (nI_toInt (by omega)) (by omega) rfl dX10_form_12 (q := 13) rfl ?_
      refine x_bipush C dX10_form_13 (q := 15) rfl (v := nI 45) (by decide) ?_
      refine x_icmp_ne C (tgt := 24) dX10_form_15 (by decide) (q := 18) rfl (a := ((by9 fr : Nat) : Int)) (b := 45) (nI_toInt (by omega)) rfl (fun h29 => ?_) (fun h29 => ?_)
      · first
        | (exfalso; omega)
        |
          refine x_iload_n C dX10_form_24 (q := 25) rfl rfl 1 rfl ?_
          exact cut25 fr (by omega) (by omega) (by first | omega | assumption)
      · first
        | (exfalso; omega)
        |
          refine x_iload_n C dX10_form_18 (q := 19) rfl rfl 1 rfl ?_
          refine x_iconst C dX10_form_19 (q := 20) rfl (v := nI 1) (by decide) ?_
          refine x_iadd C dX10_form_20 (q := 21) rfl (z := nI (fr + 1)) (nI_add fr 1) ?_
          refine x_goto C (tgt := 25) dX10_form_21 (by decide) ?_
          exact cut25 (fr + 1) (by omega) (by omega) (by first | omega | assumption)
  · first
    | (exfalso; omega)
    |
      refine x_iconst C dX10_form_5 (q := 6) rfl (v := nI 0) (by decide) ?_
      refine x_iret C hA hQ hr dX10_form_6 (Nat.le_of_ble_eq_true rfl) ?_
      exact ⟨by rw [formS_0 (by omega)], rfl⟩
