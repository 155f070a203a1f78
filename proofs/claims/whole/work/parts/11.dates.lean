set_option maxHeartbeats 4000000 in
set_option maxRecDepth 100000 in
/-- String.coder -/
theorem c_J0_coder_7d493 (l : Launch) (D : va_G) (cy : Nat → ClassId) (t0 : Nat) (adK : Nat → Nat) (adV : Nat → Nat) (i : Nat) (hi : i < 2) : xMet l D cy (xZ t0 adK adV) yJ0_coder_7d493 wsJ0_coder_7d493 ({ frames := 1, cells := 0, slots := 0, locals := 0 } : Room) [.ref (adK i)] [] [] (fun (v9 : Option Value) (w9 : va_W) => (v9 = some (.int ((0 : Int32))) ∧ w9 = [])) := by
  refine xMet_of (cc := cJ0_coder_7d493) (maxL := 1) (ret := (some .byte)) (by decide) rfl (Nat.le_of_ble_eq_true rfl) (fun p e s m args below meth c A R Q hA hR hQ C hr hnm hro hX => ?_)
  have hw0 : Cond.fieldLink RJ0 38 "java/lang/String" "COMPACT_STRINGS" "Z" ∈ wsJ0_coder_7d493 := by decide +kernel
  have hw1 : Cond.fieldLink RJ0 15 "java/lang/String" "coder" "B" ∈ wsJ0_coder_7d493 := by decide +kernel
  refine x_L (L' := [(0, .ref (adK i))]) [0] rfl ?_
  refine x_gets C hX.2.2.2.2.2.1 hw0 dJ0_coder_7d493_0 (q := 3) rfl ?_
  refine x_if_eq C (tgt := 13) dJ0_coder_7d493_3 (by decide) (q := 6) rfl (a := 1) rfl (fun h1 => (by omega : False).elim) (fun h1 => ?_)
  refine x_aload_n C dJ0_coder_7d493_6 (q := 7) rfl rfl 0 rfl ?_
  refine x_getStr C (v := .int 0) (hX.2.2.1.1 i hi).2.1 hw1 dJ0_coder_7d493_7 (q := 10) rfl ?_
  refine x_goto C (tgt := 14) dJ0_coder_7d493_10 (by decide) ?_
  refine x_zret C hA hQ hr (ty := .byte) (by first | rfl | assumption | exact xz_nar _) dJ0_coder_7d493_14 (Nat.le_of_ble_eq_true rfl) ?_
  first | exact ⟨rfl, rfl⟩ | exact ⟨_, rfl, rfl, by first | rfl | omega | assumption⟩ | (refine ⟨_, rfl, rfl, ?_⟩; (first | rfl | omega | (simp only []; omega)))

set_option maxHeartbeats 4000000 in
set_option maxRecDepth 100000 in
/-- String.isLatin1 -/
theorem c_J0_isLatin1_aae02 (l : Launch) (D : va_G) (cy : Nat → ClassId) (t0 : Nat) (adK : Nat → Nat) (adV : Nat → Nat) (i : Nat) (hi : i < 2) : xMet l D cy (xZ t0 adK adV) yJ0_isLatin1_aae02 wsJ0_isLatin1_aae02 ({ frames := 1, cells := 0, slots := 0, locals := 0 } : Room) [.ref (adK i)] [] [] (fun (v9 : Option Value) (w9 : va_W) => (v9 = some (.int (nI 1)) ∧ w9 = [])) := by
  refine xMet_of (cc := cJ0_isLatin1_aae02) (maxL := 1) (ret := (some .boolean)) (by decide) rfl (Nat.le_of_ble_eq_true rfl) (fun p e s m args below meth c A R Q hA hR hQ C hr hnm hro hX => ?_)
  have hw0 : Cond.fieldLink RJ0 38 "java/lang/String" "COMPACT_STRINGS" "Z" ∈ wsJ0_isLatin1_aae02 := by decide +kernel
  have hw1 : Cond.fieldLink RJ0 15 "java/lang/String" "coder" "B" ∈ wsJ0_isLatin1_aae02 := by decide +kernel
  refine x_L (L' := [(0, .ref (adK i))]) [0] rfl ?_
  refine x_gets C hX.2.2.2.2.2.1 hw0 dJ0_isLatin1_aae02_0 (q := 3) rfl ?_
  refine x_if_eq C (tgt := 17) dJ0_isLatin1_aae02_3 (by decide) (q := 6) rfl (a := 1) rfl (fun h1 => (by omega : False).elim) (fun h1 => ?_)
  refine x_aload_n C dJ0_isLatin1_aae02_6 (q := 7) rfl rfl 0 rfl ?_
  refine x_getStr C (v := .int 0) (hX.2.2.1.1 i hi).2.1 hw1 dJ0_isLatin1_aae02_7 (q := 10) rfl ?_
  refine x_if_ne C (tgt := 17) dJ0_isLatin1_aae02_10 (by decide) (q := 13) rfl (a := 0) rfl (fun h2 => (by omega : False).elim) (fun h2 => ?_)
  refine x_iconst C dJ0_isLatin1_aae02_13 (q := 14) rfl (v := nI 1) (by decide) ?_
  refine x_goto C (tgt := 18) dJ0_isLatin1_aae02_14 (by decide) ?_
  refine x_zret C hA hQ hr (ty := .boolean) (by first | rfl | assumption | exact xz_nar _) dJ0_isLatin1_aae02_18 (Nat.le_of_ble_eq_true rfl) ?_
  first | exact ⟨rfl, rfl⟩ | exact ⟨_, rfl, rfl, by first | rfl | omega | assumption⟩ | (refine ⟨_, rfl, rfl, ?_⟩; (first | rfl | omega | (simp only []; omega)))

set_option maxHeartbeats 4000000 in
set_option maxRecDepth 100000 in
/-- String.length -/
theorem c_J0_length_8abf5 (l : Launch) (D : va_G) (cy : Nat → ClassId) (t0 : Nat) (adK : Nat → Nat) (adV : Nat → Nat) (i : Nat) (hi : i < 2) : xMet l D cy (xZ t0 adK adV) yJ0_length_8abf5 wsJ0_length_8abf5 ({ frames := 2, cells := 0, slots := 0, locals := 200 } : Room) [.ref (adK i)] [] [] (fun (v9 : Option Value) (w9 : va_W) => (v9 = some (.int (nI 10)) ∧ w9 = [])) := by
  refine xMet_of (cc := cJ0_length_8abf5) (maxL := 1) (ret := (some .int)) (by decide) rfl (Nat.le_of_ble_eq_true rfl) (fun p e s m args below meth c A R Q hA hR hQ C hr hnm hro hX => ?_)
  have hw0 : Cond.fieldLink RJ0 9 "java/lang/String" "value" "[B" ∈ wsJ0_length_8abf5 := by decide +kernel
  refine x_L (L' := [(0, .ref (adK i))]) [0] rfl ?_
  refine x_aload_n C dJ0_length_8abf5_0 (q := 1) rfl rfl 0 rfl ?_
  refine x_getStr C (v := .ref (adV i)) (hX.2.2.1.1 i hi).2.2.1 hw0 dJ0_length_8abf5_1 (q := 4) rfl ?_
  have hT9 := (hX.2.2.1.1 i hi).2.2.2
  refine x_tabLen C (v := nI 10) hT9 (by rcases (show i = 0 ∨ i = 1 by omega) with rfl | rfl <;> rfl) dJ0_length_8abf5_4 (q := 5) rfl ?_
  refine x_aload_n C dJ0_length_8abf5_5 (q := 6) rfl rfl 0 rfl ?_
  refine x_callStr C hX (i := i) hi (c_J0_coder_7d493 l D cy t0 adK adV i hi) (cwV 0 C.2.2.2.2.1 gJ0_length_8abf5_J0_coder_7d493 rfl rfl rfl (by decide +kernel) (by rw [hR]; exact ⟨Nat.le_of_ble_eq_true rfl, Nat.le_of_ble_eq_true rfl⟩)) rfl rfl dJ0_length_8abf5_6 rfl rfl (Nat.le_of_ble_eq_true rfl) (q := 9) rfl (by rw [hR]; exact ⟨Nat.le_of_ble_eq_true rfl, Nat.le_of_ble_eq_true rfl⟩) (fun v1 w1 hp1 => ?_)
  obtain ⟨rfl, rfl⟩ := hp1
  refine x_ws (ws' := []) (List.append_nil _) ?_
  refine x_ishr C (z := nI 10) dJ0_length_8abf5_9 (q := 10) rfl (by decide) ?_
  refine x_iret C hA hQ hr dJ0_length_8abf5_10 (Nat.le_of_ble_eq_true rfl) ?_
  first | exact ⟨rfl, rfl⟩ | exact ⟨_, rfl, rfl, by first | rfl | omega | assumption⟩ | (refine ⟨_, rfl, rfl, ?_⟩; (first | rfl | omega | (simp only []; omega)))

set_option maxHeartbeats 4000000 in
set_option maxRecDepth 100000 in
/-- Preconditions.checkIndex, in range -/
theorem c_J3_checkIndex_8e157 (l : Launch) (D : va_G) (cy : Nat → ClassId) (k : Nat) (z : Nat) (hk : k < 10) : xMet l D cy xT yJ3_checkIndex_8e157 wsJ3_checkIndex_8e157 ({ frames := 1, cells := 0, slots := 0, locals := 0 } : Room) [.int (nI k), .int (nI 10), .ref z] [] [] (fun (v9 : Option Value) (w9 : va_W) => (v9 = some (.int (nI k)) ∧ w9 = [])) := by
  refine xMet_of (cc := cJ3_checkIndex_8e157) (maxL := 3) (ret := (some .int)) (by decide) rfl (Nat.le_of_ble_eq_true rfl) (fun p e s m args below meth c A R Q hA hR hQ C hr hnm hro hX => ?_)
  refine x_L (L' := [(0, .int (nI k)), (1, .int (nI 10)), (2, .ref z)]) [0, 1, 2] rfl ?_
  refine x_iload_n C dJ3_checkIndex_8e157_0 (q := 1) rfl rfl 0 rfl ?_
  refine x_if_lt C (tgt := 9) dJ3_checkIndex_8e157_1 (by decide) (q := 4) rfl (a := ((k : Nat) : Int)) (nI_toInt (by omega)) (fun h1 => (by omega : False).elim) (fun h1 => ?_)
  refine x_iload_n C dJ3_checkIndex_8e157_4 (q := 5) rfl rfl 0 rfl ?_
  refine x_iload_n C dJ3_checkIndex_8e157_5 (q := 6) rfl rfl 1 rfl ?_
  refine x_icmp_lt C (tgt := 16) dJ3_checkIndex_8e157_6 (by decide) (q := 9) rfl (a := ((k : Nat) : Int)) (b := 10) (nI_toInt (by omega)) rfl (fun h2 => ?_) (fun h2 => (by omega : False).elim)
  refine x_iload_n C dJ3_checkIndex_8e157_16 (q := 17) rfl rfl 0 rfl ?_
  refine x_iret C hA hQ hr dJ3_checkIndex_8e157_17 (Nat.le_of_ble_eq_true rfl) ?_
  first | exact ⟨rfl, rfl⟩ | exact ⟨_, rfl, rfl, by first | rfl | omega | assumption⟩ | (refine ⟨_, rfl, rfl, ?_⟩; (first | rfl | omega | (simp only []; omega)))

set_option maxHeartbeats 4000000 in
set_option maxRecDepth 100000 in
/-- Preconditions.checkIndex, in range, nobody to tell -/
theorem c_J3_checkIndex_8e157_n (l : Launch) (D : va_G) (cy : Nat → ClassId) (k : Nat) (hk : k < 10) : xMet l D cy xT yJ3_checkIndex_8e157 wsJ3_checkIndex_8e157 ({ frames := 1, cells := 0, slots := 0, locals := 0 } : Room) [.int (nI k), .int (nI 10), .null] [] [] (fun (v9 : Option Value) (w9 : va_W) => (v9 = some (.int (nI k)) ∧ w9 = [])) := by
  refine xMet_of (cc := cJ3_checkIndex_8e157) (maxL := 3) (ret := (some .int)) (by decide) rfl (Nat.le_of_ble_eq_true rfl) (fun p e s m args below meth c A R Q hA hR hQ C hr hnm hro hX => ?_)
  refine x_L (L' := [(0, .int (nI k)), (1, .int (nI 10)), (2, .null)]) [0, 1, 2] rfl ?_
  refine x_iload_n C dJ3_checkIndex_8e157_0 (q := 1) rfl rfl 0 rfl ?_
  refine x_if_lt C (tgt := 9) dJ3_checkIndex_8e157_1 (by decide) (q := 4) rfl (a := ((k : Nat) : Int)) (nI_toInt (by omega)) (fun h1 => (by omega : False).elim) (fun h1 => ?_)
  refine x_iload_n C dJ3_checkIndex_8e157_4 (q := 5) rfl rfl 0 rfl ?_
  refine x_iload_n C dJ3_checkIndex_8e157_5 (q := 6) rfl rfl 1 rfl ?_
  refine x_icmp_lt C (tgt := 16) dJ3_checkIndex_8e157_6 (by decide) (q := 9) rfl (a := ((k : Nat) : Int)) (b := 10) (nI_toInt (by omega)) rfl (fun h2 => ?_) (fun h2 => (by omega : False).elim)
  refine x_iload_n C dJ3_checkIndex_8e157_16 (q := 17) rfl rfl 0 rfl ?_
  refine x_iret C hA hQ hr dJ3_checkIndex_8e157_17 (Nat.le_of_ble_eq_true rfl) ?_
  first | exact ⟨rfl, rfl⟩ | exact ⟨_, rfl, rfl, by first | rfl | omega | assumption⟩ | (refine ⟨_, rfl, rfl, ?_⟩; (first | rfl | omega | (simp only []; omega)))

set_option maxHeartbeats 4000000 in
set_option maxRecDepth 100000 in
/-- String.checkIndex, in range -/
theorem c_J0_checkIndex_df160 (l : Launch) (D : va_G) (cy : Nat → ClassId) (t0 : Nat) (adK : Nat → Nat) (adV : Nat → Nat) (k : Nat) (hk : k < 10) : xMet l D cy (xZ t0 adK adV) yJ0_checkIndex_df160 wsJ0_checkIndex_df160 ({ frames := 2, cells := 0, slots := 0, locals := 200 } : Room) [.int (nI k), .int (nI 10)] [] [] (fun (v9 : Option Value) (w9 : va_W) => (v9 = none ∧ w9 = [])) := by
  refine xMet_of (cc := cJ0_checkIndex_df160) (maxL := 2) (ret := none) (by decide) rfl (Nat.le_of_ble_eq_true rfl) (fun p e s m args below meth c A R Q hA hR hQ C hr hnm hro hX => ?_)
  have hw0 : Cond.fieldLink RJ0 1053 "jdk/internal/util/Preconditions" "SIOOBE_FORMATTER" "Ljava/util/function/BiFunction;" ∈ wsJ0_checkIndex_df160 := by decide +kernel
  refine x_L (L' := [(0, .int (nI k)), (1, .int (nI 10))]) [0, 1] rfl ?_
  refine x_iload_n C dJ0_checkIndex_df160_0 (q := 1) rfl rfl 0 rfl ?_
  refine x_iload_n C dJ0_checkIndex_df160_1 (q := 2) rfl rfl 1 rfl ?_
  rcases hX.2.2.2.2.2.2 with hTz | ⟨tz, hTz⟩
  · skip
    refine x_gets C hTz hw0 dJ0_checkIndex_df160_2 (q := 5) rfl ?_
    refine x_callS C (roW := []) (roR := []) (c_J3_checkIndex_8e157_n l D cy k (by first | assumption | omega | (simp only []; omega))) (va_cwS 3 C.2.2.2.2.1 gJ0_checkIndex_df160_J3_checkIndex_8e157 rfl rfl rfl (by decide +kernel) (by rw [hR]; exact ⟨Nat.le_of_ble_eq_true rfl, Nat.le_of_ble_eq_true rfl⟩)) [] [] rfl (by decide) rfl (by decide) xro_nil xT_bl (fun _ _ _ _ _ _ _ => trivial) rfl rfl dJ0_checkIndex_df160_5 rfl rfl (Nat.le_of_ble_eq_true rfl) (q := 8) rfl (k' := 0) rfl (n' := 0) rfl (by rw [hR]; exact ⟨Nat.le_of_ble_eq_true rfl, Nat.le_of_ble_eq_true rfl⟩) (fun v1 w1 hp1 => ?_)
    obtain ⟨rfl, rfl⟩ := hp1
    refine x_ws (ws' := []) (List.append_nil _) ?_
    refine x_pop C dJ0_checkIndex_df160_8 (q := 9) rfl rfl ?_
    refine x_vret C hA hQ hr dJ0_checkIndex_df160_9 (Nat.le_of_ble_eq_true rfl) ?_
    first | exact ⟨rfl, rfl⟩ | exact ⟨_, rfl, rfl, by first | rfl | omega | assumption⟩ | (refine ⟨_, rfl, rfl, ?_⟩; (first | rfl | omega | (simp only []; omega)))
  · skip
    refine x_gets C hTz hw0 dJ0_checkIndex_df160_2 (q := 5) rfl ?_
    refine x_callS C (roW := []) (roR := []) (c_J3_checkIndex_8e157 l D cy k tz (by first | assumption | omega | (simp only []; omega))) (va_cwS 3 C.2.2.2.2.1 gJ0_checkIndex_df160_J3_checkIndex_8e157 rfl rfl rfl (by decide +kernel) (by rw [hR]; exact ⟨Nat.le_of_ble_eq_true rfl, Nat.le_of_ble_eq_true rfl⟩)) [] [] rfl (by decide) rfl (by decide) xro_nil xT_bl (fun _ _ _ _ _ _ _ => trivial) rfl rfl dJ0_checkIndex_df160_5 rfl rfl (Nat.le_of_ble_eq_true rfl) (q := 8) rfl (k' := 0) rfl (n' := 0) rfl (by rw [hR]; exact ⟨Nat.le_of_ble_eq_true rfl, Nat.le_of_ble_eq_true rfl⟩) (fun v2 w2 hp2 => ?_)
    obtain ⟨rfl, rfl⟩ := hp2
    refine x_ws (ws' := []) (List.append_nil _) ?_
    refine x_pop C dJ0_checkIndex_df160_8 (q := 9) rfl rfl ?_
    refine x_vret C hA hQ hr dJ0_checkIndex_df160_9 (Nat.le_of_ble_eq_true rfl) ?_
    first | exact ⟨rfl, rfl⟩ | exact ⟨_, rfl, rfl, by first | rfl | omega | assumption⟩ | (refine ⟨_, rfl, rfl, ?_⟩; (first | rfl | omega | (simp only []; omega)))

set_option maxHeartbeats 4000000 in
set_option maxRecDepth 100000 in
/-- StringLatin1.charAt, in range -/
theorem c_J1_charAt_3b067 (l : Launch) (D : va_G) (cy : Nat → ClassId) (t0 : Nat) (adK : Nat → Nat) (adV : Nat → Nat) (i : Nat) (k : Nat) (hi : i < 2) (hk : k < 10) : xMet l D cy (xZ t0 adK adV) yJ1_charAt_3b067 wsJ1_charAt_3b067 ({ frames := 3, cells := 0, slots := 0, locals := 400 } : Room) [.ref (adV i), .int (nI k)] [] [] (fun (v9 : Option Value) (w9 : va_W) => (v9 = some (.int (nI (patN i k))) ∧ w9 = [])) := by
  refine xMet_of (cc := cJ1_charAt_3b067) (maxL := 2) (ret := (some .char)) (by decide) rfl (Nat.le_of_ble_eq_true rfl) (fun p e s m args below meth c A R Q hA hR hQ C hr hnm hro hX => ?_)
  refine x_L (L' := [(0, .ref (adV i)), (1, .int (nI k))]) [0, 1] rfl ?_
  refine x_iload_n C dJ1_charAt_3b067_0 (q := 1) rfl rfl 1 rfl ?_
  refine x_aload_n C dJ1_charAt_3b067_1 (q := 2) rfl rfl 0 rfl ?_
  have hT9 := (hX.2.2.1.1 i hi).2.2.2
  refine x_tabLen C (v := nI 10) hT9 (by rcases (show i = 0 ∨ i = 1 by omega) with rfl | rfl <;> rfl) dJ1_charAt_3b067_2 (q := 3) rfl ?_
  refine x_callS C (roW := []) (roR := []) (c_J0_checkIndex_df160 l D cy t0 adK adV k (by first | assumption | omega | (simp only []; omega))) (va_cwS 2 C.2.2.2.2.1 gJ1_charAt_3b067_J0_checkIndex_df160 rfl rfl rfl (by decide +kernel) (by rw [hR]; exact ⟨Nat.le_of_ble_eq_true rfl, Nat.le_of_ble_eq_true rfl⟩)) [] [] rfl (by decide) rfl (by decide) xro_nil (xZ_bl t0 adK adV) (fun H9 locs9 U9 hS9 hF9 hU9 hW9 => xZ_call hX hS9 hF9 hU9 hW9) rfl rfl dJ1_charAt_3b067_3 rfl rfl (Nat.le_of_ble_eq_true rfl) (q := 6) rfl (k' := 0) rfl (n' := 0) rfl (by rw [hR]; exact ⟨Nat.le_of_ble_eq_true rfl, Nat.le_of_ble_eq_true rfl⟩) (fun v1 w1 hp1 => ?_)
  obtain ⟨rfl, rfl⟩ := hp1
  refine x_ws (ws' := []) (List.append_nil _) ?_
  refine x_aload_n C dJ1_charAt_3b067_6 (q := 7) rfl rfl 0 rfl ?_
  refine x_iload_n C dJ1_charAt_3b067_7 (q := 8) rfl rfl 1 rfl ?_
  have hT8 := (hX.2.2.1.1 i hi).2.2.2
  refine x_tabB C (j := k) (v := .int ((zBytes.getD i []).getD k 0)) hT8 (nI_toInt (by omega)) (by rcases (show i = 0 ∨ i = 1 by omega) with rfl | rfl <;> exact hk) rfl dJ1_charAt_3b067_8 (q := 9) rfl ?_
  refine x_sipush C dJ1_charAt_3b067_9 (q := 12) rfl (v := nI 255) (by decide) ?_
  refine x_iand C dJ1_charAt_3b067_12 (q := 13) rfl (z := ((zBytes.getD i []).getD k 0) &&& (nI 255)) (rfl) ?_
  refine x_i2c C (z := nI (patN i k)) dJ1_charAt_3b067_13 (q := 14) rfl (patN_ch i hi k hk).1 ?_
  refine x_zret C hA hQ hr (ty := .char) ((patN_ch i hi k hk).2) dJ1_charAt_3b067_14 (Nat.le_of_ble_eq_true rfl) ?_
  first | exact ⟨rfl, rfl⟩ | exact ⟨_, rfl, rfl, by first | rfl | omega | assumption⟩ | (refine ⟨_, rfl, rfl, ?_⟩; (first | rfl | omega | (simp only []; omega)))

set_option maxHeartbeats 4000000 in
set_option maxRecDepth 100000 in
/-- String.charAt, in range -/
theorem c_J0_charAt_5068e (l : Launch) (D : va_G) (cy : Nat → ClassId) (t0 : Nat) (adK : Nat → Nat) (adV : Nat → Nat) (i : Nat) (k : Nat) (hi : i < 2) (hk : k < 10) : xMet l D cy (xZ t0 adK adV) yJ0_charAt_5068e wsJ0_charAt_5068e ({ frames := 4, cells := 0, slots := 0, locals := 600 } : Room) [.ref (adK i), .int (nI k)] [] [] (fun (v9 : Option Value) (w9 : va_W) => (v9 = some (.int (nI (patN i k))) ∧ w9 = [])) := by
  refine xMet_of (cc := cJ0_charAt_5068e) (maxL := 2) (ret := (some .char)) (by decide) rfl (Nat.le_of_ble_eq_true rfl) (fun p e s m args below meth c A R Q hA hR hQ C hr hnm hro hX => ?_)
  have hw0 : Cond.fieldLink RJ0 9 "java/lang/String" "value" "[B" ∈ wsJ0_charAt_5068e := by decide +kernel
  refine x_L (L' := [(0, .ref (adK i)), (1, .int (nI k))]) [0, 1] rfl ?_
  refine x_aload_n C dJ0_charAt_5068e_0 (q := 1) rfl rfl 0 rfl ?_
  refine x_callStr C hX (i := i) hi (c_J0_isLatin1_aae02 l D cy t0 adK adV i hi) (cwV 0 C.2.2.2.2.1 gJ0_charAt_5068e_J0_isLatin1_aae02 rfl rfl rfl (by decide +kernel) (by rw [hR]; exact ⟨Nat.le_of_ble_eq_true rfl, Nat.le_of_ble_eq_true rfl⟩)) rfl rfl dJ0_charAt_5068e_1 rfl rfl (Nat.le_of_ble_eq_true rfl) (q := 4) rfl (by rw [hR]; exact ⟨Nat.le_of_ble_eq_true rfl, Nat.le_of_ble_eq_true rfl⟩) (fun v1 w1 hp1 => ?_)
  obtain ⟨rfl, rfl⟩ := hp1
  refine x_ws (ws' := []) (List.append_nil _) ?_
  refine x_if_eq C (tgt := 16) dJ0_charAt_5068e_4 (by decide) (q := 7) rfl (a := 1) rfl (fun h2 => (by omega : False).elim) (fun h2 => ?_)
  refine x_aload_n C dJ0_charAt_5068e_7 (q := 8) rfl rfl 0 rfl ?_
  refine x_getStr C (v := .ref (adV i)) (hX.2.2.1.1 i hi).2.2.1 hw0 dJ0_charAt_5068e_8 (q := 11) rfl ?_
  refine x_iload_n C dJ0_charAt_5068e_11 (q := 12) rfl rfl 1 rfl ?_
  refine x_callS C (roW := []) (roR := []) (c_J1_charAt_3b067 l D cy t0 adK adV i k (by first | assumption | omega | (simp only []; omega)) (by first | assumption | omega | (simp only []; omega))) (va_cwS 2 C.2.2.2.2.1 gJ0_charAt_5068e_J1_charAt_3b067 rfl rfl rfl (by decide +kernel) (by rw [hR]; exact ⟨Nat.le_of_ble_eq_true rfl, Nat.le_of_ble_eq_true rfl⟩)) [] [] rfl (by decide) rfl (by decide) xro_nil (xZ_bl t0 adK adV) (fun H9 locs9 U9 hS9 hF9 hU9 hW9 => xZ_call hX hS9 hF9 hU9 hW9) rfl rfl dJ0_charAt_5068e_12 rfl rfl (Nat.le_of_ble_eq_true rfl) (q := 15) rfl (k' := 0) rfl (n' := 0) rfl (by rw [hR]; exact ⟨Nat.le_of_ble_eq_true rfl, Nat.le_of_ble_eq_true rfl⟩) (fun v3 w3 hp3 => ?_)
  obtain ⟨rfl, rfl⟩ := hp3
  refine x_ws (ws' := []) (List.append_nil _) ?_
  refine x_zret C hA hQ hr (ty := .char) ((patN_ch i hi k hk).2) dJ0_charAt_5068e_15 (Nat.le_of_ble_eq_true rfl) ?_
  first | exact ⟨rfl, rfl⟩ | exact ⟨_, rfl, rfl, by first | rfl | omega | assumption⟩ | (refine ⟨_, rfl, rfl, ?_⟩; (first | rfl | omega | (simp only []; omega)))


/-- a sign is as the pattern's place wants it -/
abbrev mtP (i : Nat) (b : Nat → Nat) (k : Nat) : Prop := if patN i k = 48 then (48 ≤ b k ∧ b k ≤ 57) else b k = patN i k
theorem mtP_D {b : Nat → Nat} : (∀ k, k < 10 → mtP 0 b k) ↔ patD b := by
  constructor
  · intro h
    have h0 := h 0 (by omega); have h1 := h 1 (by omega); have h2 := h 2 (by omega); have h3 := h 3 (by omega); have h4 := h 4 (by omega)
    have h5 := h 5 (by omega); have h6 := h 6 (by omega); have h7 := h 7 (by omega); have h8 := h 8 (by omega); have h9 := h 9 (by omega)
    exact ⟨h0, h1, h2, h3, h4, h5, h6, h7, h8, h9⟩
  · rintro ⟨h0, h1, h2, h3, h4, h5, h6, h7, h8, h9⟩ k hk
    rcases (show k = 0 ∨ k = 1 ∨ k = 2 ∨ k = 3 ∨ k = 4 ∨ k = 5 ∨ k = 6 ∨ k = 7 ∨ k = 8 ∨ k = 9 by omega) with rfl | rfl | rfl | rfl | rfl | rfl | rfl | rfl | rfl | rfl <;> assumption
theorem mtP_Y {b : Nat → Nat} : (∀ k, k < 10 → mtP 1 b k) ↔ patY b := by
  constructor
  · intro h
    have h0 := h 0 (by omega); have h1 := h 1 (by omega); have h2 := h 2 (by omega); have h3 := h 3 (by omega); have h4 := h 4 (by omega)
    have h5 := h 5 (by omega); have h6 := h 6 (by omega); have h7 := h 7 (by omega); have h8 := h 8 (by omega); have h9 := h 9 (by omega)
    exact ⟨h0, h1, h2, h3, h4, h5, h6, h7, h8, h9⟩
  · rintro ⟨h0, h1, h2, h3, h4, h5, h6, h7, h8, h9⟩ k hk
    rcases (show k = 0 ∨ k = 1 ∨ k = 2 ∨ k = 3 ∨ k = 4 ∨ k = 5 ∨ k = 6 ∨ k = 7 ∨ k = 8 ∨ k = 9 by omega) with rfl | rfl | rfl | rfl | rfl | rfl | rfl | rfl | rfl | rfl <;> assumption

set_option maxHeartbeats 4000000 in
set_option maxRecDepth 100000 in
/-- Days.looksLike: a pattern -/
theorem c_X0_looksLike (l : Launch) (D : va_G) (cy : Nat → ClassId) (t0 : Nat) (adK : Nat → Nat) (adV : Nat → Nat) (sg : Nat) (len : Nat) (b : Nat → Nat) (i : Nat) (hb : ∀ k, b k < 128) (hlen : len ≤ 60) (hi : i < 2) : xMet l D cy (xZ t0 adK adV) yX0_looksLike wsX0_looksLike ({ frames := 5, cells := 0, slots := 0, locals := 800 } : Room) [.ref sg, .ref (adK i)] [] [(sg, .inl (cy 0, len, .inl (fun k => nI (b k))))] (fun (v9 : Option Value) (w9 : va_W) => (v9 = some (.int (nI 1)) ∧ w9 = [] ∧ len = 10 ∧ (∀ k, k < 10 → mtP i b k)) ∨ (v9 = some (.int (nI 0)) ∧ w9 = [] ∧ ¬ (len = 10 ∧ ∀ k, k < 10 → mtP i b k))) := by
  refine xMet_of (cc := cX0_looksLike) (maxL := 5) (ret := (some .boolean)) (by decide) rfl (Nat.le_of_ble_eq_true rfl) (fun p e s m args below meth c A R Q hA hR hQ C hr hnm hro hX => ?_)
  refine x_L (L' := [(0, .ref sg), (1, .ref (adK i))]) [0, 1] rfl ?_
  refine x_aload_n C dX0_looksLike_0 (q := 1) rfl rfl 0 rfl ?_
  refine x_alenR C 0 (hro (sg, .inl (cy 0, len, .inl (fun k => nI (b k)))) (List.mem_of_getElem? (i := 0) rfl)) rfl (v := nI len) rfl dX0_looksLike_1 (q := 2) rfl ?_
  refine x_aload_n C dX0_looksLike_2 (q := 3) rfl rfl 1 rfl ?_
  refine x_callStr C hX (i := i) hi (c_J0_length_8abf5 l D cy t0 adK adV i hi) (cwV 0 C.2.2.2.2.1 gX0_looksLike_J0_length_8abf5 rfl rfl rfl (by decide +kernel) (by rw [hR]; exact ⟨Nat.le_of_ble_eq_true rfl, Nat.le_of_ble_eq_true rfl⟩)) rfl rfl dX0_looksLike_3 rfl rfl (Nat.le_of_ble_eq_true rfl) (q := 6) rfl (by rw [hR]; exact ⟨Nat.le_of_ble_eq_true rfl, Nat.le_of_ble_eq_true rfl⟩) (fun v1 w1 hp1 => ?_)
  obtain ⟨rfl, rfl⟩ := hp1
  refine x_ws (ws' := []) (List.append_nil _) ?_
  refine x_icmp_eq C (tgt := 11) dX0_looksLike_6 (by decide) (q := 9) rfl (a := ((len : Nat) : Int)) (b := 10) (nI_toInt (by omega)) rfl (fun h2 => ?_) (fun h2 => ?_)
  · first
    | (exfalso; omega)
    |
      refine x_iconst C dX0_looksLike_11 (q := 12) rfl (v := nI 0) (by decide) ?_
      refine x_istore_n C (L' := [(2, .int (nI 0)), (0, .ref sg), (1, .ref (adK i))]) dX0_looksLike_12 (q := 13) rfl rfl (by decide) rfl ?_
      have cut13 : ∀ (fuel : Nat) (k : Nat), (k ≤ 10) → (∀ j, j < k → mtP i b j) → 10 - k < fuel → xG p l e R s m args below meth c Q D A 5 [] 0 0 13 [(0, .ref sg), (1, .ref (adK i)), (2, .int (nI k))] [] := by
        intro fuel
        induction fuel with
        | zero =>
          intro k hk hm hmu
          exact absurd hmu (Nat.not_lt_zero _)
        | succ fuel ih =>
          intro k hk hm hmu
          have hpl := patN_lt i hi
          have ih13 := ih
          clear ih
          refine x_iload_n C dX0_looksLike_13 (q := 14) rfl rfl 2 rfl ?_
          refine x_aload_n C dX0_looksLike_14 (q := 15) rfl rfl 0 rfl ?_
          refine x_alenR C 0 (hro (sg, .inl (cy 0, len, .inl (fun k => nI (b k)))) (List.mem_of_getElem? (i := 0) rfl)) rfl (v := nI len) rfl dX0_looksLike_15 (q := 16) rfl ?_
          refine x_icmp_ge C (tgt := 67) dX0_looksLike_16 (by decide) (q := 19) rfl (a := ((k : Nat) : Int)) (b := ((len : Nat) : Int)) (nI_toInt (by omega)) (nI_toInt (by omega)) (fun h3 => ?_) (fun h3 => ?_)
          · first
            | (exfalso; omega)
            |
              refine x_iconst C dX0_looksLike_67 (q := 68) rfl (v := nI 1) (by decide) ?_
              refine x_zret C hA hQ hr (ty := .boolean) (by first | rfl | assumption | exact xz_nar _) dX0_looksLike_68 (Nat.le_of_ble_eq_true rfl) ?_
              first | exact Or.inr ⟨rfl, rfl, fun z => by have z1 := z.1; omega⟩ | exact Or.inl ⟨rfl, rfl, by omega, fun j hj => hm j (by omega)⟩ | (refine Or.inr ⟨rfl, rfl, fun z => ?_⟩; have z2 := z.2 k (by omega); unfold mtP at z2; split at z2 <;> omega)
          · first
            | (exfalso; omega)
            |
              refine x_aload_n C dX0_looksLike_19 (q := 20) rfl rfl 1 rfl ?_
              refine x_iload_n C dX0_looksLike_20 (q := 21) rfl rfl 2 rfl ?_
              have hpk := hpl k (by omega)
              refine x_callStr C hX (i := i) hi (c_J0_charAt_5068e l D cy t0 adK adV i k hi (by omega)) (cwV 1 C.2.2.2.2.1 gX0_looksLike_J0_charAt_5068e rfl rfl rfl (by decide +kernel) (by rw [hR]; exact ⟨Nat.le_of_ble_eq_true rfl, Nat.le_of_ble_eq_true rfl⟩)) rfl rfl dX0_looksLike_21 rfl rfl (Nat.le_of_ble_eq_true rfl) (q := 24) rfl (by rw [hR]; exact ⟨Nat.le_of_ble_eq_true rfl, Nat.le_of_ble_eq_true rfl⟩) (fun v4 w4 hp4 => ?_)
              obtain ⟨rfl, rfl⟩ := hp4
              refine x_ws (ws' := []) (List.append_nil _) ?_
              refine x_istore_n C (L' := [(3, .int (nI (patN i k))), (0, .ref sg), (1, .ref (adK i)), (2, .int (nI k))]) dX0_looksLike_24 (q := 25) rfl rfl (by decide) rfl ?_
              refine x_iload_n C dX0_looksLike_25 (q := 26) rfl rfl 0 rfl ?_
              refine x_bipush C dX0_looksLike_26 (q := 28) rfl (v := nI 48) (by decide) ?_
              refine x_icmp_ne C (tgt := 40) dX0_looksLike_28 (by decide) (q := 31) rfl (a := ((patN i k : Nat) : Int)) (b := 48) (nI_toInt (by omega)) rfl (fun h5 => ?_) (fun h5 => ?_)
              · first
                | (exfalso; omega)
                |
                  refine x_aload_n C dX0_looksLike_40 (q := 41) rfl rfl 1 rfl ?_
                  refine x_iload_n C dX0_looksLike_41 (q := 42) rfl rfl 3 rfl ?_
                  have hb6 := hb k
                  refine x_baldR C (j := k) (v := nI (b k)) (hro (sg, .inl (cy 0, len, .inl (fun k => nI (b k)))) (List.mem_of_getElem? (i := 0) rfl)) (nI_toInt (by omega)) (by omega) rfl dX0_looksLike_42 (q := 43) rfl ?_
                  refine x_iload_n C dX0_looksLike_43 (q := 44) rfl rfl 0 rfl ?_
                  refine x_icmp_ne C (tgt := 51) dX0_looksLike_44 (by decide) (q := 47) rfl (a := ((b k : Nat) : Int)) (b := ((patN i k : Nat) : Int)) (nI_toInt (by omega)) (nI_toInt (by omega)) (fun h7 => ?_) (fun h7 => ?_)
                  · first
                    | (exfalso; omega)
                    |
                      refine x_iconst C dX0_looksLike_51 (q := 52) rfl (v := nI 0) (by decide) ?_
                      refine x_istore C (L' := [(4, .int (nI 0)), (3, .int (nI (patN i k))), (0, .ref sg), (1, .ref (adK i)), (2, .int (nI k))]) dX0_looksLike_52 (q := 54) rfl (by decide) rfl ?_
                      refine x_iload C dX0_looksLike_54 (q := 56) rfl 0 rfl ?_
                      refine x_if_ne C (tgt := 61) dX0_looksLike_56 (by decide) (q := 59) rfl (a := 0) rfl (fun h8 => (by omega : False).elim) (fun h8 => ?_)
                      refine x_iconst C dX0_looksLike_59 (q := 60) rfl (v := nI 0) (by decide) ?_
                      refine x_zret C hA hQ hr (ty := .boolean) (by first | rfl | assumption | exact xz_nar _) dX0_looksLike_60 (Nat.le_of_ble_eq_true rfl) ?_
                      first | exact Or.inr ⟨rfl, rfl, fun z => by have z1 := z.1; omega⟩ | exact Or.inl ⟨rfl, rfl, by omega, fun j hj => hm j (by omega)⟩ | (refine Or.inr ⟨rfl, rfl, fun z => ?_⟩; have z2 := z.2 k (by omega); unfold mtP at z2; split at z2 <;> omega)
                  · first
                    | (exfalso; omega)
                    |
                      refine x_iconst C dX0_looksLike_47 (q := 48) rfl (v := nI 1) (by decide) ?_
                      refine x_goto C (tgt := 52) dX0_looksLike_48 (by decide) ?_
                      refine x_istore C (L' := [(4, .int (nI 1)), (3, .int (nI (patN i k))), (0, .ref sg), (1, .ref (adK i)), (2, .int (nI k))]) dX0_looksLike_52 (q := 54) rfl (by decide) rfl ?_
                      refine x_iload C dX0_looksLike_54 (q := 56) rfl 0 rfl ?_
                      refine x_if_ne C (tgt := 61) dX0_looksLike_56 (by decide) (q := 59) rfl (a := 1) rfl (fun h9 => ?_) (fun h9 => (by omega : False).elim)
                      refine x_iinc C (L' := [(2, .int (nI (k + 1))), (4, .int (nI 1)), (3, .int (nI (patN i k))), (0, .ref sg), (1, .ref (adK i))]) dX0_looksLike_61 (q := 64) rfl 4 rfl (v := nI (k + 1)) (nI_add k 1) (by decide) rfl ?_
                      refine x_goto C (tgt := 13) dX0_looksLike_64 (by decide) ?_
                      refine x_L (L' := [(0, .ref sg), (1, .ref (adK i)), (2, .int (nI (k + 1)))]) [3, 4, 0] rfl ?_
                      exact ih13 (k + 1) (by first | omega | assumption) (by intro j hj; by_cases h9 : j = k; (subst h9; unfold mtP; split <;> omega); exact hm j (by omega)) (by omega)
              · first
                | (exfalso; omega)
                |
                  refine x_aload_n C dX0_looksLike_31 (q := 32) rfl rfl 1 rfl ?_
                  refine x_iload_n C dX0_looksLike_32 (q := 33) rfl rfl 3 rfl ?_
                  have hb10 := hb k
                  refine x_baldR C (j := k) (v := nI (b k)) (hro (sg, .inl (cy 0, len, .inl (fun k => nI (b k)))) (List.mem_of_getElem? (i := 0) rfl)) (nI_toInt (by omega)) (by omega) rfl dX0_looksLike_33 (q := 34) rfl ?_
                  refine x_callS C (roW := []) (roR := []) (c_X0_isDigit l D cy (b k) (by first | assumption | omega | (simp only []; omega))) (cwS 1 C.2.2.2.2.1 gX0_looksLike_X0_isDigit rfl rfl rfl (by decide +kernel) (by rw [hR]; exact ⟨Nat.le_of_ble_eq_true rfl, Nat.le_of_ble_eq_true rfl⟩)) [] [] rfl (by decide) rfl (by decide) xro_nil xT_bl (fun _ _ _ _ _ _ _ => trivial) rfl rfl dX0_looksLike_34 rfl rfl (Nat.le_of_ble_eq_true rfl) (q := 37) rfl (k' := 0) rfl (n' := 0) rfl (by rw [hR]; exact ⟨Nat.le_of_ble_eq_true rfl, Nat.le_of_ble_eq_true rfl⟩) (fun v11 w11 hp11 => ?_)
                  rcases hp11 with hp11 | hp11
                  · skip
                    obtain ⟨rfl, rfl, hc12, hc13⟩ := hp11
                    refine x_ws (ws' := []) (List.append_nil _) ?_
                    refine x_goto C (tgt := 52) dX0_looksLike_37 (by decide) ?_
                    refine x_istore C (L' := [(4, .int (nI 1)), (3, .int (nI (patN i k))), (0, .ref sg), (1, .ref (adK i)), (2, .int (nI k))]) dX0_looksLike_52 (q := 54) rfl (by decide) rfl ?_
                    refine x_iload C dX0_looksLike_54 (q := 56) rfl 0 rfl ?_
                    refine x_if_ne C (tgt := 61) dX0_looksLike_56 (by decide) (q := 59) rfl (a := 1) rfl (fun h14 => ?_) (fun h14 => (by omega : False).elim)
                    refine x_iinc C (L' := [(2, .int (nI (k + 1))), (4, .int (nI 1)), (3, .int (nI (patN i k))), (0, .ref sg), (1, .ref (adK i))]) dX0_looksLike_61 (q := 64) rfl 4 rfl (v := nI (k + 1)) (nI_add k 1) (by decide) rfl ?_
                    refine x_goto C (tgt := 13) dX0_looksLike_64 (by decide) ?_
                    refine x_L (L' := [(0, .ref sg), (1, .ref (adK i)), (2, .int (nI (k + 1)))]) [3, 4, 0] rfl ?_
                    exact ih13 (k + 1) (by first | omega | assumption) (by intro j hj; by_cases h9 : j = k; (subst h9; unfold mtP; split <;> omega); exact hm j (by omega)) (by omega)
                  · skip
                    obtain ⟨rfl, rfl, hc15⟩ := hp11
                    refine x_ws (ws' := []) (List.append_nil _) ?_
                    refine x_goto C (tgt := 52) dX0_looksLike_37 (by decide) ?_
                    refine x_istore C (L' := [(4, .int (nI 0)), (3, .int (nI (patN i k))), (0, .ref sg), (1, .ref (adK i)), (2, .int (nI k))]) dX0_looksLike_52 (q := 54) rfl (by decide) rfl ?_
                    refine x_iload C dX0_looksLike_54 (q := 56) rfl 0 rfl ?_
                    refine x_if_ne C (tgt := 61) dX0_looksLike_56 (by decide) (q := 59) rfl (a := 0) rfl (fun h16 => (by omega : False).elim) (fun h16 => ?_)
                    refine x_iconst C dX0_looksLike_59 (q := 60) rfl (v := nI 0) (by decide) ?_
                    refine x_zret C hA hQ hr (ty := .boolean) (by first | rfl | assumption | exact xz_nar _) dX0_looksLike_60 (Nat.le_of_ble_eq_true rfl) ?_
                    first | exact Or.inr ⟨rfl, rfl, fun z => by have z1 := z.1; omega⟩ | exact Or.inl ⟨rfl, rfl, by omega, fun j hj => hm j (by omega)⟩ | (refine Or.inr ⟨rfl, rfl, fun z => ?_⟩; have z2 := z.2 k (by omega); unfold mtP at z2; split at z2 <;> omega)
      refine x_L (L' := [(0, .ref sg), (1, .ref (adK i)), (2, .int (nI 0))]) [1, 2, 0] rfl ?_
      exact cut13 (10 - 0 + 1) 0 (by first | omega | assumption) (by intro j hj; omega) (by omega)
  · first
    | (exfalso; omega)
    |
      refine x_iconst C dX0_looksLike_9 (q := 10) rfl (v := nI 0) (by decide) ?_
      refine x_zret C hA hQ hr (ty := .boolean) (by first | rfl | assumption | exact xz_nar _) dX0_looksLike_10 (Nat.le_of_ble_eq_true rfl) ?_
      first | exact Or.inr ⟨rfl, rfl, fun z => by have z1 := z.1; omega⟩ | exact Or.inl ⟨rfl, rfl, by omega, fun j hj => hm j (by omega)⟩ | (refine Or.inr ⟨rfl, rfl, fun z => ?_⟩; have z2 := z.2 k (by omega); unfold mtP at z2; split at z2 <;> omega)

set_option maxHeartbeats 4000000 in
set_option maxRecDepth 100000 in
/-- Days.lengthOf -/
theorem c_X0_lengthOf (l : Launch) (D : va_G) (cy : Nat → ClassId) (t0 : Nat) (adK : Nat → Nat) (adV : Nat → Nat) (y : Nat) (mo : Nat) (hy : y < 10000) (hm : mo < 100) : xMet l D cy (xZ t0 adK adV) yX0_lengthOf wsX0_lengthOf ({ frames := 2, cells := 0, slots := 0, locals := 200 } : Room) [.int (nI y), .int (nI mo)] [] [] (fun (v9 : Option Value) (w9 : va_W) => (v9 = some (.int (nI (mLen y mo))) ∧ w9 = [])) := by
  refine xMet_of (cc := cX0_lengthOf) (maxL := 3) (ret := (some .int)) (by decide) rfl (Nat.le_of_ble_eq_true rfl) (fun p e s m args below meth c A R Q hA hR hQ C hr hnm hro hX => ?_)
  have hw0 : Cond.fieldLink RX0 43 "FeatureImport$Days" "AHEAD_OF_MONTH" "[I" ∈ wsX0_lengthOf := by decide +kernel
  refine x_L (L' := [(0, .int (nI y)), (1, .int (nI mo))]) [0, 1] rfl ?_
  refine x_iload_n C dX0_lengthOf_0 (q := 1) rfl rfl 1 rfl ?_
  refine x_iconst C dX0_lengthOf_1 (q := 2) rfl (v := nI 1) (by decide) ?_
  refine x_icmp_lt C (tgt := 11) dX0_lengthOf_2 (by decide) (q := 5) rfl (a := ((mo : Nat) : Int)) (b := 1) (nI_toInt (by omega)) rfl (fun h1 => ?_) (fun h1 => ?_)
  · first
    | (exfalso; omega)
    |
      refine x_iconst C dX0_lengthOf_11 (q := 12) rfl (v := nI 0) (by decide) ?_
      refine x_iret C hA hQ hr dX0_lengthOf_12 (Nat.le_of_ble_eq_true rfl) ?_
      first | exact ⟨by unfold mLen; rw [if_pos (by omega)], rfl⟩ | exact ⟨by unfold mLen lpD; rw [if_neg (by omega), if_pos (by omega), if_pos (by assumption)], rfl⟩ | exact ⟨by unfold mLen lpD; rw [if_neg (by omega), if_pos (by omega), if_neg (by assumption)], rfl⟩ | exact ⟨by unfold mLen; rw [if_neg (by omega), if_neg (by omega)], rfl⟩
  · first
    | (exfalso; omega)
    |
      refine x_iload_n C dX0_lengthOf_5 (q := 6) rfl rfl 1 rfl ?_
      refine x_bipush C dX0_lengthOf_6 (q := 8) rfl (v := nI 12) (by decide) ?_
      refine x_icmp_le C (tgt := 13) dX0_lengthOf_8 (by decide) (q := 11) rfl (a := ((mo : Nat) : Int)) (b := 12) (nI_toInt (by omega)) rfl (fun h2 => ?_) (fun h2 => ?_)
      · first
        | (exfalso; omega)
        |
          refine x_iload_n C dX0_lengthOf_13 (q := 14) rfl rfl 1 rfl ?_
          refine x_iconst C dX0_lengthOf_14 (q := 15) rfl (v := nI 2) (by decide) ?_
          refine x_icmp_ne C (tgt := 29) dX0_lengthOf_15 (by decide) (q := 18) rfl (a := ((mo : Nat) : Int)) (b := 2) (nI_toInt (by omega)) rfl (fun h3 => ?_) (fun h3 => ?_)
          · first
            | (exfalso; omega)
            |
              refine x_iconst C dX0_lengthOf_29 (q := 30) rfl (v := nI 0) (by decide) ?_
              refine x_istore_n C (L' := [(2, .int (nI 0)), (0, .int (nI y)), (1, .int (nI mo))]) dX0_lengthOf_30 (q := 31) rfl rfl (by decide) rfl ?_
              have hmt := mTab_le mo (by omega)
              have hmt2 := mTab_mono (mo - 1) (by omega)
              rw [show mo - 1 + 1 = mo by omega] at hmt2
              refine x_gets C hX.1 hw0 dX0_lengthOf_31 (q := 34) rfl ?_
              refine x_iload_n C dX0_lengthOf_34 (q := 35) rfl rfl 2 rfl ?_
              refine x_tabI C (j := mo) (v := .int (nI (mTab (mo)))) hX.2.1 (nI_toInt (by omega)) (by omega) rfl dX0_lengthOf_35 (q := 36) rfl ?_
              refine x_gets C hX.1 hw0 dX0_lengthOf_36 (q := 39) rfl ?_
              refine x_iload_n C dX0_lengthOf_39 (q := 40) rfl rfl 2 rfl ?_
              refine x_iconst C dX0_lengthOf_40 (q := 41) rfl (v := nI 1) (by decide) ?_
              refine x_isub C dX0_lengthOf_41 (q := 42) rfl (z := nI (mo - 1)) (xi_subN (by omega) (by omega)) ?_
              refine x_tabI C (j := mo - 1) (v := .int (nI (mTab (mo - 1)))) hX.2.1 (nI_toInt (by omega)) (by omega) rfl dX0_lengthOf_42 (q := 43) rfl ?_
              refine x_isub C dX0_lengthOf_43 (q := 44) rfl (z := nI (mTab (mo) - (mTab (mo - 1)))) (xi_subN (by omega) (by omega)) ?_
              refine x_iload_n C dX0_lengthOf_44 (q := 45) rfl rfl 0 rfl ?_
              refine x_iadd C dX0_lengthOf_45 (q := 46) rfl (z := nI (mTab (mo) - (mTab (mo - 1)) + 0)) (nI_add (mTab (mo) - (mTab (mo - 1))) 0) ?_
              refine x_iret C hA hQ hr dX0_lengthOf_46 (Nat.le_of_ble_eq_true rfl) ?_
              first | exact ⟨by unfold mLen; rw [if_pos (by omega)], rfl⟩ | exact ⟨by unfold mLen lpD; rw [if_neg (by omega), if_pos (by omega), if_pos (by assumption)], rfl⟩ | exact ⟨by unfold mLen lpD; rw [if_neg (by omega), if_pos (by omega), if_neg (by assumption)], rfl⟩ | exact ⟨by unfold mLen; rw [if_neg (by omega), if_neg (by omega)], rfl⟩
          · first
            | (exfalso; omega)
            |
              refine x_iload_n C dX0_lengthOf_18 (q := 19) rfl rfl 0 rfl ?_
              refine x_callS C (roW := []) (roR := []) (c_X0_isLeap l D cy y (by first | assumption | omega | (simp only []; omega))) (cwS 1 C.2.2.2.2.1 gX0_lengthOf_X0_isLeap rfl rfl rfl (by decide +kernel) (by rw [hR]; exact ⟨Nat.le_of_ble_eq_true rfl, Nat.le_of_ble_eq_true rfl⟩)) [] [] rfl (by decide) rfl (by decide) xro_nil xT_bl (fun _ _ _ _ _ _ _ => trivial) rfl rfl dX0_lengthOf_19 rfl rfl (Nat.le_of_ble_eq_true rfl) (q := 22) rfl (k' := 0) rfl (n' := 0) rfl (by rw [hR]; exact ⟨Nat.le_of_ble_eq_true rfl, Nat.le_of_ble_eq_true rfl⟩) (fun v4 w4 hp4 => ?_)
              rcases hp4 with hp4 | hp4
              · skip
                obtain ⟨rfl, rfl, hc5⟩ := hp4
                refine x_ws (ws' := []) (List.append_nil _) ?_
                refine x_if_eq C (tgt := 29) dX0_lengthOf_22 (by decide) (q := 25) rfl (a := 1) rfl (fun h6 => (by omega : False).elim) (fun h6 => ?_)
                refine x_iconst C dX0_lengthOf_25 (q := 26) rfl (v := nI 1) (by decide) ?_
                refine x_goto C (tgt := 30) dX0_lengthOf_26 (by decide) ?_
                refine x_istore_n C (L' := [(2, .int (nI 1)), (0, .int (nI y)), (1, .int (nI mo))]) dX0_lengthOf_30 (q := 31) rfl rfl (by decide) rfl ?_
                have hmt := mTab_le mo (by omega)
                have hmt2 := mTab_mono (mo - 1) (by omega)
                rw [show mo - 1 + 1 = mo by omega] at hmt2
                refine x_gets C hX.1 hw0 dX0_lengthOf_31 (q := 34) rfl ?_
                refine x_iload_n C dX0_lengthOf_34 (q := 35) rfl rfl 2 rfl ?_
                refine x_tabI C (j := mo) (v := .int (nI (mTab (mo)))) hX.2.1 (nI_toInt (by omega)) (by omega) rfl dX0_lengthOf_35 (q := 36) rfl ?_
                refine x_gets C hX.1 hw0 dX0_lengthOf_36 (q := 39) rfl ?_
                refine x_iload_n C dX0_lengthOf_39 (q := 40) rfl rfl 2 rfl ?_
                refine x_iconst C dX0_lengthOf_40 (q := 41) rfl (v := nI 1) (by decide) ?_
                refine x_isub C dX0_lengthOf_41 (q := 42) rfl (z := nI (mo - 1)) (xi_subN (by omega) (by omega)) ?_
                refine x_tabI C (j := mo - 1) (v := .int (nI (mTab (mo - 1)))) hX.2.1 (nI_toInt (by omega)) (by omega) rfl dX0_lengthOf_42 (q := 43) rfl ?_
                refine x_isub C dX0_lengthOf_43 (q := 44) rfl (z := nI (mTab (mo) - (mTab (mo - 1)))) (xi_subN (by omega) (by omega)) ?_
                refine x_iload_n C dX0_lengthOf_44 (q := 45) rfl rfl 0 rfl ?_
                refine x_iadd C dX0_lengthOf_45 (q := 46) rfl (z := nI (mTab (mo) - (mTab (mo - 1)) + 1)) (nI_add (mTab (mo) - (mTab (mo - 1))) 1) ?_
                refine x_iret C hA hQ hr dX0_lengthOf_46 (Nat.le_of_ble_eq_true rfl) ?_
                first | exact ⟨by unfold mLen; rw [if_pos (by omega)], rfl⟩ | exact ⟨by unfold mLen lpD; rw [if_neg (by omega), if_pos (by omega), if_pos (by assumption)], rfl⟩ | exact ⟨by unfold mLen lpD; rw [if_neg (by omega), if_pos (by omega), if_neg (by assumption)], rfl⟩ | exact ⟨by unfold mLen; rw [if_neg (by omega), if_neg (by omega)], rfl⟩
              · skip
                obtain ⟨rfl, rfl, hc7⟩ := hp4
                refine x_ws (ws' := []) (List.append_nil _) ?_
                refine x_if_eq C (tgt := 29) dX0_lengthOf_22 (by decide) (q := 25) rfl (a := 0) rfl (fun h8 => ?_) (fun h8 => (by omega : False).elim)
                refine x_iconst C dX0_lengthOf_29 (q := 30) rfl (v := nI 0) (by decide) ?_
                refine x_istore_n C (L' := [(2, .int (nI 0)), (0, .int (nI y)), (1, .int (nI mo))]) dX0_lengthOf_30 (q := 31) rfl rfl (by decide) rfl ?_
                have hmt := mTab_le mo (by omega)
                have hmt2 := mTab_mono (mo - 1) (by omega)
                rw [show mo - 1 + 1 = mo by omega] at hmt2
                refine x_gets C hX.1 hw0 dX0_lengthOf_31 (q := 34) rfl ?_
                refine x_iload_n C dX0_lengthOf_34 (q := 35) rfl rfl 2 rfl ?_
                refine x_tabI C (j := mo) (v := .int (nI (mTab (mo)))) hX.2.1 (nI_toInt (by omega)) (by omega) rfl dX0_lengthOf_35 (q := 36) rfl ?_
                refine x_gets C hX.1 hw0 dX0_lengthOf_36 (q := 39) rfl ?_
                refine x_iload_n C dX0_lengthOf_39 (q := 40) rfl rfl 2 rfl ?_
                refine x_iconst C dX0_lengthOf_40 (q := 41) rfl (v := nI 1) (by decide) ?_
                refine x_isub C dX0_lengthOf_41 (q := 42) rfl (z := nI (mo - 1)) (xi_subN (by omega) (by omega)) ?_
                refine x_tabI C (j := mo - 1) (v := .int (nI (mTab (mo - 1)))) hX.2.1 (nI_toInt (by omega)) (by omega) rfl dX0_lengthOf_42 (q := 43) rfl ?_
                refine x_isub C dX0_lengthOf_43 (q := 44) rfl (z := nI (mTab (mo) - (mTab (mo - 1)))) (xi_subN (by omega) (by omega)) ?_
                refine x_iload_n C dX0_lengthOf_44 (q := 45) rfl rfl 0 rfl ?_
                refine x_iadd C dX0_lengthOf_45 (q := 46) rfl (z := nI (mTab (mo) - (mTab (mo - 1)) + 0)) (nI_add (mTab (mo) - (mTab (mo - 1))) 0) ?_
                refine x_iret C hA hQ hr dX0_lengthOf_46 (Nat.le_of_ble_eq_true rfl) ?_
                first | exact ⟨by unfold mLen; rw [if_pos (by omega)], rfl⟩ | exact ⟨by unfold mLen lpD; rw [if_neg (by omega), if_pos (by omega), if_pos (by assumption)], rfl⟩ | exact ⟨by unfold mLen lpD; rw [if_neg (by omega), if_pos (by omega), if_neg (by assumption)], rfl⟩ | exact ⟨by unfold mLen; rw [if_neg (by omega), if_neg (by omega)], rfl⟩
      · first
        | (exfalso; omega)
        |
          refine x_iconst C dX0_lengthOf_11 (q := 12) rfl (v := nI 0) (by decide) ?_
          refine x_iret C hA hQ hr dX0_lengthOf_12 (Nat.le_of_ble_eq_true rfl) ?_
          first | exact ⟨by unfold mLen; rw [if_pos (by omega)], rfl⟩ | exact ⟨by unfold mLen lpD; rw [if_neg (by omega), if_pos (by omega), if_pos (by assumption)], rfl⟩ | exact ⟨by unfold mLen lpD; rw [if_neg (by omega), if_pos (by omega), if_neg (by assumption)], rfl⟩ | exact ⟨by unfold mLen; rw [if_neg (by omega), if_neg (by omega)], rfl⟩


theorem mLen_lt (y m : Nat) : mLen y m < 1000 := by
  unfold mLen
  split
  · omega
  · have h1 := mTab_le m (by omega)
    have h2 := lpD_le y
    split <;> omega
theorem xl_ofInt {z : Int} (h1 : -9223372036854775808 ≤ z) (h2 : z < 9223372036854775808) : (Int64.ofInt z).toInt = z := by
  have hs : Int64.size = 18446744073709551616 := rfl
  rw [Int64.toInt_ofInt, Int.bmod_eq_of_le (by omega) (by omega)]

set_option maxHeartbeats 4000000 in
set_option maxRecDepth 100000 in
/-- Days.isDate -/
theorem c_X0_isDate (l : Launch) (D : va_G) (cy : Nat → ClassId) (t0 : Nat) (adK : Nat → Nat) (adV : Nat → Nat) (sg : Nat) (len : Nat) (b : Nat → Nat) (hb : ∀ k, b k < 128) (hlen : len ≤ 60) : xMet l D cy (xZ t0 adK adV) yX0_isDate wsX0_isDate ({ frames := 6, cells := 0, slots := 0, locals := 1200 } : Room) [.ref sg] [] [(sg, .inl (cy 0, len, .inl (fun k => nI (b k))))] (fun (v9 : Option Value) (w9 : va_W) => (v9 = some (.int (nI 1)) ∧ w9 = [] ∧ dateS b len) ∨ (v9 = some (.int (nI 0)) ∧ w9 = [] ∧ ¬ dateS b len)) := by
  refine xMet_of (cc := cX0_isDate) (maxL := 4) (ret := (some .boolean)) (by decide) rfl (Nat.le_of_ble_eq_true rfl) (fun p e s m args below meth c A R Q hA hR hQ C hr hnm hro hX => ?_)
  refine x_L (L' := [(0, .ref sg)]) [0] rfl ?_
  refine x_aload_n C dX0_isDate_0 (q := 1) rfl rfl 0 rfl ?_
  refine x_ldcS C hX.2.2.2.1 dX0_isDate_1 (q := 3) rfl ?_
  refine x_callS C (roW := []) (roR := [(sg, .inl (cy 0, len, .inl (fun k => nI (b k))))]) (c_X0_looksLike l D cy t0 adK adV sg len b 0 (by assumption) (by first | assumption | omega | (simp only []; omega)) (by first | assumption | omega | (simp only []; omega))) (cwS 2 C.2.2.2.2.1 gX0_isDate_X0_looksLike rfl rfl rfl (by decide +kernel) (by rw [hR]; exact ⟨Nat.le_of_ble_eq_true rfl, Nat.le_of_ble_eq_true rfl⟩)) [] [] rfl (by decide) rfl (by decide) (xro_cons (hro (sg, .inl (cy 0, len, .inl (fun k => nI (b k)))) (List.mem_of_getElem? (i := 0) rfl)) xro_nil) (xZ_bl t0 adK adV) (fun H9 locs9 U9 hS9 hF9 hU9 hW9 => xZ_call hX hS9 hF9 hU9 hW9) rfl rfl dX0_isDate_3 rfl rfl (Nat.le_of_ble_eq_true rfl) (q := 6) rfl (k' := 0) rfl (n' := 0) rfl (by rw [hR]; exact ⟨Nat.le_of_ble_eq_true rfl, Nat.le_of_ble_eq_true rfl⟩) (fun v1 w1 hp1 => ?_)
  rcases hp1 with hp1 | hp1
  · skip
    obtain ⟨rfl, rfl, hc2, hc3⟩ := hp1
    refine x_ws (ws' := []) (List.append_nil _) ?_
    refine x_if_ne C (tgt := 20) dX0_isDate_6 (by decide) (q := 9) rfl (a := 1) rfl (fun h4 => ?_) (fun h4 => (by omega : False).elim)
    refine x_aload_n C dX0_isDate_20 (q := 21) rfl rfl 0 rfl ?_
    have hpt : patD b ∨ patY b := by first | exact Or.inl (mtP_D.mp (by assumption)) | exact Or.inr (mtP_Y.mp (by assumption))
    have hyl := yrS_lt hpt
    have hml := moS_lt hpt
    have hdl := dyS_lt hpt
    have hml9 := mLen_lt (yrS b) (moS b)
    refine x_callS C (roW := []) (roR := [(sg, .inl (cy 0, len, .inl (fun k => nI (b k))))]) (c_X0_yearIn l D cy sg len b (by assumption) (by omega) (by first | exact Or.inl (mtP_D.mp (by assumption)) | exact Or.inr (mtP_Y.mp (by assumption)))) (cwS 1 C.2.2.2.2.1 gX0_isDate_X0_yearIn rfl rfl rfl (by decide +kernel) (by rw [hR]; exact ⟨Nat.le_of_ble_eq_true rfl, Nat.le_of_ble_eq_true rfl⟩)) [] [] rfl (by decide) rfl (by decide) (xro_cons (hro (sg, .inl (cy 0, len, .inl (fun k => nI (b k)))) (List.mem_of_getElem? (i := 0) rfl)) xro_nil) xT_bl (fun _ _ _ _ _ _ _ => trivial) rfl rfl dX0_isDate_21 rfl rfl (Nat.le_of_ble_eq_true rfl) (q := 24) rfl (k' := 0) rfl (n' := 0) rfl (by rw [hR]; exact ⟨Nat.le_of_ble_eq_true rfl, Nat.le_of_ble_eq_true rfl⟩) (fun v5 w5 hp5 => ?_)
    obtain ⟨rfl, rfl⟩ := hp5
    refine x_ws (ws' := []) (List.append_nil _) ?_
    refine x_istore_n C (L' := [(1, .int (nI (yrS b))), (0, .ref sg)]) dX0_isDate_24 (q := 25) rfl rfl (by decide) rfl ?_
    refine x_aload_n C dX0_isDate_25 (q := 26) rfl rfl 1 rfl ?_
    refine x_callS C (roW := []) (roR := [(sg, .inl (cy 0, len, .inl (fun k => nI (b k))))]) (c_X0_monthIn l D cy sg len b (by assumption) (by omega) (by first | exact Or.inl (mtP_D.mp (by assumption)) | exact Or.inr (mtP_Y.mp (by assumption)))) (cwS 1 C.2.2.2.2.1 gX0_isDate_X0_monthIn rfl rfl rfl (by decide +kernel) (by rw [hR]; exact ⟨Nat.le_of_ble_eq_true rfl, Nat.le_of_ble_eq_true rfl⟩)) [] [] rfl (by decide) rfl (by decide) (xro_cons (hro (sg, .inl (cy 0, len, .inl (fun k => nI (b k)))) (List.mem_of_getElem? (i := 0) rfl)) xro_nil) xT_bl (fun _ _ _ _ _ _ _ => trivial) rfl rfl dX0_isDate_26 rfl rfl (Nat.le_of_ble_eq_true rfl) (q := 29) rfl (k' := 0) rfl (n' := 0) rfl (by rw [hR]; exact ⟨Nat.le_of_ble_eq_true rfl, Nat.le_of_ble_eq_true rfl⟩) (fun v6 w6 hp6 => ?_)
    obtain ⟨rfl, rfl⟩ := hp6
    refine x_ws (ws' := []) (List.append_nil _) ?_
    refine x_istore_n C (L' := [(2, .int (nI (moS b))), (1, .int (nI (yrS b))), (0, .ref sg)]) dX0_isDate_29 (q := 30) rfl rfl (by decide) rfl ?_
    refine x_aload_n C dX0_isDate_30 (q := 31) rfl rfl 2 rfl ?_
    refine x_callS C (roW := []) (roR := [(sg, .inl (cy 0, len, .inl (fun k => nI (b k))))]) (c_X0_dayIn l D cy sg len b (by assumption) (by omega) (by first | exact Or.inl (mtP_D.mp (by assumption)) | exact Or.inr (mtP_Y.mp (by assumption)))) (cwS 1 C.2.2.2.2.1 gX0_isDate_X0_dayIn rfl rfl rfl (by decide +kernel) (by rw [hR]; exact ⟨Nat.le_of_ble_eq_true rfl, Nat.le_of_ble_eq_true rfl⟩)) [] [] rfl (by decide) rfl (by decide) (xro_cons (hro (sg, .inl (cy 0, len, .inl (fun k => nI (b k)))) (List.mem_of_getElem? (i := 0) rfl)) xro_nil) xT_bl (fun _ _ _ _ _ _ _ => trivial) rfl rfl dX0_isDate_31 rfl rfl (Nat.le_of_ble_eq_true rfl) (q := 34) rfl (k' := 0) rfl (n' := 0) rfl (by rw [hR]; exact ⟨Nat.le_of_ble_eq_true rfl, Nat.le_of_ble_eq_true rfl⟩) (fun v7 w7 hp7 => ?_)
    obtain ⟨rfl, rfl⟩ := hp7
    refine x_ws (ws' := []) (List.append_nil _) ?_
    refine x_istore_n C (L' := [(3, .int (nI (dyS b))), (2, .int (nI (moS b))), (1, .int (nI (yrS b))), (0, .ref sg)]) dX0_isDate_34 (q := 35) rfl rfl (by decide) rfl ?_
    refine x_iload_n C dX0_isDate_35 (q := 36) rfl rfl 2 rfl ?_
    refine x_sipush C dX0_isDate_36 (q := 39) rfl (v := nI 1900) (by decide) ?_
    refine x_icmp_lt C (tgt := 67) dX0_isDate_39 (by decide) (q := 42) rfl (a := ((yrS b : Nat) : Int)) (b := 1900) (nI_toInt (by omega)) rfl (fun h8 => ?_) (fun h8 => ?_)
    · first
      | (exfalso; omega)
      |
        refine x_iconst C dX0_isDate_67 (q := 68) rfl (v := nI 0) (by decide) ?_
        refine x_zret C hA hQ hr (ty := .boolean) (by first | rfl | assumption | exact xz_nar _) dX0_isDate_68 (Nat.le_of_ble_eq_true rfl) ?_
        first | exact Or.inl ⟨rfl, rfl, by omega, by assumption, by omega, by omega, by omega, by omega⟩ | exact Or.inr ⟨rfl, rfl, fun z => by have z1 := z.2.2.1; have z2 := z.2.2.2.1; have z3 := z.2.2.2.2.1; have z4 := z.2.2.2.2.2; omega⟩ | (refine Or.inr ⟨rfl, rfl, fun z => ?_⟩; rcases z.2.1 with z1 | z1; exact (by assumption : ¬ (len = 10 ∧ ∀ k, k < 10 → mtP 0 b k)) ⟨z.1, mtP_D.mpr z1⟩; exact (by assumption : ¬ (len = 10 ∧ ∀ k, k < 10 → mtP 1 b k)) ⟨z.1, mtP_Y.mpr z1⟩)
    · first
      | (exfalso; omega)
      |
        refine x_iload_n C dX0_isDate_42 (q := 43) rfl rfl 2 rfl ?_
        refine x_sipush C dX0_isDate_43 (q := 46) rfl (v := nI 2099) (by decide) ?_
        refine x_icmp_gt C (tgt := 67) dX0_isDate_46 (by decide) (q := 49) rfl (a := ((yrS b : Nat) : Int)) (b := 2099) (nI_toInt (by omega)) rfl (fun h9 => ?_) (fun h9 => ?_)
        · first
          | (exfalso; omega)
          |
            refine x_iconst C dX0_isDate_67 (q := 68) rfl (v := nI 0) (by decide) ?_
            refine x_zret C hA hQ hr (ty := .boolean) (by first | rfl | assumption | exact xz_nar _) dX0_isDate_68 (Nat.le_of_ble_eq_true rfl) ?_
            first | exact Or.inl ⟨rfl, rfl, by omega, by assumption, by omega, by omega, by omega, by omega⟩ | exact Or.inr ⟨rfl, rfl, fun z => by have z1 := z.2.2.1; have z2 := z.2.2.2.1; have z3 := z.2.2.2.2.1; have z4 := z.2.2.2.2.2; omega⟩ | (refine Or.inr ⟨rfl, rfl, fun z => ?_⟩; rcases z.2.1 with z1 | z1; exact (by assumption : ¬ (len = 10 ∧ ∀ k, k < 10 → mtP 0 b k)) ⟨z.1, mtP_D.mpr z1⟩; exact (by assumption : ¬ (len = 10 ∧ ∀ k, k < 10 → mtP 1 b k)) ⟨z.1, mtP_Y.mpr z1⟩)
        · first
          | (exfalso; omega)
          |
            refine x_iload_n C dX0_isDate_49 (q := 50) rfl rfl 0 rfl ?_
            refine x_iconst C dX0_isDate_50 (q := 51) rfl (v := nI 1) (by decide) ?_
            refine x_icmp_lt C (tgt := 67) dX0_isDate_51 (by decide) (q := 54) rfl (a := ((dyS b : Nat) : Int)) (b := 1) (nI_toInt (by omega)) rfl (fun h10 => ?_) (fun h10 => ?_)
            · first
              | (exfalso; omega)
              |
                refine x_iconst C dX0_isDate_67 (q := 68) rfl (v := nI 0) (by decide) ?_
                refine x_zret C hA hQ hr (ty := .boolean) (by first | rfl | assumption | exact xz_nar _) dX0_isDate_68 (Nat.le_of_ble_eq_true rfl) ?_
                first | exact Or.inl ⟨rfl, rfl, by omega, by assumption, by omega, by omega, by omega, by omega⟩ | exact Or.inr ⟨rfl, rfl, fun z => by have z1 := z.2.2.1; have z2 := z.2.2.2.1; have z3 := z.2.2.2.2.1; have z4 := z.2.2.2.2.2; omega⟩ | (refine Or.inr ⟨rfl, rfl, fun z => ?_⟩; rcases z.2.1 with z1 | z1; exact (by assumption : ¬ (len = 10 ∧ ∀ k, k < 10 → mtP 0 b k)) ⟨z.1, mtP_D.mpr z1⟩; exact (by assumption : ¬ (len = 10 ∧ ∀ k, k < 10 → mtP 1 b k)) ⟨z.1, mtP_Y.mpr z1⟩)
            · first
              | (exfalso; omega)
              |
                refine x_iload_n C dX0_isDate_54 (q := 55) rfl rfl 0 rfl ?_
                refine x_iload_n C dX0_isDate_55 (q := 56) rfl rfl 2 rfl ?_
                refine x_iload_n C dX0_isDate_56 (q := 57) rfl rfl 1 rfl ?_
                refine x_callS C (roW := []) (roR := []) (c_X0_lengthOf l D cy t0 adK adV (yrS b) (moS b) (by first | assumption | omega | (simp only []; omega)) (by first | assumption | omega | (simp only []; omega))) (cwS 2 C.2.2.2.2.1 gX0_isDate_X0_lengthOf rfl rfl rfl (by decide +kernel) (by rw [hR]; exact ⟨Nat.le_of_ble_eq_true rfl, Nat.le_of_ble_eq_true rfl⟩)) [] [] rfl (by decide) rfl (by decide) xro_nil (xZ_bl t0 adK adV) (fun H9 locs9 U9 hS9 hF9 hU9 hW9 => xZ_call hX hS9 hF9 hU9 hW9) rfl rfl dX0_isDate_57 rfl rfl (Nat.le_of_ble_eq_true rfl) (q := 60) rfl (k' := 0) rfl (n' := 0) rfl (by rw [hR]; exact ⟨Nat.le_of_ble_eq_true rfl, Nat.le_of_ble_eq_true rfl⟩) (fun v11 w11 hp11 => ?_)
                obtain ⟨rfl, rfl⟩ := hp11
                refine x_ws (ws' := []) (List.append_nil _) ?_
                refine x_icmp_gt C (tgt := 67) dX0_isDate_60 (by decide) (q := 63) rfl (a := ((dyS b : Nat) : Int)) (b := ((mLen (yrS b) (moS b) : Nat) : Int)) (nI_toInt (by omega)) (nI_toInt (by omega)) (fun h12 => ?_) (fun h12 => ?_)
                · first
                  | (exfalso; omega)
                  |
                    refine x_iconst C dX0_isDate_67 (q := 68) rfl (v := nI 0) (by decide) ?_
                    refine x_zret C hA hQ hr (ty := .boolean) (by first | rfl | assumption | exact xz_nar _) dX0_isDate_68 (Nat.le_of_ble_eq_true rfl) ?_
                    first | exact Or.inl ⟨rfl, rfl, by omega, by assumption, by omega, by omega, by omega, by omega⟩ | exact Or.inr ⟨rfl, rfl, fun z => by have z1 := z.2.2.1; have z2 := z.2.2.2.1; have z3 := z.2.2.2.2.1; have z4 := z.2.2.2.2.2; omega⟩ | (refine Or.inr ⟨rfl, rfl, fun z => ?_⟩; rcases z.2.1 with z1 | z1; exact (by assumption : ¬ (len = 10 ∧ ∀ k, k < 10 → mtP 0 b k)) ⟨z.1, mtP_D.mpr z1⟩; exact (by assumption : ¬ (len = 10 ∧ ∀ k, k < 10 → mtP 1 b k)) ⟨z.1, mtP_Y.mpr z1⟩)
                · first
                  | (exfalso; omega)
                  |
                    refine x_iconst C dX0_isDate_63 (q := 64) rfl (v := nI 1) (by decide) ?_
                    refine x_goto C (tgt := 68) dX0_isDate_64 (by decide) ?_
                    refine x_zret C hA hQ hr (ty := .boolean) (by first | rfl | assumption | exact xz_nar _) dX0_isDate_68 (Nat.le_of_ble_eq_true rfl) ?_
                    first | exact Or.inl ⟨rfl, rfl, by omega, by assumption, by omega, by omega, by omega, by omega⟩ | exact Or.inr ⟨rfl, rfl, fun z => by have z1 := z.2.2.1; have z2 := z.2.2.2.1; have z3 := z.2.2.2.2.1; have z4 := z.2.2.2.2.2; omega⟩ | (refine Or.inr ⟨rfl, rfl, fun z => ?_⟩; rcases z.2.1 with z1 | z1; exact (by assumption : ¬ (len = 10 ∧ ∀ k, k < 10 → mtP 0 b k)) ⟨z.1, mtP_D.mpr z1⟩; exact (by assumption : ¬ (len = 10 ∧ ∀ k, k < 10 → mtP 1 b k)) ⟨z.1, mtP_Y.mpr z1⟩)
  · skip
    obtain ⟨rfl, rfl, hc13⟩ := hp1
    refine x_ws (ws' := []) (List.append_nil _) ?_
    refine x_if_ne C (tgt := 20) dX0_isDate_6 (by decide) (q := 9) rfl (a := 0) rfl (fun h14 => (by omega : False).elim) (fun h14 => ?_)
    refine x_aload_n C dX0_isDate_9 (q := 10) rfl rfl 0 rfl ?_
    refine x_ldcS C hX.2.2.2.2.1 dX0_isDate_10 (q := 12) rfl ?_
    refine x_callS C (roW := []) (roR := [(sg, .inl (cy 0, len, .inl (fun k => nI (b k))))]) (c_X0_looksLike l D cy t0 adK adV sg len b 1 (by assumption) (by first | assumption | omega | (simp only []; omega)) (by first | assumption | omega | (simp only []; omega))) (cwS 2 C.2.2.2.2.1 gX0_isDate_X0_looksLike rfl rfl rfl (by decide +kernel) (by rw [hR]; exact ⟨Nat.le_of_ble_eq_true rfl, Nat.le_of_ble_eq_true rfl⟩)) [] [] rfl (by decide) rfl (by decide) (xro_cons (hro (sg, .inl (cy 0, len, .inl (fun k => nI (b k)))) (List.mem_of_getElem? (i := 0) rfl)) xro_nil) (xZ_bl t0 adK adV) (fun H9 locs9 U9 hS9 hF9 hU9 hW9 => xZ_call hX hS9 hF9 hU9 hW9) rfl rfl dX0_isDate_12 rfl rfl (Nat.le_of_ble_eq_true rfl) (q := 15) rfl (k' := 0) rfl (n' := 0) rfl (by rw [hR]; exact ⟨Nat.le_of_ble_eq_true rfl, Nat.le_of_ble_eq_true rfl⟩) (fun v15 w15 hp15 => ?_)
    rcases hp15 with hp15 | hp15
    · skip
      obtain ⟨rfl, rfl, hc16, hc17⟩ := hp15
      refine x_ws (ws' := []) (List.append_nil _) ?_
      refine x_if_ne C (tgt := 20) dX0_isDate_15 (by decide) (q := 18) rfl (a := 1) rfl (fun h18 => ?_) (fun h18 => (by omega : False).elim)
      refine x_aload_n C dX0_isDate_20 (q := 21) rfl rfl 0 rfl ?_
      have hpt : patD b ∨ patY b := by first | exact Or.inl (mtP_D.mp (by assumption)) | exact Or.inr (mtP_Y.mp (by assumption))
      have hyl := yrS_lt hpt
      have hml := moS_lt hpt
      have hdl := dyS_lt hpt
      have hml9 := mLen_lt (yrS b) (moS b)
      refine x_callS C (roW := []) (roR := [(sg, .inl (cy 0, len, .inl (fun k => nI (b k))))]) (c_X0_yearIn l D cy sg len b (by assumption) (by omega) (by first | exact Or.inl (mtP_D.mp (by assumption)) | exact Or.inr (mtP_Y.mp (by assumption)))) (cwS 1 C.2.2.2.2.1 gX0_isDate_X0_yearIn rfl rfl rfl (by decide +kernel) (by rw [hR]; exact ⟨Nat.le_of_ble_eq_true rfl, Nat.le_of_ble_eq_true rfl⟩)) [] [] rfl (by decide) rfl (by decide) (xro_cons (hro (sg, .inl (cy 0, len, .inl (fun k => nI (b k)))) (List.mem_of_getElem? (i := 0) rfl)) xro_nil) xT_bl (fun _ _ _ _ _ _ _ => trivial) rfl rfl dX0_isDate_21 rfl rfl (Nat.le_of_ble_eq_true rfl) (q := 24) rfl (k' := 0) rfl (n' := 0) rfl (by rw [hR]; exact ⟨Nat.le_of_ble_eq_true rfl, Nat.le_of_ble_eq_true rfl⟩) (fun v19 w19 hp19 => ?_)
      obtain ⟨rfl, rfl⟩ := hp19
      refine x_ws (ws' := []) (List.append_nil _) ?_
      refine x_istore_n C (L' := [(1, .int (nI (yrS b))), (0, .ref sg)]) dX0_isDate_24 (q := 25) rfl rfl (by decide) rfl ?_
      refine x_aload_n C dX0_isDate_25 (q := 26) rfl rfl 1 rfl ?_
      refine x_callS C (roW := []) (roR := [(sg, .inl (cy 0, len, .inl (fun k => nI (b k))))]) (c_X0_monthIn l D cy sg len b (by assumption) (by omega) (by first | exact Or.inl (mtP_D.mp (by assumption)) | exact Or.inr (mtP_Y.mp (by assumption)))) (cwS 1 C.2.2.2.2.1 gX0_isDate_X0_monthIn rfl rfl rfl (by decide +kernel) (by rw [hR]; exact ⟨Nat.le_of_ble_eq_true rfl, Nat.le_of_ble_eq_true rfl⟩)) [] [] rfl (by decide) rfl (by decide) (xro_cons (hro (sg, .inl (cy 0, len, .inl (fun k => nI (b k)))) (List.mem_of_getElem? (i := 0) rfl)) xro_nil) xT_bl (fun _ _ _ _ _ _ _ => trivial) rfl rfl dX0_isDate_26 rfl rfl (Nat.le_of_ble_eq_true rfl) (q := 29) rfl (k' := 0) rfl (n' := 0) rfl (by rw [hR]; exact ⟨Nat.le_of_ble_eq_true rfl, Nat.le_of_ble_eq_true rfl⟩) (fun v20 w20 hp20 => ?_)
      obtain ⟨rfl, rfl⟩ := hp20
      refine x_ws (ws' := []) (List.append_nil _) ?_
      refine x_istore_n C (L' := [(2, .int (nI (moS b))), (1, .int (nI (yrS b))), (0, .ref sg)]) dX0_isDate_29 (q := 30) rfl rfl (by decide) rfl ?_
      refine x_aload_n C dX0_isDate_30 (q := 31) rfl rfl 2 rfl ?_
      refine x_callS C (roW := []) (roR := [(sg, .inl (cy 0, len, .inl (fun k => nI (b k))))]) (c_X0_dayIn l D cy sg len b (by assumption) (by omega) (by first | exact Or.inl (mtP_D.mp (by assumption)) | exact Or.inr (mtP_Y.mp (by assumption)))) (cwS 1 C.2.2.2.2.1 gX0_isDate_X0_dayIn rfl rfl rfl (by decide +kernel) (by rw [hR]; exact ⟨Nat.le_of_ble_eq_true rfl, Nat.le_of_ble_eq_true rfl⟩)) [] [] rfl (by decide) rfl (by decide) (xro_cons (hro (sg, .inl (cy 0, len, .inl (fun k => nI (b k)))) (List.mem_of_getElem? (i := 0) rfl)) xro_nil) xT_bl (fun _ _ _ _ _ _ _ => trivial) rfl rfl dX0_isDate_31 rfl rfl (Nat.le_of_ble_eq_true rfl) (q := 34) rfl (k' := 0) rfl (n' := 0) rfl (by rw [hR]; exact ⟨Nat.le_of_ble_eq_true rfl, Nat.le_of_ble_eq_true rfl⟩) (fun v21 w21 hp21 => ?_)
      obtain ⟨rfl, rfl⟩ := hp21
      refine x_ws (ws' := []) (List.append_nil _) ?_
      refine x_istore_n C (L' := [(3, .int (nI (dyS b))), (2, .int (nI (moS b))), (1, .int (nI (yrS b))), (0, .ref sg)]) dX0_isDate_34 (q := 35) rfl rfl (by decide) rfl ?_
      refine x_iload_n C dX0_isDate_35 (q := 36) rfl rfl 2 rfl ?_
      refine x_sipush C dX0_isDate_36 (q := 39) rfl (v := nI 1900) (by decide) ?_
      refine x_icmp_lt C (tgt := 67) dX0_isDate_39 (by decide) (q := 42) rfl (a := ((yrS b : Nat) : Int)) (b := 1900) (nI_toInt (by omega)) rfl (fun h22 => ?_) (fun h22 => ?_)
      · first
        | (exfalso; omega)
        |
          refine x_iconst C dX0_isDate_67 (q := 68) rfl (v := nI 0) (by decide) ?_
          refine x_zret C hA hQ hr (ty := .boolean) (by first | rfl | assumption | exact xz_nar _) dX0_isDate_68 (Nat.le_of_ble_eq_true rfl) ?_
          first | exact Or.inl ⟨rfl, rfl, by omega, by assumption, by omega, by omega, by omega, by omega⟩ | exact Or.inr ⟨rfl, rfl, fun z => by have z1 := z.2.2.1; have z2 := z.2.2.2.1; have z3 := z.2.2.2.2.1; have z4 := z.2.2.2.2.2; omega⟩ | (refine Or.inr ⟨rfl, rfl, fun z => ?_⟩; rcases z.2.1 with z1 | z1; exact (by assumption : ¬ (len = 10 ∧ ∀ k, k < 10 → mtP 0 b k)) ⟨z.1, mtP_D.mpr z1⟩; exact (by assumption : ¬ (len = 10 ∧ ∀ k, k < 10 → mtP 1 b k)) ⟨z.1, mtP_Y.mpr z1⟩)
      · first
        | (exfalso; omega)
        |
          refine x_iload_n C dX0_isDate_42 (q := 43) rfl rfl 2 rfl ?_
          refine x_sipush C dX0_isDate_43 (q := 46) rfl (v := nI 2099) (by decide) ?_
          refine x_icmp_gt C (tgt := 67) dX0_isDate_46 (by decide) (q := 49) rfl (a := ((yrS b : Nat) : Int)) (b := 2099) (nI_toInt (by omega)) rfl (fun h23 => ?_) (fun h23 => ?_)
          · first
            | (exfalso; omega)
            |
              refine x_iconst C dX0_isDate_67 (q := 68) rfl (v := nI 0) (by decide) ?_
              refine x_zret C hA hQ hr (ty := .boolean) (by first | rfl | assumption | exact xz_nar _) dX0_isDate_68 (Nat.le_of_ble_eq_true rfl) ?_
              first | exact Or.inl ⟨rfl, rfl, by omega, by assumption, by omega, by omega, by omega, by omega⟩ | exact Or.inr ⟨rfl, rfl, fun z => by have z1 := z.2.2.1; have z2 := z.2.2.2.1; have z3 := z.2.2.2.2.1; have z4 := z.2.2.2.2.2; omega⟩ | (refine Or.inr ⟨rfl, rfl, fun z => ?_⟩; rcases z.2.1 with z1 | z1; exact (by assumption : ¬ (len = 10 ∧ ∀ k, k < 10 → mtP 0 b k)) ⟨z.1, mtP_D.mpr z1⟩; exact (by assumption : ¬ (len = 10 ∧ ∀ k, k < 10 → mtP 1 b k)) ⟨z.1, mtP_Y.mpr z1⟩)
          · first
            | (exfalso; omega)
            |
              refine x_iload_n C dX0_isDate_49 (q := 50) rfl rfl 0 rfl ?_
              refine x_iconst C dX0_isDate_50 (q := 51) rfl (v := nI 1) (by decide) ?_
              refine x_icmp_lt C (tgt := 67) dX0_isDate_51 (by decide) (q := 54) rfl (a := ((dyS b : Nat) : Int)) (b := 1) (nI_toInt (by omega)) rfl (fun h24 => ?_) (fun h24 => ?_)
              · first
                | (exfalso; omega)
                |
                  refine x_iconst C dX0_isDate_67 (q := 68) rfl (v := nI 0) (by decide) ?_
                  refine x_zret C hA hQ hr (ty := .boolean) (by first | rfl | assumption | exact xz_nar _) dX0_isDate_68 (Nat.le_of_ble_eq_true rfl) ?_
                  first | exact Or.inl ⟨rfl, rfl, by omega, by assumption, by omega, by omega, by omega, by omega⟩ | exact Or.inr ⟨rfl, rfl, fun z => by have z1 := z.2.2.1; have z2 := z.2.2.2.1; have z3 := z.2.2.2.2.1; have z4 := z.2.2.2.2.2; omega⟩ | (refine Or.inr ⟨rfl, rfl, fun z => ?_⟩; rcases z.2.1 with z1 | z1; exact (by assumption : ¬ (len = 10 ∧ ∀ k, k < 10 → mtP 0 b k)) ⟨z.1, mtP_D.mpr z1⟩; exact (by assumption : ¬ (len = 10 ∧ ∀ k, k < 10 → mtP 1 b k)) ⟨z.1, mtP_Y.mpr z1⟩)
              · first
                | (exfalso; omega)
                |
                  refine x_iload_n C dX0_isDate_54 (q := 55) rfl rfl 0 rfl ?_
                  refine x_iload_n C dX0_isDate_55 (q := 56) rfl rfl 2 rfl ?_
                  refine x_iload_n C dX0_isDate_56 (q := 57) rfl rfl 1 rfl ?_
                  refine x_callS C (roW := []) (roR := []) (c_X0_lengthOf l D cy t0 adK adV (yrS b) (moS b) (by first | assumption | omega | (simp only []; omega)) (by first | assumption | omega | (simp only []; omega))) (cwS 2 C.2.2.2.2.1 gX0_isDate_X0_lengthOf rfl rfl rfl (by decide +kernel) (by rw [hR]; exact ⟨Nat.le_of_ble_eq_true rfl, Nat.le_of_ble_eq_true rfl⟩)) [] [] rfl (by decide) rfl (by decide) xro_nil (xZ_bl t0 adK adV) (fun H9 locs9 U9 hS9 hF9 hU9 hW9 => xZ_call hX hS9 hF9 hU9 hW9) rfl rfl dX0_isDate_57 rfl rfl (Nat.le_of_ble_eq_true rfl) (q := 60) rfl (k' := 0) rfl (n' := 0) rfl (by rw [hR]; exact ⟨Nat.le_of_ble_eq_true rfl, Nat.le_of_ble_eq_true rfl⟩) (fun v25 w25 hp25 => ?_)
                  obtain ⟨rfl, rfl⟩ := hp25
                  refine x_ws (ws' := []) (List.append_nil _) ?_
                  refine x_icmp_gt C (tgt := 67) dX0_isDate_60 (by decide) (q := 63) rfl (a := ((dyS b : Nat) : Int)) (b := ((mLen (yrS b) (moS b) : Nat) : Int)) (nI_toInt (by omega)) (nI_toInt (by omega)) (fun h26 => ?_) (fun h26 => ?_)
                  · first
                    | (exfalso; omega)
                    |
                      refine x_iconst C dX0_isDate_67 (q := 68) rfl (v := nI 0) (by decide) ?_
                      refine x_zret C hA hQ hr (ty := .boolean) (by first | rfl | assumption | exact xz_nar _) dX0_isDate_68 (Nat.le_of_ble_eq_true rfl) ?_
                      first | exact Or.inl ⟨rfl, rfl, by omega, by assumption, by omega, by omega, by omega, by omega⟩ | exact Or.inr ⟨rfl, rfl, fun z => by have z1 := z.2.2.1; have z2 := z.2.2.2.1; have z3 := z.2.2.2.2.1; have z4 := z.2.2.2.2.2; omega⟩ | (refine Or.inr ⟨rfl, rfl, fun z => ?_⟩; rcases z.2.1 with z1 | z1; exact (by assumption : ¬ (len = 10 ∧ ∀ k, k < 10 → mtP 0 b k)) ⟨z.1, mtP_D.mpr z1⟩; exact (by assumption : ¬ (len = 10 ∧ ∀ k, k < 10 → mtP 1 b k)) ⟨z.1, mtP_Y.mpr z1⟩)
                  · first
                    | (exfalso; omega)
                    |
                      refine x_iconst C dX0_isDate_63 (q := 64) rfl (v := nI 1) (by decide) ?_
                      refine x_goto C (tgt := 68) dX0_isDate_64 (by decide) ?_
                      refine x_zret C hA hQ hr (ty := .boolean) (by first | rfl | assumption | exact xz_nar _) dX0_isDate_68 (Nat.le_of_ble_eq_true rfl) ?_
                      first | exact Or.inl ⟨rfl, rfl, by omega, by assumption, by omega, by omega, by omega, by omega⟩ | exact Or.inr ⟨rfl, rfl, fun z => by have z1 := z.2.2.1; have z2 := z.2.2.2.1; have z3 := z.2.2.2.2.1; have z4 := z.2.2.2.2.2; omega⟩ | (refine Or.inr ⟨rfl, rfl, fun z => ?_⟩; rcases z.2.1 with z1 | z1; exact (by assumption : ¬ (len = 10 ∧ ∀ k, k < 10 → mtP 0 b k)) ⟨z.1, mtP_D.mpr z1⟩; exact (by assumption : ¬ (len = 10 ∧ ∀ k, k < 10 → mtP 1 b k)) ⟨z.1, mtP_Y.mpr z1⟩)
    · skip
      obtain ⟨rfl, rfl, hc27⟩ := hp15
      refine x_ws (ws' := []) (List.append_nil _) ?_
      refine x_if_ne C (tgt := 20) dX0_isDate_15 (by decide) (q := 18) rfl (a := 0) rfl (fun h28 => (by omega : False).elim) (fun h28 => ?_)
      refine x_iconst C dX0_isDate_18 (q := 19) rfl (v := nI 0) (by decide) ?_
      refine x_zret C hA hQ hr (ty := .boolean) (by first | rfl | assumption | exact xz_nar _) dX0_isDate_19 (Nat.le_of_ble_eq_true rfl) ?_
      first | exact Or.inl ⟨rfl, rfl, by omega, by assumption, by omega, by omega, by omega, by omega⟩ | exact Or.inr ⟨rfl, rfl, fun z => by have z1 := z.2.2.1; have z2 := z.2.2.2.1; have z3 := z.2.2.2.2.1; have z4 := z.2.2.2.2.2; omega⟩ | (refine Or.inr ⟨rfl, rfl, fun z => ?_⟩; rcases z.2.1 with z1 | z1; exact (by assumption : ¬ (len = 10 ∧ ∀ k, k < 10 → mtP 0 b k)) ⟨z.1, mtP_D.mpr z1⟩; exact (by assumption : ¬ (len = 10 ∧ ∀ k, k < 10 → mtP 1 b k)) ⟨z.1, mtP_Y.mpr z1⟩)

set_option maxHeartbeats 4000000 in
set_option maxRecDepth 100000 in
/-- Days.since2000 -/
theorem c_X0_since2000 (l : Launch) (D : va_G) (cy : Nat → ClassId) (t0 : Nat) (adK : Nat → Nat) (adV : Nat → Nat) (sg : Nat) (len : Nat) (b : Nat → Nat) (hb : ∀ k, b k < 128) (hlen : len ≤ 60) (hd : dateS b len) : xMet l D cy (xZ t0 adK adV) yX0_since2000 wsX0_since2000 ({ frames := 3, cells := 0, slots := 0, locals := 400 } : Room) [.ref sg] [] [(sg, .inl (cy 0, len, .inl (fun k => nI (b k))))] (fun (v9 : Option Value) (w9 : va_W) => (v9 = some (.long (Int64.ofInt (dayS b))) ∧ w9 = [])) := by
  refine xMet_of (cc := cX0_since2000) (maxL := 5) (ret := (some .long)) (by decide) rfl (Nat.le_of_ble_eq_true rfl) (fun p e s m args below meth c A R Q hA hR hQ C hr hnm hro hX => ?_)
  have hw0 : Cond.fieldLink RX0 43 "FeatureImport$Days" "AHEAD_OF_MONTH" "[I" ∈ wsX0_since2000 := by decide +kernel
  refine x_L (L' := [(0, .ref sg)]) [0] rfl ?_
  have hyl := yrS_lt hd.2.1
  have hml := moS_lt hd.2.1
  have hdl := dyS_lt hd.2.1
  have hy1 := hd.2.2.1
  have hy2 := hd.2.2.2.1
  have hd1 := hd.2.2.2.2.1
  have hd2 := hd.2.2.2.2.2
  have hmo : 1 ≤ moS b ∧ moS b ≤ 12 := by
    refine Decidable.byContradiction (fun z => ?_)
    have : mLen (yrS b) (moS b) = 0 := if_pos (by omega)
    omega
  have hmt := mTab_le (moS b - 1) (by omega)
  have hyd : yD (yrS b) < 1000000 := by unfold yD; omega
  have hyd2 : yD 2000 < 1000000 := by decide
  refine x_aload_n C dX0_since2000_0 (q := 1) rfl rfl 0 rfl ?_
  refine x_callS C (roW := []) (roR := [(sg, .inl (cy 0, len, .inl (fun k => nI (b k))))]) (c_X0_yearIn l D cy sg len b (by assumption) hd.1 hd.2.1) (cwS 1 C.2.2.2.2.1 gX0_since2000_X0_yearIn rfl rfl rfl (by decide +kernel) (by rw [hR]; exact ⟨Nat.le_of_ble_eq_true rfl, Nat.le_of_ble_eq_true rfl⟩)) [] [] rfl (by decide) rfl (by decide) (xro_cons (hro (sg, .inl (cy 0, len, .inl (fun k => nI (b k)))) (List.mem_of_getElem? (i := 0) rfl)) xro_nil) xT_bl (fun _ _ _ _ _ _ _ => trivial) rfl rfl dX0_since2000_1 rfl rfl (Nat.le_of_ble_eq_true rfl) (q := 4) rfl (k' := 0) rfl (n' := 0) rfl (by rw [hR]; exact ⟨Nat.le_of_ble_eq_true rfl, Nat.le_of_ble_eq_true rfl⟩) (fun v1 w1 hp1 => ?_)
  obtain ⟨rfl, rfl⟩ := hp1
  refine x_ws (ws' := []) (List.append_nil _) ?_
  refine x_istore_n C (L' := [(1, .int (nI (yrS b))), (0, .ref sg)]) dX0_since2000_4 (q := 5) rfl rfl (by decide) rfl ?_
  refine x_aload_n C dX0_since2000_5 (q := 6) rfl rfl 1 rfl ?_
  refine x_callS C (roW := []) (roR := [(sg, .inl (cy 0, len, .inl (fun k => nI (b k))))]) (c_X0_monthIn l D cy sg len b (by assumption) hd.1 hd.2.1) (cwS 1 C.2.2.2.2.1 gX0_since2000_X0_monthIn rfl rfl rfl (by decide +kernel) (by rw [hR]; exact ⟨Nat.le_of_ble_eq_true rfl, Nat.le_of_ble_eq_true rfl⟩)) [] [] rfl (by decide) rfl (by decide) (xro_cons (hro (sg, .inl (cy 0, len, .inl (fun k => nI (b k)))) (List.mem_of_getElem? (i := 0) rfl)) xro_nil) xT_bl (fun _ _ _ _ _ _ _ => trivial) rfl rfl dX0_since2000_6 rfl rfl (Nat.le_of_ble_eq_true rfl) (q := 9) rfl (k' := 0) rfl (n' := 0) rfl (by rw [hR]; exact ⟨Nat.le_of_ble_eq_true rfl, Nat.le_of_ble_eq_true rfl⟩) (fun v2 w2 hp2 => ?_)
  obtain ⟨rfl, rfl⟩ := hp2
  refine x_ws (ws' := []) (List.append_nil _) ?_
  refine x_istore_n C (L' := [(2, .int (nI (moS b))), (1, .int (nI (yrS b))), (0, .ref sg)]) dX0_since2000_9 (q := 10) rfl rfl (by decide) rfl ?_
  refine x_iload_n C dX0_since2000_10 (q := 11) rfl rfl 0 rfl ?_
  refine x_iconst C dX0_since2000_11 (q := 12) rfl (v := nI 1) (by decide) ?_
  refine x_icmp_lt C (tgt := 21) dX0_since2000_12 (by decide) (q := 15) rfl (a := ((moS b : Nat) : Int)) (b := 1) (nI_toInt (by omega)) rfl (fun h3 => ?_) (fun h3 => ?_)
  · first
    | (exfalso; omega)
    |
      refine x_lconst C dX0_since2000_21 (q := 22) rfl (v := lN 0) rfl ?_
      refine x_lret C hA hQ hr dX0_since2000_22 (Nat.le_of_ble_eq_true rfl) ?_
      have e9 : dayS b = 0 := by
        unfold dayS
        first
          | (rw [if_neg (show ¬ 2 < moS b by omega)]; omega)
          | (rw [if_pos (show 2 < moS b by omega)]; unfold lpD; rw [if_pos (by assumption)]; omega)
          | (rw [if_pos (show 2 < moS b by omega)]; unfold lpD; rw [if_neg (by assumption)]; omega)
      refine ⟨congrArg (fun z => some (Value.long z)) (Int64.toInt_inj.mp ?_), rfl⟩
      rw [e9, xl_ofInt (by omega) (by omega)]
      exact rfl
  · first
    | (exfalso; omega)
    |
      refine x_iload_n C dX0_since2000_15 (q := 16) rfl rfl 0 rfl ?_
      refine x_bipush C dX0_since2000_16 (q := 18) rfl (v := nI 12) (by decide) ?_
      refine x_icmp_le C (tgt := 23) dX0_since2000_18 (by decide) (q := 21) rfl (a := ((moS b : Nat) : Int)) (b := 12) (nI_toInt (by omega)) rfl (fun h4 => ?_) (fun h4 => ?_)
      · first
        | (exfalso; omega)
        |
          refine x_iload_n C dX0_since2000_23 (q := 24) rfl rfl 0 rfl ?_
          refine x_iconst C dX0_since2000_24 (q := 25) rfl (v := nI 2) (by decide) ?_
          refine x_icmp_le C (tgt := 39) dX0_since2000_25 (by decide) (q := 28) rfl (a := ((moS b : Nat) : Int)) (b := 2) (nI_toInt (by omega)) rfl (fun h5 => ?_) (fun h5 => ?_)
          · first
            | (exfalso; omega)
            |
              refine x_iconst C dX0_since2000_39 (q := 40) rfl (v := nI 0) (by decide) ?_
              refine x_istore_n C (L' := [(3, .int (nI 0)), (2, .int (nI (moS b))), (1, .int (nI (yrS b))), (0, .ref sg)]) dX0_since2000_40 (q := 41) rfl rfl (by decide) rfl ?_
              refine x_gets C hX.1 hw0 dX0_since2000_41 (q := 44) rfl ?_
              refine x_iload_n C dX0_since2000_44 (q := 45) rfl rfl 1 rfl ?_
              refine x_iconst C dX0_since2000_45 (q := 46) rfl (v := nI 1) (by decide) ?_
              refine x_isub C dX0_since2000_46 (q := 47) rfl (z := nI (moS b - 1)) (xi_subN (by omega) (by omega)) ?_
              refine x_tabI C (j := moS b - 1) (v := .int (nI (mTab (moS b - 1)))) hX.2.1 (nI_toInt (by omega)) (by omega) rfl dX0_since2000_47 (q := 48) rfl ?_
              refine x_iload_n C dX0_since2000_48 (q := 49) rfl rfl 0 rfl ?_
              refine x_iadd C dX0_since2000_49 (q := 50) rfl (z := nI (mTab (moS b - 1) + 0)) (nI_add (mTab (moS b - 1)) 0) ?_
              refine x_aload_n C dX0_since2000_50 (q := 51) rfl rfl 3 rfl ?_
              refine x_callS C (roW := []) (roR := [(sg, .inl (cy 0, len, .inl (fun k => nI (b k))))]) (c_X0_dayIn l D cy sg len b (by assumption) hd.1 hd.2.1) (cwS 1 C.2.2.2.2.1 gX0_since2000_X0_dayIn rfl rfl rfl (by decide +kernel) (by rw [hR]; exact ⟨Nat.le_of_ble_eq_true rfl, Nat.le_of_ble_eq_true rfl⟩)) [] [] rfl (by decide) rfl (by decide) (xro_cons (hro (sg, .inl (cy 0, len, .inl (fun k => nI (b k)))) (List.mem_of_getElem? (i := 0) rfl)) xro_nil) xT_bl (fun _ _ _ _ _ _ _ => trivial) rfl rfl dX0_since2000_51 rfl rfl (Nat.le_of_ble_eq_true rfl) (q := 54) rfl (k' := 0) rfl (n' := 0) rfl (by rw [hR]; exact ⟨Nat.le_of_ble_eq_true rfl, Nat.le_of_ble_eq_true rfl⟩) (fun v6 w6 hp6 => ?_)
              obtain ⟨rfl, rfl⟩ := hp6
              refine x_ws (ws' := []) (List.append_nil _) ?_
              refine x_iadd C dX0_since2000_54 (q := 55) rfl (z := nI (mTab (moS b - 1) + 0 + (dyS b))) (nI_add (mTab (moS b - 1) + 0) (dyS b)) ?_
              refine x_iconst C dX0_since2000_55 (q := 56) rfl (v := nI 1) (by decide) ?_
              refine x_isub C dX0_since2000_56 (q := 57) rfl (z := nI (mTab (moS b - 1) + 0 + (dyS b) - 1)) (xi_subN (by omega) (by omega)) ?_
              refine x_istore C (L' := [(4, .int (nI (mTab (moS b - 1) + 0 + (dyS b) - 1))), (3, .int (nI 0)), (2, .int (nI (moS b))), (1, .int (nI (yrS b))), (0, .ref sg)]) dX0_since2000_57 (q := 59) rfl (by decide) rfl ?_
              refine x_iload_n C dX0_since2000_59 (q := 60) rfl rfl 3 rfl ?_
              refine x_callS C (roW := []) (roR := []) (c_X0_aheadOfYear l D cy (yrS b) (by first | assumption | omega | (simp only []; omega)) (by first | assumption | omega | (simp only []; omega))) (cwS 1 C.2.2.2.2.1 gX0_since2000_X0_aheadOfYear rfl rfl rfl (by decide +kernel) (by rw [hR]; exact ⟨Nat.le_of_ble_eq_true rfl, Nat.le_of_ble_eq_true rfl⟩)) [] [] rfl (by decide) rfl (by decide) xro_nil xT_bl (fun _ _ _ _ _ _ _ => trivial) rfl rfl dX0_since2000_60 rfl rfl (Nat.le_of_ble_eq_true rfl) (q := 63) rfl (k' := 0) rfl (n' := 0) rfl (by rw [hR]; exact ⟨Nat.le_of_ble_eq_true rfl, Nat.le_of_ble_eq_true rfl⟩) (fun v7 w7 hp7 => ?_)
              obtain ⟨rfl, rfl⟩ := hp7
              refine x_ws (ws' := []) (List.append_nil _) ?_
              refine x_sipush C dX0_since2000_63 (q := 66) rfl (v := nI 2000) (by decide) ?_
              refine x_callS C (roW := []) (roR := []) (c_X0_aheadOfYear l D cy 2000 (by first | assumption | omega | (simp only []; omega)) (by first | assumption | omega | (simp only []; omega))) (cwS 1 C.2.2.2.2.1 gX0_since2000_X0_aheadOfYear rfl rfl rfl (by decide +kernel) (by rw [hR]; exact ⟨Nat.le_of_ble_eq_true rfl, Nat.le_of_ble_eq_true rfl⟩)) [] [] rfl (by decide) rfl (by decide) xro_nil xT_bl (fun _ _ _ _ _ _ _ => trivial) rfl rfl dX0_since2000_66 rfl rfl (Nat.le_of_ble_eq_true rfl) (q := 69) rfl (k' := 0) rfl (n' := 0) rfl (by rw [hR]; exact ⟨Nat.le_of_ble_eq_true rfl, Nat.le_of_ble_eq_true rfl⟩) (fun v8 w8 hp8 => ?_)
              obtain ⟨rfl, rfl⟩ := hp8
              refine x_ws (ws' := []) (List.append_nil _) ?_
              refine x_isub C dX0_since2000_69 (q := 70) rfl (z := (nI (yD (yrS b))) - (nI (yD 2000))) (rfl) ?_
              refine x_iload C dX0_since2000_70 (q := 72) rfl 0 rfl ?_
              refine x_iadd C dX0_since2000_72 (q := 73) rfl (z := ((nI (yD (yrS b))) - (nI (yD 2000))) + (nI (mTab (moS b - 1) + 0 + (dyS b) - 1))) (rfl) ?_
              refine x_i2l C dX0_since2000_73 (q := 74) rfl (v := (((nI (yD (yrS b))) - (nI (yD 2000))) + (nI (mTab (moS b - 1) + 0 + (dyS b) - 1))).toInt64) (rfl) ?_
              refine x_lret C hA hQ hr dX0_since2000_74 (Nat.le_of_ble_eq_true rfl) ?_
              have e9 : dayS b = ((yD (yrS b) : Nat) : Int) - (((yD 2000 : Nat) : Int)) + ((mTab (moS b - 1) + 0 + (dyS b) - 1 : Nat) : Int) := by
                unfold dayS
                first
                  | (rw [if_neg (show ¬ 2 < moS b by omega)]; omega)
                  | (rw [if_pos (show 2 < moS b by omega)]; unfold lpD; rw [if_pos (by assumption)]; omega)
                  | (rw [if_pos (show 2 < moS b by omega)]; unfold lpD; rw [if_neg (by assumption)]; omega)
              refine ⟨congrArg (fun z => some (Value.long z)) (Int64.toInt_inj.mp ?_), rfl⟩
              rw [e9, xl_ofInt (by omega) (by omega)]
              exact (xl_wide (xi_add (xi_sub2 (nI_toInt (by omega)) (nI_toInt (by omega)) (by omega) (by omega)) (nI_toInt (by omega)) (by omega) (by omega)))
          · first
            | (exfalso; omega)
            |
              refine x_iload_n C dX0_since2000_28 (q := 29) rfl rfl 1 rfl ?_
              refine x_callS C (roW := []) (roR := []) (c_X0_isLeap l D cy (yrS b) (by first | assumption | omega | (simp only []; omega))) (cwS 1 C.2.2.2.2.1 gX0_since2000_X0_isLeap rfl rfl rfl (by decide +kernel) (by rw [hR]; exact ⟨Nat.le_of_ble_eq_true rfl, Nat.le_of_ble_eq_true rfl⟩)) [] [] rfl (by decide) rfl (by decide) xro_nil xT_bl (fun _ _ _ _ _ _ _ => trivial) rfl rfl dX0_since2000_29 rfl rfl (Nat.le_of_ble_eq_true rfl) (q := 32) rfl (k' := 0) rfl (n' := 0) rfl (by rw [hR]; exact ⟨Nat.le_of_ble_eq_true rfl, Nat.le_of_ble_eq_true rfl⟩) (fun v9 w9 hp9 => ?_)
              rcases hp9 with hp9 | hp9
              · skip
                obtain ⟨rfl, rfl, hc10⟩ := hp9
                refine x_ws (ws' := []) (List.append_nil _) ?_
                refine x_if_eq C (tgt := 39) dX0_since2000_32 (by decide) (q := 35) rfl (a := 1) rfl (fun h11 => (by omega : False).elim) (fun h11 => ?_)
                refine x_iconst C dX0_since2000_35 (q := 36) rfl (v := nI 1) (by decide) ?_
                refine x_goto C (tgt := 40) dX0_since2000_36 (by decide) ?_
                refine x_istore_n C (L' := [(3, .int (nI 1)), (2, .int (nI (moS b))), (1, .int (nI (yrS b))), (0, .ref sg)]) dX0_since2000_40 (q := 41) rfl rfl (by decide) rfl ?_
                refine x_gets C hX.1 hw0 dX0_since2000_41 (q := 44) rfl ?_
                refine x_iload_n C dX0_since2000_44 (q := 45) rfl rfl 1 rfl ?_
                refine x_iconst C dX0_since2000_45 (q := 46) rfl (v := nI 1) (by decide) ?_
                refine x_isub C dX0_since2000_46 (q := 47) rfl (z := nI (moS b - 1)) (xi_subN (by omega) (by omega)) ?_
                refine x_tabI C (j := moS b - 1) (v := .int (nI (mTab (moS b - 1)))) hX.2.1 (nI_toInt (by omega)) (by omega) rfl dX0_since2000_47 (q := 48) rfl ?_
                refine x_iload_n C dX0_since2000_48 (q := 49) rfl rfl 0 rfl ?_
                refine x_iadd C dX0_since2000_49 (q := 50) rfl (z := nI (mTab (moS b - 1) + 1)) (nI_add (mTab (moS b - 1)) 1) ?_
                refine x_aload_n C dX0_since2000_50 (q := 51) rfl rfl 3 rfl ?_
                refine x_callS C (roW := []) (roR := [(sg, .inl (cy 0, len, .inl (fun k => nI (b k))))]) (c_X0_dayIn l D cy sg len b (by assumption) hd.1 hd.2.1) (cwS 1 C.2.2.2.2.1 gX0_since2000_X0_dayIn rfl rfl rfl (by decide +kernel) (by rw [hR]; exact ⟨Nat.le_of_ble_eq_true rfl, Nat.le_of_ble_eq_true rfl⟩)) [] [] rfl (by decide) rfl (by decide) (xro_cons (hro (sg, .inl (cy 0, len, .inl (fun k => nI (b k)))) (List.mem_of_getElem? (i := 0) rfl)) xro_nil) xT_bl (fun _ _ _ _ _ _ _ => trivial) rfl rfl dX0_since2000_51 rfl rfl (Nat.le_of_ble_eq_true rfl) (q := 54) rfl (k' := 0) rfl (n' := 0) rfl (by rw [hR]; exact ⟨Nat.le_of_ble_eq_true rfl, Nat.le_of_ble_eq_true rfl⟩) (fun v12 w12 hp12 => ?_)
                obtain ⟨rfl, rfl⟩ := hp12
                refine x_ws (ws' := []) (List.append_nil _) ?_
                refine x_iadd C dX0_since2000_54 (q := 55) rfl (z := nI (mTab (moS b - 1) + 1 + (dyS b))) (nI_add (mTab (moS b - 1) + 1) (dyS b)) ?_
                refine x_iconst C dX0_since2000_55 (q := 56) rfl (v := nI 1) (by decide) ?_
                refine x_isub C dX0_since2000_56 (q := 57) rfl (z := nI (mTab (moS b - 1) + 1 + (dyS b) - 1)) (xi_subN (by omega) (by omega)) ?_
                refine x_istore C (L' := [(4, .int (nI (mTab (moS b - 1) + 1 + (dyS b) - 1))), (3, .int (nI 1)), (2, .int (nI (moS b))), (1, .int (nI (yrS b))), (0, .ref sg)]) dX0_since2000_57 (q := 59) rfl (by decide) rfl ?_
                refine x_iload_n C dX0_since2000_59 (q := 60) rfl rfl 3 rfl ?_
                refine x_callS C (roW := []) (roR := []) (c_X0_aheadOfYear l D cy (yrS b) (by first | assumption | omega | (simp only []; omega)) (by first | assumption | omega | (simp only []; omega))) (cwS 1 C.2.2.2.2.1 gX0_since2000_X0_aheadOfYear rfl rfl rfl (by decide +kernel) (by rw [hR]; exact ⟨Nat.le_of_ble_eq_true rfl, Nat.le_of_ble_eq_true rfl⟩)) [] [] rfl (by decide) rfl (by decide) xro_nil xT_bl (fun _ _ _ _ _ _ _ => trivial) rfl rfl dX0_since2000_60 rfl rfl (Nat.le_of_ble_eq_true rfl) (q := 63) rfl (k' := 0) rfl (n' := 0) rfl (by rw [hR]; exact ⟨Nat.le_of_ble_eq_true rfl, Nat.le_of_ble_eq_true rfl⟩) (fun v13 w13 hp13 => ?_)
                obtain ⟨rfl, rfl⟩ := hp13
                refine x_ws (ws' := []) (List.append_nil _) ?_
                refine x_sipush C dX0_since2000_63 (q := 66) rfl (v := nI 2000) (by decide) ?_
                refine x_callS C (roW := []) (roR := []) (c_X0_aheadOfYear l D cy 2000 (by first | assumption | omega | (simp only []; omega)) (by first | assumption | omega | (simp only []; omega))) (cwS 1 C.2.2.2.2.1 gX0_since2000_X0_aheadOfYear rfl rfl rfl (by decide +kernel) (by rw [hR]; exact ⟨Nat.le_of_ble_eq_true rfl, Nat.le_of_ble_eq_true rfl⟩)) [] [] rfl (by decide) rfl (by decide) xro_nil xT_bl (fun _ _ _ _ _ _ _ => trivial) rfl rfl dX0_since2000_66 rfl rfl (Nat.le_of_ble_eq_true rfl) (q := 69) rfl (k' := 0) rfl (n' := 0) rfl (by rw [hR]; exact ⟨Nat.le_of_ble_eq_true rfl, Nat.le_of_ble_eq_true rfl⟩) (fun v14 w14 hp14 => ?_)
                obtain ⟨rfl, rfl⟩ := hp14
                refine x_ws (ws' := []) (List.append_nil _) ?_
                refine x_isub C dX0_since2000_69 (q := 70) rfl (z := (nI (yD (yrS b))) - (nI (yD 2000))) (rfl) ?_
                refine x_iload C dX0_since2000_70 (q := 72) rfl 0 rfl ?_
                refine x_iadd C dX0_since2000_72 (q := 73) rfl (z := ((nI (yD (yrS b))) - (nI (yD 2000))) + (nI (mTab (moS b - 1) + 1 + (dyS b) - 1))) (rfl) ?_
                refine x_i2l C dX0_since2000_73 (q := 74) rfl (v := (((nI (yD (yrS b))) - (nI (yD 2000))) + (nI (mTab (moS b - 1) + 1 + (dyS b) - 1))).toInt64) (rfl) ?_
                refine x_lret C hA hQ hr dX0_since2000_74 (Nat.le_of_ble_eq_true rfl) ?_
                have e9 : dayS b = ((yD (yrS b) : Nat) : Int) - (((yD 2000 : Nat) : Int)) + ((mTab (moS b - 1) + 1 + (dyS b) - 1 : Nat) : Int) := by
                  unfold dayS
                  first
                    | (rw [if_neg (show ¬ 2 < moS b by omega)]; omega)
                    | (rw [if_pos (show 2 < moS b by omega)]; unfold lpD; rw [if_pos (by assumption)]; omega)
                    | (rw [if_pos (show 2 < moS b by omega)]; unfold lpD; rw [if_neg (by assumption)]; omega)
                refine ⟨congrArg (fun z => some (Value.long z)) (Int64.toInt_inj.mp ?_), rfl⟩
                rw [e9, xl_ofInt (by omega) (by omega)]
                exact (xl_wide (xi_add (xi_sub2 (nI_toInt (by omega)) (nI_toInt (by omega)) (by omega) (by omega)) (nI_toInt (by omega)) (by omega) (by omega)))
              · skip
                obtain ⟨rfl, rfl, hc15⟩ := hp9
                refine x_ws (ws' := []) (List.append_nil _) ?_
                refine x_if_eq C (tgt := 39) dX0_since2000_32 (by decide) (q := 35) rfl (a := 0) rfl (fun h16 => ?_) (fun h16 => (by omega : False).elim)
                refine x_iconst C dX0_since2000_39 (q := 40) rfl (v := nI 0) (by decide) ?_
                refine x_istore_n C (L' := [(3, .int (nI 0)), (2, .int (nI (moS b))), (1, .int (nI (yrS b))), (0, .ref sg)]) dX0_since2000_40 (q := 41) rfl rfl (by decide) rfl ?_
                refine x_gets C hX.1 hw0 dX0_since2000_41 (q := 44) rfl ?_
                refine x_iload_n C dX0_since2000_44 (q := 45) rfl rfl 1 rfl ?_
                refine x_iconst C dX0_since2000_45 (q := 46) rfl (v := nI 1) (by decide) ?_
                refine x_isub C dX0_since2000_46 (q := 47) rfl (z := nI (moS b - 1)) (xi_subN (by omega) (by omega)) ?_
                refine x_tabI C (j := moS b - 1) (v := .int (nI (mTab (moS b - 1)))) hX.2.1 (nI_toInt (by omega)) (by omega) rfl dX0_since2000_47 (q := 48) rfl ?_
                refine x_iload_n C dX0_since2000_48 (q := 49) rfl rfl 0 rfl ?_
                refine x_iadd C dX0_since2000_49 (q := 50) rfl (z := nI (mTab (moS b - 1) + 0)) (nI_add (mTab (moS b - 1)) 0) ?_
                refine x_aload_n C dX0_since2000_50 (q := 51) rfl rfl 3 rfl ?_
                refine x_callS C (roW := []) (roR := [(sg, .inl (cy 0, len, .inl (fun k => nI (b k))))]) (c_X0_dayIn l D cy sg len b (by assumption) hd.1 hd.2.1) (cwS 1 C.2.2.2.2.1 gX0_since2000_X0_dayIn rfl rfl rfl (by decide +kernel) (by rw [hR]; exact ⟨Nat.le_of_ble_eq_true rfl, Nat.le_of_ble_eq_true rfl⟩)) [] [] rfl (by decide) rfl (by decide) (xro_cons (hro (sg, .inl (cy 0, len, .inl (fun k => nI (b k)))) (List.mem_of_getElem? (i := 0) rfl)) xro_nil) xT_bl (fun _ _ _ _ _ _ _ => trivial) rfl rfl dX0_since2000_51 rfl rfl (Nat.le_of_ble_eq_true rfl) (q := 54) rfl (k' := 0) rfl (n' := 0) rfl (by rw [hR]; exact ⟨Nat.le_of_ble_eq_true rfl, Nat.le_of_ble_eq_true rfl⟩) (fun v17 w17 hp17 => ?_)
                obtain ⟨rfl, rfl⟩ := hp17
                refine x_ws (ws' := []) (List.append_nil _) ?_
                refine x_iadd C dX0_since2000_54 (q := 55) rfl (z := nI (mTab (moS b - 1) + 0 + (dyS b))) (nI_add (mTab (moS b - 1) + 0) (dyS b)) ?_
                refine x_iconst C dX0_since2000_55 (q := 56) rfl (v := nI 1) (by decide) ?_
                refine x_isub C dX0_since2000_56 (q := 57) rfl (z := nI (mTab (moS b - 1) + 0 + (dyS b) - 1)) (xi_subN (by omega) (by omega)) ?_
                refine x_istore C (L' := [(4, .int (nI (mTab (moS b - 1) + 0 + (dyS b) - 1))), (3, .int (nI 0)), (2, .int (nI (moS b))), (1, .int (nI (yrS b))), (0, .ref sg)]) dX0_since2000_57 (q := 59) rfl (by decide) rfl ?_
                refine x_iload_n C dX0_since2000_59 (q := 60) rfl rfl 3 rfl ?_
                refine x_callS C (roW := []) (roR := []) (c_X0_aheadOfYear l D cy (yrS b) (by first | assumption | omega | (simp only []; omega)) (by first | assumption | omega | (simp only []; omega))) (cwS 1 C.2.2.2.2.1 gX0_since2000_X0_aheadOfYear rfl rfl rfl (by decide +kernel) (by rw [hR]; exact ⟨Nat.le_of_ble_eq_true rfl, Nat.le_of_ble_eq_true rfl⟩)) [] [] rfl (by decide) rfl (by decide) xro_nil xT_bl (fun _ _ _ _ _ _ _ => trivial) rfl rfl dX0_since2000_60 rfl rfl (Nat.le_of_ble_eq_true rfl) (q := 63) rfl (k' := 0) rfl (n' := 0) rfl (by rw [hR]; exact ⟨Nat.le_of_ble_eq_true rfl, Nat.le_of_ble_eq_true rfl⟩) (fun v18 w18 hp18 => ?_)
                obtain ⟨rfl, rfl⟩ := hp18
                refine x_ws (ws' := []) (List.append_nil _) ?_
                refine x_sipush C dX0_since2000_63 (q := 66) rfl (v := nI 2000) (by decide) ?_
                refine x_callS C (roW := []) (roR := []) (c_X0_aheadOfYear l D cy 2000 (by first | assumption | omega | (simp only []; omega)) (by first | assumption | omega | (simp only []; omega))) (cwS 1 C.2.2.2.2.1 gX0_since2000_X0_aheadOfYear rfl rfl rfl (by decide +kernel) (by rw [hR]; exact ⟨Nat.le_of_ble_eq_true rfl, Nat.le_of_ble_eq_true rfl⟩)) [] [] rfl (by decide) rfl (by decide) xro_nil xT_bl (fun _ _ _ _ _ _ _ => trivial) rfl rfl dX0_since2000_66 rfl rfl (Nat.le_of_ble_eq_true rfl) (q := 69) rfl (k' := 0) rfl (n' := 0) rfl (by rw [hR]; exact ⟨Nat.le_of_ble_eq_true rfl, Nat.le_of_ble_eq_true rfl⟩) (fun v19 w19 hp19 => ?_)
                obtain ⟨rfl, rfl⟩ := hp19
                refine x_ws (ws' := []) (List.append_nil _) ?_
                refine x_isub C dX0_since2000_69 (q := 70) rfl (z := (nI (yD (yrS b))) - (nI (yD 2000))) (rfl) ?_
                refine x_iload C dX0_since2000_70 (q := 72) rfl 0 rfl ?_
                refine x_iadd C dX0_since2000_72 (q := 73) rfl (z := ((nI (yD (yrS b))) - (nI (yD 2000))) + (nI (mTab (moS b - 1) + 0 + (dyS b) - 1))) (rfl) ?_
                refine x_i2l C dX0_since2000_73 (q := 74) rfl (v := (((nI (yD (yrS b))) - (nI (yD 2000))) + (nI (mTab (moS b - 1) + 0 + (dyS b) - 1))).toInt64) (rfl) ?_
                refine x_lret C hA hQ hr dX0_since2000_74 (Nat.le_of_ble_eq_true rfl) ?_
                have e9 : dayS b = ((yD (yrS b) : Nat) : Int) - (((yD 2000 : Nat) : Int)) + ((mTab (moS b - 1) + 0 + (dyS b) - 1 : Nat) : Int) := by
                  unfold dayS
                  first
                    | (rw [if_neg (show ¬ 2 < moS b by omega)]; omega)
                    | (rw [if_pos (show 2 < moS b by omega)]; unfold lpD; rw [if_pos (by assumption)]; omega)
                    | (rw [if_pos (show 2 < moS b by omega)]; unfold lpD; rw [if_neg (by assumption)]; omega)
                refine ⟨congrArg (fun z => some (Value.long z)) (Int64.toInt_inj.mp ?_), rfl⟩
                rw [e9, xl_ofInt (by omega) (by omega)]
                exact (xl_wide (xi_add (xi_sub2 (nI_toInt (by omega)) (nI_toInt (by omega)) (by omega) (by omega)) (nI_toInt (by omega)) (by omega) (by omega)))
      · first
        | (exfalso; omega)
        |
          refine x_lconst C dX0_since2000_21 (q := 22) rfl (v := lN 0) rfl ?_
          refine x_lret C hA hQ hr dX0_since2000_22 (Nat.le_of_ble_eq_true rfl) ?_
          have e9 : dayS b = 0 := by
            unfold dayS
            first
              | (rw [if_neg (show ¬ 2 < moS b by omega)]; omega)
              | (rw [if_pos (show 2 < moS b by omega)]; unfold lpD; rw [if_pos (by assumption)]; omega)
              | (rw [if_pos (show 2 < moS b by omega)]; unfold lpD; rw [if_neg (by assumption)]; omega)
          refine ⟨congrArg (fun z => some (Value.long z)) (Int64.toInt_inj.mp ?_), rfl⟩
          rw [e9, xl_ofInt (by omega) (by omega)]
          exact rfl
