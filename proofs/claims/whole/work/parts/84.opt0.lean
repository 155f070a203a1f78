set_option maxHeartbeats 4000000 in
set_option maxRecDepth 100000 in
/-- the law's case 31: tape -/
theorem op_tape {p : Program} {l : Launch} {e : Env} {R : Room} {s : State} {m : MethodId} {args : Array Value} {below : List Frame} {meth : Method} {c : Code} {Q : State → Prop} {D : va_G} {A : Nat → Prop} {cy : Nat → ClassId} {xa mr : Nat → Nat} {mo : Nat} {tpf : Nat → Option Nat} {b i k n Ln : Nat} {xs : Nat → Int32} (C : xC p s m args meth c D cy A 4 cL_law wsL_law RL) (hR : R = room_1) (hsc : xSc A s b Ln xs) (hi : i + 6 ≤ Ln) (hLn : Ln ≤ 3072) (hkn : k + 125 ≤ R.cells ∧ n + 401 ≤ R.slots) (htp : ∀ k, k < 6 → tpf k = some (xa (59 + 2 * k))) (hc : AT p l e R s m args below meth c Q D A cy xa mr mo tpf b i (k + 125) (n + 401) 1264) : AT p l e R s m args below meth c Q D A cy xa mr mo tpf b i k n 1051 := by
  intro kf tn tx gn gx nm ss zs cols lc smp nzf tlf lnf P ky nse fs gs npa fp gp nbo fb gb bal cols' lc' smp' nzf' tlf' lnf' P' ky' nse' fs' gs' npa' fp' gp' nbo' fb' gb' Z kz ga so sz tf j0 j1 j2 j3 j4 nm9 ns9 st9 by9 lz fn fo ex wo lr9 rl9 fa9 ca9 dc9 fs9 gs9 fp9 gp9 fb9 gb9 im mi nn9 nz9 sh9 mv ld lt ln pl hI
  obtain ⟨i1, i2, i3, i4, i5, i6, i7⟩ := hI
  obtain ⟨r1, r2, r3, r4, r5, r6, r7⟩ := id i4
  obtain ⟨htn, htx⟩ := id i1
  obtain ⟨hzs, hs60, hnn, hnz⟩ := id i2
  obtain ⟨hgn, hgx, hshb⟩ := id i3
  obtain ⟨hcols, hlc, hsmp, hky, htl⟩ := id r1
  obtain ⟨hns, hnb⟩ := id r2
  obtain ⟨hTL, hfm, hml, hmb, hfo4, hfn, hby, hlzb⟩ := id r3
  obtain ⟨hF, hmp, hst9, hlr9⟩ := id r4
  obtain ⟨hnse, hsr⟩ := id r5
  obtain ⟨hnpa, hpr⟩ := id r6
  obtain ⟨hnbo, hbr⟩ := id r7
  obtain ⟨hkf, hm1, hm2, hm3, hlc', hIM⟩ := id i5
  obtain ⟨htz, hts, htq1⟩ := id i6
  obtain ⟨hso, hso'⟩ := id i7
  have hP := hF.1
  have hst5 := hF.1.2.2.2
  have hml9 : pMk P ≤ lc := hF.1.2.1
  have hrm9 : pRs P ≤ pMk P := hF.1.1
  have hmk24 : pMk P ≤ 24 := Nat.le_trans hml9 hlc
  have hrs24 : pRs P ≤ 24 := Nat.le_trans hrm9 hmk24
  have hk0 : k ≤ R.cells ∧ n ≤ R.slots := ⟨by omega, by omega⟩
  by_cases hx : 0 ≤ (xs (i + 1)).toInt ∧ (xs (i + 1)).toInt < 6
  · obtain ⟨hx0, hx6⟩ := hx
    have hkq : (xs (i + 1)).toInt.toNat < 6 := by omega
    refine x_aload_n C dL_law_1051 (q := 1052) rfl rfl 1 rfl ?_
    refine lw_arg (j := 1) C hsc (by omega) (by omega) dL_law_1052 dL_law_1053 dL_law_1054 dL_law_1055 dL_law_1056 (q := 1057) rfl ?_
    refine lw_arg (j := 2) C hsc (by omega) (by omega) dL_law_1057 dL_law_1058 dL_law_1059 dL_law_1060 dL_law_1061 (q := 1062) rfl ?_
    refine lw_arg (j := 3) C hsc (by omega) (by omega) dL_law_1062 dL_law_1063 dL_law_1064 dL_law_1065 dL_law_1066 (q := 1067) rfl ?_
    refine x_callV C (roW := []) (roR := []) (ci := 8) (c_X9_tape l D cy (xa 0) (xa 1) (xa 3) (xa 5) (xa 8) (xa 29) (xa 50) (xa 57) (xa 58) kf tpf (xa (59 + 2 * (xs (i + 1)).toInt.toNat)) (xa (60 + 2 * (xs (i + 1)).toInt.toNat)) (so (xs (i + 1)).toInt.toNat) (sz (xs (i + 1)).toInt.toNat) (tf (xs (i + 1)).toInt.toNat) (xs (i + 1)) (xs (i + 2)) (xs (i + 3)) (fun k hk => ⟨_, htp k hk⟩) hx0 hx6 (htp _ hkq) (htz _)) (cwV 3 C.2.2.2.2.1 gL_law_X9_tape rfl rfl rfl (by decide +kernel) (by rw [hR]; exact ⟨Nat.le_of_ble_eq_true rfl, Nat.le_of_ble_eq_true rfl⟩)) [0, 58, 59 + 2 * (xs (i + 1)).toInt.toNat, 60 + 2 * (xs (i + 1)).toInt.toNat] [] (mapc_cons f_at_0 (mapc_cons f_at_58 (mapc_cons (ft_a hkq) (mapc_cons (ft_b hkq) mapc_nil)))) (nd_t4 _ hkq) rfl (fun _ h => absurd h List.not_mem_nil) xro_nil (List.mem_append_left _ List.mem_cons_self) rfl xT_bl (fun _ _ _ _ _ _ _ => trivial) rfl rfl dL_law_1067 rfl rfl (Nat.le_of_ble_eq_true rfl) (q := 1070) rfl (k' := k) rfl (n' := n) rfl hk0 (fun v9 w9 hp => ?_)
    obtain ⟨rfl, rfl⟩ := hp
    refine x_ws (xput_keep f_at_0 (xput_keep f_at_58 (xput_chg2 (ft_sab hkq) xput_nil))) ?_
    refine x_aload_n C dL_law_1070 (q := 1071) rfl rfl 2 rfl ?_
    refine lw_arg (j := 1) C hsc (by omega) (by omega) dL_law_1071 dL_law_1072 dL_law_1073 dL_law_1074 dL_law_1075 (q := 1076) rfl ?_
    refine lw_arg (j := 2) C hsc (by omega) (by omega) dL_law_1076 dL_law_1077 dL_law_1078 dL_law_1079 dL_law_1080 (q := 1081) rfl ?_
    refine lw_arg (j := 3) C hsc (by omega) (by omega) dL_law_1081 dL_law_1082 dL_law_1083 dL_law_1084 dL_law_1085 (q := 1086) rfl ?_
    refine x_callV C (roW := []) (roR := []) (ci := 9) (c_X10_tape l D cy mo mr cols lc smp (pMk P) (pRs P) nse npa nbo tn kf ky j0 j1 j2 j3 j4 so sz ((fun i => if i < 6 then some (mr (31 + i)) else none)) (mr (31 + (xs (i + 1)).toInt.toNat)) (tf (xs (i + 1)).toInt.toNat) (xs (i + 1)) (xs (i + 2)) (xs (i + 3)) hx0 hx6 (tq_at hkq) htz hts htq1) (cwV 3 C.2.2.2.2.1 gL_law_X10_tape rfl rfl rfl (by decide +kernel) (by rw [hR]; exact ⟨Nat.le_of_ble_eq_true rfl, Nat.le_of_ble_eq_true rfl⟩)) [71, 100, 101, 99, 103 + (xs (i + 1)).toInt.toNat] [] (mapc_cons m_at_0 (mapc_cons m_at_29 (mapc_cons m_at_30 (mapc_cons m_at_28 (mapc_cons (mt_b f_len hkq) mapc_nil))))) (nd_m5 _ hkq) rfl (fun _ h => absurd h List.not_mem_nil) xro_nil (List.mem_append_left _ List.mem_cons_self) rfl xT_bl (fun _ _ _ _ _ _ _ => trivial) rfl rfl dL_law_1086 rfl rfl (Nat.le_of_ble_eq_true rfl) (q := 1089) rfl (k' := k) rfl (n' := n) rfl hk0 (fun v9 w9 hp => ?_)
    obtain ⟨rfl, rfl⟩ := hp
    refine x_ws (xput_keep m_at_0 (xput_chg m_set_29 (xput_chg m_set_30 (xput_keep m_at_28 (xput_chg (mt_sb f_len hkq) xput_nil))))) ?_
    refine x_icmp_eq C (tgt := 1264) dL_law_1089 (by decide) (q := 1092) rfl rfl rfl (fun _ => ?_) (fun hne => absurd rfl hne)
    refine x_widen (k' := k + 125) (n' := n + 401) (Nat.le_add_right _ _) (Nat.le_add_right _ _) ?_
    exact hc kf tn tx gn gx nm ss zs cols lc smp nzf tlf lnf P ky nse fs gs npa fp gp nbo fb gb bal cols' lc' smp' nzf' tlf' lnf' P' ky' nse' fs' gs' npa' fp' gp' nbo' fb' gb' Z kz ga (va_up so ((xs (i + 1)).toInt.toNat) (tapN (so ((xs (i + 1)).toInt.toNat), sz ((xs (i + 1)).toInt.toNat), tf ((xs (i + 1)).toInt.toNat)) (xs (i + 2)) (xs (i + 3))).1) (va_up sz ((xs (i + 1)).toInt.toNat) (tapN (so ((xs (i + 1)).toInt.toNat), sz ((xs (i + 1)).toInt.toNat), tf ((xs (i + 1)).toInt.toNat)) (xs (i + 2)) (xs (i + 3))).2.1) (va_up tf ((xs (i + 1)).toInt.toNat) (tapN (so ((xs (i + 1)).toInt.toNat), sz ((xs (i + 1)).toInt.toNat), tf ((xs (i + 1)).toInt.toNat)) (xs (i + 2)) (xs (i + 3))).2.2) j0 j1 j2 j3 j4 nm9 ns9 st9 by9 lz fn fo ex wo lr9 rl9 fa9 ca9 dc9 fs9 gs9 fp9 gp9 fb9 gb9 im mi nn9 nz9 sh9 mv ld lt ln pl ⟨i1, i2, i3, i4, i5, tapN_in i6, i7⟩
  · skip
    refine x_aload_n C dL_law_1051 (q := 1052) rfl rfl 1 rfl ?_
    refine lw_arg (j := 1) C hsc (by omega) (by omega) dL_law_1052 dL_law_1053 dL_law_1054 dL_law_1055 dL_law_1056 (q := 1057) rfl ?_
    refine lw_arg (j := 2) C hsc (by omega) (by omega) dL_law_1057 dL_law_1058 dL_law_1059 dL_law_1060 dL_law_1061 (q := 1062) rfl ?_
    refine lw_arg (j := 3) C hsc (by omega) (by omega) dL_law_1062 dL_law_1063 dL_law_1064 dL_law_1065 dL_law_1066 (q := 1067) rfl ?_
    refine x_callV C (roW := []) (roR := []) (ci := 8) (c_X9_tape_o l D cy (xa 0) (xa 1) (xa 3) (xa 5) (xa 8) (xa 29) (xa 50) (xa 57) (xa 58) kf tpf (xs (i + 1)) (xs (i + 2)) (xs (i + 3)) (fun k hk => ⟨_, htp k hk⟩) (by omega)) (cwV 3 C.2.2.2.2.1 gL_law_X9_tape rfl rfl rfl (by decide +kernel) (by rw [hR]; exact ⟨Nat.le_of_ble_eq_true rfl, Nat.le_of_ble_eq_true rfl⟩)) [0, 58] [] (mapc_cons f_at_0 (mapc_cons f_at_58 mapc_nil)) (by decide) rfl (fun _ h => absurd h List.not_mem_nil) xro_nil (List.mem_append_left _ List.mem_cons_self) rfl xT_bl (fun _ _ _ _ _ _ _ => trivial) rfl rfl dL_law_1067 rfl rfl (Nat.le_of_ble_eq_true rfl) (q := 1070) rfl (k' := k) rfl (n' := n) rfl hk0 (fun v9 w9 hp => ?_)
    obtain ⟨rfl, rfl⟩ := hp
    refine x_ws (xput_keep f_at_0 (xput_keep f_at_58 xput_nil)) ?_
    refine x_aload_n C dL_law_1070 (q := 1071) rfl rfl 2 rfl ?_
    refine lw_arg (j := 1) C hsc (by omega) (by omega) dL_law_1071 dL_law_1072 dL_law_1073 dL_law_1074 dL_law_1075 (q := 1076) rfl ?_
    refine lw_arg (j := 2) C hsc (by omega) (by omega) dL_law_1076 dL_law_1077 dL_law_1078 dL_law_1079 dL_law_1080 (q := 1081) rfl ?_
    refine lw_arg (j := 3) C hsc (by omega) (by omega) dL_law_1081 dL_law_1082 dL_law_1083 dL_law_1084 dL_law_1085 (q := 1086) rfl ?_
    refine x_callV C (roW := []) (roR := []) (ci := 9) (c_X10_tape_o l D cy mo mr cols lc smp (pMk P) (pRs P) nse npa nbo tn kf ky j0 j1 j2 j3 j4 (xs (i + 1)) (xs (i + 2)) (xs (i + 3)) (by omega)) (cwV 3 C.2.2.2.2.1 gL_law_X10_tape rfl rfl rfl (by decide +kernel) (by rw [hR]; exact ⟨Nat.le_of_ble_eq_true rfl, Nat.le_of_ble_eq_true rfl⟩)) [71] [] (mapc_cons m_at_0 mapc_nil) (by decide) rfl (fun _ h => absurd h List.not_mem_nil) xro_nil (List.mem_append_left _ List.mem_cons_self) rfl xT_bl (fun _ _ _ _ _ _ _ => trivial) rfl rfl dL_law_1086 rfl rfl (Nat.le_of_ble_eq_true rfl) (q := 1089) rfl (k' := k) rfl (n' := n) rfl hk0 (fun v9 w9 hp => ?_)
    obtain ⟨rfl, rfl⟩ := hp
    refine x_ws (xput_keep m_at_0 xput_nil) ?_
    refine x_icmp_eq C (tgt := 1264) dL_law_1089 (by decide) (q := 1092) rfl rfl rfl (fun _ => ?_) (fun hne => absurd rfl hne)
    refine x_widen (k' := k + 125) (n' := n + 401) (Nat.le_add_right _ _) (Nat.le_add_right _ _) ?_
    exact hc kf tn tx gn gx nm ss zs cols lc smp nzf tlf lnf P ky nse fs gs npa fp gp nbo fb gb bal cols' lc' smp' nzf' tlf' lnf' P' ky' nse' fs' gs' npa' fp' gp' nbo' fb' gb' Z kz ga so sz tf j0 j1 j2 j3 j4 nm9 ns9 st9 by9 lz fn fo ex wo lr9 rl9 fa9 ca9 dc9 fs9 gs9 fp9 gp9 fb9 gb9 im mi nn9 nz9 sh9 mv ld lt ln pl ⟨i1, i2, i3, i4, i5, i6, i7⟩
set_option maxHeartbeats 4000000 in
set_option maxRecDepth 100000 in
/-- the law's case 32: item -/
theorem op_item {p : Program} {l : Launch} {e : Env} {R : Room} {s : State} {m : MethodId} {args : Array Value} {below : List Frame} {meth : Method} {c : Code} {Q : State → Prop} {D : va_G} {A : Nat → Prop} {cy : Nat → ClassId} {xa mr : Nat → Nat} {mo : Nat} {tpf : Nat → Option Nat} {b i k n Ln : Nat} {xs : Nat → Int32} (C : xC p s m args meth c D cy A 4 cL_law wsL_law RL) (hR : R = room_1) (hsc : xSc A s b Ln xs) (hi : i + 6 ≤ Ln) (hLn : Ln ≤ 3072) (hkn : k + 125 ≤ R.cells ∧ n + 401 ≤ R.slots) (htp : ∀ k, k < 6 → tpf k = some (xa (59 + 2 * k))) (hc : AT p l e R s m args below meth c Q D A cy xa mr mo tpf b i (k + 125) (n + 401) 1264) : AT p l e R s m args below meth c Q D A cy xa mr mo tpf b i k n 1094 := by
  intro kf tn tx gn gx nm ss zs cols lc smp nzf tlf lnf P ky nse fs gs npa fp gp nbo fb gb bal cols' lc' smp' nzf' tlf' lnf' P' ky' nse' fs' gs' npa' fp' gp' nbo' fb' gb' Z kz ga so sz tf j0 j1 j2 j3 j4 nm9 ns9 st9 by9 lz fn fo ex wo lr9 rl9 fa9 ca9 dc9 fs9 gs9 fp9 gp9 fb9 gb9 im mi nn9 nz9 sh9 mv ld lt ln pl hI
  obtain ⟨i1, i2, i3, i4, i5, i6, i7⟩ := hI
  obtain ⟨r1, r2, r3, r4, r5, r6, r7⟩ := id i4
  obtain ⟨htn, htx⟩ := id i1
  obtain ⟨hzs, hs60, hnn, hnz⟩ := id i2
  obtain ⟨hgn, hgx, hshb⟩ := id i3
  obtain ⟨hcols, hlc, hsmp, hky, htl⟩ := id r1
  obtain ⟨hns, hnb⟩ := id r2
  obtain ⟨hTL, hfm, hml, hmb, hfo4, hfn, hby, hlzb⟩ := id r3
  obtain ⟨hF, hmp, hst9, hlr9⟩ := id r4
  obtain ⟨hnse, hsr⟩ := id r5
  obtain ⟨hnpa, hpr⟩ := id r6
  obtain ⟨hnbo, hbr⟩ := id r7
  obtain ⟨hkf, hm1, hm2, hm3, hlc', hIM⟩ := id i5
  obtain ⟨htz, hts, htq1⟩ := id i6
  obtain ⟨hso, hso'⟩ := id i7
  have hP := hF.1
  have hst5 := hF.1.2.2.2
  have hml9 : pMk P ≤ lc := hF.1.2.1
  have hrm9 : pRs P ≤ pMk P := hF.1.1
  have hmk24 : pMk P ≤ 24 := Nat.le_trans hml9 hlc
  have hrs24 : pRs P ≤ 24 := Nat.le_trans hrm9 hmk24
  have hk0 : k ≤ R.cells ∧ n ≤ R.slots := ⟨by omega, by omega⟩
  by_cases hx : 0 ≤ (xs (i + 1)).toInt ∧ (xs (i + 1)).toInt < 6
  · obtain ⟨hx0, hx6⟩ := hx
    have hkq : (xs (i + 1)).toInt.toNat < 6 := by omega
    refine x_aload_n C dL_law_1094 (q := 1095) rfl rfl 1 rfl ?_
    refine lw_arg (j := 1) C hsc (by omega) (by omega) dL_law_1095 dL_law_1096 dL_law_1097 dL_law_1098 dL_law_1099 (q := 1100) rfl ?_
    refine lw_arg (j := 2) C hsc (by omega) (by omega) dL_law_1100 dL_law_1101 dL_law_1102 dL_law_1103 dL_law_1104 (q := 1105) rfl ?_
    refine lw_arg (j := 3) C hsc (by omega) (by omega) dL_law_1105 dL_law_1106 dL_law_1107 dL_law_1108 dL_law_1109 (q := 1110) rfl ?_
    refine x_i2l C dL_law_1110 (q := 1111) rfl rfl ?_
    refine x_bipush C dL_law_1111 (q := 1113) rfl (v := nI 32) (by decide) ?_
    refine x_lshl C dL_law_1113 (q := 1114) rfl rfl ?_
    refine lw_arg (j := 4) C hsc (by omega) (by omega) dL_law_1114 dL_law_1115 dL_law_1116 dL_law_1117 dL_law_1118 (q := 1119) rfl ?_
    refine x_i2l C dL_law_1119 (q := 1120) rfl rfl ?_
    refine x_ldc2 C (v := 4294967295) lw_k148 dL_law_1120 (q := 1123) rfl ?_
    refine x_land C dL_law_1123 (q := 1124) rfl rfl ?_
    refine x_lor C dL_law_1124 (q := 1125) rfl rfl ?_
    refine x_callV C (roW := []) (roR := []) (ci := 8) (c_X9_item l D cy (xa 0) (xa 1) (xa 3) (xa 5) (xa 8) (xa 29) (xa 50) (xa 57) (xa 58) kf tpf (xa (59 + 2 * (xs (i + 1)).toInt.toNat)) (xa (60 + 2 * (xs (i + 1)).toInt.toNat)) (so (xs (i + 1)).toInt.toNat) (sz (xs (i + 1)).toInt.toNat) (tf (xs (i + 1)).toInt.toNat) (xs (i + 1)) (xs (i + 2)) ((((xs (i + 3)).toInt64) <<< ((nI 32).toInt64 &&& 63)) ||| (((xs (i + 4)).toInt64) &&& 4294967295)) (fun k hk => ⟨_, htp k hk⟩) hx0 hx6 (htp _ hkq) (htz _)) (cwV 3 C.2.2.2.2.1 gL_law_X9_item rfl rfl rfl (by decide +kernel) (by rw [hR]; exact ⟨Nat.le_of_ble_eq_true rfl, Nat.le_of_ble_eq_true rfl⟩)) [0, 58, 59 + 2 * (xs (i + 1)).toInt.toNat, 60 + 2 * (xs (i + 1)).toInt.toNat] [] (mapc_cons f_at_0 (mapc_cons f_at_58 (mapc_cons (ft_a hkq) (mapc_cons (ft_b hkq) mapc_nil)))) (nd_t4 _ hkq) rfl (fun _ h => absurd h List.not_mem_nil) xro_nil (List.mem_append_left _ List.mem_cons_self) rfl xT_bl (fun _ _ _ _ _ _ _ => trivial) rfl rfl dL_law_1125 rfl rfl (Nat.le_of_ble_eq_true rfl) (q := 1128) rfl (k' := k) rfl (n' := n) rfl hk0 (fun v9 w9 hp => ?_)
    obtain ⟨rfl, rfl⟩ := hp
    refine x_ws (xput_keep f_at_0 (xput_keep f_at_58 (xput_keep (ft_a hkq) (xput_chg (ft_sb hkq) xput_nil)))) ?_
    refine x_aload_n C dL_law_1128 (q := 1129) rfl rfl 2 rfl ?_
    refine lw_arg (j := 1) C hsc (by omega) (by omega) dL_law_1129 dL_law_1130 dL_law_1131 dL_law_1132 dL_law_1133 (q := 1134) rfl ?_
    refine lw_arg (j := 2) C hsc (by omega) (by omega) dL_law_1134 dL_law_1135 dL_law_1136 dL_law_1137 dL_law_1138 (q := 1139) rfl ?_
    refine lw_arg (j := 3) C hsc (by omega) (by omega) dL_law_1139 dL_law_1140 dL_law_1141 dL_law_1142 dL_law_1143 (q := 1144) rfl ?_
    refine x_i2l C dL_law_1144 (q := 1145) rfl rfl ?_
    refine x_bipush C dL_law_1145 (q := 1147) rfl (v := nI 32) (by decide) ?_
    refine x_lshl C dL_law_1147 (q := 1148) rfl rfl ?_
    refine lw_arg (j := 4) C hsc (by omega) (by omega) dL_law_1148 dL_law_1149 dL_law_1150 dL_law_1151 dL_law_1152 (q := 1153) rfl ?_
    refine x_i2l C dL_law_1153 (q := 1154) rfl rfl ?_
    refine x_ldc2 C (v := 4294967295) lw_k148 dL_law_1154 (q := 1157) rfl ?_
    refine x_land C dL_law_1157 (q := 1158) rfl rfl ?_
    refine x_lor C dL_law_1158 (q := 1159) rfl rfl ?_
    refine x_callV C (roW := []) (roR := []) (ci := 9) (c_X10_item l D cy mo mr cols lc smp (pMk P) (pRs P) nse npa nbo tn kf ky j0 j1 j2 j3 j4 so sz ((fun i => if i < 6 then some (mr (31 + i)) else none)) (mr (31 + (xs (i + 1)).toInt.toNat)) (tf (xs (i + 1)).toInt.toNat) (xs (i + 1)) (xs (i + 2)) ((((xs (i + 3)).toInt64) <<< ((nI 32).toInt64 &&& 63)) ||| (((xs (i + 4)).toInt64) &&& 4294967295)) hx0 hx6 (tq_at hkq) htz hts htq1) (cwV 3 C.2.2.2.2.1 gL_law_X10_item rfl rfl rfl (by decide +kernel) (by rw [hR]; exact ⟨Nat.le_of_ble_eq_true rfl, Nat.le_of_ble_eq_true rfl⟩)) [71, 100, 101, 99, 103 + (xs (i + 1)).toInt.toNat] [] (mapc_cons m_at_0 (mapc_cons m_at_29 (mapc_cons m_at_30 (mapc_cons m_at_28 (mapc_cons (mt_b f_len hkq) mapc_nil))))) (nd_m5 _ hkq) rfl (fun _ h => absurd h List.not_mem_nil) xro_nil (List.mem_append_left _ List.mem_cons_self) rfl xT_bl (fun _ _ _ _ _ _ _ => trivial) rfl rfl dL_law_1159 rfl rfl (Nat.le_of_ble_eq_true rfl) (q := 1162) rfl (k' := k) rfl (n' := n) rfl hk0 (fun v9 w9 hp => ?_)
    obtain ⟨rfl, rfl⟩ := hp
    refine x_ws (xput_keep m_at_0 (xput_keep m_at_29 (xput_keep m_at_30 (xput_keep m_at_28 (xput_chg (mt_sb f_len hkq) xput_nil))))) ?_
    refine x_icmp_eq C (tgt := 1264) dL_law_1162 (by decide) (q := 1165) rfl rfl rfl (fun _ => ?_) (fun hne => absurd rfl hne)
    refine x_widen (k' := k + 125) (n' := n + 401) (Nat.le_add_right _ _) (Nat.le_add_right _ _) ?_
    exact hc kf tn tx gn gx nm ss zs cols lc smp nzf tlf lnf P ky nse fs gs npa fp gp nbo fb gb bal cols' lc' smp' nzf' tlf' lnf' P' ky' nse' fs' gs' npa' fp' gp' nbo' fb' gb' Z kz ga so sz (va_up tf ((xs (i + 1)).toInt.toNat) (iteN (so ((xs (i + 1)).toInt.toNat), sz ((xs (i + 1)).toInt.toNat), tf ((xs (i + 1)).toInt.toNat)) (xs (i + 2)).toInt ((xs (i + 3)).toInt64 <<< ((nI 32).toInt64 &&& 63) ||| (xs (i + 4)).toInt64 &&& 4294967295))) j0 j1 j2 j3 j4 nm9 ns9 st9 by9 lz fn fo ex wo lr9 rl9 fa9 ca9 dc9 fs9 gs9 fp9 gp9 fb9 gb9 im mi nn9 nz9 sh9 mv ld lt ln pl ⟨i1, i2, i3, i4, i5, i6, i7⟩
  · skip
    refine x_aload_n C dL_law_1094 (q := 1095) rfl rfl 1 rfl ?_
    refine lw_arg (j := 1) C hsc (by omega) (by omega) dL_law_1095 dL_law_1096 dL_law_1097 dL_law_1098 dL_law_1099 (q := 1100) rfl ?_
    refine lw_arg (j := 2) C hsc (by omega) (by omega) dL_law_1100 dL_law_1101 dL_law_1102 dL_law_1103 dL_law_1104 (q := 1105) rfl ?_
    refine lw_arg (j := 3) C hsc (by omega) (by omega) dL_law_1105 dL_law_1106 dL_law_1107 dL_law_1108 dL_law_1109 (q := 1110) rfl ?_
    refine x_i2l C dL_law_1110 (q := 1111) rfl rfl ?_
    refine x_bipush C dL_law_1111 (q := 1113) rfl (v := nI 32) (by decide) ?_
    refine x_lshl C dL_law_1113 (q := 1114) rfl rfl ?_
    refine lw_arg (j := 4) C hsc (by omega) (by omega) dL_law_1114 dL_law_1115 dL_law_1116 dL_law_1117 dL_law_1118 (q := 1119) rfl ?_
    refine x_i2l C dL_law_1119 (q := 1120) rfl rfl ?_
    refine x_ldc2 C (v := 4294967295) lw_k148 dL_law_1120 (q := 1123) rfl ?_
    refine x_land C dL_law_1123 (q := 1124) rfl rfl ?_
    refine x_lor C dL_law_1124 (q := 1125) rfl rfl ?_
    refine x_callV C (roW := []) (roR := []) (ci := 8) (c_X9_item_o l D cy (xa 0) (xa 1) (xa 3) (xa 5) (xa 8) (xa 29) (xa 50) (xa 57) (xa 58) kf tpf (xs (i + 1)) (xs (i + 2)) ((((xs (i + 3)).toInt64) <<< ((nI 32).toInt64 &&& 63)) ||| (((xs (i + 4)).toInt64) &&& 4294967295)) (fun k hk => ⟨_, htp k hk⟩) (by omega)) (cwV 3 C.2.2.2.2.1 gL_law_X9_item rfl rfl rfl (by decide +kernel) (by rw [hR]; exact ⟨Nat.le_of_ble_eq_true rfl, Nat.le_of_ble_eq_true rfl⟩)) [0, 58] [] (mapc_cons f_at_0 (mapc_cons f_at_58 mapc_nil)) (by decide) rfl (fun _ h => absurd h List.not_mem_nil) xro_nil (List.mem_append_left _ List.mem_cons_self) rfl xT_bl (fun _ _ _ _ _ _ _ => trivial) rfl rfl dL_law_1125 rfl rfl (Nat.le_of_ble_eq_true rfl) (q := 1128) rfl (k' := k) rfl (n' := n) rfl hk0 (fun v9 w9 hp => ?_)
    obtain ⟨rfl, rfl⟩ := hp
    refine x_ws (xput_keep f_at_0 (xput_keep f_at_58 xput_nil)) ?_
    refine x_aload_n C dL_law_1128 (q := 1129) rfl rfl 2 rfl ?_
    refine lw_arg (j := 1) C hsc (by omega) (by omega) dL_law_1129 dL_law_1130 dL_law_1131 dL_law_1132 dL_law_1133 (q := 1134) rfl ?_
    refine lw_arg (j := 2) C hsc (by omega) (by omega) dL_law_1134 dL_law_1135 dL_law_1136 dL_law_1137 dL_law_1138 (q := 1139) rfl ?_
    refine lw_arg (j := 3) C hsc (by omega) (by omega) dL_law_1139 dL_law_1140 dL_law_1141 dL_law_1142 dL_law_1143 (q := 1144) rfl ?_
    refine x_i2l C dL_law_1144 (q := 1145) rfl rfl ?_
    refine x_bipush C dL_law_1145 (q := 1147) rfl (v := nI 32) (by decide) ?_
    refine x_lshl C dL_law_1147 (q := 1148) rfl rfl ?_
    refine lw_arg (j := 4) C hsc (by omega) (by omega) dL_law_1148 dL_law_1149 dL_law_1150 dL_law_1151 dL_law_1152 (q := 1153) rfl ?_
    refine x_i2l C dL_law_1153 (q := 1154) rfl rfl ?_
    refine x_ldc2 C (v := 4294967295) lw_k148 dL_law_1154 (q := 1157) rfl ?_
    refine x_land C dL_law_1157 (q := 1158) rfl rfl ?_
    refine x_lor C dL_law_1158 (q := 1159) rfl rfl ?_
    refine x_callV C (roW := []) (roR := []) (ci := 9) (c_X10_item_o l D cy mo mr cols lc smp (pMk P) (pRs P) nse npa nbo tn kf ky j0 j1 j2 j3 j4 (xs (i + 1)) (xs (i + 2)) ((((xs (i + 3)).toInt64) <<< ((nI 32).toInt64 &&& 63)) ||| (((xs (i + 4)).toInt64) &&& 4294967295)) (by omega)) (cwV 3 C.2.2.2.2.1 gL_law_X10_item rfl rfl rfl (by decide +kernel) (by rw [hR]; exact ⟨Nat.le_of_ble_eq_true rfl, Nat.le_of_ble_eq_true rfl⟩)) [71] [] (mapc_cons m_at_0 mapc_nil) (by decide) rfl (fun _ h => absurd h List.not_mem_nil) xro_nil (List.mem_append_left _ List.mem_cons_self) rfl xT_bl (fun _ _ _ _ _ _ _ => trivial) rfl rfl dL_law_1159 rfl rfl (Nat.le_of_ble_eq_true rfl) (q := 1162) rfl (k' := k) rfl (n' := n) rfl hk0 (fun v9 w9 hp => ?_)
    obtain ⟨rfl, rfl⟩ := hp
    refine x_ws (xput_keep m_at_0 xput_nil) ?_
    refine x_icmp_eq C (tgt := 1264) dL_law_1162 (by decide) (q := 1165) rfl rfl rfl (fun _ => ?_) (fun hne => absurd rfl hne)
    refine x_widen (k' := k + 125) (n' := n + 401) (Nat.le_add_right _ _) (Nat.le_add_right _ _) ?_
    exact hc kf tn tx gn gx nm ss zs cols lc smp nzf tlf lnf P ky nse fs gs npa fp gp nbo fb gb bal cols' lc' smp' nzf' tlf' lnf' P' ky' nse' fs' gs' npa' fp' gp' nbo' fb' gb' Z kz ga so sz tf j0 j1 j2 j3 j4 nm9 ns9 st9 by9 lz fn fo ex wo lr9 rl9 fa9 ca9 dc9 fs9 gs9 fp9 gp9 fb9 gb9 im mi nn9 nz9 sh9 mv ld lt ln pl ⟨i1, i2, i3, i4, i5, i6, i7⟩
set_option maxHeartbeats 4000000 in
set_option maxRecDepth 100000 in
/-- the law's case 33: read -/
theorem op_read {p : Program} {l : Launch} {e : Env} {R : Room} {s : State} {m : MethodId} {args : Array Value} {below : List Frame} {meth : Method} {c : Code} {Q : State → Prop} {D : va_G} {A : Nat → Prop} {cy : Nat → ClassId} {xa mr : Nat → Nat} {mo : Nat} {tpf : Nat → Option Nat} {b i k n Ln : Nat} {xs : Nat → Int32} (C : xC p s m args meth c D cy A 4 cL_law wsL_law RL) (hR : R = room_1) (hsc : xSc A s b Ln xs) (hi : i + 6 ≤ Ln) (hLn : Ln ≤ 3072) (hkn : k + 125 ≤ R.cells ∧ n + 401 ≤ R.slots) (htp : ∀ k, k < 6 → tpf k = some (xa (59 + 2 * k))) (hc : AT p l e R s m args below meth c Q D A cy xa mr mo tpf b i (k + 125) (n + 401) 1264) : AT p l e R s m args below meth c Q D A cy xa mr mo tpf b i k n 1167 := by
  intro kf tn tx gn gx nm ss zs cols lc smp nzf tlf lnf P ky nse fs gs npa fp gp nbo fb gb bal cols' lc' smp' nzf' tlf' lnf' P' ky' nse' fs' gs' npa' fp' gp' nbo' fb' gb' Z kz ga so sz tf j0 j1 j2 j3 j4 nm9 ns9 st9 by9 lz fn fo ex wo lr9 rl9 fa9 ca9 dc9 fs9 gs9 fp9 gp9 fb9 gb9 im mi nn9 nz9 sh9 mv ld lt ln pl hI
  obtain ⟨i1, i2, i3, i4, i5, i6, i7⟩ := hI
  obtain ⟨r1, r2, r3, r4, r5, r6, r7⟩ := id i4
  obtain ⟨htn, htx⟩ := id i1
  obtain ⟨hzs, hs60, hnn, hnz⟩ := id i2
  obtain ⟨hgn, hgx, hshb⟩ := id i3
  obtain ⟨hcols, hlc, hsmp, hky, htl⟩ := id r1
  obtain ⟨hns, hnb⟩ := id r2
  obtain ⟨hTL, hfm, hml, hmb, hfo4, hfn, hby, hlzb⟩ := id r3
  obtain ⟨hF, hmp, hst9, hlr9⟩ := id r4
  obtain ⟨hnse, hsr⟩ := id r5
  obtain ⟨hnpa, hpr⟩ := id r6
  obtain ⟨hnbo, hbr⟩ := id r7
  obtain ⟨hkf, hm1, hm2, hm3, hlc', hIM⟩ := id i5
  obtain ⟨htz, hts, htq1⟩ := id i6
  obtain ⟨hso, hso'⟩ := id i7
  have hP := hF.1
  have hst5 := hF.1.2.2.2
  have hml9 : pMk P ≤ lc := hF.1.2.1
  have hrm9 : pRs P ≤ pMk P := hF.1.1
  have hmk24 : pMk P ≤ 24 := Nat.le_trans hml9 hlc
  have hrs24 : pRs P ≤ 24 := Nat.le_trans hrm9 hmk24
  have hk0 : k ≤ R.cells ∧ n ≤ R.slots := ⟨by omega, by omega⟩
  by_cases hx : 0 ≤ (xs (i + 1)).toInt ∧ (xs (i + 1)).toInt < 6
  · obtain ⟨hx0, hx6⟩ := hx
    have hkq : (xs (i + 1)).toInt.toNat < 6 := by omega
    refine x_aload_n C dL_law_1167 (q := 1168) rfl rfl 1 rfl ?_
    refine lw_arg (j := 1) C hsc (by omega) (by omega) dL_law_1168 dL_law_1169 dL_law_1170 dL_law_1171 dL_law_1172 (q := 1173) rfl ?_
    refine lw_arg (j := 2) C hsc (by omega) (by omega) dL_law_1173 dL_law_1174 dL_law_1175 dL_law_1176 dL_law_1177 (q := 1178) rfl ?_
    refine x_callV C (roW := []) (roR := []) (ci := 8) (c_X9_read l D cy (xa 0) (xa 1) (xa 3) (xa 5) (xa 8) (xa 29) (xa 50) (xa 57) (xa 58) kf tpf (xa (59 + 2 * (xs (i + 1)).toInt.toNat)) (xa (60 + 2 * (xs (i + 1)).toInt.toNat)) (so (xs (i + 1)).toInt.toNat) (sz (xs (i + 1)).toInt.toNat) (tf (xs (i + 1)).toInt.toNat) (xs (i + 1)) (xs (i + 2)) (fun k hk => ⟨_, htp k hk⟩) hx0 hx6 (htp _ hkq) (htz _)) (cwV 2 C.2.2.2.2.1 gL_law_X9_read rfl rfl rfl (by decide +kernel) (by rw [hR]; exact ⟨Nat.le_of_ble_eq_true rfl, Nat.le_of_ble_eq_true rfl⟩)) [0, 58, 59 + 2 * (xs (i + 1)).toInt.toNat, 60 + 2 * (xs (i + 1)).toInt.toNat] [] (mapc_cons f_at_0 (mapc_cons f_at_58 (mapc_cons (ft_a hkq) (mapc_cons (ft_b hkq) mapc_nil)))) (nd_t4 _ hkq) rfl (fun _ h => absurd h List.not_mem_nil) xro_nil (List.mem_append_left _ List.mem_cons_self) rfl xT_bl (fun _ _ _ _ _ _ _ => trivial) rfl rfl dL_law_1178 rfl rfl (Nat.le_of_ble_eq_true rfl) (q := 1181) rfl (k' := k) rfl (n' := n) rfl hk0 (fun v9 w9 hp => ?_)
    obtain ⟨rfl, rfl⟩ := hp
    refine x_ws (xput_keep f_at_0 (xput_keep f_at_58 (xput_keep (ft_a hkq) (xput_keep (ft_b hkq) xput_nil)))) ?_
    refine x_aload_n C dL_law_1181 (q := 1182) rfl rfl 2 rfl ?_
    refine lw_arg (j := 1) C hsc (by omega) (by omega) dL_law_1182 dL_law_1183 dL_law_1184 dL_law_1185 dL_law_1186 (q := 1187) rfl ?_
    refine lw_arg (j := 2) C hsc (by omega) (by omega) dL_law_1187 dL_law_1188 dL_law_1189 dL_law_1190 dL_law_1191 (q := 1192) rfl ?_
    refine x_callV C (roW := []) (roR := []) (ci := 9) (c_X10_read l D cy mo mr cols lc smp (pMk P) (pRs P) nse npa nbo tn kf ky j0 j1 j2 j3 j4 so sz ((fun i => if i < 6 then some (mr (31 + i)) else none)) (mr (31 + (xs (i + 1)).toInt.toNat)) (tf (xs (i + 1)).toInt.toNat) (xs (i + 1)) (xs (i + 2)) hx0 hx6 (tq_at hkq) htz hts htq1) (cwV 2 C.2.2.2.2.1 gL_law_X10_read rfl rfl rfl (by decide +kernel) (by rw [hR]; exact ⟨Nat.le_of_ble_eq_true rfl, Nat.le_of_ble_eq_true rfl⟩)) [71, 100, 101, 99, 103 + (xs (i + 1)).toInt.toNat] [] (mapc_cons m_at_0 (mapc_cons m_at_29 (mapc_cons m_at_30 (mapc_cons m_at_28 (mapc_cons (mt_b f_len hkq) mapc_nil))))) (nd_m5 _ hkq) rfl (fun _ h => absurd h List.not_mem_nil) xro_nil (List.mem_append_left _ List.mem_cons_self) rfl xT_bl (fun _ _ _ _ _ _ _ => trivial) rfl rfl dL_law_1192 rfl rfl (Nat.le_of_ble_eq_true rfl) (q := 1195) rfl (k' := k) rfl (n' := n) rfl hk0 (fun v9 w9 hp => ?_)
    obtain ⟨rfl, rfl⟩ := hp
    refine x_ws (xput_keep m_at_0 (xput_keep m_at_29 (xput_keep m_at_30 (xput_keep m_at_28 (xput_keep (mt_b f_len hkq) xput_nil))))) ?_
    refine x_lcmp_eq C (tgt := 1264) dL_law_1195 dL_law_1196 (by decide) (q := 1199) rfl rfl rfl (fun _ => ?_) (fun hne => absurd rfl hne)
    refine x_widen (k' := k + 125) (n' := n + 401) (Nat.le_add_right _ _) (Nat.le_add_right _ _) ?_
    exact hc kf tn tx gn gx nm ss zs cols lc smp nzf tlf lnf P ky nse fs gs npa fp gp nbo fb gb bal cols' lc' smp' nzf' tlf' lnf' P' ky' nse' fs' gs' npa' fp' gp' nbo' fb' gb' Z kz ga so sz tf j0 j1 j2 j3 j4 nm9 ns9 st9 by9 lz fn fo ex wo lr9 rl9 fa9 ca9 dc9 fs9 gs9 fp9 gp9 fb9 gb9 im mi nn9 nz9 sh9 mv ld lt ln pl ⟨i1, i2, i3, i4, i5, i6, i7⟩
  · skip
    refine x_aload_n C dL_law_1167 (q := 1168) rfl rfl 1 rfl ?_
    refine lw_arg (j := 1) C hsc (by omega) (by omega) dL_law_1168 dL_law_1169 dL_law_1170 dL_law_1171 dL_law_1172 (q := 1173) rfl ?_
    refine lw_arg (j := 2) C hsc (by omega) (by omega) dL_law_1173 dL_law_1174 dL_law_1175 dL_law_1176 dL_law_1177 (q := 1178) rfl ?_
    refine x_callV C (roW := []) (roR := []) (ci := 8) (c_X9_read_o l D cy (xa 0) (xa 1) (xa 3) (xa 5) (xa 8) (xa 29) (xa 50) (xa 57) (xa 58) kf tpf (xs (i + 1)) (xs (i + 2)) (fun k hk => ⟨_, htp k hk⟩) (by omega)) (cwV 2 C.2.2.2.2.1 gL_law_X9_read rfl rfl rfl (by decide +kernel) (by rw [hR]; exact ⟨Nat.le_of_ble_eq_true rfl, Nat.le_of_ble_eq_true rfl⟩)) [0, 58] [] (mapc_cons f_at_0 (mapc_cons f_at_58 mapc_nil)) (by decide) rfl (fun _ h => absurd h List.not_mem_nil) xro_nil (List.mem_append_left _ List.mem_cons_self) rfl xT_bl (fun _ _ _ _ _ _ _ => trivial) rfl rfl dL_law_1178 rfl rfl (Nat.le_of_ble_eq_true rfl) (q := 1181) rfl (k' := k) rfl (n' := n) rfl hk0 (fun v9 w9 hp => ?_)
    obtain ⟨rfl, rfl⟩ := hp
    refine x_ws (xput_keep f_at_0 (xput_keep f_at_58 xput_nil)) ?_
    refine x_aload_n C dL_law_1181 (q := 1182) rfl rfl 2 rfl ?_
    refine lw_arg (j := 1) C hsc (by omega) (by omega) dL_law_1182 dL_law_1183 dL_law_1184 dL_law_1185 dL_law_1186 (q := 1187) rfl ?_
    refine lw_arg (j := 2) C hsc (by omega) (by omega) dL_law_1187 dL_law_1188 dL_law_1189 dL_law_1190 dL_law_1191 (q := 1192) rfl ?_
    refine x_callV C (roW := []) (roR := []) (ci := 9) (c_X10_read_o l D cy mo mr cols lc smp (pMk P) (pRs P) nse npa nbo tn kf ky j0 j1 j2 j3 j4 (xs (i + 1)) (xs (i + 2)) (by omega)) (cwV 2 C.2.2.2.2.1 gL_law_X10_read rfl rfl rfl (by decide +kernel) (by rw [hR]; exact ⟨Nat.le_of_ble_eq_true rfl, Nat.le_of_ble_eq_true rfl⟩)) [71] [] (mapc_cons m_at_0 mapc_nil) (by decide) rfl (fun _ h => absurd h List.not_mem_nil) xro_nil (List.mem_append_left _ List.mem_cons_self) rfl xT_bl (fun _ _ _ _ _ _ _ => trivial) rfl rfl dL_law_1192 rfl rfl (Nat.le_of_ble_eq_true rfl) (q := 1195) rfl (k' := k) rfl (n' := n) rfl hk0 (fun v9 w9 hp => ?_)
    obtain ⟨rfl, rfl⟩ := hp
    refine x_ws (xput_keep m_at_0 xput_nil) ?_
    refine x_lcmp_eq C (tgt := 1264) dL_law_1195 dL_law_1196 (by decide) (q := 1199) rfl rfl rfl (fun _ => ?_) (fun hne => absurd rfl hne)
    refine x_widen (k' := k + 125) (n' := n + 401) (Nat.le_add_right _ _) (Nat.le_add_right _ _) ?_
    exact hc kf tn tx gn gx nm ss zs cols lc smp nzf tlf lnf P ky nse fs gs npa fp gp nbo fb gb bal cols' lc' smp' nzf' tlf' lnf' P' ky' nse' fs' gs' npa' fp' gp' nbo' fb' gb' Z kz ga so sz tf j0 j1 j2 j3 j4 nm9 ns9 st9 by9 lz fn fo ex wo lr9 rl9 fa9 ca9 dc9 fs9 gs9 fp9 gp9 fb9 gb9 im mi nn9 nz9 sh9 mv ld lt ln pl ⟨i1, i2, i3, i4, i5, i6, i7⟩
