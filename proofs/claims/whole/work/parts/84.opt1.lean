set_option maxHeartbeats 4000000 in
set_option maxRecDepth 100000 in
/-- the law's case 26: judge -/
theorem op_judge {p : Program} {l : Launch} {e : Env} {R : Room} {s : State} {m : MethodId} {args : Array Value} {below : List Frame} {meth : Method} {c : Code} {Q : State → Prop} {D : va_G} {A : Nat → Prop} {cy : Nat → ClassId} {xa mr : Nat → Nat} {mo : Nat} {tpf : Nat → Option Nat} {b i k n Ln : Nat} {xs : Nat → Int32} (C : xC p s m args meth c D cy A 4 cL_law wsL_law RL) (hR : R = room_1) (hsc : xSc A s b Ln xs) (hi : i + 6 ≤ Ln) (hLn : Ln ≤ 3072) (hkn : k + 125 ≤ R.cells ∧ n + 401 ≤ R.slots) (htp : ∀ k, k < 6 → tpf k = some (xa (59 + 2 * k))) (hc : AT p l e R s m args below meth c Q D A cy xa mr mo tpf b i (k + 125) (n + 401) 1264) : AT p l e R s m args below meth c Q D A cy xa mr mo tpf b i k n 916 := by
  intro kf tn tx gn gx nm ss zs cols lc smp nzf tlf lnf P ky nse fs gs npa fp gp nbo fb gb bal cols' lc' smp' nzf' tlf' lnf' P' ky' nse' fs' gs' npa' fp' gp' nbo' fb' gb' Z kz ga so sz tf j0 j1 j2 j3 j4 nm9 ns9 st9 by9 lz fn fo ex wo lr9 rl9 fa9 ca9 dc9 fs9 gs9 fp9 gp9 fb9 gb9 im mi nn9 nz9 sh9 mv ld lt ln pl hI
  obtain ⟨i1, i2, i3, i4, i5, i6, i7⟩ := hI
  obtain ⟨r1, r2, r3, r4, r5, r6, r7⟩ := id i4
  obtain ⟨htn, htx⟩ := id i1
  obtain ⟨hzs, hs60, hnn, hnz⟩ := id i2
  obtain ⟨hgn, hgx, hshb⟩ := id i3
  obtain ⟨hcols, hlc, hsmp, hky, htl⟩ := id r1
  obtain ⟨hns, hnb⟩ := id r2
  obtain ⟨hTL, hfm, hml, hmb, hfo4, hfn, hby, hlzb⟩ := id r3
  obtain ⟨hF, hmp, hst9, hlr9⟩ := id r4
  obtain ⟨hnse, hsr⟩ := id r5
  obtain ⟨hnpa, hpr⟩ := id r6
  obtain ⟨hnbo, hbr⟩ := id r7
  obtain ⟨hkf, hm1, hm2, hm3, hlc', hIM⟩ := id i5
  obtain ⟨htz, hts, htq1⟩ := id i6
  obtain ⟨hso, hso'⟩ := id i7
  have hP := hF.1
  have hst5 := hF.1.2.2.2
  have hml9 : pMk P ≤ lc := hF.1.2.1
  have hrm9 : pRs P ≤ pMk P := hF.1.1
  have hmk24 : pMk P ≤ 24 := Nat.le_trans hml9 hlc
  have hrs24 : pRs P ≤ 24 := Nat.le_trans hrm9 hmk24
  have hk0 : k ≤ R.cells ∧ n ≤ R.slots := ⟨by omega, by omega⟩
  by_cases hx : 0 ≤ (xs (i + 2)).toInt ∧ (xs (i + 2)).toInt < 6
  · obtain ⟨hx0, hx6⟩ := hx
    have hkq : (xs (i + 2)).toInt.toNat < 6 := by omega
    refine x_aload_n C dL_law_916 (q := 917) rfl rfl 1 rfl ?_
    refine lw_arg (j := 1) C hsc (by omega) (by omega) dL_law_917 dL_law_918 dL_law_919 dL_law_920 dL_law_921 (q := 922) rfl ?_
    refine lw_arg (j := 2) C hsc (by omega) (by omega) dL_law_922 dL_law_923 dL_law_924 dL_law_925 dL_law_926 (q := 927) rfl ?_
    refine lw_arg (j := 3) C hsc (by omega) (by omega) dL_law_927 dL_law_928 dL_law_929 dL_law_930 dL_law_931 (q := 932) rfl ?_
    refine x_callVP C (List.append_assoc _ _ _).symm (ci := 8) (c_X9_judge l D cy (xa 0) (xa 1) (xa 3) (xa 5) (xa 8) (xa 29) (xa 50) (xa 57) (xa 58) kf (xa 9) (xa 10) (xa 12) (xa 19) (xa 22) (xa 25) (xa 11) (xa 28) cols lc smp nzf tlf lnf bal (xa 13) (xa 14) (xa 15) (xa 16) (xa 17) (xa 18) P ky ld pl ga tpf (xa (59 + 2 * (xs (i + 2)).toInt.toNat)) (xa (60 + 2 * (xs (i + 2)).toInt.toNat)) (so (xs (i + 2)).toInt.toNat) (sz (xs (i + 2)).toInt.toNat) (tf (xs (i + 2)).toInt.toNat) (xs (i + 1)) (xs (i + 2)) (xs (i + 3)) hcols hlc hTL hfm htl hsmp hst5 hP (fun k hk => ⟨_, htp k hk⟩) hx0 hx6 (htp _ hkq) (htz _)) (cwV 3 C.2.2.2.2.1 gL_law_X9_judge rfl rfl rfl (by decide +kernel) (by rw [hR]; exact ⟨Nat.le_of_ble_eq_true rfl, Nat.le_of_ble_eq_true rfl⟩)) [0, 8, 9, 10, 11, 28, 12, 13, 14, 15, 16, 17, 18, 57, 58, 59 + 2 * (xs (i + 2)).toInt.toNat, 60 + 2 * (xs (i + 2)).toInt.toNat] fm_len (lt_j _ hkq) (mapc_cons f_at_0 (mapc_cons f_at_8 (mapc_cons f_at_9 (mapc_cons f_at_10 (mapc_cons f_at_11 (mapc_cons f_at_28 (mapc_cons f_at_12 (mapc_cons f_at_13 (mapc_cons f_at_14 (mapc_cons f_at_15 (mapc_cons f_at_16 (mapc_cons f_at_17 (mapc_cons f_at_18 (mapc_cons f_at_57 (mapc_cons f_at_58 (mapc_cons (ft_a hkq) (mapc_cons (ft_b hkq) mapc_nil))))))))))))))))) (nd_j _ hkq) List.mem_cons_self rfl xT_bl (fun _ _ _ _ _ _ _ => trivial) rfl rfl dL_law_932 rfl rfl (Nat.le_of_ble_eq_true rfl) (q := 935) rfl (k' := k) rfl (n' := n) rfl hk0 (fun v9 w9 hp => ?_)
    obtain ⟨bx, gx2, rfl, rfl⟩ := hp
    refine x_ws (xput_keep f_at_0 (xput_keep f_at_8 (xput_keep f_at_9 (xput_keep f_at_10 (xput_keep f_at_11 (xput_chg f_set_28 (xput_keep f_at_12 (xput_keep f_at_13 (xput_keep f_at_14 (xput_keep f_at_15 (xput_keep f_at_16 (xput_keep f_at_17 (xput_keep f_at_18 (xput_chg f_set_57 (xput_keep f_at_58 (xput_keep (ft_a hkq) (xput_keep (ft_b hkq) xput_nil))))))))))))))))) ?_
    refine x_aload_n C dL_law_935 (q := 936) rfl rfl 2 rfl ?_
    refine lw_arg (j := 1) C hsc (by omega) (by omega) dL_law_936 dL_law_937 dL_law_938 dL_law_939 dL_law_940 (q := 941) rfl ?_
    refine lw_arg (j := 2) C hsc (by omega) (by omega) dL_law_941 dL_law_942 dL_law_943 dL_law_944 dL_law_945 (q := 946) rfl ?_
    refine lw_arg (j := 3) C hsc (by omega) (by omega) dL_law_946 dL_law_947 dL_law_948 dL_law_949 dL_law_950 (q := 951) rfl ?_
    refine x_callV C (roW := []) (roR := []) (ci := 9) (c_X10_judge l D cy mo mr cols lc smp nse npa nbo tn kf ky j0 j1 j2 j3 j4 P fn fo ex wo st9 lr9 rl9 fa9 ca9 dc9 ld tlf ga so sz ((fun i => if i < 6 then some (mr (31 + i)) else none)) (mr (31 + (xs (i + 2)).toInt.toNat)) (tf (xs (i + 2)).toInt.toNat) (xs (i + 1)) (xs (i + 2)) (xs (i + 3)) hml hfo4 hfn hlc hF hmp hcols hlr9 hst9 hx0 hx6 (tq_at hkq) htz hts htq1) (cwV 3 C.2.2.2.2.1 gL_law_X10_judge rfl rfl rfl (by decide +kernel) (by rw [hR]; exact ⟨Nat.le_of_ble_eq_true rfl, Nat.le_of_ble_eq_true rfl⟩)) [71, 82, 75, 78, 79, 80, 81, 100, 101, 99, 103 + (xs (i + 2)).toInt.toNat] [] (mapc_cons m_at_0 (mapc_cons m_at_11 (mapc_cons m_at_4 (mapc_cons m_at_7 (mapc_cons m_at_8 (mapc_cons m_at_9 (mapc_cons m_at_10 (mapc_cons m_at_29 (mapc_cons m_at_30 (mapc_cons m_at_28 (mapc_cons (mt_b f_len hkq) mapc_nil))))))))))) (nd_mj _ hkq) rfl (fun _ h => absurd h List.not_mem_nil) xro_nil (List.mem_append_left _ List.mem_cons_self) rfl xT_bl (fun _ _ _ _ _ _ _ => trivial) rfl rfl dL_law_951 rfl rfl (Nat.le_of_ble_eq_true rfl) (q := 954) rfl (k' := k) rfl (n' := n) rfl hk0 (fun v9 w9 hp => ?_)
    obtain ⟨rfl, rfl⟩ := hp
    refine x_ws (xput_keep m_at_0 (xput_keep m_at_11 (xput_keep m_at_4 (xput_keep m_at_7 (xput_keep m_at_8 (xput_keep m_at_9 (xput_keep m_at_10 (xput_keep m_at_29 (xput_keep m_at_30 (xput_keep m_at_28 (xput_keep (mt_b f_len hkq) xput_nil))))))))))) ?_
    refine x_icmp_eq C (tgt := 1264) dL_law_954 (by decide) (q := 957) rfl rfl rfl (fun _ => ?_) (fun hne => absurd rfl hne)
    refine x_widen (k' := k + 125) (n' := n + 401) (Nat.le_add_right _ _) (Nat.le_add_right _ _) ?_
    exact hc kf tn tx gn gx nm ss zs cols lc smp nzf tlf lnf P ky nse fs gs npa fp gp nbo fb gb bx cols' lc' smp' nzf' tlf' lnf' P' ky' nse' fs' gs' npa' fp' gp' nbo' fb' gb' Z kz gx2 so sz tf j0 j1 j2 j3 j4 nm9 ns9 st9 by9 lz fn fo ex wo lr9 rl9 fa9 ca9 dc9 fs9 gs9 fp9 gp9 fb9 gb9 im mi nn9 nz9 sh9 mv ld lt ln pl ⟨i1, i2, i3, i4, i5, i6, i7⟩
  · skip
    refine x_aload_n C dL_law_916 (q := 917) rfl rfl 1 rfl ?_
    refine lw_arg (j := 1) C hsc (by omega) (by omega) dL_law_917 dL_law_918 dL_law_919 dL_law_920 dL_law_921 (q := 922) rfl ?_
    refine lw_arg (j := 2) C hsc (by omega) (by omega) dL_law_922 dL_law_923 dL_law_924 dL_law_925 dL_law_926 (q := 927) rfl ?_
    refine lw_arg (j := 3) C hsc (by omega) (by omega) dL_law_927 dL_law_928 dL_law_929 dL_law_930 dL_law_931 (q := 932) rfl ?_
    refine x_callV C (roW := []) (roR := []) (ci := 8) (c_X9_judge_o l D cy (xa 0) (xa 1) (xa 3) (xa 5) (xa 8) (xa 29) (xa 50) (xa 57) (xa 58) kf (xa 9) (xa 10) (xa 12) (xa 19) (xa 22) (xa 25) (xa 11) (xa 28) cols lc smp tpf (xs (i + 1)) (xs (i + 2)) (xs (i + 3)) hcols hlc (fun k hk => ⟨_, htp k hk⟩) (by omega)) (cwV 3 C.2.2.2.2.1 gL_law_X9_judge rfl rfl rfl (by decide +kernel) (by rw [hR]; exact ⟨Nat.le_of_ble_eq_true rfl, Nat.le_of_ble_eq_true rfl⟩)) [0, 8, 58] [] (mapc_cons f_at_0 (mapc_cons f_at_8 (mapc_cons f_at_58 mapc_nil))) (by decide) rfl (fun _ h => absurd h List.not_mem_nil) xro_nil (List.mem_append_left _ List.mem_cons_self) rfl xT_bl (fun _ _ _ _ _ _ _ => trivial) rfl rfl dL_law_932 rfl rfl (Nat.le_of_ble_eq_true rfl) (q := 935) rfl (k' := k) rfl (n' := n) rfl hk0 (fun v9 w9 hp => ?_)
    obtain ⟨rfl, rfl⟩ := hp
    refine x_ws (xput_keep f_at_0 (xput_keep f_at_8 (xput_keep f_at_58 xput_nil))) ?_
    refine x_aload_n C dL_law_935 (q := 936) rfl rfl 2 rfl ?_
    refine lw_arg (j := 1) C hsc (by omega) (by omega) dL_law_936 dL_law_937 dL_law_938 dL_law_939 dL_law_940 (q := 941) rfl ?_
    refine lw_arg (j := 2) C hsc (by omega) (by omega) dL_law_941 dL_law_942 dL_law_943 dL_law_944 dL_law_945 (q := 946) rfl ?_
    refine lw_arg (j := 3) C hsc (by omega) (by omega) dL_law_946 dL_law_947 dL_law_948 dL_law_949 dL_law_950 (q := 951) rfl ?_
    refine x_callV C (roW := []) (roR := []) (ci := 9) (c_X10_judge_o l D cy mo mr cols lc smp (pMk P) (pRs P) nse npa nbo tn kf ky j0 j1 j2 j3 j4 (xs (i + 1)) (xs (i + 2)) (xs (i + 3)) hcols (by omega)) (cwV 3 C.2.2.2.2.1 gL_law_X10_judge rfl rfl rfl (by decide +kernel) (by rw [hR]; exact ⟨Nat.le_of_ble_eq_true rfl, Nat.le_of_ble_eq_true rfl⟩)) [71] [] (mapc_cons m_at_0 mapc_nil) (by decide) rfl (fun _ h => absurd h List.not_mem_nil) xro_nil (List.mem_append_left _ List.mem_cons_self) rfl xT_bl (fun _ _ _ _ _ _ _ => trivial) rfl rfl dL_law_951 rfl rfl (Nat.le_of_ble_eq_true rfl) (q := 954) rfl (k' := k) rfl (n' := n) rfl hk0 (fun v9 w9 hp => ?_)
    obtain ⟨rfl, rfl⟩ := hp
    refine x_ws (xput_keep m_at_0 xput_nil) ?_
    refine x_icmp_eq C (tgt := 1264) dL_law_954 (by decide) (q := 957) rfl rfl rfl (fun _ => ?_) (fun hne => absurd rfl hne)
    refine x_widen (k' := k + 125) (n' := n + 401) (Nat.le_add_right _ _) (Nat.le_add_right _ _) ?_
    exact hc kf tn tx gn gx nm ss zs cols lc smp nzf tlf lnf P ky nse fs gs npa fp gp nbo fb gb bal cols' lc' smp' nzf' tlf' lnf' P' ky' nse' fs' gs' npa' fp' gp' nbo' fb' gb' Z kz ga so sz tf j0 j1 j2 j3 j4 nm9 ns9 st9 by9 lz fn fo ex wo lr9 rl9 fa9 ca9 dc9 fs9 gs9 fp9 gp9 fb9 gb9 im mi nn9 nz9 sh9 mv ld lt ln pl ⟨i1, i2, i3, i4, i5, i6, i7⟩
set_option maxHeartbeats 4000000 in
set_option maxRecDepth 100000 in
/-- the law's case 34: shift -/
theorem op_shift {p : Program} {l : Launch} {e : Env} {R : Room} {s : State} {m : MethodId} {args : Array Value} {below : List Frame} {meth : Method} {c : Code} {Q : State → Prop} {D : va_G} {A : Nat → Prop} {cy : Nat → ClassId} {xa mr : Nat → Nat} {mo : Nat} {tpf : Nat → Option Nat} {b i k n Ln : Nat} {xs : Nat → Int32} (C : xC p s m args meth c D cy A 4 cL_law wsL_law RL) (hR : R = room_1) (hsc : xSc A s b Ln xs) (hi : i + 6 ≤ Ln) (hLn : Ln ≤ 3072) (hkn : k + 125 ≤ R.cells ∧ n + 401 ≤ R.slots) (htp : ∀ k, k < 6 → tpf k = some (xa (59 + 2 * k))) (hc : AT p l e R s m args below meth c Q D A cy xa mr mo tpf b i (k + 125) (n + 401) 1264) : AT p l e R s m args below meth c Q D A cy xa mr mo tpf b i k n 1201 := by
  intro kf tn tx gn gx nm ss zs cols lc smp nzf tlf lnf P ky nse fs gs npa fp gp nbo fb gb bal cols' lc' smp' nzf' tlf' lnf' P' ky' nse' fs' gs' npa' fp' gp' nbo' fb' gb' Z kz ga so sz tf j0 j1 j2 j3 j4 nm9 ns9 st9 by9 lz fn fo ex wo lr9 rl9 fa9 ca9 dc9 fs9 gs9 fp9 gp9 fb9 gb9 im mi nn9 nz9 sh9 mv ld lt ln pl hI
  obtain ⟨i1, i2, i3, i4, i5, i6, i7⟩ := hI
  obtain ⟨r1, r2, r3, r4, r5, r6, r7⟩ := id i4
  obtain ⟨htn, htx⟩ := id i1
  obtain ⟨hzs, hs60, hnn, hnz⟩ := id i2
  obtain ⟨hgn, hgx, hshb⟩ := id i3
  obtain ⟨hcols, hlc, hsmp, hky, htl⟩ := id r1
  obtain ⟨hns, hnb⟩ := id r2
  obtain ⟨hTL, hfm, hml, hmb, hfo4, hfn, hby, hlzb⟩ := id r3
  obtain ⟨hF, hmp, hst9, hlr9⟩ := id r4
  obtain ⟨hnse, hsr⟩ := id r5
  obtain ⟨hnpa, hpr⟩ := id r6
  obtain ⟨hnbo, hbr⟩ := id r7
  obtain ⟨hkf, hm1, hm2, hm3, hlc', hIM⟩ := id i5
  obtain ⟨htz, hts, htq1⟩ := id i6
  obtain ⟨hso, hso'⟩ := id i7
  have hP := hF.1
  have hst5 := hF.1.2.2.2
  have hml9 : pMk P ≤ lc := hF.1.2.1
  have hrm9 : pRs P ≤ pMk P := hF.1.1
  have hmk24 : pMk P ≤ 24 := Nat.le_trans hml9 hlc
  have hrs24 : pRs P ≤ 24 := Nat.le_trans hrm9 hmk24
  have hk0 : k ≤ R.cells ∧ n ≤ R.slots := ⟨by omega, by omega⟩
  by_cases hx : (0 ≤ (xs (i + 1)).toInt ∧ (xs (i + 1)).toInt < 6) ∧ (0 ≤ (xs (i + 3)).toInt ∧ (xs (i + 3)).toInt < 6)
  · obtain ⟨⟨hx0, hx6⟩, ⟨hz0, hz6⟩⟩ := hx
    have hkq : (xs (i + 1)).toInt.toNat < 6 := by omega
    have hjq : (xs (i + 3)).toInt.toNat < 6 := by omega
    by_cases he : (xs (i + 3)).toInt.toNat = (xs (i + 1)).toInt.toNat
    · skip
      refine x_aload_n C dL_law_1201 (q := 1202) rfl rfl 1 rfl ?_
      refine lw_arg (j := 1) C hsc (by omega) (by omega) dL_law_1202 dL_law_1203 dL_law_1204 dL_law_1205 dL_law_1206 (q := 1207) rfl ?_
      refine lw_arg (j := 2) C hsc (by omega) (by omega) dL_law_1207 dL_law_1208 dL_law_1209 dL_law_1210 dL_law_1211 (q := 1212) rfl ?_
      refine lw_arg (j := 3) C hsc (by omega) (by omega) dL_law_1212 dL_law_1213 dL_law_1214 dL_law_1215 dL_law_1216 (q := 1217) rfl ?_
      refine lw_arg (j := 4) C hsc (by omega) (by omega) dL_law_1217 dL_law_1218 dL_law_1219 dL_law_1220 dL_law_1221 (q := 1222) rfl ?_
      refine lw_arg (j := 5) C hsc (by omega) (by omega) dL_law_1222 dL_law_1223 dL_law_1224 dL_law_1225 dL_law_1226 (q := 1227) rfl ?_
      refine x_callV C (roW := []) (roR := []) (ci := 8) (c_X9_shift_s l D cy (xa 0) (xa 1) (xa 3) (xa 5) (xa 8) (xa 29) (xa 50) (xa 57) (xa 58) kf tpf (xa (59 + 2 * (xs (i + 1)).toInt.toNat)) (xa (60 + 2 * (xs (i + 1)).toInt.toNat)) (so (xs (i + 1)).toInt.toNat) (sz (xs (i + 1)).toInt.toNat) (tf (xs (i + 1)).toInt.toNat) (xs (i + 1)) (xs (i + 2)) (xs (i + 3)) (xs (i + 4)) (xs (i + 5)) (fun k hk => ⟨_, htp k hk⟩) hx0 hx6 (htp _ hkq) (htz _) hz0 hz6 (by rw [he]; exact htp _ hkq)) (cwV 5 C.2.2.2.2.1 gL_law_X9_shift rfl rfl rfl (by decide +kernel) (by rw [hR]; exact ⟨Nat.le_of_ble_eq_true rfl, Nat.le_of_ble_eq_true rfl⟩)) [0, 58, 59 + 2 * (xs (i + 1)).toInt.toNat, 60 + 2 * (xs (i + 1)).toInt.toNat] [] (mapc_cons f_at_0 (mapc_cons f_at_58 (mapc_cons (ft_a hkq) (mapc_cons (ft_b hkq) mapc_nil)))) (nd_t4 _ hkq) rfl (fun _ h => absurd h List.not_mem_nil) xro_nil (List.mem_append_left _ List.mem_cons_self) rfl xT_bl (fun _ _ _ _ _ _ _ => trivial) rfl rfl dL_law_1227 rfl rfl (Nat.le_of_ble_eq_true rfl) (q := 1230) rfl (k' := k) rfl (n' := n) rfl hk0 (fun v9 w9 hp => ?_)
      obtain ⟨rfl, rfl⟩ := hp
      refine x_ws (xput_keep f_at_0 (xput_keep f_at_58 (xput_keep (ft_a hkq) (xput_chg (ft_sb hkq) xput_nil)))) ?_
      refine x_aload_n C dL_law_1230 (q := 1231) rfl rfl 2 rfl ?_
      refine lw_arg (j := 1) C hsc (by omega) (by omega) dL_law_1231 dL_law_1232 dL_law_1233 dL_law_1234 dL_law_1235 (q := 1236) rfl ?_
      refine lw_arg (j := 2) C hsc (by omega) (by omega) dL_law_1236 dL_law_1237 dL_law_1238 dL_law_1239 dL_law_1240 (q := 1241) rfl ?_
      refine lw_arg (j := 3) C hsc (by omega) (by omega) dL_law_1241 dL_law_1242 dL_law_1243 dL_law_1244 dL_law_1245 (q := 1246) rfl ?_
      refine lw_arg (j := 4) C hsc (by omega) (by omega) dL_law_1246 dL_law_1247 dL_law_1248 dL_law_1249 dL_law_1250 (q := 1251) rfl ?_
      refine lw_arg (j := 5) C hsc (by omega) (by omega) dL_law_1251 dL_law_1252 dL_law_1253 dL_law_1254 dL_law_1255 (q := 1256) rfl ?_
      refine x_callV C (roW := []) (roR := []) (ci := 9) (c_X10_shift_s l D cy mo mr cols lc smp (pMk P) (pRs P) nse npa nbo tn kf ky j0 j1 j2 j3 j4 so sz ((fun i => if i < 6 then some (mr (31 + i)) else none)) (mr (31 + (xs (i + 1)).toInt.toNat)) (tf (xs (i + 1)).toInt.toNat) mv (xs (i + 1)) (xs (i + 2)) (xs (i + 3)) (xs (i + 4)) (xs (i + 5)) hx0 hx6 (tq_at hkq) htz hts htq1 hz0 hz6 (by rw [he]; exact tq_at hkq)) (cwV 5 C.2.2.2.2.1 gL_law_X10_shift rfl rfl rfl (by decide +kernel) (by rw [hR]; exact ⟨Nat.le_of_ble_eq_true rfl, Nat.le_of_ble_eq_true rfl⟩)) [71, 100, 101, 99, 102, 103 + (xs (i + 1)).toInt.toNat] [] (mapc_cons m_at_0 (mapc_cons m_at_29 (mapc_cons m_at_30 (mapc_cons m_at_28 (mapc_cons m_at_31 (mapc_cons (mt_b f_len hkq) mapc_nil)))))) (nd_m6 _ hkq) rfl (fun _ h => absurd h List.not_mem_nil) xro_nil (List.mem_append_left _ List.mem_cons_self) rfl xT_bl (fun _ _ _ _ _ _ _ => trivial) rfl rfl dL_law_1256 rfl rfl (Nat.le_of_ble_eq_true rfl) (q := 1259) rfl (k' := k) rfl (n' := n) rfl hk0 (fun v9 w9 hp => ?_)
      obtain ⟨mv2, rfl, rfl⟩ := hp
      rw [he]
      refine x_ws (xput_keep m_at_0 (xput_keep m_at_29 (xput_keep m_at_30 (xput_keep m_at_28 (xput_chg m_set_31 (xput_chg (mt_sb f_len hkq) xput_nil)))))) ?_
      refine x_icmp_eq C (tgt := 1264) dL_law_1259 (by decide) (q := 1262) rfl rfl rfl (fun _ => ?_) (fun hne => absurd rfl hne)
      refine x_widen (k' := k + 125) (n' := n + 401) (Nat.le_add_right _ _) (Nat.le_add_right _ _) ?_
      exact hc kf tn tx gn gx nm ss zs cols lc smp nzf tlf lnf P ky nse fs gs npa fp gp nbo fb gb bal cols' lc' smp' nzf' tlf' lnf' P' ky' nse' fs' gs' npa' fp' gp' nbo' fb' gb' Z kz ga so sz (va_up tf ((xs (i + 1)).toInt.toNat) (shiN (so ((xs (i + 1)).toInt.toNat), sz ((xs (i + 1)).toInt.toNat), tf ((xs (i + 1)).toInt.toNat)) (so ((xs (i + 1)).toInt.toNat), sz ((xs (i + 1)).toInt.toNat), tf ((xs (i + 1)).toInt.toNat)) (xs (i + 2)) (xs (i + 4)) (xs (i + 5)))) j0 j1 j2 j3 j4 nm9 ns9 st9 by9 lz fn fo ex wo lr9 rl9 fa9 ca9 dc9 fs9 gs9 fp9 gp9 fb9 gb9 im mi nn9 nz9 sh9 mv2 ld lt ln pl ⟨i1, i2, i3, i4, i5, i6, i7⟩
    · skip
      refine x_aload_n C dL_law_1201 (q := 1202) rfl rfl 1 rfl ?_
      refine lw_arg (j := 1) C hsc (by omega) (by omega) dL_law_1202 dL_law_1203 dL_law_1204 dL_law_1205 dL_law_1206 (q := 1207) rfl ?_
      refine lw_arg (j := 2) C hsc (by omega) (by omega) dL_law_1207 dL_law_1208 dL_law_1209 dL_law_1210 dL_law_1211 (q := 1212) rfl ?_
      refine lw_arg (j := 3) C hsc (by omega) (by omega) dL_law_1212 dL_law_1213 dL_law_1214 dL_law_1215 dL_law_1216 (q := 1217) rfl ?_
      refine lw_arg (j := 4) C hsc (by omega) (by omega) dL_law_1217 dL_law_1218 dL_law_1219 dL_law_1220 dL_law_1221 (q := 1222) rfl ?_
      refine lw_arg (j := 5) C hsc (by omega) (by omega) dL_law_1222 dL_law_1223 dL_law_1224 dL_law_1225 dL_law_1226 (q := 1227) rfl ?_
      refine x_callV C (roW := []) (roR := []) (ci := 8) (c_X9_shift l D cy (xa 0) (xa 1) (xa 3) (xa 5) (xa 8) (xa 29) (xa 50) (xa 57) (xa 58) kf tpf (xa (59 + 2 * (xs (i + 1)).toInt.toNat)) (xa (60 + 2 * (xs (i + 1)).toInt.toNat)) (so (xs (i + 1)).toInt.toNat) (sz (xs (i + 1)).toInt.toNat) (tf (xs (i + 1)).toInt.toNat) (xa (59 + 2 * (xs (i + 3)).toInt.toNat)) (xa (60 + 2 * (xs (i + 3)).toInt.toNat)) (so (xs (i + 3)).toInt.toNat) (sz (xs (i + 3)).toInt.toNat) (tf (xs (i + 3)).toInt.toNat) (xs (i + 1)) (xs (i + 2)) (xs (i + 3)) (xs (i + 4)) (xs (i + 5)) (fun k hk => ⟨_, htp k hk⟩) hx0 hx6 (htp _ hkq) (htz _) hz0 hz6 (htp _ hjq) (htz _)) (cwV 5 C.2.2.2.2.1 gL_law_X9_shift rfl rfl rfl (by decide +kernel) (by rw [hR]; exact ⟨Nat.le_of_ble_eq_true rfl, Nat.le_of_ble_eq_true rfl⟩)) [0, 58, 59 + 2 * (xs (i + 1)).toInt.toNat, 60 + 2 * (xs (i + 1)).toInt.toNat, 59 + 2 * (xs (i + 3)).toInt.toNat, 60 + 2 * (xs (i + 3)).toInt.toNat] [] (mapc_cons f_at_0 (mapc_cons f_at_58 (mapc_cons (ft_a hkq) (mapc_cons (ft_b hkq) (mapc_cons (ft_a hjq) (mapc_cons (ft_b hjq) mapc_nil)))))) (nd_t6 _ hkq _ hjq he) rfl (fun _ h => absurd h List.not_mem_nil) xro_nil (List.mem_append_left _ List.mem_cons_self) rfl xT_bl (fun _ _ _ _ _ _ _ => trivial) rfl rfl dL_law_1227 rfl rfl (Nat.le_of_ble_eq_true rfl) (q := 1230) rfl (k' := k) rfl (n' := n) rfl hk0 (fun v9 w9 hp => ?_)
      obtain ⟨rfl, rfl⟩ := hp
      refine x_ws (xput_keep f_at_0 (xput_keep f_at_58 (xput_keep (ft_a hkq) (xput_keep (ft_b hkq) (xput_keep (ft_a hjq) (xput_chg (ft_sb hjq) xput_nil)))))) ?_
      refine x_aload_n C dL_law_1230 (q := 1231) rfl rfl 2 rfl ?_
      refine lw_arg (j := 1) C hsc (by omega) (by omega) dL_law_1231 dL_law_1232 dL_law_1233 dL_law_1234 dL_law_1235 (q := 1236) rfl ?_
      refine lw_arg (j := 2) C hsc (by omega) (by omega) dL_law_1236 dL_law_1237 dL_law_1238 dL_law_1239 dL_law_1240 (q := 1241) rfl ?_
      refine lw_arg (j := 3) C hsc (by omega) (by omega) dL_law_1241 dL_law_1242 dL_law_1243 dL_law_1244 dL_law_1245 (q := 1246) rfl ?_
      refine lw_arg (j := 4) C hsc (by omega) (by omega) dL_law_1246 dL_law_1247 dL_law_1248 dL_law_1249 dL_law_1250 (q := 1251) rfl ?_
      refine lw_arg (j := 5) C hsc (by omega) (by omega) dL_law_1251 dL_law_1252 dL_law_1253 dL_law_1254 dL_law_1255 (q := 1256) rfl ?_
      refine x_callV C (roW := []) (roR := []) (ci := 9) (c_X10_shift l D cy mo mr cols lc smp (pMk P) (pRs P) nse npa nbo tn kf ky j0 j1 j2 j3 j4 so sz ((fun i => if i < 6 then some (mr (31 + i)) else none)) (mr (31 + (xs (i + 1)).toInt.toNat)) (tf (xs (i + 1)).toInt.toNat) (mr (31 + (xs (i + 3)).toInt.toNat)) (tf (xs (i + 3)).toInt.toNat) mv (xs (i + 1)) (xs (i + 2)) (xs (i + 3)) (xs (i + 4)) (xs (i + 5)) hx0 hx6 (tq_at hkq) htz hts htq1 hz0 hz6 (tq_at hjq)) (cwV 5 C.2.2.2.2.1 gL_law_X10_shift rfl rfl rfl (by decide +kernel) (by rw [hR]; exact ⟨Nat.le_of_ble_eq_true rfl, Nat.le_of_ble_eq_true rfl⟩)) [71, 100, 101, 99, 102, 103 + (xs (i + 1)).toInt.toNat, 103 + (xs (i + 3)).toInt.toNat] [] (mapc_cons m_at_0 (mapc_cons m_at_29 (mapc_cons m_at_30 (mapc_cons m_at_28 (mapc_cons m_at_31 (mapc_cons (mt_b f_len hkq) (mapc_cons (mt_b f_len hjq) mapc_nil))))))) (nd_m7 _ hkq _ hjq he) rfl (fun _ h => absurd h List.not_mem_nil) xro_nil (List.mem_append_left _ List.mem_cons_self) rfl xT_bl (fun _ _ _ _ _ _ _ => trivial) rfl rfl dL_law_1256 rfl rfl (Nat.le_of_ble_eq_true rfl) (q := 1259) rfl (k' := k) rfl (n' := n) rfl hk0 (fun v9 w9 hp => ?_)
      obtain ⟨mv2, rfl, rfl⟩ := hp
      refine x_ws (xput_keep m_at_0 (xput_keep m_at_29 (xput_keep m_at_30 (xput_keep m_at_28 (xput_chg m_set_31 (xput_keep (mt_b f_len hkq) (xput_chg (mt_sb f_len hjq) xput_nil))))))) ?_
      refine x_icmp_eq C (tgt := 1264) dL_law_1259 (by decide) (q := 1262) rfl rfl rfl (fun _ => ?_) (fun hne => absurd rfl hne)
      refine x_widen (k' := k + 125) (n' := n + 401) (Nat.le_add_right _ _) (Nat.le_add_right _ _) ?_
      exact hc kf tn tx gn gx nm ss zs cols lc smp nzf tlf lnf P ky nse fs gs npa fp gp nbo fb gb bal cols' lc' smp' nzf' tlf' lnf' P' ky' nse' fs' gs' npa' fp' gp' nbo' fb' gb' Z kz ga so sz (va_up tf ((xs (i + 3)).toInt.toNat) (shiN (so ((xs (i + 1)).toInt.toNat), sz ((xs (i + 1)).toInt.toNat), tf ((xs (i + 1)).toInt.toNat)) (so ((xs (i + 3)).toInt.toNat), sz ((xs (i + 3)).toInt.toNat), tf ((xs (i + 3)).toInt.toNat)) (xs (i + 2)) (xs (i + 4)) (xs (i + 5)))) j0 j1 j2 j3 j4 nm9 ns9 st9 by9 lz fn fo ex wo lr9 rl9 fa9 ca9 dc9 fs9 gs9 fp9 gp9 fb9 gb9 im mi nn9 nz9 sh9 mv2 ld lt ln pl ⟨i1, i2, i3, i4, i5, i6, i7⟩
  · skip
    refine x_aload_n C dL_law_1201 (q := 1202) rfl rfl 1 rfl ?_
    refine lw_arg (j := 1) C hsc (by omega) (by omega) dL_law_1202 dL_law_1203 dL_law_1204 dL_law_1205 dL_law_1206 (q := 1207) rfl ?_
    refine lw_arg (j := 2) C hsc (by omega) (by omega) dL_law_1207 dL_law_1208 dL_law_1209 dL_law_1210 dL_law_1211 (q := 1212) rfl ?_
    refine lw_arg (j := 3) C hsc (by omega) (by omega) dL_law_1212 dL_law_1213 dL_law_1214 dL_law_1215 dL_law_1216 (q := 1217) rfl ?_
    refine lw_arg (j := 4) C hsc (by omega) (by omega) dL_law_1217 dL_law_1218 dL_law_1219 dL_law_1220 dL_law_1221 (q := 1222) rfl ?_
    refine lw_arg (j := 5) C hsc (by omega) (by omega) dL_law_1222 dL_law_1223 dL_law_1224 dL_law_1225 dL_law_1226 (q := 1227) rfl ?_
    refine x_callV C (roW := []) (roR := []) (ci := 8) (c_X9_shift_o l D cy (xa 0) (xa 1) (xa 3) (xa 5) (xa 8) (xa 29) (xa 50) (xa 57) (xa 58) kf tpf (xs (i + 1)) (xs (i + 2)) (xs (i + 3)) (xs (i + 4)) (xs (i + 5)) (fun k hk => ⟨_, htp k hk⟩) (by omega)) (cwV 5 C.2.2.2.2.1 gL_law_X9_shift rfl rfl rfl (by decide +kernel) (by rw [hR]; exact ⟨Nat.le_of_ble_eq_true rfl, Nat.le_of_ble_eq_true rfl⟩)) [0, 58] [] (mapc_cons f_at_0 (mapc_cons f_at_58 mapc_nil)) (by decide) rfl (fun _ h => absurd h List.not_mem_nil) xro_nil (List.mem_append_left _ List.mem_cons_self) rfl xT_bl (fun _ _ _ _ _ _ _ => trivial) rfl rfl dL_law_1227 rfl rfl (Nat.le_of_ble_eq_true rfl) (q := 1230) rfl (k' := k) rfl (n' := n) rfl hk0 (fun v9 w9 hp => ?_)
    obtain ⟨rfl, rfl⟩ := hp
    refine x_ws (xput_keep f_at_0 (xput_keep f_at_58 xput_nil)) ?_
    refine x_aload_n C dL_law_1230 (q := 1231) rfl rfl 2 rfl ?_
    refine lw_arg (j := 1) C hsc (by omega) (by omega) dL_law_1231 dL_law_1232 dL_law_1233 dL_law_1234 dL_law_1235 (q := 1236) rfl ?_
    refine lw_arg (j := 2) C hsc (by omega) (by omega) dL_law_1236 dL_law_1237 dL_law_1238 dL_law_1239 dL_law_1240 (q := 1241) rfl ?_
    refine lw_arg (j := 3) C hsc (by omega) (by omega) dL_law_1241 dL_law_1242 dL_law_1243 dL_law_1244 dL_law_1245 (q := 1246) rfl ?_
    refine lw_arg (j := 4) C hsc (by omega) (by omega) dL_law_1246 dL_law_1247 dL_law_1248 dL_law_1249 dL_law_1250 (q := 1251) rfl ?_
    refine lw_arg (j := 5) C hsc (by omega) (by omega) dL_law_1251 dL_law_1252 dL_law_1253 dL_law_1254 dL_law_1255 (q := 1256) rfl ?_
    refine x_callV C (roW := []) (roR := []) (ci := 9) (c_X10_shift_o l D cy mo mr cols lc smp (pMk P) (pRs P) nse npa nbo tn kf ky j0 j1 j2 j3 j4 (xs (i + 1)) (xs (i + 2)) (xs (i + 3)) (xs (i + 4)) (xs (i + 5)) (by omega)) (cwV 5 C.2.2.2.2.1 gL_law_X10_shift rfl rfl rfl (by decide +kernel) (by rw [hR]; exact ⟨Nat.le_of_ble_eq_true rfl, Nat.le_of_ble_eq_true rfl⟩)) [71] [] (mapc_cons m_at_0 mapc_nil) (by decide) rfl (fun _ h => absurd h List.not_mem_nil) xro_nil (List.mem_append_left _ List.mem_cons_self) rfl xT_bl (fun _ _ _ _ _ _ _ => trivial) rfl rfl dL_law_1256 rfl rfl (Nat.le_of_ble_eq_true rfl) (q := 1259) rfl (k' := k) rfl (n' := n) rfl hk0 (fun v9 w9 hp => ?_)
    obtain ⟨rfl, rfl⟩ := hp
    refine x_ws (xput_keep m_at_0 xput_nil) ?_
    refine x_icmp_eq C (tgt := 1264) dL_law_1259 (by decide) (q := 1262) rfl rfl rfl (fun _ => ?_) (fun hne => absurd rfl hne)
    refine x_widen (k' := k + 125) (n' := n + 401) (Nat.le_add_right _ _) (Nat.le_add_right _ _) ?_
    exact hc kf tn tx gn gx nm ss zs cols lc smp nzf tlf lnf P ky nse fs gs npa fp gp nbo fb gb bal cols' lc' smp' nzf' tlf' lnf' P' ky' nse' fs' gs' npa' fp' gp' nbo' fb' gb' Z kz ga so sz tf j0 j1 j2 j3 j4 nm9 ns9 st9 by9 lz fn fo ex wo lr9 rl9 fa9 ca9 dc9 fs9 gs9 fp9 gp9 fb9 gb9 im mi nn9 nz9 sh9 mv ld lt ln pl ⟨i1, i2, i3, i4, i5, i6, i7⟩
