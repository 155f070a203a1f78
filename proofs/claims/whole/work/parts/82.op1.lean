set_option maxHeartbeats 4000000 in
set_option maxRecDepth 100000 in
/-- the law's case 11: fault -/
theorem op_fault {p : Program} {l : Launch} {e : Env} {R : Room} {s : State} {m : MethodId} {args : Array Value} {below : List Frame} {meth : Method} {c : Code} {Q : State → Prop} {D : va_G} {A : Nat → Prop} {cy : Nat → ClassId} {xa mr : Nat → Nat} {mo : Nat} {tpf : Nat → Option Nat} {b i k n Ln : Nat} {xs : Nat → Int32} (C : xC p s m args meth c D cy A 4 cL_law wsL_law RL) (hR : R = room_1) (hsc : xSc A s b Ln xs) (hi : i + 6 ≤ Ln) (hLn : Ln ≤ 3072) (hkn : k + 125 ≤ R.cells ∧ n + 401 ≤ R.slots) (htp : ∀ k, k < 6 → tpf k = some (xa (59 + 2 * k))) (hc : AT p l e R s m args below meth c Q D A cy xa mr mo tpf b i (k + 125) (n + 401) 1264) : AT p l e R s m args below meth c Q D A cy xa mr mo tpf b i k n 451 := by
  intro kf tn tx gn gx nm ss zs cols lc smp nzf tlf lnf P ky nse fs gs npa fp gp nbo fb gb bal cols' lc' smp' nzf' tlf' lnf' P' ky' nse' fs' gs' npa' fp' gp' nbo' fb' gb' Z kz ga so sz tf j0 j1 j2 j3 j4 nm9 ns9 st9 by9 lz fn fo ex wo lr9 rl9 fa9 ca9 dc9 fs9 gs9 fp9 gp9 fb9 gb9 im mi nn9 nz9 sh9 mv ld lt ln pl hI
  obtain ⟨i1, i2, i3, i4, i5, i6, i7⟩ := hI
  obtain ⟨r1, r2, r3, r4, r5, r6, r7⟩ := id i4
  obtain ⟨htn, htx⟩ := id i1
  obtain ⟨hzs, hs60, hnn, hnz⟩ := id i2
  obtain ⟨hgn, hgx, hshb⟩ := id i3
  obtain ⟨hcols, hlc, hsmp, hky, htl⟩ := id r1
  obtain ⟨hns, hnb⟩ := id r2
  obtain ⟨hTL, hfm, hml, hmb, hfo4, hfn, hby, hlzb⟩ := id r3
  obtain ⟨hF, hmp, hst9, hlr9⟩ := id r4
  obtain ⟨hnse, hsr⟩ := id r5
  obtain ⟨hnpa, hpr⟩ := id r6
  obtain ⟨hnbo, hbr⟩ := id r7
  obtain ⟨hkf, hm1, hm2, hm3, hlc', hIM⟩ := id i5
  obtain ⟨htz, hts, htq1⟩ := id i6
  obtain ⟨hso, hso'⟩ := id i7
  have hP := hF.1
  have hst5 := hF.1.2.2.2
  have hml9 : pMk P ≤ lc := hF.1.2.1
  have hrm9 : pRs P ≤ pMk P := hF.1.1
  have hmk24 : pMk P ≤ 24 := Nat.le_trans hml9 hlc
  have hrs24 : pRs P ≤ 24 := Nat.le_trans hrm9 hmk24
  have hk0 : k ≤ R.cells ∧ n ≤ R.slots := ⟨by omega, by omega⟩
  refine x_aload_n C dL_law_451 (q := 452) rfl rfl 1 rfl ?_
  refine lw_arg (j := 1) C hsc (by omega) (by omega) dL_law_452 dL_law_453 dL_law_454 dL_law_455 dL_law_456 (q := 457) rfl ?_
  refine lw_arg (j := 2) C hsc (by omega) (by omega) dL_law_457 dL_law_458 dL_law_459 dL_law_460 dL_law_461 (q := 462) rfl ?_
  refine x_callVP C (List.append_assoc _ _ _).symm (ci := 8) (c_X9_fault l D cy (xa 0) (xa 1) (xa 3) (xa 5) (xa 8) (xa 29) (xa 50) (xa 57) (xa 58) kf (xa 9) (xa 10) (xa 12) (xa 19) (xa 22) (xa 25) (xa 11) (xa 28) cols lc smp lnf (xa 13) (xa 14) (xa 15) (xa 16) (xa 17) (xa 18) P ky ld pl (xs (i + 1)) (xs (i + 2)) hcols hlc hTL hfm hmk24 hrs24) (cwV 2 C.2.2.2.2.1 gL_law_X9_fault rfl rfl rfl (by decide +kernel) (by rw [hR]; exact ⟨Nat.le_of_ble_eq_true rfl, Nat.le_of_ble_eq_true rfl⟩)) [0, 8, 11, 12, 13, 14, 15, 16, 17, 18] fm_len (by decide) (mapc_cons f_at_0 (mapc_cons f_at_8 (mapc_cons f_at_11 (mapc_cons f_at_12 (mapc_cons f_at_13 (mapc_cons f_at_14 (mapc_cons f_at_15 (mapc_cons f_at_16 (mapc_cons f_at_17 (mapc_cons f_at_18 mapc_nil)))))))))) (by decide) List.mem_cons_self rfl xT_bl (fun _ _ _ _ _ _ _ => trivial) rfl rfl dL_law_462 rfl rfl (Nat.le_of_ble_eq_true rfl) (q := 465) rfl (k' := k) rfl (n' := n) rfl hk0 (fun v9 w9 hp => ?_)
  obtain ⟨rfl, rfl⟩ := hp
  refine x_ws (xput_keep f_at_0 (xput_keep f_at_8 (xput_keep f_at_11 (xput_keep f_at_12 (xput_keep f_at_13 (xput_keep f_at_14 (xput_keep f_at_15 (xput_keep f_at_16 (xput_keep f_at_17 (xput_keep f_at_18 xput_nil)))))))))) ?_
  refine x_aload_n C dL_law_465 (q := 466) rfl rfl 2 rfl ?_
  refine lw_arg (j := 1) C hsc (by omega) (by omega) dL_law_466 dL_law_467 dL_law_468 dL_law_469 dL_law_470 (q := 471) rfl ?_
  refine lw_arg (j := 2) C hsc (by omega) (by omega) dL_law_471 dL_law_472 dL_law_473 dL_law_474 dL_law_475 (q := 476) rfl ?_
  refine x_callV C (roW := []) (roR := []) (ci := 9) (c_X10_fault l D cy mo mr cols lc smp nse npa nbo tn kf ky j0 j1 j2 j3 j4 P st9 lr9 rl9 fa9 ca9 dc9 ld (xs (i + 1)) (xs (i + 2)) hmp hF hlc) (cwV 2 C.2.2.2.2.1 gL_law_X10_fault rfl rfl rfl (by decide +kernel) (by rw [hR]; exact ⟨Nat.le_of_ble_eq_true rfl, Nat.le_of_ble_eq_true rfl⟩)) [71, 84, 85, 86] [] (mapc_cons m_at_0 (mapc_cons m_at_13 (mapc_cons m_at_14 (mapc_cons m_at_15 mapc_nil)))) (by decide) rfl (fun _ h => absurd h List.not_mem_nil) xro_nil (List.mem_append_left _ List.mem_cons_self) rfl xT_bl (fun _ _ _ _ _ _ _ => trivial) rfl rfl dL_law_476 rfl rfl (Nat.le_of_ble_eq_true rfl) (q := 479) rfl (k' := k) rfl (n' := n) rfl hk0 (fun v9 w9 hp => ?_)
  obtain ⟨rfl, rfl⟩ := hp
  refine x_ws (xput_keep m_at_0 (xput_keep m_at_13 (xput_keep m_at_14 (xput_keep m_at_15 xput_nil)))) ?_
  refine x_icmp_eq C (tgt := 1264) dL_law_479 (by decide) (q := 482) rfl rfl rfl (fun _ => ?_) (fun hne => absurd rfl hne)
  refine x_widen (k' := k + 125) (n' := n + 401) (Nat.le_add_right _ _) (Nat.le_add_right _ _) ?_
  exact hc kf tn tx gn gx nm ss zs cols lc smp nzf tlf lnf P ky nse fs gs npa fp gp nbo fb gb bal cols' lc' smp' nzf' tlf' lnf' P' ky' nse' fs' gs' npa' fp' gp' nbo' fb' gb' Z kz ga so sz tf j0 j1 j2 j3 j4 nm9 ns9 st9 by9 lz fn fo ex wo lr9 rl9 fa9 ca9 dc9 fs9 gs9 fp9 gp9 fb9 gb9 im mi nn9 nz9 sh9 mv ld lt ln pl ⟨i1, i2, i3, i4, i5, i6, i7⟩
set_option maxHeartbeats 4000000 in
set_option maxRecDepth 100000 in
/-- the law's case 12: told -/
theorem op_told {p : Program} {l : Launch} {e : Env} {R : Room} {s : State} {m : MethodId} {args : Array Value} {below : List Frame} {meth : Method} {c : Code} {Q : State → Prop} {D : va_G} {A : Nat → Prop} {cy : Nat → ClassId} {xa mr : Nat → Nat} {mo : Nat} {tpf : Nat → Option Nat} {b i k n Ln : Nat} {xs : Nat → Int32} (C : xC p s m args meth c D cy A 4 cL_law wsL_law RL) (hR : R = room_1) (hsc : xSc A s b Ln xs) (hi : i + 6 ≤ Ln) (hLn : Ln ≤ 3072) (hkn : k + 125 ≤ R.cells ∧ n + 401 ≤ R.slots) (htp : ∀ k, k < 6 → tpf k = some (xa (59 + 2 * k))) (hc : AT p l e R s m args below meth c Q D A cy xa mr mo tpf b i (k + 125) (n + 401) 1264) : AT p l e R s m args below meth c Q D A cy xa mr mo tpf b i k n 484 := by
  intro kf tn tx gn gx nm ss zs cols lc smp nzf tlf lnf P ky nse fs gs npa fp gp nbo fb gb bal cols' lc' smp' nzf' tlf' lnf' P' ky' nse' fs' gs' npa' fp' gp' nbo' fb' gb' Z kz ga so sz tf j0 j1 j2 j3 j4 nm9 ns9 st9 by9 lz fn fo ex wo lr9 rl9 fa9 ca9 dc9 fs9 gs9 fp9 gp9 fb9 gb9 im mi nn9 nz9 sh9 mv ld lt ln pl hI
  obtain ⟨i1, i2, i3, i4, i5, i6, i7⟩ := hI
  obtain ⟨r1, r2, r3, r4, r5, r6, r7⟩ := id i4
  obtain ⟨htn, htx⟩ := id i1
  obtain ⟨hzs, hs60, hnn, hnz⟩ := id i2
  obtain ⟨hgn, hgx, hshb⟩ := id i3
  obtain ⟨hcols, hlc, hsmp, hky, htl⟩ := id r1
  obtain ⟨hns, hnb⟩ := id r2
  obtain ⟨hTL, hfm, hml, hmb, hfo4, hfn, hby, hlzb⟩ := id r3
  obtain ⟨hF, hmp, hst9, hlr9⟩ := id r4
  obtain ⟨hnse, hsr⟩ := id r5
  obtain ⟨hnpa, hpr⟩ := id r6
  obtain ⟨hnbo, hbr⟩ := id r7
  obtain ⟨hkf, hm1, hm2, hm3, hlc', hIM⟩ := id i5
  obtain ⟨htz, hts, htq1⟩ := id i6
  obtain ⟨hso, hso'⟩ := id i7
  have hP := hF.1
  have hst5 := hF.1.2.2.2
  have hml9 : pMk P ≤ lc := hF.1.2.1
  have hrm9 : pRs P ≤ pMk P := hF.1.1
  have hmk24 : pMk P ≤ 24 := Nat.le_trans hml9 hlc
  have hrs24 : pRs P ≤ 24 := Nat.le_trans hrm9 hmk24
  have hk0 : k ≤ R.cells ∧ n ≤ R.slots := ⟨by omega, by omega⟩
  refine x_aload_n C dL_law_484 (q := 485) rfl rfl 1 rfl ?_
  refine lw_arg (j := 1) C hsc (by omega) (by omega) dL_law_485 dL_law_486 dL_law_487 dL_law_488 dL_law_489 (q := 490) rfl ?_
  refine x_callV C (roW := []) (roR := []) (ci := 8) (c_X9_told l D cy (xa 0) (xa 1) (xa 3) (xa 5) (xa 8) (xa 29) (xa 50) (xa 57) (xa 58) kf (xa 9) (xa 10) (xa 12) (xa 19) (xa 22) (xa 25) (xa 11) (xa 28) cols lc smp (xa 13) (xa 14) (xa 15) (xa 16) (xa 17) (xa 18) P ky (xs (i + 1)) hcols hlc hsmp hmk24 hrm9) (cwV 1 C.2.2.2.2.1 gL_law_X9_told rfl rfl rfl (by decide +kernel) (by rw [hR]; exact ⟨Nat.le_of_ble_eq_true rfl, Nat.le_of_ble_eq_true rfl⟩)) [0, 8, 12, 13, 14, 15, 16, 17, 18] [] (mapc_cons f_at_0 (mapc_cons f_at_8 (mapc_cons f_at_12 (mapc_cons f_at_13 (mapc_cons f_at_14 (mapc_cons f_at_15 (mapc_cons f_at_16 (mapc_cons f_at_17 (mapc_cons f_at_18 mapc_nil))))))))) (by decide) rfl (fun _ h => absurd h List.not_mem_nil) xro_nil (List.mem_append_left _ List.mem_cons_self) rfl xT_bl (fun _ _ _ _ _ _ _ => trivial) rfl rfl dL_law_490 rfl rfl (Nat.le_of_ble_eq_true rfl) (q := 493) rfl (k' := k) rfl (n' := n) rfl hk0 (fun v9 w9 hp => ?_)
  obtain ⟨rfl, rfl⟩ := hp
  refine x_ws (xput_keep f_at_0 (xput_keep f_at_8 (xput_keep f_at_12 (xput_keep f_at_13 (xput_keep f_at_14 (xput_keep f_at_15 (xput_keep f_at_16 (xput_keep f_at_17 (xput_keep f_at_18 xput_nil))))))))) ?_
  refine x_aload_n C dL_law_493 (q := 494) rfl rfl 2 rfl ?_
  refine lw_arg (j := 1) C hsc (by omega) (by omega) dL_law_494 dL_law_495 dL_law_496 dL_law_497 dL_law_498 (q := 499) rfl ?_
  refine x_callV C (roW := []) (roR := []) (ci := 9) (c_X10_told l D cy mo mr cols lc smp nse npa nbo tn kf ky j0 j1 j2 j3 j4 P st9 lr9 rl9 fa9 ca9 dc9 ld (xs (i + 1)) hmp hF hlc hky hcols hsmp) (cwV 1 C.2.2.2.2.1 gL_law_X10_told rfl rfl rfl (by decide +kernel) (by rw [hR]; exact ⟨Nat.le_of_ble_eq_true rfl, Nat.le_of_ble_eq_true rfl⟩)) [71, 83, 84] [] (mapc_cons m_at_0 (mapc_cons m_at_12 (mapc_cons m_at_13 mapc_nil))) (by decide) rfl (fun _ h => absurd h List.not_mem_nil) xro_nil (List.mem_append_left _ List.mem_cons_self) rfl xT_bl (fun _ _ _ _ _ _ _ => trivial) rfl rfl dL_law_499 rfl rfl (Nat.le_of_ble_eq_true rfl) (q := 502) rfl (k' := k) rfl (n' := n) rfl hk0 (fun v9 w9 hp => ?_)
  obtain ⟨rfl, rfl⟩ := hp
  refine x_ws (xput_keep m_at_0 (xput_keep m_at_12 (xput_keep m_at_13 xput_nil))) ?_
  refine x_icmp_eq C (tgt := 1264) dL_law_502 (by decide) (q := 505) rfl rfl rfl (fun _ => ?_) (fun hne => absurd rfl hne)
  refine x_widen (k' := k + 125) (n' := n + 401) (Nat.le_add_right _ _) (Nat.le_add_right _ _) ?_
  exact hc kf tn tx gn gx nm ss zs cols lc smp nzf tlf lnf P ky nse fs gs npa fp gp nbo fb gb bal cols' lc' smp' nzf' tlf' lnf' P' ky' nse' fs' gs' npa' fp' gp' nbo' fb' gb' Z kz ga so sz tf j0 j1 j2 j3 j4 nm9 ns9 st9 by9 lz fn fo ex wo lr9 rl9 fa9 ca9 dc9 fs9 gs9 fp9 gp9 fb9 gb9 im mi nn9 nz9 sh9 mv ld lt ln pl ⟨i1, i2, i3, i4, i5, i6, i7⟩
set_option maxHeartbeats 4000000 in
set_option maxRecDepth 100000 in
/-- the law's case 13: value -/
theorem op_value {p : Program} {l : Launch} {e : Env} {R : Room} {s : State} {m : MethodId} {args : Array Value} {below : List Frame} {meth : Method} {c : Code} {Q : State → Prop} {D : va_G} {A : Nat → Prop} {cy : Nat → ClassId} {xa mr : Nat → Nat} {mo : Nat} {tpf : Nat → Option Nat} {b i k n Ln : Nat} {xs : Nat → Int32} (C : xC p s m args meth c D cy A 4 cL_law wsL_law RL) (hR : R = room_1) (hsc : xSc A s b Ln xs) (hi : i + 6 ≤ Ln) (hLn : Ln ≤ 3072) (hkn : k + 125 ≤ R.cells ∧ n + 401 ≤ R.slots) (htp : ∀ k, k < 6 → tpf k = some (xa (59 + 2 * k))) (hc : AT p l e R s m args below meth c Q D A cy xa mr mo tpf b i (k + 125) (n + 401) 1264) : AT p l e R s m args below meth c Q D A cy xa mr mo tpf b i k n 507 := by
  intro kf tn tx gn gx nm ss zs cols lc smp nzf tlf lnf P ky nse fs gs npa fp gp nbo fb gb bal cols' lc' smp' nzf' tlf' lnf' P' ky' nse' fs' gs' npa' fp' gp' nbo' fb' gb' Z kz ga so sz tf j0 j1 j2 j3 j4 nm9 ns9 st9 by9 lz fn fo ex wo lr9 rl9 fa9 ca9 dc9 fs9 gs9 fp9 gp9 fb9 gb9 im mi nn9 nz9 sh9 mv ld lt ln pl hI
  obtain ⟨i1, i2, i3, i4, i5, i6, i7⟩ := hI
  obtain ⟨r1, r2, r3, r4, r5, r6, r7⟩ := id i4
  obtain ⟨htn, htx⟩ := id i1
  obtain ⟨hzs, hs60, hnn, hnz⟩ := id i2
  obtain ⟨hgn, hgx, hshb⟩ := id i3
  obtain ⟨hcols, hlc, hsmp, hky, htl⟩ := id r1
  obtain ⟨hns, hnb⟩ := id r2
  obtain ⟨hTL, hfm, hml, hmb, hfo4, hfn, hby, hlzb⟩ := id r3
  obtain ⟨hF, hmp, hst9, hlr9⟩ := id r4
  obtain ⟨hnse, hsr⟩ := id r5
  obtain ⟨hnpa, hpr⟩ := id r6
  obtain ⟨hnbo, hbr⟩ := id r7
  obtain ⟨hkf, hm1, hm2, hm3, hlc', hIM⟩ := id i5
  obtain ⟨htz, hts, htq1⟩ := id i6
  obtain ⟨hso, hso'⟩ := id i7
  have hP := hF.1
  have hst5 := hF.1.2.2.2
  have hml9 : pMk P ≤ lc := hF.1.2.1
  have hrm9 : pRs P ≤ pMk P := hF.1.1
  have hmk24 : pMk P ≤ 24 := Nat.le_trans hml9 hlc
  have hrs24 : pRs P ≤ 24 := Nat.le_trans hrm9 hmk24
  have hk0 : k ≤ R.cells ∧ n ≤ R.slots := ⟨by omega, by omega⟩
  refine x_aload_n C dL_law_507 (q := 508) rfl rfl 1 rfl ?_
  refine lw_arg (j := 1) C hsc (by omega) (by omega) dL_law_508 dL_law_509 dL_law_510 dL_law_511 dL_law_512 (q := 513) rfl ?_
  refine lw_arg (j := 2) C hsc (by omega) (by omega) dL_law_513 dL_law_514 dL_law_515 dL_law_516 dL_law_517 (q := 518) rfl ?_
  refine x_callVP C (List.append_assoc _ _ _).symm (ci := 8) (c_X9_value l D cy (xa 0) (xa 1) (xa 3) (xa 5) (xa 8) (xa 29) (xa 50) (xa 57) (xa 58) kf (xa 9) (xa 10) (xa 12) (xa 19) (xa 22) (xa 25) (xa 11) (xa 28) cols lc smp nzf tlf lnf bal (xa 13) (xa 14) (xa 15) (xa 16) (xa 17) (xa 18) P ky ld pl (xs (i + 1)) (xs (i + 2)) hcols hlc hTL hfm htl hsmp hst5 hP) (cwV 2 C.2.2.2.2.1 gL_law_X9_value rfl rfl rfl (by decide +kernel) (by rw [hR]; exact ⟨Nat.le_of_ble_eq_true rfl, Nat.le_of_ble_eq_true rfl⟩)) [0, 8, 9, 10, 11, 28, 12, 13, 14, 15, 16, 17, 18] fm_len (by decide) (mapc_cons f_at_0 (mapc_cons f_at_8 (mapc_cons f_at_9 (mapc_cons f_at_10 (mapc_cons f_at_11 (mapc_cons f_at_28 (mapc_cons f_at_12 (mapc_cons f_at_13 (mapc_cons f_at_14 (mapc_cons f_at_15 (mapc_cons f_at_16 (mapc_cons f_at_17 (mapc_cons f_at_18 mapc_nil))))))))))))) (by decide) List.mem_cons_self rfl xT_bl (fun _ _ _ _ _ _ _ => trivial) rfl rfl dL_law_518 rfl rfl (Nat.le_of_ble_eq_true rfl) (q := 521) rfl (k' := k) rfl (n' := n) rfl hk0 (fun v9 w9 hp => ?_)
  obtain ⟨bx, rfl, rfl⟩ := hp
  refine x_ws (xput_keep f_at_0 (xput_keep f_at_8 (xput_keep f_at_9 (xput_keep f_at_10 (xput_keep f_at_11 (xput_chg f_set_28 (xput_keep f_at_12 (xput_keep f_at_13 (xput_keep f_at_14 (xput_keep f_at_15 (xput_keep f_at_16 (xput_keep f_at_17 (xput_keep f_at_18 xput_nil))))))))))))) ?_
  refine x_aload_n C dL_law_521 (q := 522) rfl rfl 2 rfl ?_
  refine lw_arg (j := 1) C hsc (by omega) (by omega) dL_law_522 dL_law_523 dL_law_524 dL_law_525 dL_law_526 (q := 527) rfl ?_
  refine lw_arg (j := 2) C hsc (by omega) (by omega) dL_law_527 dL_law_528 dL_law_529 dL_law_530 dL_law_531 (q := 532) rfl ?_
  refine x_callV C (roW := []) (roR := []) (ci := 9) (c_X10_value l D cy mo mr cols lc smp nse npa nbo tn kf ky j0 j1 j2 j3 j4 P fn fo ex wo st9 lr9 rl9 fa9 ca9 dc9 ld tlf (xs (i + 1)) (xs (i + 2)) hml hfo4 hfn hlc hF hmp hcols hlr9 hst9) (cwV 2 C.2.2.2.2.1 gL_law_X10_value rfl rfl rfl (by decide +kernel) (by rw [hR]; exact ⟨Nat.le_of_ble_eq_true rfl, Nat.le_of_ble_eq_true rfl⟩)) [71, 82, 75, 78, 79, 80, 81] [] (mapc_cons m_at_0 (mapc_cons m_at_11 (mapc_cons m_at_4 (mapc_cons m_at_7 (mapc_cons m_at_8 (mapc_cons m_at_9 (mapc_cons m_at_10 mapc_nil))))))) (by decide) rfl (fun _ h => absurd h List.not_mem_nil) xro_nil (List.mem_append_left _ List.mem_cons_self) rfl xT_bl (fun _ _ _ _ _ _ _ => trivial) rfl rfl dL_law_532 rfl rfl (Nat.le_of_ble_eq_true rfl) (q := 535) rfl (k' := k) rfl (n' := n) rfl hk0 (fun v9 w9 hp => ?_)
  obtain ⟨rfl, rfl⟩ := hp
  refine x_ws (xput_keep m_at_0 (xput_keep m_at_11 (xput_keep m_at_4 (xput_keep m_at_7 (xput_keep m_at_8 (xput_keep m_at_9 (xput_keep m_at_10 xput_nil))))))) ?_
  refine x_lcmp_eq C (tgt := 1264) dL_law_535 dL_law_536 (by decide) (q := 539) rfl rfl rfl (fun _ => ?_) (fun hne => absurd rfl hne)
  refine x_widen (k' := k + 125) (n' := n + 401) (Nat.le_add_right _ _) (Nat.le_add_right _ _) ?_
  exact hc kf tn tx gn gx nm ss zs cols lc smp nzf tlf lnf P ky nse fs gs npa fp gp nbo fb gb bx cols' lc' smp' nzf' tlf' lnf' P' ky' nse' fs' gs' npa' fp' gp' nbo' fb' gb' Z kz ga so sz tf j0 j1 j2 j3 j4 nm9 ns9 st9 by9 lz fn fo ex wo lr9 rl9 fa9 ca9 dc9 fs9 gs9 fp9 gp9 fb9 gb9 im mi nn9 nz9 sh9 mv ld lt ln pl ⟨i1, i2, i3, i4, i5, i6, i7⟩
set_option maxHeartbeats 4000000 in
set_option maxRecDepth 100000 in
/-- the law's case 14: shown -/
theorem op_shown {p : Program} {l : Launch} {e : Env} {R : Room} {s : State} {m : MethodId} {args : Array Value} {below : List Frame} {meth : Method} {c : Code} {Q : State → Prop} {D : va_G} {A : Nat → Prop} {cy : Nat → ClassId} {xa mr : Nat → Nat} {mo : Nat} {tpf : Nat → Option Nat} {b i k n Ln : Nat} {xs : Nat → Int32} (C : xC p s m args meth c D cy A 4 cL_law wsL_law RL) (hR : R = room_1) (hsc : xSc A s b Ln xs) (hi : i + 6 ≤ Ln) (hLn : Ln ≤ 3072) (hkn : k + 125 ≤ R.cells ∧ n + 401 ≤ R.slots) (htp : ∀ k, k < 6 → tpf k = some (xa (59 + 2 * k))) (hc : AT p l e R s m args below meth c Q D A cy xa mr mo tpf b i (k + 125) (n + 401) 1264) : AT p l e R s m args below meth c Q D A cy xa mr mo tpf b i k n 541 := by
  intro kf tn tx gn gx nm ss zs cols lc smp nzf tlf lnf P ky nse fs gs npa fp gp nbo fb gb bal cols' lc' smp' nzf' tlf' lnf' P' ky' nse' fs' gs' npa' fp' gp' nbo' fb' gb' Z kz ga so sz tf j0 j1 j2 j3 j4 nm9 ns9 st9 by9 lz fn fo ex wo lr9 rl9 fa9 ca9 dc9 fs9 gs9 fp9 gp9 fb9 gb9 im mi nn9 nz9 sh9 mv ld lt ln pl hI
  obtain ⟨i1, i2, i3, i4, i5, i6, i7⟩ := hI
  obtain ⟨r1, r2, r3, r4, r5, r6, r7⟩ := id i4
  obtain ⟨htn, htx⟩ := id i1
  obtain ⟨hzs, hs60, hnn, hnz⟩ := id i2
  obtain ⟨hgn, hgx, hshb⟩ := id i3
  obtain ⟨hcols, hlc, hsmp, hky, htl⟩ := id r1
  obtain ⟨hns, hnb⟩ := id r2
  obtain ⟨hTL, hfm, hml, hmb, hfo4, hfn, hby, hlzb⟩ := id r3
  obtain ⟨hF, hmp, hst9, hlr9⟩ := id r4
  obtain ⟨hnse, hsr⟩ := id r5
  obtain ⟨hnpa, hpr⟩ := id r6
  obtain ⟨hnbo, hbr⟩ := id r7
  obtain ⟨hkf, hm1, hm2, hm3, hlc', hIM⟩ := id i5
  obtain ⟨htz, hts, htq1⟩ := id i6
  obtain ⟨hso, hso'⟩ := id i7
  have hP := hF.1
  have hst5 := hF.1.2.2.2
  have hml9 : pMk P ≤ lc := hF.1.2.1
  have hrm9 : pRs P ≤ pMk P := hF.1.1
  have hmk24 : pMk P ≤ 24 := Nat.le_trans hml9 hlc
  have hrs24 : pRs P ≤ 24 := Nat.le_trans hrm9 hmk24
  have hk0 : k ≤ R.cells ∧ n ≤ R.slots := ⟨by omega, by omega⟩
  refine x_aload_n C dL_law_541 (q := 542) rfl rfl 1 rfl ?_
  refine lw_arg (j := 1) C hsc (by omega) (by omega) dL_law_542 dL_law_543 dL_law_544 dL_law_545 dL_law_546 (q := 547) rfl ?_
  refine lw_arg (j := 2) C hsc (by omega) (by omega) dL_law_547 dL_law_548 dL_law_549 dL_law_550 dL_law_551 (q := 552) rfl ?_
  refine lw_arg (j := 3) C hsc (by omega) (by omega) dL_law_552 dL_law_553 dL_law_554 dL_law_555 dL_law_556 (q := 557) rfl ?_
  refine x_callVP C (List.append_assoc _ _ _).symm (ci := 8) (c_X9_shown l D cy (xa 0) (xa 1) (xa 3) (xa 5) (xa 8) (xa 29) (xa 50) (xa 57) (xa 58) kf (xa 9) (xa 10) (xa 12) (xa 19) (xa 22) (xa 25) (xa 11) (xa 28) cols lc smp nzf tlf lnf bal (xa 13) (xa 14) (xa 15) (xa 16) (xa 17) (xa 18) P ky ld pl (xa 4) gx gn (xs (i + 1)) (xs (i + 2)) (xs (i + 3)) hcols hlc hTL hfm htl hsmp hst5 hP hgx hgn (shk_ty hmb hF)) (cwV 3 C.2.2.2.2.1 gL_law_X9_shown rfl rfl rfl (by decide +kernel) (by rw [hR]; exact ⟨Nat.le_of_ble_eq_true rfl, Nat.le_of_ble_eq_true rfl⟩)) [0, 8, 9, 10, 11, 28, 12, 13, 14, 15, 16, 17, 18, 3, 4] fm_len (by decide) (mapc_cons f_at_0 (mapc_cons f_at_8 (mapc_cons f_at_9 (mapc_cons f_at_10 (mapc_cons f_at_11 (mapc_cons f_at_28 (mapc_cons f_at_12 (mapc_cons f_at_13 (mapc_cons f_at_14 (mapc_cons f_at_15 (mapc_cons f_at_16 (mapc_cons f_at_17 (mapc_cons f_at_18 (mapc_cons f_at_3 (mapc_cons f_at_4 mapc_nil))))))))))))))) (by decide) List.mem_cons_self rfl xT_bl (fun _ _ _ _ _ _ _ => trivial) rfl rfl dL_law_557 rfl rfl (Nat.le_of_ble_eq_true rfl) (q := 560) rfl (k' := k) rfl (n' := n) rfl hk0 (fun v9 w9 hp => ?_)
  obtain ⟨bx, n2, t2, rfl, rfl, hq1_0, hq1_1⟩ := hp
  refine x_ws (xput_keep f_at_0 (xput_keep f_at_8 (xput_keep f_at_9 (xput_keep f_at_10 (xput_keep f_at_11 (xput_chg f_set_28 (xput_keep f_at_12 (xput_keep f_at_13 (xput_keep f_at_14 (xput_keep f_at_15 (xput_keep f_at_16 (xput_keep f_at_17 (xput_keep f_at_18 (xput_chg f_set_3 (xput_chg f_set_4 xput_nil))))))))))))))) ?_
  refine x_aload_n C dL_law_560 (q := 561) rfl rfl 2 rfl ?_
  refine lw_arg (j := 1) C hsc (by omega) (by omega) dL_law_561 dL_law_562 dL_law_563 dL_law_564 dL_law_565 (q := 566) rfl ?_
  refine lw_arg (j := 2) C hsc (by omega) (by omega) dL_law_566 dL_law_567 dL_law_568 dL_law_569 dL_law_570 (q := 571) rfl ?_
  refine lw_arg (j := 3) C hsc (by omega) (by omega) dL_law_571 dL_law_572 dL_law_573 dL_law_574 dL_law_575 (q := 576) rfl ?_
  refine x_callV C (roW := []) (roR := []) (ci := 9) (c_X10_shown l D cy mo mr cols lc smp nse npa nbo tn kf ky j0 j1 j2 j3 j4 P fn fo ex wo st9 lr9 rl9 fa9 ca9 dc9 ld tlf by9 lz sh9 lt ln (xs (i + 1)) (xs (i + 2)) (xs (i + 3)) hml hfo4 hfn hlc hF hmp hcols hlr9 hst9 (shk_of hmb hF) hby hmb hlzb hshb) (cwV 3 C.2.2.2.2.1 gL_law_X10_shown rfl rfl rfl (by decide +kernel) (by rw [hR]; exact ⟨Nat.le_of_ble_eq_true rfl, Nat.le_of_ble_eq_true rfl⟩)) [71, 82, 75, 78, 79, 80, 81, 76, 77, 98] [] (mapc_cons m_at_0 (mapc_cons m_at_11 (mapc_cons m_at_4 (mapc_cons m_at_7 (mapc_cons m_at_8 (mapc_cons m_at_9 (mapc_cons m_at_10 (mapc_cons m_at_5 (mapc_cons m_at_6 (mapc_cons m_at_27 mapc_nil)))))))))) (by decide) rfl (fun _ h => absurd h List.not_mem_nil) xro_nil (List.mem_append_left _ List.mem_cons_self) rfl xT_bl (fun _ _ _ _ _ _ _ => trivial) rfl rfl dL_law_576 rfl rfl (Nat.le_of_ble_eq_true rfl) (q := 579) rfl (k' := k) rfl (n' := n) rfl hk0 (fun v9 w9 hp => ?_)
  obtain ⟨sh2, j4', rfl, rfl, hq2_0⟩ := hp
  refine x_ws (xput_chg m_set_0 (xput_keep m_at_11 (xput_keep m_at_4 (xput_keep m_at_7 (xput_keep m_at_8 (xput_keep m_at_9 (xput_keep m_at_10 (xput_keep m_at_5 (xput_keep m_at_6 (xput_chg m_set_27 xput_nil)))))))))) ?_
  refine x_icmp_eq C (tgt := 1264) dL_law_579 (by decide) (q := 582) rfl rfl rfl (fun _ => ?_) (fun hne => (hne (congrArg Int32.toInt (shoA_gx))).elim)
  refine x_widen (k' := k + 125) (n' := n + 401) (Nat.le_add_right _ _) (Nat.le_add_right _ _) ?_
  exact hc kf tn tx n2 t2 nm ss zs cols lc smp nzf tlf lnf P ky nse fs gs npa fp gp nbo fb gb bx cols' lc' smp' nzf' tlf' lnf' P' ky' nse' fs' gs' npa' fp' gp' nbo' fb' gb' Z kz ga so sz tf j0 j1 j2 j3 j4' nm9 ns9 st9 by9 lz fn fo ex wo lr9 rl9 fa9 ca9 dc9 fs9 gs9 fp9 gp9 fb9 gb9 im mi nn9 nz9 sh2 mv ld lt ln pl ⟨i1, i2, ⟨hq1_0, hq1_1, hq2_0⟩, i4, i5, i6, i7⟩
set_option maxHeartbeats 4000000 in
set_option maxRecDepth 100000 in
/-- the law's case 15: feature -/
theorem op_feature {p : Program} {l : Launch} {e : Env} {R : Room} {s : State} {m : MethodId} {args : Array Value} {below : List Frame} {meth : Method} {c : Code} {Q : State → Prop} {D : va_G} {A : Nat → Prop} {cy : Nat → ClassId} {xa mr : Nat → Nat} {mo : Nat} {tpf : Nat → Option Nat} {b i k n Ln : Nat} {xs : Nat → Int32} (C : xC p s m args meth c D cy A 4 cL_law wsL_law RL) (hR : R = room_1) (hsc : xSc A s b Ln xs) (hi : i + 6 ≤ Ln) (hLn : Ln ≤ 3072) (hkn : k + 125 ≤ R.cells ∧ n + 401 ≤ R.slots) (htp : ∀ k, k < 6 → tpf k = some (xa (59 + 2 * k))) (hc : AT p l e R s m args below meth c Q D A cy xa mr mo tpf b i (k + 125) (n + 401) 1264) : AT p l e R s m args below meth c Q D A cy xa mr mo tpf b i k n 584 := by
  intro kf tn tx gn gx nm ss zs cols lc smp nzf tlf lnf P ky nse fs gs npa fp gp nbo fb gb bal cols' lc' smp' nzf' tlf' lnf' P' ky' nse' fs' gs' npa' fp' gp' nbo' fb' gb' Z kz ga so sz tf j0 j1 j2 j3 j4 nm9 ns9 st9 by9 lz fn fo ex wo lr9 rl9 fa9 ca9 dc9 fs9 gs9 fp9 gp9 fb9 gb9 im mi nn9 nz9 sh9 mv ld lt ln pl hI
  obtain ⟨i1, i2, i3, i4, i5, i6, i7⟩ := hI
  obtain ⟨r1, r2, r3, r4, r5, r6, r7⟩ := id i4
  obtain ⟨htn, htx⟩ := id i1
  obtain ⟨hzs, hs60, hnn, hnz⟩ := id i2
  obtain ⟨hgn, hgx, hshb⟩ := id i3
  obtain ⟨hcols, hlc, hsmp, hky, htl⟩ := id r1
  obtain ⟨hns, hnb⟩ := id r2
  obtain ⟨hTL, hfm, hml, hmb, hfo4, hfn, hby, hlzb⟩ := id r3
  obtain ⟨hF, hmp, hst9, hlr9⟩ := id r4
  obtain ⟨hnse, hsr⟩ := id r5
  obtain ⟨hnpa, hpr⟩ := id r6
  obtain ⟨hnbo, hbr⟩ := id r7
  obtain ⟨hkf, hm1, hm2, hm3, hlc', hIM⟩ := id i5
  obtain ⟨htz, hts, htq1⟩ := id i6
  obtain ⟨hso, hso'⟩ := id i7
  have hP := hF.1
  have hst5 := hF.1.2.2.2
  have hml9 : pMk P ≤ lc := hF.1.2.1
  have hrm9 : pRs P ≤ pMk P := hF.1.1
  have hmk24 : pMk P ≤ 24 := Nat.le_trans hml9 hlc
  have hrs24 : pRs P ≤ 24 := Nat.le_trans hrm9 hmk24
  have hk0 : k ≤ R.cells ∧ n ≤ R.slots := ⟨by omega, by omega⟩
  refine x_aload_n C dL_law_584 (q := 585) rfl rfl 1 rfl ?_
  refine lw_arg (j := 1) C hsc (by omega) (by omega) dL_law_585 dL_law_586 dL_law_587 dL_law_588 dL_law_589 (q := 590) rfl ?_
  refine lw_arg (j := 2) C hsc (by omega) (by omega) dL_law_590 dL_law_591 dL_law_592 dL_law_593 dL_law_594 (q := 595) rfl ?_
  refine x_callVP C (List.append_assoc _ _ _).symm (ci := 8) (c_X9_feature l D cy (xa 0) (xa 1) (xa 3) (xa 5) (xa 8) (xa 29) (xa 50) (xa 57) (xa 58) kf (xa 9) (xa 10) (xa 12) (xa 19) (xa 22) (xa 25) (xa 11) (xa 28) cols lc smp nzf tlf lnf bal (xa 13) (xa 14) (xa 15) (xa 16) (xa 17) (xa 18) P ky ld pl ga (xs (i + 1)) (xs (i + 2)) hcols hlc hTL hfm htl hsmp hst5 hP) (cwV 2 C.2.2.2.2.1 gL_law_X9_feature rfl rfl rfl (by decide +kernel) (by rw [hR]; exact ⟨Nat.le_of_ble_eq_true rfl, Nat.le_of_ble_eq_true rfl⟩)) [0, 8, 9, 10, 11, 28, 12, 13, 14, 15, 16, 17, 18, 57] fm_len (by decide) (mapc_cons f_at_0 (mapc_cons f_at_8 (mapc_cons f_at_9 (mapc_cons f_at_10 (mapc_cons f_at_11 (mapc_cons f_at_28 (mapc_cons f_at_12 (mapc_cons f_at_13 (mapc_cons f_at_14 (mapc_cons f_at_15 (mapc_cons f_at_16 (mapc_cons f_at_17 (mapc_cons f_at_18 (mapc_cons f_at_57 mapc_nil)))))))))))))) (by decide) List.mem_cons_self rfl xT_bl (fun _ _ _ _ _ _ _ => trivial) rfl rfl dL_law_595 rfl rfl (Nat.le_of_ble_eq_true rfl) (q := 598) rfl (k' := k) rfl (n' := n) rfl hk0 (fun v9 w9 hp => ?_)
  obtain ⟨bx, gx2, rfl, rfl⟩ := hp
  refine x_ws (xput_keep f_at_0 (xput_keep f_at_8 (xput_keep f_at_9 (xput_keep f_at_10 (xput_keep f_at_11 (xput_chg f_set_28 (xput_keep f_at_12 (xput_keep f_at_13 (xput_keep f_at_14 (xput_keep f_at_15 (xput_keep f_at_16 (xput_keep f_at_17 (xput_keep f_at_18 (xput_chg f_set_57 xput_nil)))))))))))))) ?_
  refine x_aload_n C dL_law_598 (q := 599) rfl rfl 2 rfl ?_
  refine lw_arg (j := 1) C hsc (by omega) (by omega) dL_law_599 dL_law_600 dL_law_601 dL_law_602 dL_law_603 (q := 604) rfl ?_
  refine lw_arg (j := 2) C hsc (by omega) (by omega) dL_law_604 dL_law_605 dL_law_606 dL_law_607 dL_law_608 (q := 609) rfl ?_
  refine x_callV C (roW := []) (roR := []) (ci := 9) (c_X10_feature l D cy mo mr cols lc smp nse npa nbo tn kf ky j0 j1 j2 j3 j4 P fn fo ex wo st9 lr9 rl9 fa9 ca9 dc9 ld tlf ga (xs (i + 1)) (xs (i + 2)) hml hfo4 hfn hlc hF hmp hcols hlr9 hst9) (cwV 2 C.2.2.2.2.1 gL_law_X10_feature rfl rfl rfl (by decide +kernel) (by rw [hR]; exact ⟨Nat.le_of_ble_eq_true rfl, Nat.le_of_ble_eq_true rfl⟩)) [71, 82, 75, 78, 79, 80, 81] [] (mapc_cons m_at_0 (mapc_cons m_at_11 (mapc_cons m_at_4 (mapc_cons m_at_7 (mapc_cons m_at_8 (mapc_cons m_at_9 (mapc_cons m_at_10 mapc_nil))))))) (by decide) rfl (fun _ h => absurd h List.not_mem_nil) xro_nil (List.mem_append_left _ List.mem_cons_self) rfl xT_bl (fun _ _ _ _ _ _ _ => trivial) rfl rfl dL_law_609 rfl rfl (Nat.le_of_ble_eq_true rfl) (q := 612) rfl (k' := k) rfl (n' := n) rfl hk0 (fun v9 w9 hp => ?_)
  obtain ⟨rfl, rfl⟩ := hp
  refine x_ws (xput_keep m_at_0 (xput_keep m_at_11 (xput_keep m_at_4 (xput_keep m_at_7 (xput_keep m_at_8 (xput_keep m_at_9 (xput_keep m_at_10 xput_nil))))))) ?_
  refine x_lcmp_eq C (tgt := 1264) dL_law_612 dL_law_613 (by decide) (q := 616) rfl rfl rfl (fun _ => ?_) (fun hne => absurd rfl hne)
  refine x_widen (k' := k + 125) (n' := n + 401) (Nat.le_add_right _ _) (Nat.le_add_right _ _) ?_
  exact hc kf tn tx gn gx nm ss zs cols lc smp nzf tlf lnf P ky nse fs gs npa fp gp nbo fb gb bx cols' lc' smp' nzf' tlf' lnf' P' ky' nse' fs' gs' npa' fp' gp' nbo' fb' gb' Z kz gx2 so sz tf j0 j1 j2 j3 j4 nm9 ns9 st9 by9 lz fn fo ex wo lr9 rl9 fa9 ca9 dc9 fs9 gs9 fp9 gp9 fb9 gb9 im mi nn9 nz9 sh9 mv ld lt ln pl ⟨i1, i2, i3, i4, i5, i6, i7⟩
set_option maxHeartbeats 4000000 in
set_option maxRecDepth 100000 in
/-- the law's case 16: would -/
theorem op_would {p : Program} {l : Launch} {e : Env} {R : Room} {s : State} {m : MethodId} {args : Array Value} {below : List Frame} {meth : Method} {c : Code} {Q : State → Prop} {D : va_G} {A : Nat → Prop} {cy : Nat → ClassId} {xa mr : Nat → Nat} {mo : Nat} {tpf : Nat → Option Nat} {b i k n Ln : Nat} {xs : Nat → Int32} (C : xC p s m args meth c D cy A 4 cL_law wsL_law RL) (hR : R = room_1) (hsc : xSc A s b Ln xs) (hi : i + 6 ≤ Ln) (hLn : Ln ≤ 3072) (hkn : k + 125 ≤ R.cells ∧ n + 401 ≤ R.slots) (htp : ∀ k, k < 6 → tpf k = some (xa (59 + 2 * k))) (hc : AT p l e R s m args below meth c Q D A cy xa mr mo tpf b i (k + 125) (n + 401) 1264) : AT p l e R s m args below meth c Q D A cy xa mr mo tpf b i k n 618 := by
  intro kf tn tx gn gx nm ss zs cols lc smp nzf tlf lnf P ky nse fs gs npa fp gp nbo fb gb bal cols' lc' smp' nzf' tlf' lnf' P' ky' nse' fs' gs' npa' fp' gp' nbo' fb' gb' Z kz ga so sz tf j0 j1 j2 j3 j4 nm9 ns9 st9 by9 lz fn fo ex wo lr9 rl9 fa9 ca9 dc9 fs9 gs9 fp9 gp9 fb9 gb9 im mi nn9 nz9 sh9 mv ld lt ln pl hI
  obtain ⟨i1, i2, i3, i4, i5, i6, i7⟩ := hI
  obtain ⟨r1, r2, r3, r4, r5, r6, r7⟩ := id i4
  obtain ⟨htn, htx⟩ := id i1
  obtain ⟨hzs, hs60, hnn, hnz⟩ := id i2
  obtain ⟨hgn, hgx, hshb⟩ := id i3
  obtain ⟨hcols, hlc, hsmp, hky, htl⟩ := id r1
  obtain ⟨hns, hnb⟩ := id r2
  obtain ⟨hTL, hfm, hml, hmb, hfo4, hfn, hby, hlzb⟩ := id r3
  obtain ⟨hF, hmp, hst9, hlr9⟩ := id r4
  obtain ⟨hnse, hsr⟩ := id r5
  obtain ⟨hnpa, hpr⟩ := id r6
  obtain ⟨hnbo, hbr⟩ := id r7
  obtain ⟨hkf, hm1, hm2, hm3, hlc', hIM⟩ := id i5
  obtain ⟨htz, hts, htq1⟩ := id i6
  obtain ⟨hso, hso'⟩ := id i7
  have hP := hF.1
  have hst5 := hF.1.2.2.2
  have hml9 : pMk P ≤ lc := hF.1.2.1
  have hrm9 : pRs P ≤ pMk P := hF.1.1
  have hmk24 : pMk P ≤ 24 := Nat.le_trans hml9 hlc
  have hrs24 : pRs P ≤ 24 := Nat.le_trans hrm9 hmk24
  have hk0 : k ≤ R.cells ∧ n ≤ R.slots := ⟨by omega, by omega⟩
  refine x_aload_n C dL_law_618 (q := 619) rfl rfl 1 rfl ?_
  refine lw_arg (j := 1) C hsc (by omega) (by omega) dL_law_619 dL_law_620 dL_law_621 dL_law_622 dL_law_623 (q := 624) rfl ?_
  refine lw_arg (j := 2) C hsc (by omega) (by omega) dL_law_624 dL_law_625 dL_law_626 dL_law_627 dL_law_628 (q := 629) rfl ?_
  refine x_callVP C (List.append_assoc _ _ _).symm (ci := 8) (c_X9_would l D cy (xa 0) (xa 1) (xa 3) (xa 5) (xa 8) (xa 29) (xa 50) (xa 57) (xa 58) kf (xa 9) (xa 10) (xa 12) (xa 19) (xa 22) (xa 25) (xa 11) (xa 28) cols lc smp nzf tlf lnf bal (xa 13) (xa 14) (xa 15) (xa 16) (xa 17) (xa 18) P ky ld pl (xa 51) (xa 52) (xa 53) (xa 54) (xa 55) (xa 56) Z kz (xs (i + 1)) (xs (i + 2)) hcols hlc hTL hfm htl hsmp) (cwV 2 C.2.2.2.2.1 gL_law_X9_would rfl rfl rfl (by decide +kernel) (by rw [hR]; exact ⟨Nat.le_of_ble_eq_true rfl, Nat.le_of_ble_eq_true rfl⟩)) [0, 8, 9, 10, 11, 28, 12, 13, 14, 15, 16, 17, 18, 50, 51, 52, 53, 54, 55, 56] fm_len (by decide) (mapc_cons f_at_0 (mapc_cons f_at_8 (mapc_cons f_at_9 (mapc_cons f_at_10 (mapc_cons f_at_11 (mapc_cons f_at_28 (mapc_cons f_at_12 (mapc_cons f_at_13 (mapc_cons f_at_14 (mapc_cons f_at_15 (mapc_cons f_at_16 (mapc_cons f_at_17 (mapc_cons f_at_18 (mapc_cons f_at_50 (mapc_cons f_at_51 (mapc_cons f_at_52 (mapc_cons f_at_53 (mapc_cons f_at_54 (mapc_cons f_at_55 (mapc_cons f_at_56 mapc_nil)))))))))))))))))))) (by decide) List.mem_cons_self rfl xT_bl (fun _ _ _ _ _ _ _ => trivial) rfl rfl dL_law_629 rfl rfl (Nat.le_of_ble_eq_true rfl) (q := 632) rfl (k' := k) rfl (n' := n) rfl hk0 (fun v9 w9 hp => ?_)
  obtain ⟨b2, Z2, k2, rfl, rfl⟩ := hp
  refine x_ws (xput_keep f_at_0 (xput_keep f_at_8 (xput_keep f_at_9 (xput_keep f_at_10 (xput_keep f_at_11 (xput_chg f_set_28 (xput_keep f_at_12 (xput_keep f_at_13 (xput_keep f_at_14 (xput_keep f_at_15 (xput_keep f_at_16 (xput_keep f_at_17 (xput_keep f_at_18 (xput_chg f_set_50 (xput_chg f_set_51 (xput_chg f_set_52 (xput_chg f_set_53 (xput_chg f_set_54 (xput_chg f_set_55 (xput_chg f_set_56 xput_nil)))))))))))))))))))) ?_
  refine x_aload_n C dL_law_632 (q := 633) rfl rfl 2 rfl ?_
  refine lw_arg (j := 1) C hsc (by omega) (by omega) dL_law_633 dL_law_634 dL_law_635 dL_law_636 dL_law_637 (q := 638) rfl ?_
  refine lw_arg (j := 2) C hsc (by omega) (by omega) dL_law_638 dL_law_639 dL_law_640 dL_law_641 dL_law_642 (q := 643) rfl ?_
  refine x_callV C (roW := []) (roR := []) (ci := 9) (c_X10_would l D cy mo mr cols lc smp nse npa nbo tn kf ky j0 j1 j2 j3 j4 P mi fn fo ex wo tlf st9 lr9 rl9 fa9 ca9 dc9 ld Z (xs (i + 1)) (xs (i + 2)) hml hfo4 hfn hlc hF htl hst9 hcols hky hsmp hlr9 hmp) (cwV 2 C.2.2.2.2.1 gL_law_X10_would rfl rfl rfl (by decide +kernel) (by rw [hR]; exact ⟨Nat.le_of_ble_eq_true rfl, Nat.le_of_ble_eq_true rfl⟩)) [71, 95, 78, 79, 80, 81, 74, 75, 82, 83, 84, 85, 86] [] (mapc_cons m_at_0 (mapc_cons m_at_24 (mapc_cons m_at_7 (mapc_cons m_at_8 (mapc_cons m_at_9 (mapc_cons m_at_10 (mapc_cons m_at_3 (mapc_cons m_at_4 (mapc_cons m_at_11 (mapc_cons m_at_12 (mapc_cons m_at_13 (mapc_cons m_at_14 (mapc_cons m_at_15 mapc_nil))))))))))))) (by decide) rfl (fun _ h => absurd h List.not_mem_nil) xro_nil (List.mem_append_left _ List.mem_cons_self) rfl xT_bl (fun _ _ _ _ _ _ _ => trivial) rfl rfl dL_law_643 rfl rfl (Nat.le_of_ble_eq_true rfl) (q := 646) rfl (k' := k) rfl (n' := n) rfl hk0 (fun v9 w9 hp => ?_)
  obtain ⟨mi', j2', rfl, rfl⟩ := hp
  refine x_ws (xput_chg m_set_0 (xput_chg m_set_24 (xput_keep m_at_7 (xput_keep m_at_8 (xput_keep m_at_9 (xput_keep m_at_10 (xput_keep m_at_3 (xput_keep m_at_4 (xput_keep m_at_11 (xput_keep m_at_12 (xput_keep m_at_13 (xput_keep m_at_14 (xput_keep m_at_15 xput_nil))))))))))))) ?_
  refine x_icmp_eq C (tgt := 1264) dL_law_646 (by decide) (q := 649) rfl rfl rfl (fun _ => ?_) (fun hne => absurd rfl hne)
  refine x_widen (k' := k + 125) (n' := n + 401) (Nat.le_add_right _ _) (Nat.le_add_right _ _) ?_
  exact hc kf tn tx gn gx nm ss zs cols lc smp nzf tlf lnf P ky nse fs gs npa fp gp nbo fb gb b2 cols' lc' smp' nzf' tlf' lnf' P' ky' nse' fs' gs' npa' fp' gp' nbo' fb' gb' Z2 k2 ga so sz tf j0 j1 j2' j3 j4 nm9 ns9 st9 by9 lz fn fo ex wo lr9 rl9 fa9 ca9 dc9 fs9 gs9 fp9 gp9 fb9 gb9 im mi' nn9 nz9 sh9 mv ld lt ln pl ⟨i1, i2, i3, i4, i5, i6, i7⟩
set_option maxHeartbeats 4000000 in
set_option maxRecDepth 100000 in
/-- the law's case 17: need -/
theorem op_need {p : Program} {l : Launch} {e : Env} {R : Room} {s : State} {m : MethodId} {args : Array Value} {below : List Frame} {meth : Method} {c : Code} {Q : State → Prop} {D : va_G} {A : Nat → Prop} {cy : Nat → ClassId} {xa mr : Nat → Nat} {mo : Nat} {tpf : Nat → Option Nat} {b i k n Ln : Nat} {xs : Nat → Int32} (C : xC p s m args meth c D cy A 4 cL_law wsL_law RL) (hR : R = room_1) (hsc : xSc A s b Ln xs) (hi : i + 6 ≤ Ln) (hLn : Ln ≤ 3072) (hkn : k + 125 ≤ R.cells ∧ n + 401 ≤ R.slots) (htp : ∀ k, k < 6 → tpf k = some (xa (59 + 2 * k))) (hc : AT p l e R s m args below meth c Q D A cy xa mr mo tpf b i (k + 125) (n + 401) 1264) : AT p l e R s m args below meth c Q D A cy xa mr mo tpf b i k n 651 := by
  intro kf tn tx gn gx nm ss zs cols lc smp nzf tlf lnf P ky nse fs gs npa fp gp nbo fb gb bal cols' lc' smp' nzf' tlf' lnf' P' ky' nse' fs' gs' npa' fp' gp' nbo' fb' gb' Z kz ga so sz tf j0 j1 j2 j3 j4 nm9 ns9 st9 by9 lz fn fo ex wo lr9 rl9 fa9 ca9 dc9 fs9 gs9 fp9 gp9 fb9 gb9 im mi nn9 nz9 sh9 mv ld lt ln pl hI
  obtain ⟨i1, i2, i3, i4, i5, i6, i7⟩ := hI
  obtain ⟨r1, r2, r3, r4, r5, r6, r7⟩ := id i4
  obtain ⟨htn, htx⟩ := id i1
  obtain ⟨hzs, hs60, hnn, hnz⟩ := id i2
  obtain ⟨hgn, hgx, hshb⟩ := id i3
  obtain ⟨hcols, hlc, hsmp, hky, htl⟩ := id r1
  obtain ⟨hns, hnb⟩ := id r2
  obtain ⟨hTL, hfm, hml, hmb, hfo4, hfn, hby, hlzb⟩ := id r3
  obtain ⟨hF, hmp, hst9, hlr9⟩ := id r4
  obtain ⟨hnse, hsr⟩ := id r5
  obtain ⟨hnpa, hpr⟩ := id r6
  obtain ⟨hnbo, hbr⟩ := id r7
  obtain ⟨hkf, hm1, hm2, hm3, hlc', hIM⟩ := id i5
  obtain ⟨htz, hts, htq1⟩ := id i6
  obtain ⟨hso, hso'⟩ := id i7
  have hP := hF.1
  have hst5 := hF.1.2.2.2
  have hml9 : pMk P ≤ lc := hF.1.2.1
  have hrm9 : pRs P ≤ pMk P := hF.1.1
  have hmk24 : pMk P ≤ 24 := Nat.le_trans hml9 hlc
  have hrs24 : pRs P ≤ 24 := Nat.le_trans hrm9 hmk24
  have hk0 : k ≤ R.cells ∧ n ≤ R.slots := ⟨by omega, by omega⟩
  refine x_aload_n C dL_law_651 (q := 652) rfl rfl 1 rfl ?_
  refine lw_arg (j := 1) C hsc (by omega) (by omega) dL_law_652 dL_law_653 dL_law_654 dL_law_655 dL_law_656 (q := 657) rfl ?_
  refine lw_arg (j := 2) C hsc (by omega) (by omega) dL_law_657 dL_law_658 dL_law_659 dL_law_660 dL_law_661 (q := 662) rfl ?_
  refine x_callVP C (List.append_assoc _ _ _).symm (ci := 8) (c_X9_need l D cy (xa 0) (xa 1) (xa 3) (xa 5) (xa 8) (xa 29) (xa 50) (xa 57) (xa 58) kf (xa 9) (xa 10) (xa 12) (xa 19) (xa 22) (xa 25) (xa 11) (xa 28) cols lc smp lnf bal ld pl (xs (i + 1)) (xs (i + 2)) hcols hlc hTL hfm hsmp) (cwV 2 C.2.2.2.2.1 gL_law_X9_need rfl rfl rfl (by decide +kernel) (by rw [hR]; exact ⟨Nat.le_of_ble_eq_true rfl, Nat.le_of_ble_eq_true rfl⟩)) [0, 8, 11, 28] fm_len (by decide) (mapc_cons f_at_0 (mapc_cons f_at_8 (mapc_cons f_at_11 (mapc_cons f_at_28 mapc_nil)))) (by decide) List.mem_cons_self rfl xT_bl (fun _ _ _ _ _ _ _ => trivial) rfl rfl dL_law_662 rfl rfl (Nat.le_of_ble_eq_true rfl) (q := 665) rfl (k' := k) rfl (n' := n) rfl hk0 (fun v9 w9 hp => ?_)
  obtain ⟨b2, rfl, rfl⟩ := hp
  refine x_ws (xput_keep f_at_0 (xput_keep f_at_8 (xput_keep f_at_11 (xput_chg f_set_28 xput_nil)))) ?_
  refine x_aload_n C dL_law_665 (q := 666) rfl rfl 2 rfl ?_
  refine lw_arg (j := 1) C hsc (by omega) (by omega) dL_law_666 dL_law_667 dL_law_668 dL_law_669 dL_law_670 (q := 671) rfl ?_
  refine lw_arg (j := 2) C hsc (by omega) (by omega) dL_law_671 dL_law_672 dL_law_673 dL_law_674 dL_law_675 (q := 676) rfl ?_
  refine x_callV C (roW := []) (roR := []) (ci := 9) (c_X10_need l D cy mo mr cols lc smp (pMk P) (pRs P) nse npa nbo tn kf ky j0 j1 j2 j3 j4 fn fo ex wo ld (xs (i + 1)) (xs (i + 2)) hml hfo4 hfn hlc hcols) (cwV 2 C.2.2.2.2.1 gL_law_X10_need rfl rfl rfl (by decide +kernel) (by rw [hR]; exact ⟨Nat.le_of_ble_eq_true rfl, Nat.le_of_ble_eq_true rfl⟩)) [71, 78, 79, 80, 81] [] (mapc_cons m_at_0 (mapc_cons m_at_7 (mapc_cons m_at_8 (mapc_cons m_at_9 (mapc_cons m_at_10 mapc_nil))))) (by decide) rfl (fun _ h => absurd h List.not_mem_nil) xro_nil (List.mem_append_left _ List.mem_cons_self) rfl xT_bl (fun _ _ _ _ _ _ _ => trivial) rfl rfl dL_law_676 rfl rfl (Nat.le_of_ble_eq_true rfl) (q := 679) rfl (k' := k) rfl (n' := n) rfl hk0 (fun v9 w9 hp => ?_)
  obtain ⟨rfl, rfl⟩ := hp
  refine x_ws (xput_keep m_at_0 (xput_keep m_at_7 (xput_keep m_at_8 (xput_keep m_at_9 (xput_keep m_at_10 xput_nil))))) ?_
  refine x_icmp_eq C (tgt := 1264) dL_law_679 (by decide) (q := 682) rfl rfl rfl (fun _ => ?_) (fun hne => absurd rfl hne)
  refine x_widen (k' := k + 125) (n' := n + 401) (Nat.le_add_right _ _) (Nat.le_add_right _ _) ?_
  exact hc kf tn tx gn gx nm ss zs cols lc smp nzf tlf lnf P ky nse fs gs npa fp gp nbo fb gb b2 cols' lc' smp' nzf' tlf' lnf' P' ky' nse' fs' gs' npa' fp' gp' nbo' fb' gb' Z kz ga so sz tf j0 j1 j2 j3 j4 nm9 ns9 st9 by9 lz fn fo ex wo lr9 rl9 fa9 ca9 dc9 fs9 gs9 fp9 gp9 fb9 gb9 im mi nn9 nz9 sh9 mv ld lt ln pl ⟨i1, i2, i3, i4, i5, i6, i7⟩
set_option maxHeartbeats 4000000 in
set_option maxRecDepth 100000 in
/-- the law's case 18: see -/
theorem op_see {p : Program} {l : Launch} {e : Env} {R : Room} {s : State} {m : MethodId} {args : Array Value} {below : List Frame} {meth : Method} {c : Code} {Q : State → Prop} {D : va_G} {A : Nat → Prop} {cy : Nat → ClassId} {xa mr : Nat → Nat} {mo : Nat} {tpf : Nat → Option Nat} {b i k n Ln : Nat} {xs : Nat → Int32} (C : xC p s m args meth c D cy A 4 cL_law wsL_law RL) (hR : R = room_1) (hsc : xSc A s b Ln xs) (hi : i + 6 ≤ Ln) (hLn : Ln ≤ 3072) (hkn : k + 125 ≤ R.cells ∧ n + 401 ≤ R.slots) (htp : ∀ k, k < 6 → tpf k = some (xa (59 + 2 * k))) (hc : AT p l e R s m args below meth c Q D A cy xa mr mo tpf b i (k + 125) (n + 401) 1264) : AT p l e R s m args below meth c Q D A cy xa mr mo tpf b i k n 684 := by
  intro kf tn tx gn gx nm ss zs cols lc smp nzf tlf lnf P ky nse fs gs npa fp gp nbo fb gb bal cols' lc' smp' nzf' tlf' lnf' P' ky' nse' fs' gs' npa' fp' gp' nbo' fb' gb' Z kz ga so sz tf j0 j1 j2 j3 j4 nm9 ns9 st9 by9 lz fn fo ex wo lr9 rl9 fa9 ca9 dc9 fs9 gs9 fp9 gp9 fb9 gb9 im mi nn9 nz9 sh9 mv ld lt ln pl hI
  obtain ⟨i1, i2, i3, i4, i5, i6, i7⟩ := hI
  obtain ⟨r1, r2, r3, r4, r5, r6, r7⟩ := id i4
  obtain ⟨htn, htx⟩ := id i1
  obtain ⟨hzs, hs60, hnn, hnz⟩ := id i2
  obtain ⟨hgn, hgx, hshb⟩ := id i3
  obtain ⟨hcols, hlc, hsmp, hky, htl⟩ := id r1
  obtain ⟨hns, hnb⟩ := id r2
  obtain ⟨hTL, hfm, hml, hmb, hfo4, hfn, hby, hlzb⟩ := id r3
  obtain ⟨hF, hmp, hst9, hlr9⟩ := id r4
  obtain ⟨hnse, hsr⟩ := id r5
  obtain ⟨hnpa, hpr⟩ := id r6
  obtain ⟨hnbo, hbr⟩ := id r7
  obtain ⟨hkf, hm1, hm2, hm3, hlc', hIM⟩ := id i5
  obtain ⟨htz, hts, htq1⟩ := id i6
  obtain ⟨hso, hso'⟩ := id i7
  have hP := hF.1
  have hst5 := hF.1.2.2.2
  have hml9 : pMk P ≤ lc := hF.1.2.1
  have hrm9 : pRs P ≤ pMk P := hF.1.1
  have hmk24 : pMk P ≤ 24 := Nat.le_trans hml9 hlc
  have hrs24 : pRs P ≤ 24 := Nat.le_trans hrm9 hmk24
  have hk0 : k ≤ R.cells ∧ n ≤ R.slots := ⟨by omega, by omega⟩
  refine x_aload_n C dL_law_684 (q := 685) rfl rfl 1 rfl ?_
  refine lw_arg (j := 1) C hsc (by omega) (by omega) dL_law_685 dL_law_686 dL_law_687 dL_law_688 dL_law_689 (q := 690) rfl ?_
  refine lw_arg (j := 2) C hsc (by omega) (by omega) dL_law_690 dL_law_691 dL_law_692 dL_law_693 dL_law_694 (q := 695) rfl ?_
  refine lw_bool C dL_law_695 dL_law_698 dL_law_699 dL_law_702 (q := 703) rfl ?_
  refine x_callVP C (List.append_assoc _ _ _).symm (ci := 8) (c_X9_see l D cy (xa 0) (xa 1) (xa 3) (xa 5) (xa 8) (xa 29) (xa 50) (xa 57) (xa 58) kf (xa 9) (xa 10) (xa 12) (xa 19) (xa 22) (xa 25) (xa 11) (xa 28) cols lc smp lnf (xa 20) (xa 21) nse fs gs ld pl (xs (i + 1)) (nI (if (xs (i + 2)).toInt = 0 then 0 else 1)) hcols hlc hTL hfm hnse) (cwV 2 C.2.2.2.2.1 gL_law_X9_see rfl rfl rfl (by decide +kernel) (by rw [hR]; exact ⟨Nat.le_of_ble_eq_true rfl, Nat.le_of_ble_eq_true rfl⟩)) [0, 8, 11, 19, 20, 21] fm_len (by decide) (mapc_cons f_at_0 (mapc_cons f_at_8 (mapc_cons f_at_11 (mapc_cons f_at_19 (mapc_cons f_at_20 (mapc_cons f_at_21 mapc_nil)))))) (by decide) List.mem_cons_self rfl xT_bl (fun _ _ _ _ _ _ _ => trivial) rfl rfl dL_law_703 rfl rfl (Nat.le_of_ble_eq_true rfl) (q := 706) rfl (k' := k) rfl (n' := n) rfl hk0 (fun v9 w9 hp => ?_)
  obtain ⟨rfl, rfl⟩ := hp
  refine x_ws (xput_keep f_at_0 (xput_keep f_at_8 (xput_keep f_at_11 (xput_chg f_set_19 (xput_chg f_set_20 (xput_chg f_set_21 xput_nil)))))) ?_
  refine x_aload_n C dL_law_706 (q := 707) rfl rfl 2 rfl ?_
  refine lw_arg (j := 1) C hsc (by omega) (by omega) dL_law_707 dL_law_708 dL_law_709 dL_law_710 dL_law_711 (q := 712) rfl ?_
  refine lw_arg (j := 2) C hsc (by omega) (by omega) dL_law_712 dL_law_713 dL_law_714 dL_law_715 dL_law_716 (q := 717) rfl ?_
  refine lw_bool C dL_law_717 dL_law_720 dL_law_721 dL_law_724 (q := 725) rfl ?_
  refine x_callV C (roW := []) (roR := []) (ci := 9) (c_X10_see l D cy mo mr cols lc smp (pMk P) (pRs P) nse npa nbo tn kf ky j0 j1 j2 j3 j4 fs9 gs9 (xs (i + 1)) (nI (if (xs (i + 2)).toInt = 0 then 0 else 1)) hnse hlc) (cwV 2 C.2.2.2.2.1 gL_law_X10_see rfl rfl rfl (by decide +kernel) (by rw [hR]; exact ⟨Nat.le_of_ble_eq_true rfl, Nat.le_of_ble_eq_true rfl⟩)) [71, 87, 88] [] (mapc_cons m_at_0 (mapc_cons m_at_16 (mapc_cons m_at_17 mapc_nil))) (by decide) rfl (fun _ h => absurd h List.not_mem_nil) xro_nil (List.mem_append_left _ List.mem_cons_self) rfl xT_bl (fun _ _ _ _ _ _ _ => trivial) rfl rfl dL_law_725 rfl rfl (Nat.le_of_ble_eq_true rfl) (q := 728) rfl (k' := k) rfl (n' := n) rfl hk0 (fun v9 w9 hp => ?_)
  obtain ⟨rfl, rfl⟩ := hp
  refine x_ws (xput_chg m_set_0 (xput_chg m_set_16 (xput_chg m_set_17 xput_nil))) ?_
  refine x_icmp_eq C (tgt := 1264) dL_law_728 (by decide) (q := 731) rfl rfl rfl (fun _ => ?_) (fun hne => absurd rfl hne)
  rw [(R5_see r5).2]
  refine x_widen (k' := k + 125) (n' := n + 401) (Nat.le_add_right _ _) (Nat.le_add_right _ _) ?_
  exact hc kf tn tx gn gx nm ss zs cols lc smp nzf tlf lnf P ky ((seeN lc (nse, fs, gs) (xs (i + 1)) (nI (if (xs (i + 2)).toInt = 0 then 0 else 1))).1) ((seeN lc (nse, fs, gs) (xs (i + 1)) (nI (if (xs (i + 2)).toInt = 0 then 0 else 1))).2.1) ((seeN lc (nse, fs, gs) (xs (i + 1)) (nI (if (xs (i + 2)).toInt = 0 then 0 else 1))).2.2) npa fp gp nbo fb gb bal cols' lc' smp' nzf' tlf' lnf' P' ky' nse' fs' gs' npa' fp' gp' nbo' fb' gb' Z kz ga so sz tf j0 j1 j2 j3 j4 nm9 ns9 st9 by9 lz fn fo ex wo lr9 rl9 fa9 ca9 dc9 ((seeN lc (nse, fs9, gs9) (xs (i + 1)) (nI (if (xs (i + 2)).toInt = 0 then 0 else 1))).2.1) ((seeN lc (nse, fs9, gs9) (xs (i + 1)) (nI (if (xs (i + 2)).toInt = 0 then 0 else 1))).2.2) fp9 gp9 fb9 gb9 im mi nn9 nz9 sh9 mv ld lt ln pl ⟨i1, i2, i3, ⟨r1, r2, r3, r4, (R5_see r5).1, r6, r7⟩, i5, i6, i7⟩
set_option maxHeartbeats 4000000 in
set_option maxRecDepth 100000 in
/-- the law's case 19: fits -/
theorem op_fits {p : Program} {l : Launch} {e : Env} {R : Room} {s : State} {m : MethodId} {args : Array Value} {below : List Frame} {meth : Method} {c : Code} {Q : State → Prop} {D : va_G} {A : Nat → Prop} {cy : Nat → ClassId} {xa mr : Nat → Nat} {mo : Nat} {tpf : Nat → Option Nat} {b i k n Ln : Nat} {xs : Nat → Int32} (C : xC p s m args meth c D cy A 4 cL_law wsL_law RL) (hR : R = room_1) (hsc : xSc A s b Ln xs) (hi : i + 6 ≤ Ln) (hLn : Ln ≤ 3072) (hkn : k + 125 ≤ R.cells ∧ n + 401 ≤ R.slots) (htp : ∀ k, k < 6 → tpf k = some (xa (59 + 2 * k))) (hc : AT p l e R s m args below meth c Q D A cy xa mr mo tpf b i (k + 125) (n + 401) 1264) : AT p l e R s m args below meth c Q D A cy xa mr mo tpf b i k n 733 := by
  intro kf tn tx gn gx nm ss zs cols lc smp nzf tlf lnf P ky nse fs gs npa fp gp nbo fb gb bal cols' lc' smp' nzf' tlf' lnf' P' ky' nse' fs' gs' npa' fp' gp' nbo' fb' gb' Z kz ga so sz tf j0 j1 j2 j3 j4 nm9 ns9 st9 by9 lz fn fo ex wo lr9 rl9 fa9 ca9 dc9 fs9 gs9 fp9 gp9 fb9 gb9 im mi nn9 nz9 sh9 mv ld lt ln pl hI
  obtain ⟨i1, i2, i3, i4, i5, i6, i7⟩ := hI
  obtain ⟨r1, r2, r3, r4, r5, r6, r7⟩ := id i4
  obtain ⟨htn, htx⟩ := id i1
  obtain ⟨hzs, hs60, hnn, hnz⟩ := id i2
  obtain ⟨hgn, hgx, hshb⟩ := id i3
  obtain ⟨hcols, hlc, hsmp, hky, htl⟩ := id r1
  obtain ⟨hns, hnb⟩ := id r2
  obtain ⟨hTL, hfm, hml, hmb, hfo4, hfn, hby, hlzb⟩ := id r3
  obtain ⟨hF, hmp, hst9, hlr9⟩ := id r4
  obtain ⟨hnse, hsr⟩ := id r5
  obtain ⟨hnpa, hpr⟩ := id r6
  obtain ⟨hnbo, hbr⟩ := id r7
  obtain ⟨hkf, hm1, hm2, hm3, hlc', hIM⟩ := id i5
  obtain ⟨htz, hts, htq1⟩ := id i6
  obtain ⟨hso, hso'⟩ := id i7
  have hP := hF.1
  have hst5 := hF.1.2.2.2
  have hml9 : pMk P ≤ lc := hF.1.2.1
  have hrm9 : pRs P ≤ pMk P := hF.1.1
  have hmk24 : pMk P ≤ 24 := Nat.le_trans hml9 hlc
  have hrs24 : pRs P ≤ 24 := Nat.le_trans hrm9 hmk24
  have hk0 : k ≤ R.cells ∧ n ≤ R.slots := ⟨by omega, by omega⟩
  refine x_aload_n C dL_law_733 (q := 734) rfl rfl 1 rfl ?_
  refine lw_arg (j := 1) C hsc (by omega) (by omega) dL_law_734 dL_law_735 dL_law_736 dL_law_737 dL_law_738 (q := 739) rfl ?_
  refine x_callVP C (List.append_assoc _ _ _).symm (ci := 8) (c_X9_fits l D cy (xa 0) (xa 1) (xa 3) (xa 5) (xa 8) (xa 29) (xa 50) (xa 57) (xa 58) kf (xa 9) (xa 10) (xa 12) (xa 19) (xa 22) (xa 25) (xa 11) (xa 28) cols lc smp nzf tlf lnf bal (xa 13) (xa 14) (xa 15) (xa 16) (xa 17) (xa 18) P ky ld pl (xa 20) (xa 21) nse fs gs (xa 51) (xa 52) (xa 53) (xa 54) (xa 55) (xa 56) Z kz (xs (i + 1)) hcols hlc hTL hfm htl hsmp hnse) (cwV 1 C.2.2.2.2.1 gL_law_X9_fits rfl rfl rfl (by decide +kernel) (by rw [hR]; exact ⟨Nat.le_of_ble_eq_true rfl, Nat.le_of_ble_eq_true rfl⟩)) [0, 8, 9, 10, 11, 28, 12, 13, 14, 15, 16, 17, 18, 19, 20, 21, 50, 51, 52, 53, 54, 55, 56] fm_len (by decide) (mapc_cons f_at_0 (mapc_cons f_at_8 (mapc_cons f_at_9 (mapc_cons f_at_10 (mapc_cons f_at_11 (mapc_cons f_at_28 (mapc_cons f_at_12 (mapc_cons f_at_13 (mapc_cons f_at_14 (mapc_cons f_at_15 (mapc_cons f_at_16 (mapc_cons f_at_17 (mapc_cons f_at_18 (mapc_cons f_at_19 (mapc_cons f_at_20 (mapc_cons f_at_21 (mapc_cons f_at_50 (mapc_cons f_at_51 (mapc_cons f_at_52 (mapc_cons f_at_53 (mapc_cons f_at_54 (mapc_cons f_at_55 (mapc_cons f_at_56 mapc_nil))))))))))))))))))))))) (by decide) List.mem_cons_self rfl xT_bl (fun _ _ _ _ _ _ _ => trivial) rfl rfl dL_law_739 rfl rfl (Nat.le_of_ble_eq_true rfl) (q := 742) rfl (k' := k) rfl (n' := n) rfl hk0 (fun v9 w9 hp => ?_)
  obtain ⟨b2, Z2, k2, rfl, rfl⟩ := hp
  refine x_ws (xput_keep f_at_0 (xput_keep f_at_8 (xput_keep f_at_9 (xput_keep f_at_10 (xput_keep f_at_11 (xput_chg f_set_28 (xput_keep f_at_12 (xput_keep f_at_13 (xput_keep f_at_14 (xput_keep f_at_15 (xput_keep f_at_16 (xput_keep f_at_17 (xput_keep f_at_18 (xput_keep f_at_19 (xput_keep f_at_20 (xput_keep f_at_21 (xput_chg f_set_50 (xput_chg f_set_51 (xput_chg f_set_52 (xput_chg f_set_53 (xput_chg f_set_54 (xput_chg f_set_55 (xput_chg f_set_56 xput_nil))))))))))))))))))))))) ?_
  refine x_aload_n C dL_law_742 (q := 743) rfl rfl 2 rfl ?_
  refine lw_arg (j := 1) C hsc (by omega) (by omega) dL_law_743 dL_law_744 dL_law_745 dL_law_746 dL_law_747 (q := 748) rfl ?_
  refine x_callV C (roW := []) (roR := []) (ci := 9) (c_X10_fits l D cy mo mr cols lc smp nse npa nbo tn kf ky j0 j1 j2 j3 j4 P mi fn fo ex wo tlf st9 lr9 rl9 fa9 ca9 dc9 fs9 gs9 ld (xs (i + 1)) hml hfo4 hfn hlc hF htl hst9 hcols hky hsmp hlr9 hmp hnse (fun i hi => (hsr i hi).2.2)) (cwV 1 C.2.2.2.2.1 gL_law_X10_fits rfl rfl rfl (by decide +kernel) (by rw [hR]; exact ⟨Nat.le_of_ble_eq_true rfl, Nat.le_of_ble_eq_true rfl⟩)) [71, 95, 78, 79, 80, 81, 74, 75, 82, 83, 84, 85, 86, 87, 88] [] (mapc_cons m_at_0 (mapc_cons m_at_24 (mapc_cons m_at_7 (mapc_cons m_at_8 (mapc_cons m_at_9 (mapc_cons m_at_10 (mapc_cons m_at_3 (mapc_cons m_at_4 (mapc_cons m_at_11 (mapc_cons m_at_12 (mapc_cons m_at_13 (mapc_cons m_at_14 (mapc_cons m_at_15 (mapc_cons m_at_16 (mapc_cons m_at_17 mapc_nil))))))))))))))) (by decide) rfl (fun _ h => absurd h List.not_mem_nil) xro_nil (List.mem_append_left _ List.mem_cons_self) rfl xT_bl (fun _ _ _ _ _ _ _ => trivial) rfl rfl dL_law_748 rfl rfl (Nat.le_of_ble_eq_true rfl) (q := 751) rfl (k' := k) rfl (n' := n) rfl hk0 (fun v9 w9 hp => ?_)
  obtain ⟨mi', j2', rfl, rfl⟩ := hp
  refine x_ws (xput_chg m_set_0 (xput_chg m_set_24 (xput_keep m_at_7 (xput_keep m_at_8 (xput_keep m_at_9 (xput_keep m_at_10 (xput_keep m_at_3 (xput_keep m_at_4 (xput_keep m_at_11 (xput_keep m_at_12 (xput_keep m_at_13 (xput_keep m_at_14 (xput_keep m_at_15 (xput_keep m_at_16 (xput_keep m_at_17 xput_nil))))))))))))))) ?_
  refine x_icmp_eq C (tgt := 1264) dL_law_751 (by decide) (q := 754) rfl rfl rfl (fun _ => ?_) (fun hne => (hne (congrArg Int32.toInt (congrArg (fun B9 => fitA B9 _) (fiT_rows (fun i hi => ⟨(hsr i hi).1, (hsr i hi).2.1⟩))))).elim)
  refine x_widen (k' := k + 125) (n' := n + 401) (Nat.le_add_right _ _) (Nat.le_add_right _ _) ?_
  exact hc kf tn tx gn gx nm ss zs cols lc smp nzf tlf lnf P ky nse fs gs npa fp gp nbo fb gb b2 cols' lc' smp' nzf' tlf' lnf' P' ky' nse' fs' gs' npa' fp' gp' nbo' fb' gb' Z2 k2 ga so sz tf j0 j1 j2' j3 j4 nm9 ns9 st9 by9 lz fn fo ex wo lr9 rl9 fa9 ca9 dc9 fs9 gs9 fp9 gp9 fb9 gb9 im mi' nn9 nz9 sh9 mv ld lt ln pl ⟨i1, i2, i3, i4, i5, i6, i7⟩
