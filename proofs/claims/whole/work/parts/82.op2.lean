set_option maxHeartbeats 4000000 in
set_option maxRecDepth 100000 in
/-- the law's case 20: odds -/
theorem op_odds {p : Program} {l : Launch} {e : Env} {R : Room} {s : State} {m : MethodId} {args : Array Value} {below : List Frame} {meth : Method} {c : Code} {Q : State → Prop} {D : va_G} {A : Nat → Prop} {cy : Nat → ClassId} {xa mr : Nat → Nat} {mo : Nat} {tpf : Nat → Option Nat} {b i k n Ln : Nat} {xs : Nat → Int32} (C : xC p s m args meth c D cy A 4 cL_law wsL_law RL) (hR : R = room_1) (hsc : xSc A s b Ln xs) (hi : i + 6 ≤ Ln) (hLn : Ln ≤ 3072) (hkn : k + 125 ≤ R.cells ∧ n + 401 ≤ R.slots) (htp : ∀ k, k < 6 → tpf k = some (xa (59 + 2 * k))) (hc : AT p l e R s m args below meth c Q D A cy xa mr mo tpf b i (k + 125) (n + 401) 1264) : AT p l e R s m args below meth c Q D A cy xa mr mo tpf b i k n 756 := by
  intro kf tn tx gn gx nm ss zs cols lc smp nzf tlf lnf P ky nse fs gs npa fp gp nbo fb gb bal cols' lc' smp' nzf' tlf' lnf' P' ky' nse' fs' gs' npa' fp' gp' nbo' fb' gb' Z kz ga so sz tf j0 j1 j2 j3 j4 nm9 ns9 st9 by9 lz fn fo ex wo lr9 rl9 fa9 ca9 dc9 fs9 gs9 fp9 gp9 fb9 gb9 im mi nn9 nz9 sh9 mv ld lt ln pl hI
  obtain ⟨i1, i2, i3, i4, i5, i6, i7⟩ := hI
  obtain ⟨r1, r2, r3, r4, r5, r6, r7⟩ := id i4
  obtain ⟨htn, htx⟩ := id i1
  obtain ⟨hzs, hs60, hnn, hnz⟩ := id i2
  obtain ⟨hgn, hgx, hshb⟩ := id i3
  obtain ⟨hcols, hlc, hsmp, hky, htl⟩ := id r1
  obtain ⟨hns, hnb⟩ := id r2
  obtain ⟨hTL, hfm, hml, hmb, hfo4, hfn, hby, hlzb⟩ := id r3
  obtain ⟨hF, hmp, hst9, hlr9⟩ := id r4
  obtain ⟨hnse, hsr⟩ := id r5
  obtain ⟨hnpa, hpr⟩ := id r6
  obtain ⟨hnbo, hbr⟩ := id r7
  obtain ⟨hkf, hm1, hm2, hm3, hlc', hIM⟩ := id i5
  obtain ⟨htz, hts, htq1⟩ := id i6
  obtain ⟨hso, hso'⟩ := id i7
  have hP := hF.1
  have hst5 := hF.1.2.2.2
  have hml9 : pMk P ≤ lc := hF.1.2.1
  have hrm9 : pRs P ≤ pMk P := hF.1.1
  have hmk24 : pMk P ≤ 24 := Nat.le_trans hml9 hlc
  have hrs24 : pRs P ≤ 24 := Nat.le_trans hrm9 hmk24
  have hk0 : k ≤ R.cells ∧ n ≤ R.slots := ⟨by omega, by omega⟩
  refine x_aload_n C dL_law_756 (q := 757) rfl rfl 1 rfl ?_
  refine lw_arg (j := 1) C hsc (by omega) (by omega) dL_law_757 dL_law_758 dL_law_759 dL_law_760 dL_law_761 (q := 762) rfl ?_
  refine x_callV C (roW := []) (roR := []) (ci := 8) (c_X9_odds l D cy (xa 0) (xa 1) (xa 3) (xa 5) (xa 8) (xa 29) (xa 50) (xa 57) (xa 58) kf (xa 9) (xa 10) (xa 12) (xa 19) (xa 22) (xa 25) (xa 11) (xa 28) cols lc smp (xa 13) (xa 14) (xa 15) (xa 16) (xa 17) (xa 18) P ky ld pl (xs (i + 1)) hcols hlc hP) (cwV 1 C.2.2.2.2.1 gL_law_X9_odds rfl rfl rfl (by decide +kernel) (by rw [hR]; exact ⟨Nat.le_of_ble_eq_true rfl, Nat.le_of_ble_eq_true rfl⟩)) [0, 8, 12, 13, 14, 15, 16, 17, 18] [] (mapc_cons f_at_0 (mapc_cons f_at_8 (mapc_cons f_at_12 (mapc_cons f_at_13 (mapc_cons f_at_14 (mapc_cons f_at_15 (mapc_cons f_at_16 (mapc_cons f_at_17 (mapc_cons f_at_18 mapc_nil))))))))) (by decide) rfl (fun _ h => absurd h List.not_mem_nil) xro_nil (List.mem_append_left _ List.mem_cons_self) rfl xT_bl (fun _ _ _ _ _ _ _ => trivial) rfl rfl dL_law_762 rfl rfl (Nat.le_of_ble_eq_true rfl) (q := 765) rfl (k' := k) rfl (n' := n) rfl hk0 (fun v9 w9 hp => ?_)
  obtain ⟨rfl, rfl⟩ := hp
  refine x_ws (xput_keep f_at_0 (xput_keep f_at_8 (xput_keep f_at_12 (xput_keep f_at_13 (xput_keep f_at_14 (xput_keep f_at_15 (xput_keep f_at_16 (xput_keep f_at_17 (xput_keep f_at_18 xput_nil))))))))) ?_
  refine x_aload_n C dL_law_765 (q := 766) rfl rfl 2 rfl ?_
  refine lw_arg (j := 1) C hsc (by omega) (by omega) dL_law_766 dL_law_767 dL_law_768 dL_law_769 dL_law_770 (q := 771) rfl ?_
  refine x_callV C (roW := []) (roR := []) (ci := 9) (c_X10_odds l D cy mo mr cols lc smp nse npa nbo tn kf ky j0 j1 j2 j3 j4 P st9 lr9 rl9 fa9 ca9 dc9 ld (xs (i + 1)) hmp hF hlc) (cwV 1 C.2.2.2.2.1 gL_law_X10_odds rfl rfl rfl (by decide +kernel) (by rw [hR]; exact ⟨Nat.le_of_ble_eq_true rfl, Nat.le_of_ble_eq_true rfl⟩)) [71, 83, 84] [] (mapc_cons m_at_0 (mapc_cons m_at_12 (mapc_cons m_at_13 mapc_nil))) (by decide) rfl (fun _ h => absurd h List.not_mem_nil) xro_nil (List.mem_append_left _ List.mem_cons_self) rfl xT_bl (fun _ _ _ _ _ _ _ => trivial) rfl rfl dL_law_771 rfl rfl (Nat.le_of_ble_eq_true rfl) (q := 774) rfl (k' := k) rfl (n' := n) rfl hk0 (fun v9 w9 hp => ?_)
  obtain ⟨rfl, rfl⟩ := hp
  refine x_ws (xput_keep m_at_0 (xput_keep m_at_12 (xput_keep m_at_13 xput_nil))) ?_
  refine x_lcmp_eq C (tgt := 1264) dL_law_774 dL_law_775 (by decide) (q := 778) rfl rfl rfl (fun _ => ?_) (fun hne => absurd rfl hne)
  refine x_widen (k' := k + 125) (n' := n + 401) (Nat.le_add_right _ _) (Nat.le_add_right _ _) ?_
  exact hc kf tn tx gn gx nm ss zs cols lc smp nzf tlf lnf P ky nse fs gs npa fp gp nbo fb gb bal cols' lc' smp' nzf' tlf' lnf' P' ky' nse' fs' gs' npa' fp' gp' nbo' fb' gb' Z kz ga so sz tf j0 j1 j2 j3 j4 nm9 ns9 st9 by9 lz fn fo ex wo lr9 rl9 fa9 ca9 dc9 fs9 gs9 fp9 gp9 fb9 gb9 im mi nn9 nz9 sh9 mv ld lt ln pl ⟨i1, i2, i3, i4, i5, i6, i7⟩
set_option maxHeartbeats 4000000 in
set_option maxRecDepth 100000 in
/-- the law's case 21: mean -/
theorem op_mean {p : Program} {l : Launch} {e : Env} {R : Room} {s : State} {m : MethodId} {args : Array Value} {below : List Frame} {meth : Method} {c : Code} {Q : State → Prop} {D : va_G} {A : Nat → Prop} {cy : Nat → ClassId} {xa mr : Nat → Nat} {mo : Nat} {tpf : Nat → Option Nat} {b i k n Ln : Nat} {xs : Nat → Int32} (C : xC p s m args meth c D cy A 4 cL_law wsL_law RL) (hR : R = room_1) (hsc : xSc A s b Ln xs) (hi : i + 6 ≤ Ln) (hLn : Ln ≤ 3072) (hkn : k + 125 ≤ R.cells ∧ n + 401 ≤ R.slots) (htp : ∀ k, k < 6 → tpf k = some (xa (59 + 2 * k))) (hc : AT p l e R s m args below meth c Q D A cy xa mr mo tpf b i (k + 125) (n + 401) 1264) : AT p l e R s m args below meth c Q D A cy xa mr mo tpf b i k n 780 := by
  intro kf tn tx gn gx nm ss zs cols lc smp nzf tlf lnf P ky nse fs gs npa fp gp nbo fb gb bal cols' lc' smp' nzf' tlf' lnf' P' ky' nse' fs' gs' npa' fp' gp' nbo' fb' gb' Z kz ga so sz tf j0 j1 j2 j3 j4 nm9 ns9 st9 by9 lz fn fo ex wo lr9 rl9 fa9 ca9 dc9 fs9 gs9 fp9 gp9 fb9 gb9 im mi nn9 nz9 sh9 mv ld lt ln pl hI
  obtain ⟨i1, i2, i3, i4, i5, i6, i7⟩ := hI
  obtain ⟨r1, r2, r3, r4, r5, r6, r7⟩ := id i4
  obtain ⟨htn, htx⟩ := id i1
  obtain ⟨hzs, hs60, hnn, hnz⟩ := id i2
  obtain ⟨hgn, hgx, hshb⟩ := id i3
  obtain ⟨hcols, hlc, hsmp, hky, htl⟩ := id r1
  obtain ⟨hns, hnb⟩ := id r2
  obtain ⟨hTL, hfm, hml, hmb, hfo4, hfn, hby, hlzb⟩ := id r3
  obtain ⟨hF, hmp, hst9, hlr9⟩ := id r4
  obtain ⟨hnse, hsr⟩ := id r5
  obtain ⟨hnpa, hpr⟩ := id r6
  obtain ⟨hnbo, hbr⟩ := id r7
  obtain ⟨hkf, hm1, hm2, hm3, hlc', hIM⟩ := id i5
  obtain ⟨htz, hts, htq1⟩ := id i6
  obtain ⟨hso, hso'⟩ := id i7
  have hP := hF.1
  have hst5 := hF.1.2.2.2
  have hml9 : pMk P ≤ lc := hF.1.2.1
  have hrm9 : pRs P ≤ pMk P := hF.1.1
  have hmk24 : pMk P ≤ 24 := Nat.le_trans hml9 hlc
  have hrs24 : pRs P ≤ 24 := Nat.le_trans hrm9 hmk24
  have hk0 : k ≤ R.cells ∧ n ≤ R.slots := ⟨by omega, by omega⟩
  refine x_aload_n C dL_law_780 (q := 781) rfl rfl 1 rfl ?_
  refine lw_arg (j := 1) C hsc (by omega) (by omega) dL_law_781 dL_law_782 dL_law_783 dL_law_784 dL_law_785 (q := 786) rfl ?_
  refine lw_arg (j := 2) C hsc (by omega) (by omega) dL_law_786 dL_law_787 dL_law_788 dL_law_789 dL_law_790 (q := 791) rfl ?_
  refine x_callVP C (List.append_assoc _ _ _).symm (ci := 8) (c_X9_mean l D cy (xa 0) (xa 1) (xa 3) (xa 5) (xa 8) (xa 29) (xa 50) (xa 57) (xa 58) kf (xa 9) (xa 10) (xa 12) (xa 19) (xa 22) (xa 25) (xa 11) (xa 28) cols lc smp nzf tlf lnf bal (xa 13) (xa 14) (xa 15) (xa 16) (xa 17) (xa 18) P ky ld pl ga (xs (i + 1)) (xs (i + 2)) hcols hlc hTL hfm htl hsmp hst5 hP) (cwV 2 C.2.2.2.2.1 gL_law_X9_mean rfl rfl rfl (by decide +kernel) (by rw [hR]; exact ⟨Nat.le_of_ble_eq_true rfl, Nat.le_of_ble_eq_true rfl⟩)) [0, 8, 9, 10, 11, 28, 12, 13, 14, 15, 16, 17, 18, 57] fm_len (by decide) (mapc_cons f_at_0 (mapc_cons f_at_8 (mapc_cons f_at_9 (mapc_cons f_at_10 (mapc_cons f_at_11 (mapc_cons f_at_28 (mapc_cons f_at_12 (mapc_cons f_at_13 (mapc_cons f_at_14 (mapc_cons f_at_15 (mapc_cons f_at_16 (mapc_cons f_at_17 (mapc_cons f_at_18 (mapc_cons f_at_57 mapc_nil)))))))))))))) (by decide) List.mem_cons_self rfl xT_bl (fun _ _ _ _ _ _ _ => trivial) rfl rfl dL_law_791 rfl rfl (Nat.le_of_ble_eq_true rfl) (q := 794) rfl (k' := k) rfl (n' := n) rfl hk0 (fun v9 w9 hp => ?_)
  obtain ⟨bx, gx2, rfl, rfl⟩ := hp
  refine x_ws (xput_keep f_at_0 (xput_keep f_at_8 (xput_keep f_at_9 (xput_keep f_at_10 (xput_keep f_at_11 (xput_chg f_set_28 (xput_keep f_at_12 (xput_keep f_at_13 (xput_keep f_at_14 (xput_keep f_at_15 (xput_keep f_at_16 (xput_keep f_at_17 (xput_keep f_at_18 (xput_chg f_set_57 xput_nil)))))))))))))) ?_
  refine x_aload_n C dL_law_794 (q := 795) rfl rfl 2 rfl ?_
  refine lw_arg (j := 1) C hsc (by omega) (by omega) dL_law_795 dL_law_796 dL_law_797 dL_law_798 dL_law_799 (q := 800) rfl ?_
  refine lw_arg (j := 2) C hsc (by omega) (by omega) dL_law_800 dL_law_801 dL_law_802 dL_law_803 dL_law_804 (q := 805) rfl ?_
  refine x_callV C (roW := []) (roR := []) (ci := 9) (c_X10_mean l D cy mo mr cols lc smp nse npa nbo tn kf ky j0 j1 j2 j3 j4 P fn fo ex wo st9 lr9 rl9 fa9 ca9 dc9 ld tlf ga (xs (i + 1)) (xs (i + 2)) hml hfo4 hfn hlc hF hmp hcols hlr9 hst9 (shk_of hmb hF) htl hsmp) (cwV 2 C.2.2.2.2.1 gL_law_X10_mean rfl rfl rfl (by decide +kernel) (by rw [hR]; exact ⟨Nat.le_of_ble_eq_true rfl, Nat.le_of_ble_eq_true rfl⟩)) [71, 82, 75, 78, 79, 80, 81, 74] [] (mapc_cons m_at_0 (mapc_cons m_at_11 (mapc_cons m_at_4 (mapc_cons m_at_7 (mapc_cons m_at_8 (mapc_cons m_at_9 (mapc_cons m_at_10 (mapc_cons m_at_3 mapc_nil)))))))) (by decide) rfl (fun _ h => absurd h List.not_mem_nil) xro_nil (List.mem_append_left _ List.mem_cons_self) rfl xT_bl (fun _ _ _ _ _ _ _ => trivial) rfl rfl dL_law_805 rfl rfl (Nat.le_of_ble_eq_true rfl) (q := 808) rfl (k' := k) rfl (n' := n) rfl hk0 (fun v9 w9 hp => ?_)
  obtain ⟨rfl, rfl⟩ := hp
  refine x_ws (xput_keep m_at_0 (xput_keep m_at_11 (xput_keep m_at_4 (xput_keep m_at_7 (xput_keep m_at_8 (xput_keep m_at_9 (xput_keep m_at_10 (xput_keep m_at_3 xput_nil)))))))) ?_
  refine x_lcmp_eq C (tgt := 1264) dL_law_808 dL_law_809 (by decide) (q := 812) rfl rfl rfl (fun _ => ?_) (fun hne => absurd rfl hne)
  refine x_widen (k' := k + 125) (n' := n + 401) (Nat.le_add_right _ _) (Nat.le_add_right _ _) ?_
  exact hc kf tn tx gn gx nm ss zs cols lc smp nzf tlf lnf P ky nse fs gs npa fp gp nbo fb gb bx cols' lc' smp' nzf' tlf' lnf' P' ky' nse' fs' gs' npa' fp' gp' nbo' fb' gb' Z kz gx2 so sz tf j0 j1 j2 j3 j4 nm9 ns9 st9 by9 lz fn fo ex wo lr9 rl9 fa9 ca9 dc9 fs9 gs9 fp9 gp9 fb9 gb9 im mi nn9 nz9 sh9 mv ld lt ln pl ⟨i1, i2, i3, i4, i5, i6, i7⟩
set_option maxHeartbeats 4000000 in
set_option maxRecDepth 100000 in
/-- the law's case 22: plan -/
theorem op_plan {p : Program} {l : Launch} {e : Env} {R : Room} {s : State} {m : MethodId} {args : Array Value} {below : List Frame} {meth : Method} {c : Code} {Q : State → Prop} {D : va_G} {A : Nat → Prop} {cy : Nat → ClassId} {xa mr : Nat → Nat} {mo : Nat} {tpf : Nat → Option Nat} {b i k n Ln : Nat} {xs : Nat → Int32} (C : xC p s m args meth c D cy A 4 cL_law wsL_law RL) (hR : R = room_1) (hsc : xSc A s b Ln xs) (hi : i + 6 ≤ Ln) (hLn : Ln ≤ 3072) (hkn : k + 125 ≤ R.cells ∧ n + 401 ≤ R.slots) (htp : ∀ k, k < 6 → tpf k = some (xa (59 + 2 * k))) (hc : AT p l e R s m args below meth c Q D A cy xa mr mo tpf b i (k + 125) (n + 401) 1264) : AT p l e R s m args below meth c Q D A cy xa mr mo tpf b i k n 814 := by
  intro kf tn tx gn gx nm ss zs cols lc smp nzf tlf lnf P ky nse fs gs npa fp gp nbo fb gb bal cols' lc' smp' nzf' tlf' lnf' P' ky' nse' fs' gs' npa' fp' gp' nbo' fb' gb' Z kz ga so sz tf j0 j1 j2 j3 j4 nm9 ns9 st9 by9 lz fn fo ex wo lr9 rl9 fa9 ca9 dc9 fs9 gs9 fp9 gp9 fb9 gb9 im mi nn9 nz9 sh9 mv ld lt ln pl hI
  obtain ⟨i1, i2, i3, i4, i5, i6, i7⟩ := hI
  obtain ⟨r1, r2, r3, r4, r5, r6, r7⟩ := id i4
  obtain ⟨htn, htx⟩ := id i1
  obtain ⟨hzs, hs60, hnn, hnz⟩ := id i2
  obtain ⟨hgn, hgx, hshb⟩ := id i3
  obtain ⟨hcols, hlc, hsmp, hky, htl⟩ := id r1
  obtain ⟨hns, hnb⟩ := id r2
  obtain ⟨hTL, hfm, hml, hmb, hfo4, hfn, hby, hlzb⟩ := id r3
  obtain ⟨hF, hmp, hst9, hlr9⟩ := id r4
  obtain ⟨hnse, hsr⟩ := id r5
  obtain ⟨hnpa, hpr⟩ := id r6
  obtain ⟨hnbo, hbr⟩ := id r7
  obtain ⟨hkf, hm1, hm2, hm3, hlc', hIM⟩ := id i5
  obtain ⟨htz, hts, htq1⟩ := id i6
  obtain ⟨hso, hso'⟩ := id i7
  have hP := hF.1
  have hst5 := hF.1.2.2.2
  have hml9 : pMk P ≤ lc := hF.1.2.1
  have hrm9 : pRs P ≤ pMk P := hF.1.1
  have hmk24 : pMk P ≤ 24 := Nat.le_trans hml9 hlc
  have hrs24 : pRs P ≤ 24 := Nat.le_trans hrm9 hmk24
  have hk0 : k ≤ R.cells ∧ n ≤ R.slots := ⟨by omega, by omega⟩
  refine x_aload_n C dL_law_814 (q := 815) rfl rfl 1 rfl ?_
  refine lw_arg (j := 1) C hsc (by omega) (by omega) dL_law_815 dL_law_816 dL_law_817 dL_law_818 dL_law_819 (q := 820) rfl ?_
  refine lw_arg (j := 2) C hsc (by omega) (by omega) dL_law_820 dL_law_821 dL_law_822 dL_law_823 dL_law_824 (q := 825) rfl ?_
  refine x_callV C (roW := []) (roR := []) (ci := 8) (c_X9_plan l D cy (xa 0) (xa 1) (xa 3) (xa 5) (xa 8) (xa 29) (xa 50) (xa 57) (xa 58) kf (xa 9) (xa 10) (xa 12) (xa 19) (xa 22) (xa 25) (xa 11) (xa 28) cols lc smp (xa 23) (xa 24) npa fp gp (xs (i + 1)) (xs (i + 2)) hcols hlc hnpa) (cwV 2 C.2.2.2.2.1 gL_law_X9_plan rfl rfl rfl (by decide +kernel) (by rw [hR]; exact ⟨Nat.le_of_ble_eq_true rfl, Nat.le_of_ble_eq_true rfl⟩)) [0, 8, 22, 23, 24] [] (mapc_cons f_at_0 (mapc_cons f_at_8 (mapc_cons f_at_22 (mapc_cons f_at_23 (mapc_cons f_at_24 mapc_nil))))) (by decide) rfl (fun _ h => absurd h List.not_mem_nil) xro_nil (List.mem_append_left _ List.mem_cons_self) rfl xT_bl (fun _ _ _ _ _ _ _ => trivial) rfl rfl dL_law_825 rfl rfl (Nat.le_of_ble_eq_true rfl) (q := 828) rfl (k' := k) rfl (n' := n) rfl hk0 (fun v9 w9 hp => ?_)
  obtain ⟨rfl, rfl⟩ := hp
  refine x_ws (xput_keep f_at_0 (xput_keep f_at_8 (xput_chg f_set_22 (xput_chg f_set_23 (xput_chg f_set_24 xput_nil))))) ?_
  refine x_aload_n C dL_law_828 (q := 829) rfl rfl 2 rfl ?_
  refine lw_arg (j := 1) C hsc (by omega) (by omega) dL_law_829 dL_law_830 dL_law_831 dL_law_832 dL_law_833 (q := 834) rfl ?_
  refine lw_arg (j := 2) C hsc (by omega) (by omega) dL_law_834 dL_law_835 dL_law_836 dL_law_837 dL_law_838 (q := 839) rfl ?_
  refine x_callV C (roW := []) (roR := []) (ci := 9) (c_X10_plan l D cy mo mr cols lc smp (pMk P) (pRs P) nse npa nbo tn kf ky j0 j1 j2 j3 j4 fp9 gp9 (xs (i + 1)) (xs (i + 2)) hcols hnpa) (cwV 2 C.2.2.2.2.1 gL_law_X10_plan rfl rfl rfl (by decide +kernel) (by rw [hR]; exact ⟨Nat.le_of_ble_eq_true rfl, Nat.le_of_ble_eq_true rfl⟩)) [71, 89, 90] [] (mapc_cons m_at_0 (mapc_cons m_at_18 (mapc_cons m_at_19 mapc_nil))) (by decide) rfl (fun _ h => absurd h List.not_mem_nil) xro_nil (List.mem_append_left _ List.mem_cons_self) rfl xT_bl (fun _ _ _ _ _ _ _ => trivial) rfl rfl dL_law_839 rfl rfl (Nat.le_of_ble_eq_true rfl) (q := 842) rfl (k' := k) rfl (n' := n) rfl hk0 (fun v9 w9 hp => ?_)
  obtain ⟨rfl, rfl⟩ := hp
  refine x_ws (xput_chg m_set_0 (xput_chg m_set_18 (xput_chg m_set_19 xput_nil))) ?_
  refine x_icmp_eq C (tgt := 1264) dL_law_842 (by decide) (q := 845) rfl rfl rfl (fun _ => ?_) (fun hne => absurd rfl hne)
  rw [(R6_plan r6).2]
  refine x_widen (k' := k + 125) (n' := n + 401) (Nat.le_add_right _ _) (Nat.le_add_right _ _) ?_
  exact hc kf tn tx gn gx nm ss zs cols lc smp nzf tlf lnf P ky nse fs gs ((plaN cols (npa, fp, gp) (xs (i + 1)) (xs (i + 2))).1) ((plaN cols (npa, fp, gp) (xs (i + 1)) (xs (i + 2))).2.1) ((plaN cols (npa, fp, gp) (xs (i + 1)) (xs (i + 2))).2.2) nbo fb gb bal cols' lc' smp' nzf' tlf' lnf' P' ky' nse' fs' gs' npa' fp' gp' nbo' fb' gb' Z kz ga so sz tf j0 j1 j2 j3 j4 nm9 ns9 st9 by9 lz fn fo ex wo lr9 rl9 fa9 ca9 dc9 fs9 gs9 ((plaN cols (npa, fp9, gp9) (xs (i + 1)) (xs (i + 2))).2.1) ((plaN cols (npa, fp9, gp9) (xs (i + 1)) (xs (i + 2))).2.2) fb9 gb9 im mi nn9 nz9 sh9 mv ld lt ln pl ⟨i1, i2, i3, ⟨r1, r2, r3, r4, r5, (R6_plan r6).1, r7⟩, i5, i6, i7⟩
set_option maxHeartbeats 4000000 in
set_option maxRecDepth 100000 in
/-- the law's case 23: ends -/
theorem op_ends {p : Program} {l : Launch} {e : Env} {R : Room} {s : State} {m : MethodId} {args : Array Value} {below : List Frame} {meth : Method} {c : Code} {Q : State → Prop} {D : va_G} {A : Nat → Prop} {cy : Nat → ClassId} {xa mr : Nat → Nat} {mo : Nat} {tpf : Nat → Option Nat} {b i k n Ln : Nat} {xs : Nat → Int32} (C : xC p s m args meth c D cy A 4 cL_law wsL_law RL) (hR : R = room_1) (hsc : xSc A s b Ln xs) (hi : i + 6 ≤ Ln) (hLn : Ln ≤ 3072) (hkn : k + 125 ≤ R.cells ∧ n + 401 ≤ R.slots) (htp : ∀ k, k < 6 → tpf k = some (xa (59 + 2 * k))) (hc : AT p l e R s m args below meth c Q D A cy xa mr mo tpf b i (k + 125) (n + 401) 1264) : AT p l e R s m args below meth c Q D A cy xa mr mo tpf b i k n 847 := by
  intro kf tn tx gn gx nm ss zs cols lc smp nzf tlf lnf P ky nse fs gs npa fp gp nbo fb gb bal cols' lc' smp' nzf' tlf' lnf' P' ky' nse' fs' gs' npa' fp' gp' nbo' fb' gb' Z kz ga so sz tf j0 j1 j2 j3 j4 nm9 ns9 st9 by9 lz fn fo ex wo lr9 rl9 fa9 ca9 dc9 fs9 gs9 fp9 gp9 fb9 gb9 im mi nn9 nz9 sh9 mv ld lt ln pl hI
  obtain ⟨i1, i2, i3, i4, i5, i6, i7⟩ := hI
  obtain ⟨r1, r2, r3, r4, r5, r6, r7⟩ := id i4
  obtain ⟨htn, htx⟩ := id i1
  obtain ⟨hzs, hs60, hnn, hnz⟩ := id i2
  obtain ⟨hgn, hgx, hshb⟩ := id i3
  obtain ⟨hcols, hlc, hsmp, hky, htl⟩ := id r1
  obtain ⟨hns, hnb⟩ := id r2
  obtain ⟨hTL, hfm, hml, hmb, hfo4, hfn, hby, hlzb⟩ := id r3
  obtain ⟨hF, hmp, hst9, hlr9⟩ := id r4
  obtain ⟨hnse, hsr⟩ := id r5
  obtain ⟨hnpa, hpr⟩ := id r6
  obtain ⟨hnbo, hbr⟩ := id r7
  obtain ⟨hkf, hm1, hm2, hm3, hlc', hIM⟩ := id i5
  obtain ⟨htz, hts, htq1⟩ := id i6
  obtain ⟨hso, hso'⟩ := id i7
  have hP := hF.1
  have hst5 := hF.1.2.2.2
  have hml9 : pMk P ≤ lc := hF.1.2.1
  have hrm9 : pRs P ≤ pMk P := hF.1.1
  have hmk24 : pMk P ≤ 24 := Nat.le_trans hml9 hlc
  have hrs24 : pRs P ≤ 24 := Nat.le_trans hrm9 hmk24
  have hk0 : k ≤ R.cells ∧ n ≤ R.slots := ⟨by omega, by omega⟩
  refine x_aload_n C dL_law_847 (q := 848) rfl rfl 1 rfl ?_
  refine lw_arg (j := 1) C hsc (by omega) (by omega) dL_law_848 dL_law_849 dL_law_850 dL_law_851 dL_law_852 (q := 853) rfl ?_
  refine x_callVP C (List.append_assoc _ _ _).symm (ci := 8) (c_X9_ends l D cy (xa 0) (xa 1) (xa 3) (xa 5) (xa 8) (xa 29) (xa 50) (xa 57) (xa 58) kf (xa 9) (xa 10) (xa 12) (xa 19) (xa 22) (xa 25) (xa 11) (xa 28) cols lc smp nzf tlf lnf bal (xa 13) (xa 14) (xa 15) (xa 16) (xa 17) (xa 18) P ky ld pl (xa 23) (xa 24) npa fp gp (xa 51) (xa 52) (xa 53) (xa 54) (xa 55) (xa 56) Z kz (xs (i + 1)) hcols hlc hTL hfm htl hsmp hP hnpa (fun i hi => by rw [(hpr i hi).1, (hpr i hi).2.1]; exact (hpr i hi).2.2.1)) (cwV 1 C.2.2.2.2.1 gL_law_X9_ends rfl rfl rfl (by decide +kernel) (by rw [hR]; exact ⟨Nat.le_of_ble_eq_true rfl, Nat.le_of_ble_eq_true rfl⟩)) [0, 8, 9, 10, 11, 28, 12, 13, 14, 15, 16, 17, 18, 22, 23, 24, 50, 51, 52, 53, 54, 55, 56] fm_len (by decide) (mapc_cons f_at_0 (mapc_cons f_at_8 (mapc_cons f_at_9 (mapc_cons f_at_10 (mapc_cons f_at_11 (mapc_cons f_at_28 (mapc_cons f_at_12 (mapc_cons f_at_13 (mapc_cons f_at_14 (mapc_cons f_at_15 (mapc_cons f_at_16 (mapc_cons f_at_17 (mapc_cons f_at_18 (mapc_cons f_at_22 (mapc_cons f_at_23 (mapc_cons f_at_24 (mapc_cons f_at_50 (mapc_cons f_at_51 (mapc_cons f_at_52 (mapc_cons f_at_53 (mapc_cons f_at_54 (mapc_cons f_at_55 (mapc_cons f_at_56 mapc_nil))))))))))))))))))))))) (by decide) List.mem_cons_self rfl xT_bl (fun _ _ _ _ _ _ _ => trivial) rfl rfl dL_law_853 rfl rfl (Nat.le_of_ble_eq_true rfl) (q := 856) rfl (k' := k) rfl (n' := n) rfl hk0 (fun v9 w9 hp => ?_)
  obtain ⟨b2, Z2, k2, rfl, rfl⟩ := hp
  refine x_ws (xput_keep f_at_0 (xput_keep f_at_8 (xput_keep f_at_9 (xput_keep f_at_10 (xput_keep f_at_11 (xput_chg f_set_28 (xput_keep f_at_12 (xput_keep f_at_13 (xput_keep f_at_14 (xput_keep f_at_15 (xput_keep f_at_16 (xput_keep f_at_17 (xput_keep f_at_18 (xput_keep f_at_22 (xput_keep f_at_23 (xput_keep f_at_24 (xput_chg f_set_50 (xput_chg f_set_51 (xput_chg f_set_52 (xput_chg f_set_53 (xput_chg f_set_54 (xput_chg f_set_55 (xput_chg f_set_56 xput_nil))))))))))))))))))))))) ?_
  refine x_aload_n C dL_law_856 (q := 857) rfl rfl 2 rfl ?_
  refine lw_arg (j := 1) C hsc (by omega) (by omega) dL_law_857 dL_law_858 dL_law_859 dL_law_860 dL_law_861 (q := 862) rfl ?_
  refine x_callV C (roW := []) (roR := []) (ci := 9) (c_X10_ends_ l D cy mo mr cols lc smp nse npa nbo tn kf ky j0 j1 j2 j3 j4 P mi fn fo ex wo tlf st9 lr9 rl9 fa9 ca9 dc9 fp9 gp9 ld (xs (i + 1)) hml hfo4 hfn hlc hF htl hst9 hcols hky hsmp hlr9 hmp hnpa (fun i hi => (hpr i hi).2.2.1) (fun i hi => (hpr i hi).2.2.2)) (cwV 1 C.2.2.2.2.1 gL_law_X10_ends_ rfl rfl rfl (by decide +kernel) (by rw [hR]; exact ⟨Nat.le_of_ble_eq_true rfl, Nat.le_of_ble_eq_true rfl⟩)) [71, 95, 78, 79, 80, 81, 74, 75, 82, 83, 84, 85, 86, 89, 90] [] (mapc_cons m_at_0 (mapc_cons m_at_24 (mapc_cons m_at_7 (mapc_cons m_at_8 (mapc_cons m_at_9 (mapc_cons m_at_10 (mapc_cons m_at_3 (mapc_cons m_at_4 (mapc_cons m_at_11 (mapc_cons m_at_12 (mapc_cons m_at_13 (mapc_cons m_at_14 (mapc_cons m_at_15 (mapc_cons m_at_18 (mapc_cons m_at_19 mapc_nil))))))))))))))) (by decide) rfl (fun _ h => absurd h List.not_mem_nil) xro_nil (List.mem_append_left _ List.mem_cons_self) rfl xT_bl (fun _ _ _ _ _ _ _ => trivial) rfl rfl dL_law_862 rfl rfl (Nat.le_of_ble_eq_true rfl) (q := 865) rfl (k' := k) rfl (n' := n) rfl hk0 (fun v9 w9 hp => ?_)
  obtain ⟨mi', j2', rfl, rfl⟩ := hp
  refine x_ws (xput_chg m_set_0 (xput_chg m_set_24 (xput_keep m_at_7 (xput_keep m_at_8 (xput_keep m_at_9 (xput_keep m_at_10 (xput_keep m_at_3 (xput_keep m_at_4 (xput_keep m_at_11 (xput_keep m_at_12 (xput_keep m_at_13 (xput_keep m_at_14 (xput_keep m_at_15 (xput_keep m_at_18 (xput_keep m_at_19 xput_nil))))))))))))))) ?_
  refine x_icmp_eq C (tgt := 1264) dL_law_865 (by decide) (q := 868) rfl rfl rfl (fun _ => ?_) (fun hne => (hne (congrArg Int32.toInt (endA_rows (fun i hi => ⟨(hpr i hi).1, (hpr i hi).2.1⟩)))).elim)
  refine x_widen (k' := k + 125) (n' := n + 401) (Nat.le_add_right _ _) (Nat.le_add_right _ _) ?_
  exact hc kf tn tx gn gx nm ss zs cols lc smp nzf tlf lnf P ky nse fs gs npa fp gp nbo fb gb b2 cols' lc' smp' nzf' tlf' lnf' P' ky' nse' fs' gs' npa' fp' gp' nbo' fb' gb' Z2 k2 ga so sz tf j0 j1 j2' j3 j4 nm9 ns9 st9 by9 lz fn fo ex wo lr9 rl9 fa9 ca9 dc9 fs9 gs9 fp9 gp9 fb9 gb9 im mi' nn9 nz9 sh9 mv ld lt ln pl ⟨i1, i2, i3, i4, i5, i6, i7⟩
set_option maxHeartbeats 4000000 in
set_option maxRecDepth 100000 in
/-- the law's case 24: book -/
theorem op_book {p : Program} {l : Launch} {e : Env} {R : Room} {s : State} {m : MethodId} {args : Array Value} {below : List Frame} {meth : Method} {c : Code} {Q : State → Prop} {D : va_G} {A : Nat → Prop} {cy : Nat → ClassId} {xa mr : Nat → Nat} {mo : Nat} {tpf : Nat → Option Nat} {b i k n Ln : Nat} {xs : Nat → Int32} (C : xC p s m args meth c D cy A 4 cL_law wsL_law RL) (hR : R = room_1) (hsc : xSc A s b Ln xs) (hi : i + 6 ≤ Ln) (hLn : Ln ≤ 3072) (hkn : k + 125 ≤ R.cells ∧ n + 401 ≤ R.slots) (htp : ∀ k, k < 6 → tpf k = some (xa (59 + 2 * k))) (hc : AT p l e R s m args below meth c Q D A cy xa mr mo tpf b i (k + 125) (n + 401) 1264) : AT p l e R s m args below meth c Q D A cy xa mr mo tpf b i k n 870 := by
  intro kf tn tx gn gx nm ss zs cols lc smp nzf tlf lnf P ky nse fs gs npa fp gp nbo fb gb bal cols' lc' smp' nzf' tlf' lnf' P' ky' nse' fs' gs' npa' fp' gp' nbo' fb' gb' Z kz ga so sz tf j0 j1 j2 j3 j4 nm9 ns9 st9 by9 lz fn fo ex wo lr9 rl9 fa9 ca9 dc9 fs9 gs9 fp9 gp9 fb9 gb9 im mi nn9 nz9 sh9 mv ld lt ln pl hI
  obtain ⟨i1, i2, i3, i4, i5, i6, i7⟩ := hI
  obtain ⟨r1, r2, r3, r4, r5, r6, r7⟩ := id i4
  obtain ⟨htn, htx⟩ := id i1
  obtain ⟨hzs, hs60, hnn, hnz⟩ := id i2
  obtain ⟨hgn, hgx, hshb⟩ := id i3
  obtain ⟨hcols, hlc, hsmp, hky, htl⟩ := id r1
  obtain ⟨hns, hnb⟩ := id r2
  obtain ⟨hTL, hfm, hml, hmb, hfo4, hfn, hby, hlzb⟩ := id r3
  obtain ⟨hF, hmp, hst9, hlr9⟩ := id r4
  obtain ⟨hnse, hsr⟩ := id r5
  obtain ⟨hnpa, hpr⟩ := id r6
  obtain ⟨hnbo, hbr⟩ := id r7
  obtain ⟨hkf, hm1, hm2, hm3, hlc', hIM⟩ := id i5
  obtain ⟨htz, hts, htq1⟩ := id i6
  obtain ⟨hso, hso'⟩ := id i7
  have hP := hF.1
  have hst5 := hF.1.2.2.2
  have hml9 : pMk P ≤ lc := hF.1.2.1
  have hrm9 : pRs P ≤ pMk P := hF.1.1
  have hmk24 : pMk P ≤ 24 := Nat.le_trans hml9 hlc
  have hrs24 : pRs P ≤ 24 := Nat.le_trans hrm9 hmk24
  have hk0 : k ≤ R.cells ∧ n ≤ R.slots := ⟨by omega, by omega⟩
  refine x_aload_n C dL_law_870 (q := 871) rfl rfl 1 rfl ?_
  refine lw_arg (j := 1) C hsc (by omega) (by omega) dL_law_871 dL_law_872 dL_law_873 dL_law_874 dL_law_875 (q := 876) rfl ?_
  refine lw_arg (j := 2) C hsc (by omega) (by omega) dL_law_876 dL_law_877 dL_law_878 dL_law_879 dL_law_880 (q := 881) rfl ?_
  refine x_callV C (roW := []) (roR := []) (ci := 8) (c_X9_book l D cy (xa 0) (xa 1) (xa 3) (xa 5) (xa 8) (xa 29) (xa 50) (xa 57) (xa 58) kf (xa 9) (xa 10) (xa 12) (xa 19) (xa 22) (xa 25) (xa 11) (xa 28) cols lc smp (xa 26) (xa 27) nbo fb gb (xs (i + 1)) (xs (i + 2)) hcols hlc hnbo) (cwV 2 C.2.2.2.2.1 gL_law_X9_book rfl rfl rfl (by decide +kernel) (by rw [hR]; exact ⟨Nat.le_of_ble_eq_true rfl, Nat.le_of_ble_eq_true rfl⟩)) [0, 8, 25, 26, 27] [] (mapc_cons f_at_0 (mapc_cons f_at_8 (mapc_cons f_at_25 (mapc_cons f_at_26 (mapc_cons f_at_27 mapc_nil))))) (by decide) rfl (fun _ h => absurd h List.not_mem_nil) xro_nil (List.mem_append_left _ List.mem_cons_self) rfl xT_bl (fun _ _ _ _ _ _ _ => trivial) rfl rfl dL_law_881 rfl rfl (Nat.le_of_ble_eq_true rfl) (q := 884) rfl (k' := k) rfl (n' := n) rfl hk0 (fun v9 w9 hp => ?_)
  obtain ⟨rfl, rfl⟩ := hp
  refine x_ws (xput_keep f_at_0 (xput_keep f_at_8 (xput_chg f_set_25 (xput_chg f_set_26 (xput_chg f_set_27 xput_nil))))) ?_
  refine x_aload_n C dL_law_884 (q := 885) rfl rfl 2 rfl ?_
  refine lw_arg (j := 1) C hsc (by omega) (by omega) dL_law_885 dL_law_886 dL_law_887 dL_law_888 dL_law_889 (q := 890) rfl ?_
  refine lw_arg (j := 2) C hsc (by omega) (by omega) dL_law_890 dL_law_891 dL_law_892 dL_law_893 dL_law_894 (q := 895) rfl ?_
  refine x_callV C (roW := []) (roR := []) (ci := 9) (c_X10_book l D cy mo mr cols lc smp (pMk P) (pRs P) nse npa nbo tn kf ky j0 j1 j2 j3 j4 fb9 gb9 (xs (i + 1)) (xs (i + 2)) hcols hnbo) (cwV 2 C.2.2.2.2.1 gL_law_X10_book rfl rfl rfl (by decide +kernel) (by rw [hR]; exact ⟨Nat.le_of_ble_eq_true rfl, Nat.le_of_ble_eq_true rfl⟩)) [71, 91, 92] [] (mapc_cons m_at_0 (mapc_cons m_at_20 (mapc_cons m_at_21 mapc_nil))) (by decide) rfl (fun _ h => absurd h List.not_mem_nil) xro_nil (List.mem_append_left _ List.mem_cons_self) rfl xT_bl (fun _ _ _ _ _ _ _ => trivial) rfl rfl dL_law_895 rfl rfl (Nat.le_of_ble_eq_true rfl) (q := 898) rfl (k' := k) rfl (n' := n) rfl hk0 (fun v9 w9 hp => ?_)
  obtain ⟨rfl, rfl⟩ := hp
  refine x_ws (xput_chg m_set_0 (xput_chg m_set_20 (xput_chg m_set_21 xput_nil))) ?_
  refine x_icmp_eq C (tgt := 1264) dL_law_898 (by decide) (q := 901) rfl rfl rfl (fun _ => ?_) (fun hne => absurd rfl hne)
  rw [(R7_book r7).2]
  refine x_widen (k' := k + 125) (n' := n + 401) (Nat.le_add_right _ _) (Nat.le_add_right _ _) ?_
  exact hc kf tn tx gn gx nm ss zs cols lc smp nzf tlf lnf P ky nse fs gs npa fp gp ((booN cols (nbo, fb, gb) (xs (i + 1)) (xs (i + 2))).1) ((booN cols (nbo, fb, gb) (xs (i + 1)) (xs (i + 2))).2.1) ((booN cols (nbo, fb, gb) (xs (i + 1)) (xs (i + 2))).2.2) bal cols' lc' smp' nzf' tlf' lnf' P' ky' nse' fs' gs' npa' fp' gp' nbo' fb' gb' Z kz ga so sz tf j0 j1 j2 j3 j4 nm9 ns9 st9 by9 lz fn fo ex wo lr9 rl9 fa9 ca9 dc9 fs9 gs9 fp9 gp9 ((booN cols (nbo, fb9, gb9) (xs (i + 1)) (xs (i + 2))).2.1) ((booN cols (nbo, fb9, gb9) (xs (i + 1)) (xs (i + 2))).2.2) im mi nn9 nz9 sh9 mv ld lt ln pl ⟨i1, i2, i3, ⟨r1, r2, r3, r4, r5, r6, (R7_book r7).1⟩, i5, i6, i7⟩
set_option maxHeartbeats 4000000 in
set_option maxRecDepth 100000 in
/-- the law's case 25: looked -/
theorem op_looked {p : Program} {l : Launch} {e : Env} {R : Room} {s : State} {m : MethodId} {args : Array Value} {below : List Frame} {meth : Method} {c : Code} {Q : State → Prop} {D : va_G} {A : Nat → Prop} {cy : Nat → ClassId} {xa mr : Nat → Nat} {mo : Nat} {tpf : Nat → Option Nat} {b i k n Ln : Nat} {xs : Nat → Int32} (C : xC p s m args meth c D cy A 4 cL_law wsL_law RL) (hR : R = room_1) (hsc : xSc A s b Ln xs) (hi : i + 6 ≤ Ln) (hLn : Ln ≤ 3072) (hkn : k + 125 ≤ R.cells ∧ n + 401 ≤ R.slots) (htp : ∀ k, k < 6 → tpf k = some (xa (59 + 2 * k))) (hc : AT p l e R s m args below meth c Q D A cy xa mr mo tpf b i (k + 125) (n + 401) 1264) : AT p l e R s m args below meth c Q D A cy xa mr mo tpf b i k n 903 := by
  intro kf tn tx gn gx nm ss zs cols lc smp nzf tlf lnf P ky nse fs gs npa fp gp nbo fb gb bal cols' lc' smp' nzf' tlf' lnf' P' ky' nse' fs' gs' npa' fp' gp' nbo' fb' gb' Z kz ga so sz tf j0 j1 j2 j3 j4 nm9 ns9 st9 by9 lz fn fo ex wo lr9 rl9 fa9 ca9 dc9 fs9 gs9 fp9 gp9 fb9 gb9 im mi nn9 nz9 sh9 mv ld lt ln pl hI
  obtain ⟨i1, i2, i3, i4, i5, i6, i7⟩ := hI
  obtain ⟨r1, r2, r3, r4, r5, r6, r7⟩ := id i4
  obtain ⟨htn, htx⟩ := id i1
  obtain ⟨hzs, hs60, hnn, hnz⟩ := id i2
  obtain ⟨hgn, hgx, hshb⟩ := id i3
  obtain ⟨hcols, hlc, hsmp, hky, htl⟩ := id r1
  obtain ⟨hns, hnb⟩ := id r2
  obtain ⟨hTL, hfm, hml, hmb, hfo4, hfn, hby, hlzb⟩ := id r3
  obtain ⟨hF, hmp, hst9, hlr9⟩ := id r4
  obtain ⟨hnse, hsr⟩ := id r5
  obtain ⟨hnpa, hpr⟩ := id r6
  obtain ⟨hnbo, hbr⟩ := id r7
  obtain ⟨hkf, hm1, hm2, hm3, hlc', hIM⟩ := id i5
  obtain ⟨htz, hts, htq1⟩ := id i6
  obtain ⟨hso, hso'⟩ := id i7
  have hP := hF.1
  have hst5 := hF.1.2.2.2
  have hml9 : pMk P ≤ lc := hF.1.2.1
  have hrm9 : pRs P ≤ pMk P := hF.1.1
  have hmk24 : pMk P ≤ 24 := Nat.le_trans hml9 hlc
  have hrs24 : pRs P ≤ 24 := Nat.le_trans hrm9 hmk24
  have hk0 : k ≤ R.cells ∧ n ≤ R.slots := ⟨by omega, by omega⟩
  refine x_aload_n C dL_law_903 (q := 904) rfl rfl 1 rfl ?_
  refine x_callVP C (List.append_assoc _ _ _).symm (ci := 8) (c_X9_looked l D cy (xa 0) (xa 1) (xa 3) (xa 5) (xa 8) (xa 29) (xa 50) (xa 57) (xa 58) kf (xa 9) (xa 10) (xa 12) (xa 19) (xa 22) (xa 25) (xa 11) (xa 28) cols lc smp nzf tlf lnf bal (xa 13) (xa 14) (xa 15) (xa 16) (xa 17) (xa 18) P ky ld pl (xa 26) (xa 27) nbo fb gb hcols hlc hTL hfm htl hsmp hst5 hnbo) (cwV 0 C.2.2.2.2.1 gL_law_X9_looked rfl rfl rfl (by decide +kernel) (by rw [hR]; exact ⟨Nat.le_of_ble_eq_true rfl, Nat.le_of_ble_eq_true rfl⟩)) [0, 8, 9, 10, 11, 28, 12, 13, 14, 15, 16, 17, 18, 25, 26, 27] fm_len (by decide) (mapc_cons f_at_0 (mapc_cons f_at_8 (mapc_cons f_at_9 (mapc_cons f_at_10 (mapc_cons f_at_11 (mapc_cons f_at_28 (mapc_cons f_at_12 (mapc_cons f_at_13 (mapc_cons f_at_14 (mapc_cons f_at_15 (mapc_cons f_at_16 (mapc_cons f_at_17 (mapc_cons f_at_18 (mapc_cons f_at_25 (mapc_cons f_at_26 (mapc_cons f_at_27 mapc_nil)))))))))))))))) (by decide) List.mem_cons_self rfl xT_bl (fun _ _ _ _ _ _ _ => trivial) rfl rfl dL_law_904 rfl rfl (Nat.le_of_ble_eq_true rfl) (q := 907) rfl (k' := k) rfl (n' := n) rfl hk0 (fun v9 w9 hp => ?_)
  obtain ⟨bx, rfl, rfl⟩ := hp
  refine x_ws (xput_keep f_at_0 (xput_keep f_at_8 (xput_keep f_at_9 (xput_keep f_at_10 (xput_keep f_at_11 (xput_chg f_set_28 (xput_keep f_at_12 (xput_keep f_at_13 (xput_keep f_at_14 (xput_keep f_at_15 (xput_keep f_at_16 (xput_keep f_at_17 (xput_keep f_at_18 (xput_keep f_at_25 (xput_keep f_at_26 (xput_keep f_at_27 xput_nil)))))))))))))))) ?_
  refine x_aload_n C dL_law_907 (q := 908) rfl rfl 2 rfl ?_
  refine x_callV C (roW := []) (roR := []) (ci := 9) (c_X10_looked l D cy mo mr cols lc smp (pMk P) (pRs P) nse npa nbo tn kf ky j0 j1 j2 j3 j4 fn fo ex wo tlf st9 fb9 gb9 ld P hml hfo4 hfn hlc htl hst9 hcols hsmp (fun c hc => hmp.1.1 c hc) hnbo (fun i hi => (hbr i hi).2.2)) (cwV 0 C.2.2.2.2.1 gL_law_X10_looked rfl rfl rfl (by decide +kernel) (by rw [hR]; exact ⟨Nat.le_of_ble_eq_true rfl, Nat.le_of_ble_eq_true rfl⟩)) [71, 78, 79, 80, 81, 74, 75, 91, 92] [] (mapc_cons m_at_0 (mapc_cons m_at_7 (mapc_cons m_at_8 (mapc_cons m_at_9 (mapc_cons m_at_10 (mapc_cons m_at_3 (mapc_cons m_at_4 (mapc_cons m_at_20 (mapc_cons m_at_21 mapc_nil))))))))) (by decide) rfl (fun _ h => absurd h List.not_mem_nil) xro_nil (List.mem_append_left _ List.mem_cons_self) rfl xT_bl (fun _ _ _ _ _ _ _ => trivial) rfl rfl dL_law_908 rfl rfl (Nat.le_of_ble_eq_true rfl) (q := 911) rfl (k' := k) rfl (n' := n) rfl hk0 (fun v9 w9 hp => ?_)
  obtain ⟨rfl, rfl⟩ := hp
  refine x_ws (xput_keep m_at_0 (xput_keep m_at_7 (xput_keep m_at_8 (xput_keep m_at_9 (xput_keep m_at_10 (xput_keep m_at_3 (xput_keep m_at_4 (xput_keep m_at_20 (xput_keep m_at_21 xput_nil))))))))) ?_
  refine x_icmp_eq C (tgt := 1264) dL_law_911 (by decide) (q := 914) rfl rfl rfl (fun _ => ?_) (fun hne => (hne (congrArg Int32.toInt (looA_rows (fun i hi => ⟨(hbr i hi).1, (hbr i hi).2.1⟩)))).elim)
  refine x_widen (k' := k + 125) (n' := n + 401) (Nat.le_add_right _ _) (Nat.le_add_right _ _) ?_
  exact hc kf tn tx gn gx nm ss zs cols lc smp nzf tlf lnf P ky nse fs gs npa fp gp nbo fb gb bx cols' lc' smp' nzf' tlf' lnf' P' ky' nse' fs' gs' npa' fp' gp' nbo' fb' gb' Z kz ga so sz tf j0 j1 j2 j3 j4 nm9 ns9 st9 by9 lz fn fo ex wo lr9 rl9 fa9 ca9 dc9 fs9 gs9 fp9 gp9 fb9 gb9 im mi nn9 nz9 sh9 mv ld lt ln pl ⟨i1, i2, i3, i4, i5, i6, i7⟩
set_option maxHeartbeats 4000000 in
set_option maxRecDepth 100000 in
/-- the law's case 29: taken -/
theorem op_taken {p : Program} {l : Launch} {e : Env} {R : Room} {s : State} {m : MethodId} {args : Array Value} {below : List Frame} {meth : Method} {c : Code} {Q : State → Prop} {D : va_G} {A : Nat → Prop} {cy : Nat → ClassId} {xa mr : Nat → Nat} {mo : Nat} {tpf : Nat → Option Nat} {b i k n Ln : Nat} {xs : Nat → Int32} (C : xC p s m args meth c D cy A 4 cL_law wsL_law RL) (hR : R = room_1) (hsc : xSc A s b Ln xs) (hi : i + 6 ≤ Ln) (hLn : Ln ≤ 3072) (hkn : k + 125 ≤ R.cells ∧ n + 401 ≤ R.slots) (htp : ∀ k, k < 6 → tpf k = some (xa (59 + 2 * k))) (hc : AT p l e R s m args below meth c Q D A cy xa mr mo tpf b i (k + 125) (n + 401) 1264) : AT p l e R s m args below meth c Q D A cy xa mr mo tpf b i k n 985 := by
  intro kf tn tx gn gx nm ss zs cols lc smp nzf tlf lnf P ky nse fs gs npa fp gp nbo fb gb bal cols' lc' smp' nzf' tlf' lnf' P' ky' nse' fs' gs' npa' fp' gp' nbo' fb' gb' Z kz ga so sz tf j0 j1 j2 j3 j4 nm9 ns9 st9 by9 lz fn fo ex wo lr9 rl9 fa9 ca9 dc9 fs9 gs9 fp9 gp9 fb9 gb9 im mi nn9 nz9 sh9 mv ld lt ln pl hI
  obtain ⟨i1, i2, i3, i4, i5, i6, i7⟩ := hI
  obtain ⟨r1, r2, r3, r4, r5, r6, r7⟩ := id i4
  obtain ⟨htn, htx⟩ := id i1
  obtain ⟨hzs, hs60, hnn, hnz⟩ := id i2
  obtain ⟨hgn, hgx, hshb⟩ := id i3
  obtain ⟨hcols, hlc, hsmp, hky, htl⟩ := id r1
  obtain ⟨hns, hnb⟩ := id r2
  obtain ⟨hTL, hfm, hml, hmb, hfo4, hfn, hby, hlzb⟩ := id r3
  obtain ⟨hF, hmp, hst9, hlr9⟩ := id r4
  obtain ⟨hnse, hsr⟩ := id r5
  obtain ⟨hnpa, hpr⟩ := id r6
  obtain ⟨hnbo, hbr⟩ := id r7
  obtain ⟨hkf, hm1, hm2, hm3, hlc', hIM⟩ := id i5
  obtain ⟨htz, hts, htq1⟩ := id i6
  obtain ⟨hso, hso'⟩ := id i7
  have hP := hF.1
  have hst5 := hF.1.2.2.2
  have hml9 : pMk P ≤ lc := hF.1.2.1
  have hrm9 : pRs P ≤ pMk P := hF.1.1
  have hmk24 : pMk P ≤ 24 := Nat.le_trans hml9 hlc
  have hrs24 : pRs P ≤ 24 := Nat.le_trans hrm9 hmk24
  have hk0 : k ≤ R.cells ∧ n ≤ R.slots := ⟨by omega, by omega⟩
  refine x_aload_n C dL_law_985 (q := 986) rfl rfl 1 rfl ?_
  refine lw_arg (j := 1) C hsc (by omega) (by omega) dL_law_986 dL_law_987 dL_law_988 dL_law_989 dL_law_990 (q := 991) rfl ?_
  refine lw_arg (j := 2) C hsc (by omega) (by omega) dL_law_991 dL_law_992 dL_law_993 dL_law_994 dL_law_995 (q := 996) rfl ?_
  refine lw_arg (j := 3) C hsc (by omega) (by omega) dL_law_996 dL_law_997 dL_law_998 dL_law_999 dL_law_1000 (q := 1001) rfl ?_
  refine x_callVP C (List.append_assoc _ _ _).symm (ci := 8) (c_X9_taken l D cy (xa 0) (xa 1) (xa 3) (xa 5) (xa 8) (xa 29) (xa 50) (xa 57) (xa 58) kf (xa 9) (xa 10) (xa 12) (xa 19) (xa 22) (xa 25) (xa 11) (xa 28) cols lc smp nzf tlf lnf bal (xa 13) (xa 14) (xa 15) (xa 16) (xa 17) (xa 18) P ky ld pl (xs (i + 1)) (xs (i + 2)) (xs (i + 3)) hcols hlc hTL hfm htl hsmp hst5 hP) (cwV 3 C.2.2.2.2.1 gL_law_X9_taken rfl rfl rfl (by decide +kernel) (by rw [hR]; exact ⟨Nat.le_of_ble_eq_true rfl, Nat.le_of_ble_eq_true rfl⟩)) [0, 8, 9, 10, 11, 28, 12, 13, 14, 15, 16, 17, 18] fm_len (by decide) (mapc_cons f_at_0 (mapc_cons f_at_8 (mapc_cons f_at_9 (mapc_cons f_at_10 (mapc_cons f_at_11 (mapc_cons f_at_28 (mapc_cons f_at_12 (mapc_cons f_at_13 (mapc_cons f_at_14 (mapc_cons f_at_15 (mapc_cons f_at_16 (mapc_cons f_at_17 (mapc_cons f_at_18 mapc_nil))))))))))))) (by decide) List.mem_cons_self rfl xT_bl (fun _ _ _ _ _ _ _ => trivial) rfl rfl dL_law_1001 rfl rfl (Nat.le_of_ble_eq_true rfl) (q := 1004) rfl (k' := k) rfl (n' := n) rfl hk0 (fun v9 w9 hp => ?_)
  obtain ⟨bx, rfl, rfl⟩ := hp
  refine x_ws (xput_keep f_at_0 (xput_keep f_at_8 (xput_keep f_at_9 (xput_keep f_at_10 (xput_keep f_at_11 (xput_chg f_set_28 (xput_keep f_at_12 (xput_keep f_at_13 (xput_keep f_at_14 (xput_keep f_at_15 (xput_keep f_at_16 (xput_keep f_at_17 (xput_keep f_at_18 xput_nil))))))))))))) ?_
  refine x_aload_n C dL_law_1004 (q := 1005) rfl rfl 2 rfl ?_
  refine lw_arg (j := 1) C hsc (by omega) (by omega) dL_law_1005 dL_law_1006 dL_law_1007 dL_law_1008 dL_law_1009 (q := 1010) rfl ?_
  refine lw_arg (j := 2) C hsc (by omega) (by omega) dL_law_1010 dL_law_1011 dL_law_1012 dL_law_1013 dL_law_1014 (q := 1015) rfl ?_
  refine lw_arg (j := 3) C hsc (by omega) (by omega) dL_law_1015 dL_law_1016 dL_law_1017 dL_law_1018 dL_law_1019 (q := 1020) rfl ?_
  refine x_callV C (roW := []) (roR := []) (ci := 9) (c_X10_taken l D cy mo mr cols lc smp nse npa nbo tn kf ky j0 j1 j2 j3 j4 P fn fo ex wo st9 lr9 rl9 fa9 ca9 dc9 ld tlf (xs (i + 1)) (xs (i + 2)) (xs (i + 3)) hml hfo4 hfn hlc hF hmp hcols hlr9 hst9) (cwV 3 C.2.2.2.2.1 gL_law_X10_taken rfl rfl rfl (by decide +kernel) (by rw [hR]; exact ⟨Nat.le_of_ble_eq_true rfl, Nat.le_of_ble_eq_true rfl⟩)) [71, 82, 75, 78, 79, 80, 81] [] (mapc_cons m_at_0 (mapc_cons m_at_11 (mapc_cons m_at_4 (mapc_cons m_at_7 (mapc_cons m_at_8 (mapc_cons m_at_9 (mapc_cons m_at_10 mapc_nil))))))) (by decide) rfl (fun _ h => absurd h List.not_mem_nil) xro_nil (List.mem_append_left _ List.mem_cons_self) rfl xT_bl (fun _ _ _ _ _ _ _ => trivial) rfl rfl dL_law_1020 rfl rfl (Nat.le_of_ble_eq_true rfl) (q := 1023) rfl (k' := k) rfl (n' := n) rfl hk0 (fun v9 w9 hp => ?_)
  obtain ⟨rfl, rfl⟩ := hp
  refine x_ws (xput_keep m_at_0 (xput_keep m_at_11 (xput_keep m_at_4 (xput_keep m_at_7 (xput_keep m_at_8 (xput_keep m_at_9 (xput_keep m_at_10 xput_nil))))))) ?_
  refine x_icmp_eq C (tgt := 1264) dL_law_1023 (by decide) (q := 1026) rfl rfl rfl (fun _ => ?_) (fun hne => absurd rfl hne)
  refine x_widen (k' := k + 125) (n' := n + 401) (Nat.le_add_right _ _) (Nat.le_add_right _ _) ?_
  exact hc kf tn tx gn gx nm ss zs cols lc smp nzf tlf lnf P ky nse fs gs npa fp gp nbo fb gb bx cols' lc' smp' nzf' tlf' lnf' P' ky' nse' fs' gs' npa' fp' gp' nbo' fb' gb' Z kz ga so sz tf j0 j1 j2 j3 j4 nm9 ns9 st9 by9 lz fn fo ex wo lr9 rl9 fa9 ca9 dc9 fs9 gs9 fp9 gp9 fb9 gb9 im mi nn9 nz9 sh9 mv ld lt ln pl ⟨i1, i2, i3, i4, i5, i6, i7⟩
set_option maxHeartbeats 4000000 in
set_option maxRecDepth 100000 in
/-- the law's case 30: count -/
theorem op_count {p : Program} {l : Launch} {e : Env} {R : Room} {s : State} {m : MethodId} {args : Array Value} {below : List Frame} {meth : Method} {c : Code} {Q : State → Prop} {D : va_G} {A : Nat → Prop} {cy : Nat → ClassId} {xa mr : Nat → Nat} {mo : Nat} {tpf : Nat → Option Nat} {b i k n Ln : Nat} {xs : Nat → Int32} (C : xC p s m args meth c D cy A 4 cL_law wsL_law RL) (hR : R = room_1) (hsc : xSc A s b Ln xs) (hi : i + 6 ≤ Ln) (hLn : Ln ≤ 3072) (hkn : k + 125 ≤ R.cells ∧ n + 401 ≤ R.slots) (htp : ∀ k, k < 6 → tpf k = some (xa (59 + 2 * k))) (hc : AT p l e R s m args below meth c Q D A cy xa mr mo tpf b i (k + 125) (n + 401) 1264) : AT p l e R s m args below meth c Q D A cy xa mr mo tpf b i k n 1028 := by
  intro kf tn tx gn gx nm ss zs cols lc smp nzf tlf lnf P ky nse fs gs npa fp gp nbo fb gb bal cols' lc' smp' nzf' tlf' lnf' P' ky' nse' fs' gs' npa' fp' gp' nbo' fb' gb' Z kz ga so sz tf j0 j1 j2 j3 j4 nm9 ns9 st9 by9 lz fn fo ex wo lr9 rl9 fa9 ca9 dc9 fs9 gs9 fp9 gp9 fb9 gb9 im mi nn9 nz9 sh9 mv ld lt ln pl hI
  obtain ⟨i1, i2, i3, i4, i5, i6, i7⟩ := hI
  obtain ⟨r1, r2, r3, r4, r5, r6, r7⟩ := id i4
  obtain ⟨htn, htx⟩ := id i1
  obtain ⟨hzs, hs60, hnn, hnz⟩ := id i2
  obtain ⟨hgn, hgx, hshb⟩ := id i3
  obtain ⟨hcols, hlc, hsmp, hky, htl⟩ := id r1
  obtain ⟨hns, hnb⟩ := id r2
  obtain ⟨hTL, hfm, hml, hmb, hfo4, hfn, hby, hlzb⟩ := id r3
  obtain ⟨hF, hmp, hst9, hlr9⟩ := id r4
  obtain ⟨hnse, hsr⟩ := id r5
  obtain ⟨hnpa, hpr⟩ := id r6
  obtain ⟨hnbo, hbr⟩ := id r7
  obtain ⟨hkf, hm1, hm2, hm3, hlc', hIM⟩ := id i5
  obtain ⟨htz, hts, htq1⟩ := id i6
  obtain ⟨hso, hso'⟩ := id i7
  have hP := hF.1
  have hst5 := hF.1.2.2.2
  have hml9 : pMk P ≤ lc := hF.1.2.1
  have hrm9 : pRs P ≤ pMk P := hF.1.1
  have hmk24 : pMk P ≤ 24 := Nat.le_trans hml9 hlc
  have hrs24 : pRs P ≤ 24 := Nat.le_trans hrm9 hmk24
  have hk0 : k ≤ R.cells ∧ n ≤ R.slots := ⟨by omega, by omega⟩
  refine x_aload_n C dL_law_1028 (q := 1029) rfl rfl 1 rfl ?_
  refine lw_arg (j := 1) C hsc (by omega) (by omega) dL_law_1029 dL_law_1030 dL_law_1031 dL_law_1032 dL_law_1033 (q := 1034) rfl ?_
  refine x_callV C (roW := []) (roR := []) (ci := 8) (c_X9_count l D cy (xa 0) (xa 1) (xa 3) (xa 5) (xa 8) (xa 29) (xa 50) (xa 57) (xa 58) kf (xa 2) tn tx (xa 9) (xa 10) (xa 12) (xa 19) (xa 22) (xa 25) (xa 11) (xa 28) cols lc smp (xa 20) (xa 21) nse fs gs (xa 23) (xa 24) npa fp gp (xa 26) (xa 27) nbo fb gb (xs (i + 1)) ) (cwV 1 C.2.2.2.2.1 gL_law_X9_count rfl rfl rfl (by decide +kernel) (by rw [hR]; exact ⟨Nat.le_of_ble_eq_true rfl, Nat.le_of_ble_eq_true rfl⟩)) [0, 1, 2, 8, 19, 20, 21, 22, 23, 24, 25, 26, 27] [] (mapc_cons f_at_0 (mapc_cons f_at_1 (mapc_cons f_at_2 (mapc_cons f_at_8 (mapc_cons f_at_19 (mapc_cons f_at_20 (mapc_cons f_at_21 (mapc_cons f_at_22 (mapc_cons f_at_23 (mapc_cons f_at_24 (mapc_cons f_at_25 (mapc_cons f_at_26 (mapc_cons f_at_27 mapc_nil))))))))))))) (by decide) rfl (fun _ h => absurd h List.not_mem_nil) xro_nil (List.mem_append_left _ List.mem_cons_self) rfl xT_bl (fun _ _ _ _ _ _ _ => trivial) rfl rfl dL_law_1034 rfl rfl (Nat.le_of_ble_eq_true rfl) (q := 1037) rfl (k' := k) rfl (n' := n) rfl hk0 (fun v9 w9 hp => ?_)
  obtain ⟨rfl, rfl⟩ := hp
  refine x_ws (xput_keep f_at_0 (xput_keep f_at_1 (xput_keep f_at_2 (xput_keep f_at_8 (xput_keep f_at_19 (xput_keep f_at_20 (xput_keep f_at_21 (xput_keep f_at_22 (xput_keep f_at_23 (xput_keep f_at_24 (xput_keep f_at_25 (xput_keep f_at_26 (xput_keep f_at_27 xput_nil))))))))))))) ?_
  refine x_aload_n C dL_law_1037 (q := 1038) rfl rfl 2 rfl ?_
  refine lw_arg (j := 1) C hsc (by omega) (by omega) dL_law_1038 dL_law_1039 dL_law_1040 dL_law_1041 dL_law_1042 (q := 1043) rfl ?_
  refine x_callV C (roW := []) (roR := []) (ci := 9) (c_X10_count l D cy mo mr cols lc smp (pMk P) (pRs P) nse npa nbo tn kf ky j0 j1 j2 j3 j4 (xs (i + 1)) ) (cwV 1 C.2.2.2.2.1 gL_law_X10_count rfl rfl rfl (by decide +kernel) (by rw [hR]; exact ⟨Nat.le_of_ble_eq_true rfl, Nat.le_of_ble_eq_true rfl⟩)) [71] [] (mapc_cons m_at_0 mapc_nil) (by decide) rfl (fun _ h => absurd h List.not_mem_nil) xro_nil (List.mem_append_left _ List.mem_cons_self) rfl xT_bl (fun _ _ _ _ _ _ _ => trivial) rfl rfl dL_law_1043 rfl rfl (Nat.le_of_ble_eq_true rfl) (q := 1046) rfl (k' := k) rfl (n' := n) rfl hk0 (fun v9 w9 hp => ?_)
  obtain ⟨rfl, rfl⟩ := hp
  refine x_ws (xput_keep m_at_0 xput_nil) ?_
  refine x_icmp_eq C (tgt := 1264) dL_law_1046 (by decide) (q := 1049) rfl rfl rfl (fun _ => ?_) (fun hne => absurd rfl hne)
  refine x_widen (k' := k + 125) (n' := n + 401) (Nat.le_add_right _ _) (Nat.le_add_right _ _) ?_
  exact hc kf tn tx gn gx nm ss zs cols lc smp nzf tlf lnf P ky nse fs gs npa fp gp nbo fb gb bal cols' lc' smp' nzf' tlf' lnf' P' ky' nse' fs' gs' npa' fp' gp' nbo' fb' gb' Z kz ga so sz tf j0 j1 j2 j3 j4 nm9 ns9 st9 by9 lz fn fo ex wo lr9 rl9 fa9 ca9 dc9 fs9 gs9 fp9 gp9 fb9 gb9 im mi nn9 nz9 sh9 mv ld lt ln pl ⟨i1, i2, i3, i4, i5, i6, i7⟩
