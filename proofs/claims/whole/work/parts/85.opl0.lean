set_option maxHeartbeats 4000000 in
set_option maxRecDepth 100000 in
/-- the law's case 1: head -/
theorem op_head {p : Program} {l : Launch} {e : Env} {R : Room} {s : State} {m : MethodId} {args : Array Value} {below : List Frame} {meth : Method} {c : Code} {Q : State → Prop} {D : va_G} {A : Nat → Prop} {cy : Nat → ClassId} {xa mr : Nat → Nat} {mo : Nat} {tpf : Nat → Option Nat} {b i k n Ln : Nat} {xs : Nat → Int32} (C : xC p s m args meth c D cy A 4 cL_law wsL_law RL) (hR : R = room_1) (hsc : xSc A s b Ln xs) (hi : i + 6 ≤ Ln) (hLn : Ln ≤ 3072) (hkn : k + 125 ≤ R.cells ∧ n + 401 ≤ R.slots) (htp : ∀ k, k < 6 → tpf k = some (xa (59 + 2 * k))) (hc : AT p l e R s m args below meth c Q D A cy xa mr mo tpf b i (k + 125) (n + 401) 1264) : AT p l e R s m args below meth c Q D A cy xa mr mo tpf b i k n 211 := by
  intro kf tn tx gn gx nm ss zs cols lc smp nzf tlf lnf P ky nse fs gs npa fp gp nbo fb gb bal cols' lc' smp' nzf' tlf' lnf' P' ky' nse' fs' gs' npa' fp' gp' nbo' fb' gb' Z kz ga so sz tf j0 j1 j2 j3 j4 nm9 ns9 st9 by9 lz fn fo ex wo lr9 rl9 fa9 ca9 dc9 fs9 gs9 fp9 gp9 fb9 gb9 im mi nn9 nz9 sh9 mv ld lt ln pl hI
  obtain ⟨i1, i2, i3, i4, i5, i6, i7⟩ := hI
  obtain ⟨r1, r2, r3, r4, r5, r6, r7⟩ := id i4
  obtain ⟨htn, htx⟩ := id i1
  obtain ⟨hzs, hs60, hnn, hnz⟩ := id i2
  obtain ⟨hgn, hgx, hshb⟩ := id i3
  obtain ⟨hcols, hlc, hsmp, hky, htl⟩ := id r1
  obtain ⟨hns, hnb⟩ := id r2
  obtain ⟨hTL, hfm, hml, hmb, hfo4, hfn, hby, hlzb⟩ := id r3
  obtain ⟨hF, hmp, hst9, hlr9⟩ := id r4
  obtain ⟨hnse, hsr⟩ := id r5
  obtain ⟨hnpa, hpr⟩ := id r6
  obtain ⟨hnbo, hbr⟩ := id r7
  obtain ⟨hkf, hm1, hm2, hm3, hlc', hIM⟩ := id i5
  obtain ⟨htz, hts, htq1⟩ := id i6
  obtain ⟨hso, hso'⟩ := id i7
  have hP := hF.1
  have hst5 := hF.1.2.2.2
  have hml9 : pMk P ≤ lc := hF.1.2.1
  have hrm9 : pRs P ≤ pMk P := hF.1.1
  have hmk24 : pMk P ≤ 24 := Nat.le_trans hml9 hlc
  have hrs24 : pRs P ≤ 24 := Nat.le_trans hrm9 hmk24
  have hk0 : k ≤ R.cells ∧ n ≤ R.slots := ⟨by omega, by omega⟩
  have hg := hdR_congr (tx := tx) (n := tn) 5 ss zs (fun _ => 0) (fun _ => 0) 0 0 (fun c hc => absurd hc (Nat.not_lt_zero c))
  refine x_aload_n C dL_law_211 (q := 212) rfl rfl 1 rfl ?_
  refine x_callV C (roW := []) (roR := []) (ci := 8) (c_X9_head l D cy (xa 0) (xa 1) (xa 3) (xa 5) (xa 8) (xa 29) (xa 50) (xa 57) (xa 58) kf (xa 2) tn tx (xa 9) (xa 10) (xa 12) (xa 19) (xa 22) (xa 25) (xa 11) (xa 28) cols lc smp (xa 6) (xa 7) nm ss zs nzf tlf (xa 13) (xa 14) (xa 15) (xa 16) (xa 17) (xa 18) P ky (xa 20) (xa 21) nse (xa 23) (xa 24) npa (xa 26) (xa 27) nbo fs gs fp gp fb gb htn htx hzs hs60) (cwV 0 C.2.2.2.2.1 gL_law_X9_head rfl rfl rfl (by decide +kernel) (by rw [hR]; exact ⟨Nat.le_of_ble_eq_true rfl, Nat.le_of_ble_eq_true rfl⟩)) [0, 1, 2, 5, 6, 7, 8, 9, 10, 12, 13, 14, 15, 16, 17, 18, 19, 20, 21, 22, 23, 24, 25, 26, 27] [] (mapc_cons f_at_0 (mapc_cons f_at_1 (mapc_cons f_at_2 (mapc_cons f_at_5 (mapc_cons f_at_6 (mapc_cons f_at_7 (mapc_cons f_at_8 (mapc_cons f_at_9 (mapc_cons f_at_10 (mapc_cons f_at_12 (mapc_cons f_at_13 (mapc_cons f_at_14 (mapc_cons f_at_15 (mapc_cons f_at_16 (mapc_cons f_at_17 (mapc_cons f_at_18 (mapc_cons f_at_19 (mapc_cons f_at_20 (mapc_cons f_at_21 (mapc_cons f_at_22 (mapc_cons f_at_23 (mapc_cons f_at_24 (mapc_cons f_at_25 (mapc_cons f_at_26 (mapc_cons f_at_27 mapc_nil))))))))))))))))))))))))) (by decide) rfl (fun _ h => absurd h List.not_mem_nil) xro_nil (List.mem_append_left _ List.mem_cons_self) rfl xT_bl (fun _ _ _ _ _ _ _ => trivial) rfl rfl dL_law_212 rfl rfl (Nat.le_of_ble_eq_true rfl) (q := 215) rfl (k' := k) rfl (n' := n) rfl hk0 (fun v9 w9 hp => ?_)
  rcases hp with hp | hp
  · skip
    obtain ⟨r, hpc, m2, ss2, zs2, rfl, rfl, hq1_0, hq1_1, hq1_2, hq1_3, hq1_4, hq1_5⟩ := hp
    refine x_ws (xput_keep f_at_0 (xput_chg f_set_1 (xput_keep f_at_2 (xput_chg f_set_5 (xput_chg f_set_6 (xput_chg f_set_7 (xput_keep f_at_8 (xput_keep f_at_9 (xput_keep f_at_10 (xput_keep f_at_12 (xput_keep f_at_13 (xput_keep f_at_14 (xput_keep f_at_15 (xput_keep f_at_16 (xput_keep f_at_17 (xput_keep f_at_18 (xput_keep f_at_19 (xput_keep f_at_20 (xput_keep f_at_21 (xput_keep f_at_22 (xput_keep f_at_23 (xput_keep f_at_24 (xput_keep f_at_25 (xput_keep f_at_26 (xput_keep f_at_27 xput_nil))))))))))))))))))))))))) ?_
    rw [hq1_0] at hg
    refine x_aload_n C dL_law_215 (q := 216) rfl rfl 2 rfl ?_
    refine x_callV C (roW := []) (roR := []) (ci := 9) (c_X10_head l D cy mo mr cols lc smp (pMk P) (pRs P) nse npa nbo tn kf ky j0 j1 j2 j3 j4 tx nn9 nz9 nm9 ns9 tlf rl9 fa9 ca9 dc9 st9 htn htx hnn hnz) (cwV 0 C.2.2.2.2.1 gL_law_X10_head rfl rfl rfl (by decide +kernel) (by rw [hR]; exact ⟨Nat.le_of_ble_eq_true rfl, Nat.le_of_ble_eq_true rfl⟩)) [71, 93, 96, 97, 72, 73, 74, 83, 84, 85, 86, 75] [] (mapc_cons m_at_0 (mapc_cons m_at_22 (mapc_cons m_at_25 (mapc_cons m_at_26 (mapc_cons m_at_1 (mapc_cons m_at_2 (mapc_cons m_at_3 (mapc_cons m_at_12 (mapc_cons m_at_13 (mapc_cons m_at_14 (mapc_cons m_at_15 (mapc_cons m_at_4 mapc_nil)))))))))))) (by decide) rfl (fun _ h => absurd h List.not_mem_nil) xro_nil (List.mem_append_left _ List.mem_cons_self) rfl xT_bl (fun _ _ _ _ _ _ _ => trivial) rfl rfl dL_law_216 rfl rfl (Nat.le_of_ble_eq_true rfl) (q := 219) rfl (k' := k) rfl (n' := n) rfl hk0 (fun v9 w9 hp => ?_)
    rcases hp with hp | hp
    · skip
      obtain ⟨r9, m9, ss9, zs9, nn2, nz2, hp9, rfl, rfl, hq2_0, hq2_1, hq2_2, hq2_3, hq2_4⟩ := hp
      refine x_ws (xput_chg m_set_0 (xput_keep m_at_22 (xput_chg m_set_25 (xput_chg m_set_26 (xput_keep m_at_1 (xput_keep m_at_2 (xput_keep m_at_3 (xput_keep m_at_12 (xput_keep m_at_13 (xput_keep m_at_14 (xput_keep m_at_15 (xput_keep m_at_4 xput_nil)))))))))))) ?_
      rw [hq2_0] at hg
      obtain ⟨g1, g2, g3⟩ := hg
      have g2 : m2 = m9 := g2
      subst g2
      have g1 : hpc = hp9 := g1
      refine x_icmp_eq C (tgt := 1264) dL_law_219 (by decide) (q := 222) rfl rfl rfl (fun _ => ?_) (fun hne => (hne (congrArg Int32.toInt (int32_eq (by rw [hq1_2, hq2_2, g1])))).elim)
      refine x_widen (k' := k + 125) (n' := n + 401) (Nat.le_add_right _ _) (Nat.le_add_right _ _) ?_
      exact hc kf 0 tx gn gx m2 ss2 zs2 cols lc smp nzf tlf lnf P ky nse fs gs npa fp gp nbo fb gb bal cols' lc' smp' nzf' tlf' lnf' P' ky' nse' fs' gs' npa' fp' gp' nbo' fb' gb' Z kz ga so sz tf j0 j1 j2 (nI m2) j4 nm9 ns9 st9 by9 lz fn fo ex wo lr9 rl9 fa9 ca9 dc9 fs9 gs9 fp9 gp9 fb9 gb9 im mi nn2 nz2 sh9 mv ld lt ln pl ⟨⟨Nat.zero_le 60, htx⟩, ⟨hq1_3, hq1_4, hq2_3, hq2_4⟩, i3, i4, i5, i6, i7⟩
    · skip
      obtain ⟨m9, ss9, zs9, nn2, nz2, ns2, rfl, rfl, hq3_0, hq3_1, hq3_2, hq3_3, hq3_4, hq3_5⟩ := hp
      refine x_ws (xput_chg m_set_0 (xput_keep m_at_22 (xput_chg m_set_25 (xput_chg m_set_26 (xput_chg m_set_1 (xput_chg m_set_2 (xput_chg m_set_3 (xput_chg m_set_12 (xput_chg m_set_13 (xput_chg m_set_14 (xput_chg m_set_15 (xput_chg m_set_4 xput_nil)))))))))))) ?_
      rw [hq3_0] at hg
      obtain ⟨g1, g2, g3⟩ := hg
      exfalso
      exact hq1_1 g1
  · skip
    obtain ⟨m2, ss2, zs2, rfl, rfl, hq4_0, hq4_1, hq4_2, hq4_3⟩ := hp
    refine x_ws (xput_keep f_at_0 (xput_chg f_set_1 (xput_keep f_at_2 (xput_chg f_set_5 (xput_chg f_set_6 (xput_chg f_set_7 (xput_chg f_set_8 (xput_chg f_set_9 (xput_chg f_set_10 (xput_chg f_set_12 (xput_chg f_set_13 (xput_chg f_set_14 (xput_chg f_set_15 (xput_chg f_set_16 (xput_chg f_set_17 (xput_chg f_set_18 (xput_chg f_set_19 (xput_keep f_at_20 (xput_keep f_at_21 (xput_chg f_set_22 (xput_keep f_at_23 (xput_keep f_at_24 (xput_chg f_set_25 (xput_keep f_at_26 (xput_keep f_at_27 xput_nil))))))))))))))))))))))))) ?_
    rw [hq4_0] at hg
    refine x_aload_n C dL_law_215 (q := 216) rfl rfl 2 rfl ?_
    refine x_callV C (roW := []) (roR := []) (ci := 9) (c_X10_head l D cy mo mr cols lc smp (pMk P) (pRs P) nse npa nbo tn kf ky j0 j1 j2 j3 j4 tx nn9 nz9 nm9 ns9 tlf rl9 fa9 ca9 dc9 st9 htn htx hnn hnz) (cwV 0 C.2.2.2.2.1 gL_law_X10_head rfl rfl rfl (by decide +kernel) (by rw [hR]; exact ⟨Nat.le_of_ble_eq_true rfl, Nat.le_of_ble_eq_true rfl⟩)) [71, 93, 96, 97, 72, 73, 74, 83, 84, 85, 86, 75] [] (mapc_cons m_at_0 (mapc_cons m_at_22 (mapc_cons m_at_25 (mapc_cons m_at_26 (mapc_cons m_at_1 (mapc_cons m_at_2 (mapc_cons m_at_3 (mapc_cons m_at_12 (mapc_cons m_at_13 (mapc_cons m_at_14 (mapc_cons m_at_15 (mapc_cons m_at_4 mapc_nil)))))))))))) (by decide) rfl (fun _ h => absurd h List.not_mem_nil) xro_nil (List.mem_append_left _ List.mem_cons_self) rfl xT_bl (fun _ _ _ _ _ _ _ => trivial) rfl rfl dL_law_216 rfl rfl (Nat.le_of_ble_eq_true rfl) (q := 219) rfl (k' := k) rfl (n' := n) rfl hk0 (fun v9 w9 hp => ?_)
    rcases hp with hp | hp
    · skip
      obtain ⟨r9, m9, ss9, zs9, nn2, nz2, hp9, rfl, rfl, hq5_0, hq5_1, hq5_2, hq5_3, hq5_4⟩ := hp
      refine x_ws (xput_chg m_set_0 (xput_keep m_at_22 (xput_chg m_set_25 (xput_chg m_set_26 (xput_keep m_at_1 (xput_keep m_at_2 (xput_keep m_at_3 (xput_keep m_at_12 (xput_keep m_at_13 (xput_keep m_at_14 (xput_keep m_at_15 (xput_keep m_at_4 xput_nil)))))))))))) ?_
      rw [hq5_0] at hg
      obtain ⟨g1, g2, g3⟩ := hg
      exfalso
      exact hq5_1 g1.symm
    · skip
      obtain ⟨m9, ss9, zs9, nn2, nz2, ns2, rfl, rfl, hq6_0, hq6_1, hq6_2, hq6_3, hq6_4, hq6_5⟩ := hp
      refine x_ws (xput_chg m_set_0 (xput_keep m_at_22 (xput_chg m_set_25 (xput_chg m_set_26 (xput_chg m_set_1 (xput_chg m_set_2 (xput_chg m_set_3 (xput_chg m_set_12 (xput_chg m_set_13 (xput_chg m_set_14 (xput_chg m_set_15 (xput_chg m_set_4 xput_nil)))))))))))) ?_
      rw [hq6_0] at hg
      obtain ⟨g1, g2, g3⟩ := hg
      have g2 : m2 = m9 := g2
      subst g2
      refine x_icmp_eq C (tgt := 1264) dL_law_219 (by decide) (q := 222) rfl rfl rfl (fun _ => ?_) (fun hne => absurd rfl hne)
      refine x_widen (k' := k + 125) (n' := n + 401) (Nat.le_add_right _ _) (Nat.le_add_right _ _) ?_
      exact hc kf 0 tx gn gx m2 ss2 zs2 m2 0 smp zs2 (fun _ => 0) lnf (rs0 P) (-1) 0 fs gs 0 fp gp 0 fb gb bal cols' lc' smp' nzf' tlf' lnf' P' ky' nse' fs' gs' npa' fp' gp' nbo' fb' gb' Z kz ga so sz tf j0 j1 j2 (nI m2) j4 nn2 ns2 (fun _ => 0) by9 lz fn fo ex wo lr9 (fun _ => -5) (fun _ => -5) (fun _ => -5) (fun _ => -5) fs9 gs9 fp9 gp9 fb9 gb9 im mi nn2 nz2 sh9 mv ld lt ln pl ⟨⟨Nat.zero_le 60, htx⟩, ⟨hq4_1, hq4_2, hq6_3, hq6_4⟩, i3, ⟨⟨hq4_3, Nat.zero_le 24, hsmp, ⟨by decide, by show (-1 : Int) < (m2 : Int); omega⟩, fun _ => Nat.zero_le 4⟩, ⟨fun c hc => (hq6_2 c hc).trans (g3 c hc).symm, fun c hc => by rw [hq6_2 c hc]; exact hq6_5 c⟩, ⟨fun i hi => absurd hi (Nat.not_lt_zero i), hfm, fun i hi => absurd hi (Nat.not_lt_zero i), fun i hi => absurd hi (Nat.not_lt_zero i), hfo4, hfn, hby, hlzb⟩, ⟨InvF_rs P, MdP_rs hq4_3, fun _ => Nat.zero_le 4, hlr9⟩, ⟨Nat.zero_le 6, fun i hi => absurd hi (Nat.not_lt_zero i)⟩, ⟨Nat.zero_le 8, fun i hi => absurd hi (Nat.not_lt_zero i)⟩, ⟨Nat.zero_le 8, fun i hi => absurd hi (Nat.not_lt_zero i)⟩⟩, i5, i6, i7⟩
theorem lw_tail {F M pl e : va_W} : (F ++ (M ++ pl)) ++ e = F ++ (M ++ (pl ++ e)) := by rw [List.append_assoc, List.append_assoc]
theorem up_le {f : Nat → Nat} {b k v : Nat} (h : ∀ q, f q ≤ b) (hv : v ≤ b) : ∀ q, va_up f k v q ≤ b := fun q => by
  unfold va_up
  split
  · exact hv
  · exact h q
theorem LnF_more {cy : Nat → ClassId} {pl pl2 : va_W} {tx : Nat → Nat} {n : Nat} {ad : Nat → Option Nat} (h : LnF cy pl tx n ad) (hs : ∀ q ∈ pl, q ∈ pl2) : LnF cy pl2 tx n ad := fun i hi => by
  obtain ⟨q, sg, h1, h2, h3⟩ := h i hi
  exact ⟨q, sg, h1, hs _ h2, hs _ h3⟩
set_option maxHeartbeats 4000000 in
set_option maxRecDepth 100000 in
/-- the law's case 2: line -/
theorem op_line {p : Program} {l : Launch} {e : Env} {R : Room} {s : State} {m : MethodId} {args : Array Value} {below : List Frame} {meth : Method} {c : Code} {Q : State → Prop} {D : va_G} {A : Nat → Prop} {cy : Nat → ClassId} {xa mr : Nat → Nat} {mo : Nat} {tpf : Nat → Option Nat} {b i k n Ln : Nat} {xs : Nat → Int32} {t0 : Nat} {adK adV : Nat → Nat} (C : xC p s m args meth c D cy A 4 cL_law wsL_law RL) (hR : R = room_1) (hsc : xSc A s b Ln xs) (hi : i + 6 ≤ Ln) (hLn : Ln ≤ 3072) (hkn : k + 125 ≤ R.cells ∧ n + 401 ≤ R.slots) (htp : ∀ k, k < 6 → tpf k = some (xa (59 + 2 * k))) (hZA : xZA t0 adK adV A s) (hc : AT p l e R s m args below meth c Q D A cy xa mr mo tpf b i (k + 125) (n + 401) 1264) : AT p l e R s m args below meth c Q D A cy xa mr mo tpf b i k n 224 := by
  intro kf tn tx gn gx nm ss zs cols lc smp nzf tlf lnf P ky nse fs gs npa fp gp nbo fb gb bal cols' lc' smp' nzf' tlf' lnf' P' ky' nse' fs' gs' npa' fp' gp' nbo' fb' gb' Z kz ga so sz tf j0 j1 j2 j3 j4 nm9 ns9 st9 by9 lz fn fo ex wo lr9 rl9 fa9 ca9 dc9 fs9 gs9 fp9 gp9 fb9 gb9 im mi nn9 nz9 sh9 mv ld lt ln pl hI
  obtain ⟨i1, i2, i3, i4, i5, i6, i7⟩ := hI
  obtain ⟨r1, r2, r3, r4, r5, r6, r7⟩ := id i4
  obtain ⟨htn, htx⟩ := id i1
  obtain ⟨hzs, hs60, hnn, hnz⟩ := id i2
  obtain ⟨hgn, hgx, hshb⟩ := id i3
  obtain ⟨hcols, hlc, hsmp, hky, htl⟩ := id r1
  obtain ⟨hns, hnb⟩ := id r2
  obtain ⟨hTL, hfm, hml, hmb, hfo4, hfn, hby, hlzb⟩ := id r3
  obtain ⟨hF, hmp, hst9, hlr9⟩ := id r4
  obtain ⟨hnse, hsr⟩ := id r5
  obtain ⟨hnpa, hpr⟩ := id r6
  obtain ⟨hnbo, hbr⟩ := id r7
  obtain ⟨hkf, hm1, hm2, hm3, hlc', hIM⟩ := id i5
  obtain ⟨htz, hts, htq1⟩ := id i6
  obtain ⟨hso, hso'⟩ := id i7
  have hP := hF.1
  have hst5 := hF.1.2.2.2
  have hml9 : pMk P ≤ lc := hF.1.2.1
  have hrm9 : pRs P ≤ pMk P := hF.1.1
  have hmk24 : pMk P ≤ 24 := Nat.le_trans hml9 hlc
  have hrs24 : pRs P ≤ 24 := Nat.le_trans hrm9 hmk24
  have hk0 : k ≤ R.cells ∧ n ≤ R.slots := ⟨by omega, by omega⟩
  refine x_aload_n C dL_law_224 (q := 225) rfl rfl 1 rfl ?_
  refine x_callV C (roW := []) (roR := []) (ci := 8) (c_X9_line l D cy t0 adK adV (xa 0) (xa 1) (xa 3) (xa 5) (xa 8) (xa 29) (xa 50) (xa 57) (xa 58) kf (xa 2) tn tx (xa 9) (xa 10) (xa 12) (xa 19) (xa 22) (xa 25) (xa 11) (xa 28) cols lc smp lnf htn htx hcols hlc) (cwV 0 C.2.2.2.2.1 gL_law_X9_line rfl rfl rfl (by decide +kernel) (by rw [hR]; exact ⟨Nat.le_of_ble_eq_true rfl, Nat.le_of_ble_eq_true rfl⟩)) [0, 1, 2, 8, 11] [] (mapc_cons f_at_0 (mapc_cons f_at_1 (mapc_cons f_at_2 (mapc_cons f_at_8 (mapc_cons f_at_11 mapc_nil))))) (by decide) rfl (fun _ h => absurd h List.not_mem_nil) xro_nil (List.mem_append_left _ List.mem_cons_self) rfl (xZA_bl t0 adK adV) (fun H9 locs9 U9 hS9 hF9 hU9 hW9 => xZA_call hZA hS9 hF9 hU9 hW9) rfl rfl dL_law_225 rfl rfl (Nat.le_of_ble_eq_true rfl) (q := 228) rfl (k' := k + 125) rfl (n' := n + 401) rfl ⟨by omega, by omega⟩ (fun v9 w9 hp => ?_)
  rcases hp with hp | hp | hp | hp
  · skip
    obtain ⟨rfl, rfl, hq1_0⟩ := hp
    refine x_ws (xput_keep f_at_0 (xput_keep f_at_1 (xput_keep f_at_2 (xput_keep f_at_8 (xput_keep f_at_11 xput_nil))))) ?_
    refine x_aload_n C dL_law_228 (q := 229) rfl rfl 2 rfl ?_
    refine x_callV C (roW := []) (roR := []) (ci := 9) (c_X10_line l D cy mo mr cols lc smp (pMk P) (pRs P) nse npa nbo tn kf ky j0 j1 j2 j3 j4 tx by9 lz fn fo ex wo htn htx hby hcols hlc hfo4 hlzb) (cwV 0 C.2.2.2.2.1 gL_law_X10_line rfl rfl rfl (by decide +kernel) (by rw [hR]; exact ⟨Nat.le_of_ble_eq_true rfl, Nat.le_of_ble_eq_true rfl⟩)) [71, 93, 76, 77, 78, 79, 80, 81] [] (mapc_cons m_at_0 (mapc_cons m_at_22 (mapc_cons m_at_5 (mapc_cons m_at_6 (mapc_cons m_at_7 (mapc_cons m_at_8 (mapc_cons m_at_9 (mapc_cons m_at_10 mapc_nil)))))))) (by decide) rfl (fun _ h => absurd h List.not_mem_nil) xro_nil (List.mem_append_left _ List.mem_cons_self) rfl xT_bl (fun _ _ _ _ _ _ _ => trivial) rfl rfl dL_law_229 rfl rfl (Nat.le_of_ble_eq_true rfl) (q := 232) rfl (k' := k + 125) rfl (n' := n + 401) rfl hkn (fun v9 w9 hp => ?_)
    rcases hp with hp | hp | hp | hp
    · skip
      obtain ⟨rfl, rfl, hq2_0⟩ := hp
      refine x_ws (xput_keep m_at_0 (xput_keep m_at_22 (xput_keep m_at_5 (xput_keep m_at_6 (xput_keep m_at_7 (xput_keep m_at_8 (xput_keep m_at_9 (xput_keep m_at_10 xput_nil)))))))) ?_
      refine x_icmp_eq C (tgt := 1264) dL_law_232 (by decide) (q := 235) rfl rfl rfl (fun _ => ?_) (fun hne => absurd rfl hne)
      exact hc kf tn tx gn gx nm ss zs cols lc smp nzf tlf lnf P ky nse fs gs npa fp gp nbo fb gb bal cols' lc' smp' nzf' tlf' lnf' P' ky' nse' fs' gs' npa' fp' gp' nbo' fb' gb' Z kz ga so sz tf j0 j1 j2 j3 j4 nm9 ns9 st9 by9 lz fn fo ex wo lr9 rl9 fa9 ca9 dc9 fs9 gs9 fp9 gp9 fb9 gb9 im mi nn9 nz9 sh9 mv ld lt ln pl ⟨i1, i2, i3, i4, i5, i6, i7⟩
    · skip
      obtain ⟨rfl, rfl, hq3_0, hq3_1⟩ := hp
      refine x_ws (xput_keep m_at_0 (xput_keep m_at_22 (xput_keep m_at_5 (xput_keep m_at_6 (xput_keep m_at_7 (xput_keep m_at_8 (xput_keep m_at_9 (xput_keep m_at_10 xput_nil)))))))) ?_
      exfalso
      omega
    · skip
      obtain ⟨r9, rfl, rfl, hq4_0, hq4_1, hq4_2, hq4_3⟩ := hp
      refine x_ws (xput_chg m_set_0 (xput_keep m_at_22 (xput_keep m_at_5 (xput_keep m_at_6 (xput_keep m_at_7 (xput_keep m_at_8 (xput_keep m_at_9 (xput_keep m_at_10 xput_nil)))))))) ?_
      exfalso
      omega
    · skip
      obtain ⟨by2, fo2, ex2, wo2, rfl, rfl, hq5_0, hq5_1, hq5_2, hq5_3, hq5_4, hq5_5, hq5_6, hq5_7, hq5_8⟩ := hp
      refine x_ws (xput_chg m_set_0 (xput_keep m_at_22 (xput_chg m_set_5 (xput_chg m_set_6 (xput_chg m_set_7 (xput_chg m_set_8 (xput_chg m_set_9 (xput_chg m_set_10 xput_nil)))))))) ?_
      exfalso
      omega
  · skip
    obtain ⟨rfl, rfl, hq6_0, hq6_1⟩ := hp
    refine x_ws (xput_keep f_at_0 (xput_keep f_at_1 (xput_keep f_at_2 (xput_keep f_at_8 (xput_keep f_at_11 xput_nil))))) ?_
    refine x_aload_n C dL_law_228 (q := 229) rfl rfl 2 rfl ?_
    refine x_callV C (roW := []) (roR := []) (ci := 9) (c_X10_line l D cy mo mr cols lc smp (pMk P) (pRs P) nse npa nbo tn kf ky j0 j1 j2 j3 j4 tx by9 lz fn fo ex wo htn htx hby hcols hlc hfo4 hlzb) (cwV 0 C.2.2.2.2.1 gL_law_X10_line rfl rfl rfl (by decide +kernel) (by rw [hR]; exact ⟨Nat.le_of_ble_eq_true rfl, Nat.le_of_ble_eq_true rfl⟩)) [71, 93, 76, 77, 78, 79, 80, 81] [] (mapc_cons m_at_0 (mapc_cons m_at_22 (mapc_cons m_at_5 (mapc_cons m_at_6 (mapc_cons m_at_7 (mapc_cons m_at_8 (mapc_cons m_at_9 (mapc_cons m_at_10 mapc_nil)))))))) (by decide) rfl (fun _ h => absurd h List.not_mem_nil) xro_nil (List.mem_append_left _ List.mem_cons_self) rfl xT_bl (fun _ _ _ _ _ _ _ => trivial) rfl rfl dL_law_229 rfl rfl (Nat.le_of_ble_eq_true rfl) (q := 232) rfl (k' := k + 125) rfl (n' := n + 401) rfl hkn (fun v9 w9 hp => ?_)
    rcases hp with hp | hp | hp | hp
    · skip
      obtain ⟨rfl, rfl, hq7_0⟩ := hp
      refine x_ws (xput_keep m_at_0 (xput_keep m_at_22 (xput_keep m_at_5 (xput_keep m_at_6 (xput_keep m_at_7 (xput_keep m_at_8 (xput_keep m_at_9 (xput_keep m_at_10 xput_nil)))))))) ?_
      exfalso
      omega
    · skip
      obtain ⟨rfl, rfl, hq8_0, hq8_1⟩ := hp
      refine x_ws (xput_keep m_at_0 (xput_keep m_at_22 (xput_keep m_at_5 (xput_keep m_at_6 (xput_keep m_at_7 (xput_keep m_at_8 (xput_keep m_at_9 (xput_keep m_at_10 xput_nil)))))))) ?_
      refine x_icmp_eq C (tgt := 1264) dL_law_232 (by decide) (q := 235) rfl rfl rfl (fun _ => ?_) (fun hne => absurd rfl hne)
      exact hc kf tn tx gn gx nm ss zs cols lc smp nzf tlf lnf P ky nse fs gs npa fp gp nbo fb gb bal cols' lc' smp' nzf' tlf' lnf' P' ky' nse' fs' gs' npa' fp' gp' nbo' fb' gb' Z kz ga so sz tf j0 j1 j2 j3 j4 nm9 ns9 st9 by9 lz fn fo ex wo lr9 rl9 fa9 ca9 dc9 fs9 gs9 fp9 gp9 fb9 gb9 im mi nn9 nz9 sh9 mv ld lt ln pl ⟨i1, i2, i3, i4, i5, i6, i7⟩
    · skip
      obtain ⟨r9, rfl, rfl, hq9_0, hq9_1, hq9_2, hq9_3⟩ := hp
      refine x_ws (xput_chg m_set_0 (xput_keep m_at_22 (xput_keep m_at_5 (xput_keep m_at_6 (xput_keep m_at_7 (xput_keep m_at_8 (xput_keep m_at_9 (xput_keep m_at_10 xput_nil)))))))) ?_
      exfalso
      omega
    · skip
      obtain ⟨by2, fo2, ex2, wo2, rfl, rfl, hq10_0, hq10_1, hq10_2, hq10_3, hq10_4, hq10_5, hq10_6, hq10_7, hq10_8⟩ := hp
      refine x_ws (xput_chg m_set_0 (xput_keep m_at_22 (xput_chg m_set_5 (xput_chg m_set_6 (xput_chg m_set_7 (xput_chg m_set_8 (xput_chg m_set_9 (xput_chg m_set_10 xput_nil)))))))) ?_
      exfalso
      omega
  · skip
    obtain ⟨r, rfl, rfl, hq11_0, hq11_1, hq11_2, hq11_3⟩ := hp
    refine x_ws (xput_keep f_at_0 (xput_chg f_set_1 (xput_keep f_at_2 (xput_keep f_at_8 (xput_keep f_at_11 xput_nil))))) ?_
    refine x_aload_n C dL_law_228 (q := 229) rfl rfl 2 rfl ?_
    refine x_callV C (roW := []) (roR := []) (ci := 9) (c_X10_line l D cy mo mr cols lc smp (pMk P) (pRs P) nse npa nbo tn kf ky j0 j1 j2 j3 j4 tx by9 lz fn fo ex wo htn htx hby hcols hlc hfo4 hlzb) (cwV 0 C.2.2.2.2.1 gL_law_X10_line rfl rfl rfl (by decide +kernel) (by rw [hR]; exact ⟨Nat.le_of_ble_eq_true rfl, Nat.le_of_ble_eq_true rfl⟩)) [71, 93, 76, 77, 78, 79, 80, 81] [] (mapc_cons m_at_0 (mapc_cons m_at_22 (mapc_cons m_at_5 (mapc_cons m_at_6 (mapc_cons m_at_7 (mapc_cons m_at_8 (mapc_cons m_at_9 (mapc_cons m_at_10 mapc_nil)))))))) (by decide) rfl (fun _ h => absurd h List.not_mem_nil) xro_nil (List.mem_append_left _ List.mem_cons_self) rfl xT_bl (fun _ _ _ _ _ _ _ => trivial) rfl rfl dL_law_229 rfl rfl (Nat.le_of_ble_eq_true rfl) (q := 232) rfl (k' := k + 125) rfl (n' := n + 401) rfl hkn (fun v9 w9 hp => ?_)
    rcases hp with hp | hp | hp | hp
    · skip
      obtain ⟨rfl, rfl, hq12_0⟩ := hp
      refine x_ws (xput_keep m_at_0 (xput_keep m_at_22 (xput_keep m_at_5 (xput_keep m_at_6 (xput_keep m_at_7 (xput_keep m_at_8 (xput_keep m_at_9 (xput_keep m_at_10 xput_nil)))))))) ?_
      exfalso
      omega
    · skip
      obtain ⟨rfl, rfl, hq13_0, hq13_1⟩ := hp
      refine x_ws (xput_keep m_at_0 (xput_keep m_at_22 (xput_keep m_at_5 (xput_keep m_at_6 (xput_keep m_at_7 (xput_keep m_at_8 (xput_keep m_at_9 (xput_keep m_at_10 xput_nil)))))))) ?_
      exfalso
      omega
    · skip
      obtain ⟨r9, rfl, rfl, hq14_0, hq14_1, hq14_2, hq14_3⟩ := hp
      refine x_ws (xput_chg m_set_0 (xput_keep m_at_22 (xput_keep m_at_5 (xput_keep m_at_6 (xput_keep m_at_7 (xput_keep m_at_8 (xput_keep m_at_9 (xput_keep m_at_10 xput_nil)))))))) ?_
      refine x_icmp_eq C (tgt := 1264) dL_law_232 (by decide) (q := 235) rfl rfl rfl (fun _ => ?_) (fun hne => (hne (congrArg Int32.toInt (int32_eq (by rw [hq11_3, hq14_3])))).elim)
      exact hc kf 0 tx gn gx nm ss zs cols lc smp nzf tlf lnf P ky nse fs gs npa fp gp nbo fb gb bal cols' lc' smp' nzf' tlf' lnf' P' ky' nse' fs' gs' npa' fp' gp' nbo' fb' gb' Z kz ga so sz tf j0 j1 j2 j3 j4 nm9 ns9 st9 by9 lz fn fo ex wo lr9 rl9 fa9 ca9 dc9 fs9 gs9 fp9 gp9 fb9 gb9 im mi nn9 nz9 sh9 mv ld lt ln pl ⟨⟨Nat.zero_le 60, htx⟩, i2, i3, i4, i5, i6, i7⟩
    · skip
      obtain ⟨by2, fo2, ex2, wo2, rfl, rfl, hq15_0, hq15_1, hq15_2, hq15_3, hq15_4, hq15_5, hq15_6, hq15_7, hq15_8⟩ := hp
      refine x_ws (xput_chg m_set_0 (xput_keep m_at_22 (xput_chg m_set_5 (xput_chg m_set_6 (xput_chg m_set_7 (xput_chg m_set_8 (xput_chg m_set_9 (xput_chg m_set_10 xput_nil)))))))) ?_
      exfalso
      omega
  · skip
    obtain ⟨lna, fa, ad, pl2, rfl, rfl, hq16_0, hq16_1, hq16_2, hq16_3⟩ := hp
    refine x_ws (xput_keep f_at_0 (xput_chg f_set_1 (xput_keep f_at_2 (xput_chg f_set_8 (xput_chg f_set_11 (xput_end.trans lw_tail)))))) ?_
    refine x_aload_n C dL_law_228 (q := 229) rfl rfl 2 rfl ?_
    refine x_callV C (roW := []) (roR := []) (ci := 9) (c_X10_line l D cy mo mr cols lc smp (pMk P) (pRs P) nse npa nbo tn kf ky j0 j1 j2 j3 j4 tx by9 lz fn fo ex wo htn htx hby hcols hlc hfo4 hlzb) (cwV 0 C.2.2.2.2.1 gL_law_X10_line rfl rfl rfl (by decide +kernel) (by rw [hR]; exact ⟨Nat.le_of_ble_eq_true rfl, Nat.le_of_ble_eq_true rfl⟩)) [71, 93, 76, 77, 78, 79, 80, 81] [] (mapc_cons m_at_0 (mapc_cons m_at_22 (mapc_cons m_at_5 (mapc_cons m_at_6 (mapc_cons m_at_7 (mapc_cons m_at_8 (mapc_cons m_at_9 (mapc_cons m_at_10 mapc_nil)))))))) (by decide) rfl (fun _ h => absurd h List.not_mem_nil) xro_nil (List.mem_append_left _ List.mem_cons_self) rfl xT_bl (fun _ _ _ _ _ _ _ => trivial) rfl rfl dL_law_229 rfl rfl (Nat.le_of_ble_eq_true rfl) (q := 232) rfl (k' := k + 125) rfl (n' := n + 401) rfl hkn (fun v9 w9 hp => ?_)
    rcases hp with hp | hp | hp | hp
    · skip
      obtain ⟨rfl, rfl, hq17_0⟩ := hp
      refine x_ws (xput_keep m_at_0 (xput_keep m_at_22 (xput_keep m_at_5 (xput_keep m_at_6 (xput_keep m_at_7 (xput_keep m_at_8 (xput_keep m_at_9 (xput_keep m_at_10 xput_nil)))))))) ?_
      exfalso
      omega
    · skip
      obtain ⟨rfl, rfl, hq18_0, hq18_1⟩ := hp
      refine x_ws (xput_keep m_at_0 (xput_keep m_at_22 (xput_keep m_at_5 (xput_keep m_at_6 (xput_keep m_at_7 (xput_keep m_at_8 (xput_keep m_at_9 (xput_keep m_at_10 xput_nil)))))))) ?_
      exfalso
      omega
    · skip
      obtain ⟨r9, rfl, rfl, hq19_0, hq19_1, hq19_2, hq19_3⟩ := hp
      refine x_ws (xput_chg m_set_0 (xput_keep m_at_22 (xput_keep m_at_5 (xput_keep m_at_6 (xput_keep m_at_7 (xput_keep m_at_8 (xput_keep m_at_9 (xput_keep m_at_10 xput_nil)))))))) ?_
      exfalso
      omega
    · skip
      obtain ⟨by2, fo2, ex2, wo2, rfl, rfl, hq20_0, hq20_1, hq20_2, hq20_3, hq20_4, hq20_5, hq20_6, hq20_7, hq20_8⟩ := hp
      refine x_ws (xput_chg m_set_0 (xput_keep m_at_22 (xput_chg m_set_5 (xput_chg m_set_6 (xput_chg m_set_7 (xput_chg m_set_8 (xput_chg m_set_9 (xput_chg m_set_10 xput_nil)))))))) ?_
      refine x_icmp_eq C (tgt := 1264) dL_law_232 (by decide) (q := 235) rfl rfl rfl (fun _ => ?_) (fun hne => absurd rfl hne)
      have hs1 : ∀ q ∈ pl, q ∈ pl ++ ((lna, .inr (3, [.ref fa])) :: (fa, .inl (cy 3, nF tx tn, .inr (.inr (.inr (.inr ad))))) :: pl2) := fun q hq => List.mem_append_left _ hq
      have hs2 : ∀ q ∈ pl2, q ∈ pl ++ ((lna, .inr (3, [.ref fa])) :: (fa, .inl (cy 3, nF tx tn, .inr (.inr (.inr (.inr ad))))) :: pl2) := fun q hq => List.mem_append_right _ (List.mem_cons_of_mem _ (List.mem_cons_of_mem _ hq))
      have hc1 : (lna, .inr (3, [.ref fa])) ∈ pl ++ ((lna, .inr (3, [.ref fa])) :: (fa, .inl (cy 3, nF tx tn, .inr (.inr (.inr (.inr ad))))) :: pl2) := List.mem_append_right _ List.mem_cons_self
      have hc2 : (fa, .inl (cy 3, nF tx tn, .inr (.inr (.inr (.inr ad))))) ∈ pl ++ ((lna, .inr (3, [.ref fa])) :: (fa, .inl (cy 3, nF tx tn, .inr (.inr (.inr (.inr ad))))) :: pl2) := List.mem_append_right _ (List.mem_cons_of_mem _ List.mem_cons_self)
      have hLn := LnF_more hq16_3 hs2
      have hnF := nF_61 (tx := tx) htn
      exact hc kf 0 tx gn gx nm ss zs cols (lc + 1) smp nzf tlf (va_up lnf lc (some lna)) P ky nse fs gs npa fp gp nbo fb gb bal cols' lc' smp' nzf' tlf' lnf' P' ky' nse' fs' gs' npa' fp' gp' nbo' fb' gb' Z kz ga so sz tf j0 j1 j2 j3 j4 nm9 ns9 st9 by2 (va_up lz lc tn) (va_up fn lc (nF tx tn)) fo2 ex2 wo2 lr9 rl9 fa9 ca9 dc9 fs9 gs9 fp9 gp9 fb9 gb9 im mi nn9 nz9 sh9 mv (ldU ld lc tx tn) (va_up lt lc tx) (va_up ln lc tn) (pl ++ ((lna, .inr (3, [.ref fa])) :: (fa, .inl (cy 3, nF tx tn, .inr (.inr (.inr (.inr ad))))) :: pl2)) ⟨⟨Nat.zero_le 60, htx⟩, i2, i3, ⟨⟨hcols, by omega, hsmp, hky, htl⟩, r2, ⟨TbL_ld hTL hs1 hc1 hc2 hnF hLn, hfm_ld hfm, MdL_ld hml hq20_6 hq20_7 hnF, MdB_ld hmb htn htx hq16_2 hq20_4 hq20_5, hq20_8, up_le hfn hnF, hq20_3, up_le hlzb htn⟩, ⟨InvF_ld hF, hmp, hst9, hlr9⟩, ⟨hnse, fun i hi => ⟨(hsr i hi).1, (hsr i hi).2.1, (hsr i hi).2.2.1, by have := (hsr i hi).2.2.2; omega⟩⟩, r6, r7⟩, I5_more i5 hs1, i6, ⟨HS_up (HS_more hso hs1) hc1, HS_more hso' hs1⟩⟩
