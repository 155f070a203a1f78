set_option maxHeartbeats 4000000 in
set_option maxRecDepth 100000 in
/-- the law's case 0: feed -/
theorem op_feed {p : Program} {l : Launch} {e : Env} {R : Room} {s : State} {m : MethodId} {args : Array Value} {below : List Frame} {meth : Method} {c : Code} {Q : State → Prop} {D : va_G} {A : Nat → Prop} {cy : Nat → ClassId} {xa mr : Nat → Nat} {mo : Nat} {tpf : Nat → Option Nat} {b i k n Ln : Nat} {xs : Nat → Int32} (C : xC p s m args meth c D cy A 4 cL_law wsL_law RL) (hR : R = room_1) (hsc : xSc A s b Ln xs) (hi : i + 6 ≤ Ln) (hLn : Ln ≤ 3072) (hkn : k + 125 ≤ R.cells ∧ n + 401 ≤ R.slots) (htp : ∀ k, k < 6 → tpf k = some (xa (59 + 2 * k))) (hc : AT p l e R s m args below meth c Q D A cy xa mr mo tpf b i (k + 125) (n + 401) 1264) : AT p l e R s m args below meth c Q D A cy xa mr mo tpf b i k n 188 := by
  intro kf tn tx gn gx nm ss zs cols lc smp nzf tlf lnf P ky nse fs gs npa fp gp nbo fb gb bal cols' lc' smp' nzf' tlf' lnf' P' ky' nse' fs' gs' npa' fp' gp' nbo' fb' gb' Z kz ga so sz tf j0 j1 j2 j3 j4 nm9 ns9 st9 by9 lz fn fo ex wo lr9 rl9 fa9 ca9 dc9 fs9 gs9 fp9 gp9 fb9 gb9 im mi nn9 nz9 sh9 mv ld lt ln pl hI
  obtain ⟨i1, i2, i3, i4, i5, i6, i7⟩ := hI
  obtain ⟨r1, r2, r3, r4, r5, r6, r7⟩ := id i4
  obtain ⟨htn, htx⟩ := id i1
  obtain ⟨hzs, hs60, hnn, hnz⟩ := id i2
  obtain ⟨hgn, hgx, hshb⟩ := id i3
  obtain ⟨hcols, hlc, hsmp, hky, htl⟩ := id r1
  obtain ⟨hns, hnb⟩ := id r2
  obtain ⟨hTL, hfm, hml, hmb, hfo4, hfn, hby, hlzb⟩ := id r3
  obtain ⟨hF, hmp, hst9, hlr9⟩ := id r4
  obtain ⟨hnse, hsr⟩ := id r5
  obtain ⟨hnpa, hpr⟩ := id r6
  obtain ⟨hnbo, hbr⟩ := id r7
  obtain ⟨hkf, hm1, hm2, hm3, hlc', hIM⟩ := id i5
  obtain ⟨htz, hts, htq1⟩ := id i6
  obtain ⟨hso, hso'⟩ := id i7
  have hP := hF.1
  have hst5 := hF.1.2.2.2
  have hml9 : pMk P ≤ lc := hF.1.2.1
  have hrm9 : pRs P ≤ pMk P := hF.1.1
  have hmk24 : pMk P ≤ 24 := Nat.le_trans hml9 hlc
  have hrs24 : pRs P ≤ 24 := Nat.le_trans hrm9 hmk24
  have hk0 : k ≤ R.cells ∧ n ≤ R.slots := ⟨by omega, by omega⟩
  refine x_aload_n C dL_law_188 (q := 189) rfl rfl 1 rfl ?_
  refine lw_arg (j := 1) C hsc (by omega) (by omega) dL_law_189 dL_law_190 dL_law_191 dL_law_192 dL_law_193 (q := 194) rfl ?_
  refine x_callV C (roW := []) (roR := []) (ci := 8) (c_X9_feed l D cy (xa 0) (xa 1) (xa 3) (xa 5) (xa 8) (xa 29) (xa 50) (xa 57) (xa 58) kf (xa 2) tn tx (xs (i + 1)) htn htx) (cwV 1 C.2.2.2.2.1 gL_law_X9_feed rfl rfl rfl (by decide +kernel) (by rw [hR]; exact ⟨Nat.le_of_ble_eq_true rfl, Nat.le_of_ble_eq_true rfl⟩)) [0, 1, 2] [] (mapc_cons f_at_0 (mapc_cons f_at_1 (mapc_cons f_at_2 mapc_nil))) (by decide) rfl (fun _ h => absurd h List.not_mem_nil) xro_nil (List.mem_append_left _ List.mem_cons_self) rfl xT_bl (fun _ _ _ _ _ _ _ => trivial) rfl rfl dL_law_194 rfl rfl (Nat.le_of_ble_eq_true rfl) (q := 197) rfl (k' := k) rfl (n' := n) rfl hk0 (fun v9 w9 hp => ?_)
  obtain ⟨rfl, rfl⟩ := hp
  refine x_ws (xput_keep f_at_0 (xput_chg f_set_1 (xput_chg f_set_2 xput_nil))) ?_
  refine x_aload_n C dL_law_197 (q := 198) rfl rfl 2 rfl ?_
  refine lw_arg (j := 1) C hsc (by omega) (by omega) dL_law_198 dL_law_199 dL_law_200 dL_law_201 dL_law_202 (q := 203) rfl ?_
  refine x_callV C (roW := []) (roR := []) (ci := 9) (c_X10_feed l D cy mo mr cols lc smp (pMk P) (pRs P) nse npa nbo tn kf ky j0 j1 j2 j3 j4 tx (xs (i + 1)) htn) (cwV 1 C.2.2.2.2.1 gL_law_X10_feed rfl rfl rfl (by decide +kernel) (by rw [hR]; exact ⟨Nat.le_of_ble_eq_true rfl, Nat.le_of_ble_eq_true rfl⟩)) [71, 93] [] (mapc_cons m_at_0 (mapc_cons m_at_22 mapc_nil)) (by decide) rfl (fun _ h => absurd h List.not_mem_nil) xro_nil (List.mem_append_left _ List.mem_cons_self) rfl xT_bl (fun _ _ _ _ _ _ _ => trivial) rfl rfl dL_law_203 rfl rfl (Nat.le_of_ble_eq_true rfl) (q := 206) rfl (k' := k) rfl (n' := n) rfl hk0 (fun v9 w9 hp => ?_)
  obtain ⟨rfl, rfl⟩ := hp
  refine x_ws (xput_chg m_set_0 (xput_chg m_set_22 xput_nil)) ?_
  refine x_icmp_eq C (tgt := 1264) dL_law_206 (by decide) (q := 209) rfl rfl rfl (fun _ => ?_) (fun hne => absurd rfl hne)
  refine x_widen (k' := k + 125) (n' := n + 401) (Nat.le_add_right _ _) (Nat.le_add_right _ _) ?_
  exact hc kf ((feN tn tx (xs (i + 1))).1) ((feN tn tx (xs (i + 1))).2) gn gx nm ss zs cols lc smp nzf tlf lnf P ky nse fs gs npa fp gp nbo fb gb bal cols' lc' smp' nzf' tlf' lnf' P' ky' nse' fs' gs' npa' fp' gp' nbo' fb' gb' Z kz ga so sz tf j0 j1 j2 j3 j4 nm9 ns9 st9 by9 lz fn fo ex wo lr9 rl9 fa9 ca9 dc9 fs9 gs9 fp9 gp9 fb9 gb9 im mi nn9 nz9 sh9 mv ld lt ln pl ⟨I1_feed i1, i2, i3, i4, i5, i6, i7⟩
set_option maxHeartbeats 4000000 in
set_option maxRecDepth 100000 in
/-- the law's case 3: sample -/
theorem op_sample {p : Program} {l : Launch} {e : Env} {R : Room} {s : State} {m : MethodId} {args : Array Value} {below : List Frame} {meth : Method} {c : Code} {Q : State → Prop} {D : va_G} {A : Nat → Prop} {cy : Nat → ClassId} {xa mr : Nat → Nat} {mo : Nat} {tpf : Nat → Option Nat} {b i k n Ln : Nat} {xs : Nat → Int32} (C : xC p s m args meth c D cy A 4 cL_law wsL_law RL) (hR : R = room_1) (hsc : xSc A s b Ln xs) (hi : i + 6 ≤ Ln) (hLn : Ln ≤ 3072) (hkn : k + 125 ≤ R.cells ∧ n + 401 ≤ R.slots) (htp : ∀ k, k < 6 → tpf k = some (xa (59 + 2 * k))) (hc : AT p l e R s m args below meth c Q D A cy xa mr mo tpf b i (k + 125) (n + 401) 1264) : AT p l e R s m args below meth c Q D A cy xa mr mo tpf b i k n 237 := by
  intro kf tn tx gn gx nm ss zs cols lc smp nzf tlf lnf P ky nse fs gs npa fp gp nbo fb gb bal cols' lc' smp' nzf' tlf' lnf' P' ky' nse' fs' gs' npa' fp' gp' nbo' fb' gb' Z kz ga so sz tf j0 j1 j2 j3 j4 nm9 ns9 st9 by9 lz fn fo ex wo lr9 rl9 fa9 ca9 dc9 fs9 gs9 fp9 gp9 fb9 gb9 im mi nn9 nz9 sh9 mv ld lt ln pl hI
  obtain ⟨i1, i2, i3, i4, i5, i6, i7⟩ := hI
  obtain ⟨r1, r2, r3, r4, r5, r6, r7⟩ := id i4
  obtain ⟨htn, htx⟩ := id i1
  obtain ⟨hzs, hs60, hnn, hnz⟩ := id i2
  obtain ⟨hgn, hgx, hshb⟩ := id i3
  obtain ⟨hcols, hlc, hsmp, hky, htl⟩ := id r1
  obtain ⟨hns, hnb⟩ := id r2
  obtain ⟨hTL, hfm, hml, hmb, hfo4, hfn, hby, hlzb⟩ := id r3
  obtain ⟨hF, hmp, hst9, hlr9⟩ := id r4
  obtain ⟨hnse, hsr⟩ := id r5
  obtain ⟨hnpa, hpr⟩ := id r6
  obtain ⟨hnbo, hbr⟩ := id r7
  obtain ⟨hkf, hm1, hm2, hm3, hlc', hIM⟩ := id i5
  obtain ⟨htz, hts, htq1⟩ := id i6
  obtain ⟨hso, hso'⟩ := id i7
  have hP := hF.1
  have hst5 := hF.1.2.2.2
  have hml9 : pMk P ≤ lc := hF.1.2.1
  have hrm9 : pRs P ≤ pMk P := hF.1.1
  have hmk24 : pMk P ≤ 24 := Nat.le_trans hml9 hlc
  have hrs24 : pRs P ≤ 24 := Nat.le_trans hrm9 hmk24
  have hk0 : k ≤ R.cells ∧ n ≤ R.slots := ⟨by omega, by omega⟩
  refine x_aload_n C dL_law_237 (q := 238) rfl rfl 1 rfl ?_
  refine lw_arg (j := 1) C hsc (by omega) (by omega) dL_law_238 dL_law_239 dL_law_240 dL_law_241 dL_law_242 (q := 243) rfl ?_
  refine x_callV C (roW := []) (roR := []) (ci := 8) (c_X9_sample l D cy (xa 0) (xa 1) (xa 3) (xa 5) (xa 8) (xa 29) (xa 50) (xa 57) (xa 58) kf (xa 9) (xa 10) (xa 12) (xa 19) (xa 22) (xa 25) (xa 11) (xa 28) cols lc smp (xs (i + 1)) hcols hlc hsmp) (cwV 1 C.2.2.2.2.1 gL_law_X9_sample rfl rfl rfl (by decide +kernel) (by rw [hR]; exact ⟨Nat.le_of_ble_eq_true rfl, Nat.le_of_ble_eq_true rfl⟩)) [0, 8] [] (mapc_cons f_at_0 (mapc_cons f_at_8 mapc_nil)) (by decide) rfl (fun _ h => absurd h List.not_mem_nil) xro_nil (List.mem_append_left _ List.mem_cons_self) rfl xT_bl (fun _ _ _ _ _ _ _ => trivial) rfl rfl dL_law_243 rfl rfl (Nat.le_of_ble_eq_true rfl) (q := 246) rfl (k' := k) rfl (n' := n) rfl hk0 (fun v9 w9 hp => ?_)
  obtain ⟨rfl, rfl⟩ := hp
  refine x_ws (xput_keep f_at_0 (xput_chg f_set_8 xput_nil)) ?_
  refine x_aload_n C dL_law_246 (q := 247) rfl rfl 2 rfl ?_
  refine lw_arg (j := 1) C hsc (by omega) (by omega) dL_law_247 dL_law_248 dL_law_249 dL_law_250 dL_law_251 (q := 252) rfl ?_
  refine x_callV C (roW := []) (roR := []) (ci := 9) (c_X10_sample l D cy mo mr cols lc smp (pMk P) (pRs P) nse npa nbo tn kf ky j0 j1 j2 j3 j4 (xs (i + 1)) hsmp) (cwV 1 C.2.2.2.2.1 gL_law_X10_sample rfl rfl rfl (by decide +kernel) (by rw [hR]; exact ⟨Nat.le_of_ble_eq_true rfl, Nat.le_of_ble_eq_true rfl⟩)) [71] [] (mapc_cons m_at_0 mapc_nil) (by decide) rfl (fun _ h => absurd h List.not_mem_nil) xro_nil (List.mem_append_left _ List.mem_cons_self) rfl xT_bl (fun _ _ _ _ _ _ _ => trivial) rfl rfl dL_law_252 rfl rfl (Nat.le_of_ble_eq_true rfl) (q := 255) rfl (k' := k) rfl (n' := n) rfl hk0 (fun v9 w9 hp => ?_)
  obtain ⟨rfl, rfl⟩ := hp
  refine x_ws (xput_chg m_set_0 xput_nil) ?_
  refine x_icmp_eq C (tgt := 1264) dL_law_255 (by decide) (q := 258) rfl rfl rfl (fun _ => ?_) (fun hne => absurd rfl hne)
  refine x_widen (k' := k + 125) (n' := n + 401) (Nat.le_add_right _ _) (Nat.le_add_right _ _) ?_
  exact hc kf tn tx gn gx nm ss zs cols lc (saN smp (xs (i + 1))) nzf tlf lnf P ky nse fs gs npa fp gp nbo fb gb bal cols' lc' smp' nzf' tlf' lnf' P' ky' nse' fs' gs' npa' fp' gp' nbo' fb' gb' Z kz ga so sz tf j0 j1 j2 j3 j4 nm9 ns9 st9 by9 lz fn fo ex wo lr9 rl9 fa9 ca9 dc9 fs9 gs9 fp9 gp9 fb9 gb9 im mi nn9 nz9 sh9 mv ld lt ln pl ⟨i1, i2, i3, ⟨⟨hcols, hlc, saN_le hsmp, hky, htl⟩, r2, r3, r4, r5, r6, r7⟩, i5, i6, i7⟩
set_option maxHeartbeats 4000000 in
set_option maxRecDepth 100000 in
/-- the law's case 4: type -/
theorem op_type {p : Program} {l : Launch} {e : Env} {R : Room} {s : State} {m : MethodId} {args : Array Value} {below : List Frame} {meth : Method} {c : Code} {Q : State → Prop} {D : va_G} {A : Nat → Prop} {cy : Nat → ClassId} {xa mr : Nat → Nat} {mo : Nat} {tpf : Nat → Option Nat} {b i k n Ln : Nat} {xs : Nat → Int32} (C : xC p s m args meth c D cy A 4 cL_law wsL_law RL) (hR : R = room_1) (hsc : xSc A s b Ln xs) (hi : i + 6 ≤ Ln) (hLn : Ln ≤ 3072) (hkn : k + 125 ≤ R.cells ∧ n + 401 ≤ R.slots) (htp : ∀ k, k < 6 → tpf k = some (xa (59 + 2 * k))) (hc : AT p l e R s m args below meth c Q D A cy xa mr mo tpf b i (k + 125) (n + 401) 1264) : AT p l e R s m args below meth c Q D A cy xa mr mo tpf b i k n 260 := by
  intro kf tn tx gn gx nm ss zs cols lc smp nzf tlf lnf P ky nse fs gs npa fp gp nbo fb gb bal cols' lc' smp' nzf' tlf' lnf' P' ky' nse' fs' gs' npa' fp' gp' nbo' fb' gb' Z kz ga so sz tf j0 j1 j2 j3 j4 nm9 ns9 st9 by9 lz fn fo ex wo lr9 rl9 fa9 ca9 dc9 fs9 gs9 fp9 gp9 fb9 gb9 im mi nn9 nz9 sh9 mv ld lt ln pl hI
  obtain ⟨i1, i2, i3, i4, i5, i6, i7⟩ := hI
  obtain ⟨r1, r2, r3, r4, r5, r6, r7⟩ := id i4
  obtain ⟨htn, htx⟩ := id i1
  obtain ⟨hzs, hs60, hnn, hnz⟩ := id i2
  obtain ⟨hgn, hgx, hshb⟩ := id i3
  obtain ⟨hcols, hlc, hsmp, hky, htl⟩ := id r1
  obtain ⟨hns, hnb⟩ := id r2
  obtain ⟨hTL, hfm, hml, hmb, hfo4, hfn, hby, hlzb⟩ := id r3
  obtain ⟨hF, hmp, hst9, hlr9⟩ := id r4
  obtain ⟨hnse, hsr⟩ := id r5
  obtain ⟨hnpa, hpr⟩ := id r6
  obtain ⟨hnbo, hbr⟩ := id r7
  obtain ⟨hkf, hm1, hm2, hm3, hlc', hIM⟩ := id i5
  obtain ⟨htz, hts, htq1⟩ := id i6
  obtain ⟨hso, hso'⟩ := id i7
  have hP := hF.1
  have hst5 := hF.1.2.2.2
  have hml9 : pMk P ≤ lc := hF.1.2.1
  have hrm9 : pRs P ≤ pMk P := hF.1.1
  have hmk24 : pMk P ≤ 24 := Nat.le_trans hml9 hlc
  have hrs24 : pRs P ≤ 24 := Nat.le_trans hrm9 hmk24
  have hk0 : k ≤ R.cells ∧ n ≤ R.slots := ⟨by omega, by omega⟩
  refine x_aload_n C dL_law_260 (q := 261) rfl rfl 1 rfl ?_
  refine lw_arg (j := 1) C hsc (by omega) (by omega) dL_law_261 dL_law_262 dL_law_263 dL_law_264 dL_law_265 (q := 266) rfl ?_
  refine lw_arg (j := 2) C hsc (by omega) (by omega) dL_law_266 dL_law_267 dL_law_268 dL_law_269 dL_law_270 (q := 271) rfl ?_
  refine x_callV C (roW := []) (roR := []) (ci := 8) (c_X9_type l D cy (xa 0) (xa 1) (xa 3) (xa 5) (xa 8) (xa 29) (xa 50) (xa 57) (xa 58) kf (xa 9) (xa 10) (xa 12) (xa 19) (xa 22) (xa 25) (xa 11) (xa 28) cols lc smp tlf (xs (i + 1)) (xs (i + 2)) hcols hlc htl) (cwV 2 C.2.2.2.2.1 gL_law_X9_type rfl rfl rfl (by decide +kernel) (by rw [hR]; exact ⟨Nat.le_of_ble_eq_true rfl, Nat.le_of_ble_eq_true rfl⟩)) [0, 8, 10] [] (mapc_cons f_at_0 (mapc_cons f_at_8 (mapc_cons f_at_10 mapc_nil))) (by decide) rfl (fun _ h => absurd h List.not_mem_nil) xro_nil (List.mem_append_left _ List.mem_cons_self) rfl xT_bl (fun _ _ _ _ _ _ _ => trivial) rfl rfl dL_law_271 rfl rfl (Nat.le_of_ble_eq_true rfl) (q := 274) rfl (k' := k) rfl (n' := n) rfl hk0 (fun v9 w9 hp => ?_)
  obtain ⟨rfl, rfl⟩ := hp
  refine x_ws (xput_keep f_at_0 (xput_keep f_at_8 (xput_chg f_set_10 xput_nil))) ?_
  refine x_aload_n C dL_law_274 (q := 275) rfl rfl 2 rfl ?_
  refine lw_arg (j := 1) C hsc (by omega) (by omega) dL_law_275 dL_law_276 dL_law_277 dL_law_278 dL_law_279 (q := 280) rfl ?_
  refine lw_arg (j := 2) C hsc (by omega) (by omega) dL_law_280 dL_law_281 dL_law_282 dL_law_283 dL_law_284 (q := 285) rfl ?_
  refine x_callV C (roW := []) (roR := []) (ci := 9) (c_X10_type_ l D cy mo mr cols lc smp (pMk P) (pRs P) nse npa nbo tn kf ky j0 j1 j2 j3 j4 tlf (xs (i + 1)) (xs (i + 2)) hcols htl) (cwV 2 C.2.2.2.2.1 gL_law_X10_type_ rfl rfl rfl (by decide +kernel) (by rw [hR]; exact ⟨Nat.le_of_ble_eq_true rfl, Nat.le_of_ble_eq_true rfl⟩)) [71, 74] [] (mapc_cons m_at_0 (mapc_cons m_at_3 mapc_nil)) (by decide) rfl (fun _ h => absurd h List.not_mem_nil) xro_nil (List.mem_append_left _ List.mem_cons_self) rfl xT_bl (fun _ _ _ _ _ _ _ => trivial) rfl rfl dL_law_285 rfl rfl (Nat.le_of_ble_eq_true rfl) (q := 288) rfl (k' := k) rfl (n' := n) rfl hk0 (fun v9 w9 hp => ?_)
  obtain ⟨rfl, rfl⟩ := hp
  refine x_ws (xput_keep m_at_0 (xput_chg m_set_3 xput_nil)) ?_
  refine x_icmp_eq C (tgt := 1264) dL_law_288 (by decide) (q := 291) rfl rfl rfl (fun _ => ?_) (fun hne => absurd rfl hne)
  refine x_widen (k' := k + 125) (n' := n + 401) (Nat.le_add_right _ _) (Nat.le_add_right _ _) ?_
  exact hc kf tn tx gn gx nm ss zs cols lc smp nzf (typN cols tlf (xs (i + 1)) (xs (i + 2))) lnf P ky nse fs gs npa fp gp nbo fb gb bal cols' lc' smp' nzf' tlf' lnf' P' ky' nse' fs' gs' npa' fp' gp' nbo' fb' gb' Z kz ga so sz tf j0 j1 j2 j3 j4 nm9 ns9 st9 by9 lz fn fo ex wo lr9 rl9 fa9 ca9 dc9 fs9 gs9 fp9 gp9 fb9 gb9 im mi nn9 nz9 sh9 mv ld lt ln pl ⟨i1, i2, i3, ⟨⟨hcols, hlc, hsmp, hky, typN_le htl⟩, r2, r3, r4, r5, r6, r7⟩, i5, i6, i7⟩
set_option maxHeartbeats 4000000 in
set_option maxRecDepth 100000 in
/-- the law's case 5: key -/
theorem op_key {p : Program} {l : Launch} {e : Env} {R : Room} {s : State} {m : MethodId} {args : Array Value} {below : List Frame} {meth : Method} {c : Code} {Q : State → Prop} {D : va_G} {A : Nat → Prop} {cy : Nat → ClassId} {xa mr : Nat → Nat} {mo : Nat} {tpf : Nat → Option Nat} {b i k n Ln : Nat} {xs : Nat → Int32} (C : xC p s m args meth c D cy A 4 cL_law wsL_law RL) (hR : R = room_1) (hsc : xSc A s b Ln xs) (hi : i + 6 ≤ Ln) (hLn : Ln ≤ 3072) (hkn : k + 125 ≤ R.cells ∧ n + 401 ≤ R.slots) (htp : ∀ k, k < 6 → tpf k = some (xa (59 + 2 * k))) (hc : AT p l e R s m args below meth c Q D A cy xa mr mo tpf b i (k + 125) (n + 401) 1264) : AT p l e R s m args below meth c Q D A cy xa mr mo tpf b i k n 293 := by
  intro kf tn tx gn gx nm ss zs cols lc smp nzf tlf lnf P ky nse fs gs npa fp gp nbo fb gb bal cols' lc' smp' nzf' tlf' lnf' P' ky' nse' fs' gs' npa' fp' gp' nbo' fb' gb' Z kz ga so sz tf j0 j1 j2 j3 j4 nm9 ns9 st9 by9 lz fn fo ex wo lr9 rl9 fa9 ca9 dc9 fs9 gs9 fp9 gp9 fb9 gb9 im mi nn9 nz9 sh9 mv ld lt ln pl hI
  obtain ⟨i1, i2, i3, i4, i5, i6, i7⟩ := hI
  obtain ⟨r1, r2, r3, r4, r5, r6, r7⟩ := id i4
  obtain ⟨htn, htx⟩ := id i1
  obtain ⟨hzs, hs60, hnn, hnz⟩ := id i2
  obtain ⟨hgn, hgx, hshb⟩ := id i3
  obtain ⟨hcols, hlc, hsmp, hky, htl⟩ := id r1
  obtain ⟨hns, hnb⟩ := id r2
  obtain ⟨hTL, hfm, hml, hmb, hfo4, hfn, hby, hlzb⟩ := id r3
  obtain ⟨hF, hmp, hst9, hlr9⟩ := id r4
  obtain ⟨hnse, hsr⟩ := id r5
  obtain ⟨hnpa, hpr⟩ := id r6
  obtain ⟨hnbo, hbr⟩ := id r7
  obtain ⟨hkf, hm1, hm2, hm3, hlc', hIM⟩ := id i5
  obtain ⟨htz, hts, htq1⟩ := id i6
  obtain ⟨hso, hso'⟩ := id i7
  have hP := hF.1
  have hst5 := hF.1.2.2.2
  have hml9 : pMk P ≤ lc := hF.1.2.1
  have hrm9 : pRs P ≤ pMk P := hF.1.1
  have hmk24 : pMk P ≤ 24 := Nat.le_trans hml9 hlc
  have hrs24 : pRs P ≤ 24 := Nat.le_trans hrm9 hmk24
  have hk0 : k ≤ R.cells ∧ n ≤ R.slots := ⟨by omega, by omega⟩
  refine x_aload_n C dL_law_293 (q := 294) rfl rfl 1 rfl ?_
  refine lw_arg (j := 1) C hsc (by omega) (by omega) dL_law_294 dL_law_295 dL_law_296 dL_law_297 dL_law_298 (q := 299) rfl ?_
  refine x_callV C (roW := []) (roR := []) (ci := 8) (c_X9_key l D cy (xa 0) (xa 1) (xa 3) (xa 5) (xa 8) (xa 29) (xa 50) (xa 57) (xa 58) kf (xa 9) (xa 10) (xa 12) (xa 19) (xa 22) (xa 25) (xa 11) (xa 28) cols lc smp (xa 13) (xa 14) (xa 15) (xa 16) (xa 17) (xa 18) (pMk P) (pRs P) ky (xs (i + 1)) hcols hlc hmk24) (cwV 1 C.2.2.2.2.1 gL_law_X9_key rfl rfl rfl (by decide +kernel) (by rw [hR]; exact ⟨Nat.le_of_ble_eq_true rfl, Nat.le_of_ble_eq_true rfl⟩)) [0, 8, 12] [] (mapc_cons f_at_0 (mapc_cons f_at_8 (mapc_cons f_at_12 mapc_nil))) (by decide) rfl (fun _ h => absurd h List.not_mem_nil) xro_nil (List.mem_append_left _ List.mem_cons_self) rfl xT_bl (fun _ _ _ _ _ _ _ => trivial) rfl rfl dL_law_299 rfl rfl (Nat.le_of_ble_eq_true rfl) (q := 302) rfl (k' := k) rfl (n' := n) rfl hk0 (fun v9 w9 hp => ?_)
  obtain ⟨rfl, rfl⟩ := hp
  refine x_ws (xput_keep f_at_0 (xput_keep f_at_8 (xput_chg f_set_12 xput_nil))) ?_
  refine x_aload_n C dL_law_302 (q := 303) rfl rfl 2 rfl ?_
  refine lw_arg (j := 1) C hsc (by omega) (by omega) dL_law_303 dL_law_304 dL_law_305 dL_law_306 dL_law_307 (q := 308) rfl ?_
  refine x_callV C (roW := []) (roR := []) (ci := 9) (c_X10_key l D cy mo mr cols lc smp (pMk P) (pRs P) nse npa nbo tn kf ky j0 j1 j2 j3 j4 (xs (i + 1)) hcols hmk24 hky) (cwV 1 C.2.2.2.2.1 gL_law_X10_key rfl rfl rfl (by decide +kernel) (by rw [hR]; exact ⟨Nat.le_of_ble_eq_true rfl, Nat.le_of_ble_eq_true rfl⟩)) [71] [] (mapc_cons m_at_0 mapc_nil) (by decide) rfl (fun _ h => absurd h List.not_mem_nil) xro_nil (List.mem_append_left _ List.mem_cons_self) rfl xT_bl (fun _ _ _ _ _ _ _ => trivial) rfl rfl dL_law_308 rfl rfl (Nat.le_of_ble_eq_true rfl) (q := 311) rfl (k' := k) rfl (n' := n) rfl hk0 (fun v9 w9 hp => ?_)
  obtain ⟨rfl, rfl⟩ := hp
  refine x_ws (xput_chg m_set_0 xput_nil) ?_
  refine x_icmp_eq C (tgt := 1264) dL_law_311 (by decide) (q := 314) rfl rfl rfl (fun _ => ?_) (fun hne => absurd rfl hne)
  refine x_widen (k' := k + 125) (n' := n + 401) (Nat.le_add_right _ _) (Nat.le_add_right _ _) ?_
  exact hc kf tn tx gn gx nm ss zs cols lc smp nzf tlf lnf P (keN cols (pMk P) ky (xs (i + 1))) nse fs gs npa fp gp nbo fb gb bal cols' lc' smp' nzf' tlf' lnf' P' ky' nse' fs' gs' npa' fp' gp' nbo' fb' gb' Z kz ga so sz tf j0 j1 j2 j3 j4 nm9 ns9 st9 by9 lz fn fo ex wo lr9 rl9 fa9 ca9 dc9 fs9 gs9 fp9 gp9 fb9 gb9 im mi nn9 nz9 sh9 mv ld lt ln pl ⟨i1, i2, i3, ⟨⟨hcols, hlc, hsmp, keN_in hky, htl⟩, r2, r3, r4, r5, r6, r7⟩, i5, i6, i7⟩
set_option maxHeartbeats 4000000 in
set_option maxRecDepth 100000 in
/-- the law's case 6: column -/
theorem op_column {p : Program} {l : Launch} {e : Env} {R : Room} {s : State} {m : MethodId} {args : Array Value} {below : List Frame} {meth : Method} {c : Code} {Q : State → Prop} {D : va_G} {A : Nat → Prop} {cy : Nat → ClassId} {xa mr : Nat → Nat} {mo : Nat} {tpf : Nat → Option Nat} {b i k n Ln : Nat} {xs : Nat → Int32} (C : xC p s m args meth c D cy A 4 cL_law wsL_law RL) (hR : R = room_1) (hsc : xSc A s b Ln xs) (hi : i + 6 ≤ Ln) (hLn : Ln ≤ 3072) (hkn : k + 125 ≤ R.cells ∧ n + 401 ≤ R.slots) (htp : ∀ k, k < 6 → tpf k = some (xa (59 + 2 * k))) (hc : AT p l e R s m args below meth c Q D A cy xa mr mo tpf b i (k + 125) (n + 401) 1264) : AT p l e R s m args below meth c Q D A cy xa mr mo tpf b i k n 316 := by
  intro kf tn tx gn gx nm ss zs cols lc smp nzf tlf lnf P ky nse fs gs npa fp gp nbo fb gb bal cols' lc' smp' nzf' tlf' lnf' P' ky' nse' fs' gs' npa' fp' gp' nbo' fb' gb' Z kz ga so sz tf j0 j1 j2 j3 j4 nm9 ns9 st9 by9 lz fn fo ex wo lr9 rl9 fa9 ca9 dc9 fs9 gs9 fp9 gp9 fb9 gb9 im mi nn9 nz9 sh9 mv ld lt ln pl hI
  obtain ⟨i1, i2, i3, i4, i5, i6, i7⟩ := hI
  obtain ⟨r1, r2, r3, r4, r5, r6, r7⟩ := id i4
  obtain ⟨htn, htx⟩ := id i1
  obtain ⟨hzs, hs60, hnn, hnz⟩ := id i2
  obtain ⟨hgn, hgx, hshb⟩ := id i3
  obtain ⟨hcols, hlc, hsmp, hky, htl⟩ := id r1
  obtain ⟨hns, hnb⟩ := id r2
  obtain ⟨hTL, hfm, hml, hmb, hfo4, hfn, hby, hlzb⟩ := id r3
  obtain ⟨hF, hmp, hst9, hlr9⟩ := id r4
  obtain ⟨hnse, hsr⟩ := id r5
  obtain ⟨hnpa, hpr⟩ := id r6
  obtain ⟨hnbo, hbr⟩ := id r7
  obtain ⟨hkf, hm1, hm2, hm3, hlc', hIM⟩ := id i5
  obtain ⟨htz, hts, htq1⟩ := id i6
  obtain ⟨hso, hso'⟩ := id i7
  have hP := hF.1
  have hst5 := hF.1.2.2.2
  have hml9 : pMk P ≤ lc := hF.1.2.1
  have hrm9 : pRs P ≤ pMk P := hF.1.1
  have hmk24 : pMk P ≤ 24 := Nat.le_trans hml9 hlc
  have hrs24 : pRs P ≤ 24 := Nat.le_trans hrm9 hmk24
  have hk0 : k ≤ R.cells ∧ n ≤ R.slots := ⟨by omega, by omega⟩
  refine x_aload_n C dL_law_316 (q := 317) rfl rfl 1 rfl ?_
  refine lw_arg (j := 1) C hsc (by omega) (by omega) dL_law_317 dL_law_318 dL_law_319 dL_law_320 dL_law_321 (q := 322) rfl ?_
  refine lw_arg (j := 2) C hsc (by omega) (by omega) dL_law_322 dL_law_323 dL_law_324 dL_law_325 dL_law_326 (q := 327) rfl ?_
  refine x_callVP C (List.append_assoc _ _ _).symm (ci := 8) (c_X9_column l D cy (xa 0) (xa 1) (xa 3) (xa 5) (xa 8) (xa 29) (xa 50) (xa 57) (xa 58) kf (xa 9) (xa 10) (xa 12) (xa 19) (xa 22) (xa 25) (xa 11) (xa 28) cols lc smp nzf tlf lnf bal (xa 13) (xa 14) (xa 15) (xa 16) (xa 17) (xa 18) P ky ld pl (xs (i + 1)) (xs (i + 2)) hcols hlc hTL hfm htl hsmp hst5) (cwV 2 C.2.2.2.2.1 gL_law_X9_column rfl rfl rfl (by decide +kernel) (by rw [hR]; exact ⟨Nat.le_of_ble_eq_true rfl, Nat.le_of_ble_eq_true rfl⟩)) [0, 8, 9, 10, 11, 28, 12, 13, 14, 15, 16, 17, 18] fm_len (by decide) (mapc_cons f_at_0 (mapc_cons f_at_8 (mapc_cons f_at_9 (mapc_cons f_at_10 (mapc_cons f_at_11 (mapc_cons f_at_28 (mapc_cons f_at_12 (mapc_cons f_at_13 (mapc_cons f_at_14 (mapc_cons f_at_15 (mapc_cons f_at_16 (mapc_cons f_at_17 (mapc_cons f_at_18 mapc_nil))))))))))))) (by decide) List.mem_cons_self rfl xT_bl (fun _ _ _ _ _ _ _ => trivial) rfl rfl dL_law_327 rfl rfl (Nat.le_of_ble_eq_true rfl) (q := 330) rfl (k' := k) rfl (n' := n) rfl hk0 (fun v9 w9 hp => ?_)
  obtain ⟨b2, rfl, rfl⟩ := hp
  refine x_ws (xput_keep f_at_0 (xput_keep f_at_8 (xput_keep f_at_9 (xput_keep f_at_10 (xput_keep f_at_11 (xput_chg f_set_28 (xput_keep f_at_12 (xput_keep f_at_13 (xput_keep f_at_14 (xput_keep f_at_15 (xput_keep f_at_16 (xput_keep f_at_17 (xput_keep f_at_18 xput_nil))))))))))))) ?_
  refine x_aload_n C dL_law_330 (q := 331) rfl rfl 2 rfl ?_
  refine lw_arg (j := 1) C hsc (by omega) (by omega) dL_law_331 dL_law_332 dL_law_333 dL_law_334 dL_law_335 (q := 336) rfl ?_
  refine lw_arg (j := 2) C hsc (by omega) (by omega) dL_law_336 dL_law_337 dL_law_338 dL_law_339 dL_law_340 (q := 341) rfl ?_
  refine x_callV C (roW := []) (roR := []) (ci := 9) (c_X10_column l D cy mo mr cols lc smp (pMk P) (pRs P) nse npa nbo tn kf ky j0 j1 j2 j3 j4 fn fo ex wo tlf st9 ns9 ld P nzf (xs (i + 1)) (xs (i + 2)) hml hfo4 hfn hlc htl hst9 hcols hsmp (fun c hc => hmp.1.1 c hc) hns hnb) (cwV 2 C.2.2.2.2.1 gL_law_X10_column rfl rfl rfl (by decide +kernel) (by rw [hR]; exact ⟨Nat.le_of_ble_eq_true rfl, Nat.le_of_ble_eq_true rfl⟩)) [71, 78, 79, 80, 81, 74, 75, 73] [] (mapc_cons m_at_0 (mapc_cons m_at_7 (mapc_cons m_at_8 (mapc_cons m_at_9 (mapc_cons m_at_10 (mapc_cons m_at_3 (mapc_cons m_at_4 (mapc_cons m_at_2 mapc_nil)))))))) (by decide) rfl (fun _ h => absurd h List.not_mem_nil) xro_nil (List.mem_append_left _ List.mem_cons_self) rfl xT_bl (fun _ _ _ _ _ _ _ => trivial) rfl rfl dL_law_341 rfl rfl (Nat.le_of_ble_eq_true rfl) (q := 344) rfl (k' := k) rfl (n' := n) rfl hk0 (fun v9 w9 hp => ?_)
  obtain ⟨rfl, rfl⟩ := hp
  refine x_ws (xput_keep m_at_0 (xput_keep m_at_7 (xput_keep m_at_8 (xput_keep m_at_9 (xput_keep m_at_10 (xput_keep m_at_3 (xput_keep m_at_4 (xput_keep m_at_2 xput_nil)))))))) ?_
  refine x_icmp_eq C (tgt := 1264) dL_law_344 (by decide) (q := 347) rfl rfl rfl (fun _ => ?_) (fun hne => absurd rfl hne)
  refine x_widen (k' := k + 125) (n' := n + 401) (Nat.le_add_right _ _) (Nat.le_add_right _ _) ?_
  exact hc kf tn tx gn gx nm ss zs cols lc smp nzf tlf lnf P ky nse fs gs npa fp gp nbo fb gb b2 cols' lc' smp' nzf' tlf' lnf' P' ky' nse' fs' gs' npa' fp' gp' nbo' fb' gb' Z kz ga so sz tf j0 j1 j2 j3 j4 nm9 ns9 st9 by9 lz fn fo ex wo lr9 rl9 fa9 ca9 dc9 fs9 gs9 fp9 gp9 fb9 gb9 im mi nn9 nz9 sh9 mv ld lt ln pl ⟨i1, i2, i3, i4, i5, i6, i7⟩
set_option maxHeartbeats 4000000 in
set_option maxRecDepth 100000 in
/-- the law's case 7: of -/
theorem op_of {p : Program} {l : Launch} {e : Env} {R : Room} {s : State} {m : MethodId} {args : Array Value} {below : List Frame} {meth : Method} {c : Code} {Q : State → Prop} {D : va_G} {A : Nat → Prop} {cy : Nat → ClassId} {xa mr : Nat → Nat} {mo : Nat} {tpf : Nat → Option Nat} {b i k n Ln : Nat} {xs : Nat → Int32} (C : xC p s m args meth c D cy A 4 cL_law wsL_law RL) (hR : R = room_1) (hsc : xSc A s b Ln xs) (hi : i + 6 ≤ Ln) (hLn : Ln ≤ 3072) (hkn : k + 125 ≤ R.cells ∧ n + 401 ≤ R.slots) (htp : ∀ k, k < 6 → tpf k = some (xa (59 + 2 * k))) (hc : AT p l e R s m args below meth c Q D A cy xa mr mo tpf b i (k + 125) (n + 401) 1264) : AT p l e R s m args below meth c Q D A cy xa mr mo tpf b i k n 349 := by
  intro kf tn tx gn gx nm ss zs cols lc smp nzf tlf lnf P ky nse fs gs npa fp gp nbo fb gb bal cols' lc' smp' nzf' tlf' lnf' P' ky' nse' fs' gs' npa' fp' gp' nbo' fb' gb' Z kz ga so sz tf j0 j1 j2 j3 j4 nm9 ns9 st9 by9 lz fn fo ex wo lr9 rl9 fa9 ca9 dc9 fs9 gs9 fp9 gp9 fb9 gb9 im mi nn9 nz9 sh9 mv ld lt ln pl hI
  obtain ⟨i1, i2, i3, i4, i5, i6, i7⟩ := hI
  obtain ⟨r1, r2, r3, r4, r5, r6, r7⟩ := id i4
  obtain ⟨htn, htx⟩ := id i1
  obtain ⟨hzs, hs60, hnn, hnz⟩ := id i2
  obtain ⟨hgn, hgx, hshb⟩ := id i3
  obtain ⟨hcols, hlc, hsmp, hky, htl⟩ := id r1
  obtain ⟨hns, hnb⟩ := id r2
  obtain ⟨hTL, hfm, hml, hmb, hfo4, hfn, hby, hlzb⟩ := id r3
  obtain ⟨hF, hmp, hst9, hlr9⟩ := id r4
  obtain ⟨hnse, hsr⟩ := id r5
  obtain ⟨hnpa, hpr⟩ := id r6
  obtain ⟨hnbo, hbr⟩ := id r7
  obtain ⟨hkf, hm1, hm2, hm3, hlc', hIM⟩ := id i5
  obtain ⟨htz, hts, htq1⟩ := id i6
  obtain ⟨hso, hso'⟩ := id i7
  have hP := hF.1
  have hst5 := hF.1.2.2.2
  have hml9 : pMk P ≤ lc := hF.1.2.1
  have hrm9 : pRs P ≤ pMk P := hF.1.1
  have hmk24 : pMk P ≤ 24 := Nat.le_trans hml9 hlc
  have hrs24 : pRs P ≤ 24 := Nat.le_trans hrm9 hmk24
  have hk0 : k ≤ R.cells ∧ n ≤ R.slots := ⟨by omega, by omega⟩
  refine x_aload_n C dL_law_349 (q := 350) rfl rfl 1 rfl ?_
  refine lw_arg (j := 1) C hsc (by omega) (by omega) dL_law_350 dL_law_351 dL_law_352 dL_law_353 dL_law_354 (q := 355) rfl ?_
  refine lw_arg (j := 2) C hsc (by omega) (by omega) dL_law_355 dL_law_356 dL_law_357 dL_law_358 dL_law_359 (q := 360) rfl ?_
  refine x_callVP C (List.append_assoc _ _ _).symm (ci := 8) (c_X9_of l D cy (xa 0) (xa 1) (xa 3) (xa 5) (xa 8) (xa 29) (xa 50) (xa 57) (xa 58) kf (xa 9) (xa 10) (xa 12) (xa 19) (xa 22) (xa 25) (xa 11) (xa 28) cols lc smp lnf (xa 13) (xa 14) (xa 15) (xa 16) (xa 17) (xa 18) P ky ld pl (xs (i + 1)) (xs (i + 2)) hcols hlc hTL hfm hmk24 hrs24) (cwV 2 C.2.2.2.2.1 gL_law_X9_of rfl rfl rfl (by decide +kernel) (by rw [hR]; exact ⟨Nat.le_of_ble_eq_true rfl, Nat.le_of_ble_eq_true rfl⟩)) [0, 8, 11, 12, 13, 14, 15, 16, 17, 18] fm_len (by decide) (mapc_cons f_at_0 (mapc_cons f_at_8 (mapc_cons f_at_11 (mapc_cons f_at_12 (mapc_cons f_at_13 (mapc_cons f_at_14 (mapc_cons f_at_15 (mapc_cons f_at_16 (mapc_cons f_at_17 (mapc_cons f_at_18 mapc_nil)))))))))) (by decide) List.mem_cons_self rfl xT_bl (fun _ _ _ _ _ _ _ => trivial) rfl rfl dL_law_360 rfl rfl (Nat.le_of_ble_eq_true rfl) (q := 363) rfl (k' := k) rfl (n' := n) rfl hk0 (fun v9 w9 hp => ?_)
  obtain ⟨rfl, rfl⟩ := hp
  refine x_ws (xput_keep f_at_0 (xput_keep f_at_8 (xput_keep f_at_11 (xput_keep f_at_12 (xput_keep f_at_13 (xput_keep f_at_14 (xput_keep f_at_15 (xput_keep f_at_16 (xput_keep f_at_17 (xput_keep f_at_18 xput_nil)))))))))) ?_
  refine x_aload_n C dL_law_363 (q := 364) rfl rfl 2 rfl ?_
  refine lw_arg (j := 1) C hsc (by omega) (by omega) dL_law_364 dL_law_365 dL_law_366 dL_law_367 dL_law_368 (q := 369) rfl ?_
  refine lw_arg (j := 2) C hsc (by omega) (by omega) dL_law_369 dL_law_370 dL_law_371 dL_law_372 dL_law_373 (q := 374) rfl ?_
  refine x_callV C (roW := []) (roR := []) (ci := 9) (c_X10_of l D cy mo mr cols lc smp nse npa nbo tn kf ky j0 j1 j2 j3 j4 P fn by9 lz rl9 ld lt ln (xs (i + 1)) (xs (i + 2)) hby hmb (fun k hk => (hml k hk).1) hfn hlzb (rl_roA hmp) hlc hml9) (cwV 2 C.2.2.2.2.1 gL_law_X10_of rfl rfl rfl (by decide +kernel) (by rw [hR]; exact ⟨Nat.le_of_ble_eq_true rfl, Nat.le_of_ble_eq_true rfl⟩)) [71, 78, 76, 77, 83] [] (mapc_cons m_at_0 (mapc_cons m_at_7 (mapc_cons m_at_5 (mapc_cons m_at_6 (mapc_cons m_at_12 mapc_nil))))) (by decide) rfl (fun _ h => absurd h List.not_mem_nil) xro_nil (List.mem_append_left _ List.mem_cons_self) rfl xT_bl (fun _ _ _ _ _ _ _ => trivial) rfl rfl dL_law_374 rfl rfl (Nat.le_of_ble_eq_true rfl) (q := 377) rfl (k' := k) rfl (n' := n) rfl hk0 (fun v9 w9 hp => ?_)
  obtain ⟨rfl, rfl⟩ := hp
  refine x_ws (xput_keep m_at_0 (xput_keep m_at_7 (xput_keep m_at_5 (xput_keep m_at_6 (xput_keep m_at_12 xput_nil))))) ?_
  refine x_icmp_eq C (tgt := 1264) dL_law_377 (by decide) (q := 380) rfl rfl rfl (fun _ => ?_) (fun hne => absurd rfl hne)
  refine x_widen (k' := k + 125) (n' := n + 401) (Nat.le_add_right _ _) (Nat.le_add_right _ _) ?_
  exact hc kf tn tx gn gx nm ss zs cols lc smp nzf tlf lnf P ky nse fs gs npa fp gp nbo fb gb bal cols' lc' smp' nzf' tlf' lnf' P' ky' nse' fs' gs' npa' fp' gp' nbo' fb' gb' Z kz ga so sz tf j0 j1 j2 j3 j4 nm9 ns9 st9 by9 lz fn fo ex wo lr9 rl9 fa9 ca9 dc9 fs9 gs9 fp9 gp9 fb9 gb9 im mi nn9 nz9 sh9 mv ld lt ln pl ⟨i1, i2, i3, i4, i5, i6, i7⟩
set_option maxHeartbeats 4000000 in
set_option maxRecDepth 100000 in
/-- the law's case 8: votes -/
theorem op_votes {p : Program} {l : Launch} {e : Env} {R : Room} {s : State} {m : MethodId} {args : Array Value} {below : List Frame} {meth : Method} {c : Code} {Q : State → Prop} {D : va_G} {A : Nat → Prop} {cy : Nat → ClassId} {xa mr : Nat → Nat} {mo : Nat} {tpf : Nat → Option Nat} {b i k n Ln : Nat} {xs : Nat → Int32} (C : xC p s m args meth c D cy A 4 cL_law wsL_law RL) (hR : R = room_1) (hsc : xSc A s b Ln xs) (hi : i + 6 ≤ Ln) (hLn : Ln ≤ 3072) (hkn : k + 125 ≤ R.cells ∧ n + 401 ≤ R.slots) (htp : ∀ k, k < 6 → tpf k = some (xa (59 + 2 * k))) (hc : AT p l e R s m args below meth c Q D A cy xa mr mo tpf b i (k + 125) (n + 401) 1264) : AT p l e R s m args below meth c Q D A cy xa mr mo tpf b i k n 382 := by
  intro kf tn tx gn gx nm ss zs cols lc smp nzf tlf lnf P ky nse fs gs npa fp gp nbo fb gb bal cols' lc' smp' nzf' tlf' lnf' P' ky' nse' fs' gs' npa' fp' gp' nbo' fb' gb' Z kz ga so sz tf j0 j1 j2 j3 j4 nm9 ns9 st9 by9 lz fn fo ex wo lr9 rl9 fa9 ca9 dc9 fs9 gs9 fp9 gp9 fb9 gb9 im mi nn9 nz9 sh9 mv ld lt ln pl hI
  obtain ⟨i1, i2, i3, i4, i5, i6, i7⟩ := hI
  obtain ⟨r1, r2, r3, r4, r5, r6, r7⟩ := id i4
  obtain ⟨htn, htx⟩ := id i1
  obtain ⟨hzs, hs60, hnn, hnz⟩ := id i2
  obtain ⟨hgn, hgx, hshb⟩ := id i3
  obtain ⟨hcols, hlc, hsmp, hky, htl⟩ := id r1
  obtain ⟨hns, hnb⟩ := id r2
  obtain ⟨hTL, hfm, hml, hmb, hfo4, hfn, hby, hlzb⟩ := id r3
  obtain ⟨hF, hmp, hst9, hlr9⟩ := id r4
  obtain ⟨hnse, hsr⟩ := id r5
  obtain ⟨hnpa, hpr⟩ := id r6
  obtain ⟨hnbo, hbr⟩ := id r7
  obtain ⟨hkf, hm1, hm2, hm3, hlc', hIM⟩ := id i5
  obtain ⟨htz, hts, htq1⟩ := id i6
  obtain ⟨hso, hso'⟩ := id i7
  have hP := hF.1
  have hst5 := hF.1.2.2.2
  have hml9 : pMk P ≤ lc := hF.1.2.1
  have hrm9 : pRs P ≤ pMk P := hF.1.1
  have hmk24 : pMk P ≤ 24 := Nat.le_trans hml9 hlc
  have hrs24 : pRs P ≤ 24 := Nat.le_trans hrm9 hmk24
  have hk0 : k ≤ R.cells ∧ n ≤ R.slots := ⟨by omega, by omega⟩
  refine x_aload_n C dL_law_382 (q := 383) rfl rfl 1 rfl ?_
  refine lw_arg (j := 1) C hsc (by omega) (by omega) dL_law_383 dL_law_384 dL_law_385 dL_law_386 dL_law_387 (q := 388) rfl ?_
  refine lw_arg (j := 2) C hsc (by omega) (by omega) dL_law_388 dL_law_389 dL_law_390 dL_law_391 dL_law_392 (q := 393) rfl ?_
  refine x_callVP C (List.append_assoc _ _ _).symm (ci := 8) (c_X9_votes l D cy (xa 0) (xa 1) (xa 3) (xa 5) (xa 8) (xa 29) (xa 50) (xa 57) (xa 58) kf (xa 9) (xa 10) (xa 12) (xa 19) (xa 22) (xa 25) (xa 11) (xa 28) cols lc smp nzf tlf lnf bal ld pl (xs (i + 1)) (xs (i + 2)) hcols hlc hTL hfm hsmp) (cwV 2 C.2.2.2.2.1 gL_law_X9_votes rfl rfl rfl (by decide +kernel) (by rw [hR]; exact ⟨Nat.le_of_ble_eq_true rfl, Nat.le_of_ble_eq_true rfl⟩)) [0, 8, 9, 10, 11, 28] fm_len (by decide) (mapc_cons f_at_0 (mapc_cons f_at_8 (mapc_cons f_at_9 (mapc_cons f_at_10 (mapc_cons f_at_11 (mapc_cons f_at_28 mapc_nil)))))) (by decide) List.mem_cons_self rfl xT_bl (fun _ _ _ _ _ _ _ => trivial) rfl rfl dL_law_393 rfl rfl (Nat.le_of_ble_eq_true rfl) (q := 396) rfl (k' := k) rfl (n' := n) rfl hk0 (fun v9 w9 hp => ?_)
  obtain ⟨b2, rfl, rfl⟩ := hp
  refine x_ws (xput_keep f_at_0 (xput_keep f_at_8 (xput_keep f_at_9 (xput_keep f_at_10 (xput_keep f_at_11 (xput_chg f_set_28 xput_nil)))))) ?_
  refine x_aload_n C dL_law_396 (q := 397) rfl rfl 2 rfl ?_
  refine lw_arg (j := 1) C hsc (by omega) (by omega) dL_law_397 dL_law_398 dL_law_399 dL_law_400 dL_law_401 (q := 402) rfl ?_
  refine lw_arg (j := 2) C hsc (by omega) (by omega) dL_law_402 dL_law_403 dL_law_404 dL_law_405 dL_law_406 (q := 407) rfl ?_
  refine x_callV C (roW := []) (roR := []) (ci := 9) (c_X10_votes l D cy mo mr cols lc smp (pMk P) (pRs P) nse npa nbo tn kf ky j0 j1 j2 j3 j4 fn fo ex wo ld (xs (i + 1)) (xs (i + 2)) hml hfo4 hfn hlc hcols hsmp) (cwV 2 C.2.2.2.2.1 gL_law_X10_votes rfl rfl rfl (by decide +kernel) (by rw [hR]; exact ⟨Nat.le_of_ble_eq_true rfl, Nat.le_of_ble_eq_true rfl⟩)) [71, 78, 79, 80, 81] [] (mapc_cons m_at_0 (mapc_cons m_at_7 (mapc_cons m_at_8 (mapc_cons m_at_9 (mapc_cons m_at_10 mapc_nil))))) (by decide) rfl (fun _ h => absurd h List.not_mem_nil) xro_nil (List.mem_append_left _ List.mem_cons_self) rfl xT_bl (fun _ _ _ _ _ _ _ => trivial) rfl rfl dL_law_407 rfl rfl (Nat.le_of_ble_eq_true rfl) (q := 410) rfl (k' := k) rfl (n' := n) rfl hk0 (fun v9 w9 hp => ?_)
  obtain ⟨rfl, rfl⟩ := hp
  refine x_ws (xput_keep m_at_0 (xput_keep m_at_7 (xput_keep m_at_8 (xput_keep m_at_9 (xput_keep m_at_10 xput_nil))))) ?_
  refine x_icmp_eq C (tgt := 1264) dL_law_410 (by decide) (q := 413) rfl rfl rfl (fun _ => ?_) (fun hne => absurd rfl hne)
  refine x_widen (k' := k + 125) (n' := n + 401) (Nat.le_add_right _ _) (Nat.le_add_right _ _) ?_
  exact hc kf tn tx gn gx nm ss zs cols lc smp nzf tlf lnf P ky nse fs gs npa fp gp nbo fb gb b2 cols' lc' smp' nzf' tlf' lnf' P' ky' nse' fs' gs' npa' fp' gp' nbo' fb' gb' Z kz ga so sz tf j0 j1 j2 j3 j4 nm9 ns9 st9 by9 lz fn fo ex wo lr9 rl9 fa9 ca9 dc9 fs9 gs9 fp9 gp9 fb9 gb9 im mi nn9 nz9 sh9 mv ld lt ln pl ⟨i1, i2, i3, i4, i5, i6, i7⟩
set_option maxHeartbeats 4000000 in
set_option maxRecDepth 100000 in
/-- the law's case 9: run -/
theorem op_run {p : Program} {l : Launch} {e : Env} {R : Room} {s : State} {m : MethodId} {args : Array Value} {below : List Frame} {meth : Method} {c : Code} {Q : State → Prop} {D : va_G} {A : Nat → Prop} {cy : Nat → ClassId} {xa mr : Nat → Nat} {mo : Nat} {tpf : Nat → Option Nat} {b i k n Ln : Nat} {xs : Nat → Int32} (C : xC p s m args meth c D cy A 4 cL_law wsL_law RL) (hR : R = room_1) (hsc : xSc A s b Ln xs) (hi : i + 6 ≤ Ln) (hLn : Ln ≤ 3072) (hkn : k + 125 ≤ R.cells ∧ n + 401 ≤ R.slots) (htp : ∀ k, k < 6 → tpf k = some (xa (59 + 2 * k))) (hc : AT p l e R s m args below meth c Q D A cy xa mr mo tpf b i (k + 125) (n + 401) 1264) : AT p l e R s m args below meth c Q D A cy xa mr mo tpf b i k n 415 := by
  intro kf tn tx gn gx nm ss zs cols lc smp nzf tlf lnf P ky nse fs gs npa fp gp nbo fb gb bal cols' lc' smp' nzf' tlf' lnf' P' ky' nse' fs' gs' npa' fp' gp' nbo' fb' gb' Z kz ga so sz tf j0 j1 j2 j3 j4 nm9 ns9 st9 by9 lz fn fo ex wo lr9 rl9 fa9 ca9 dc9 fs9 gs9 fp9 gp9 fb9 gb9 im mi nn9 nz9 sh9 mv ld lt ln pl hI
  obtain ⟨i1, i2, i3, i4, i5, i6, i7⟩ := hI
  obtain ⟨r1, r2, r3, r4, r5, r6, r7⟩ := id i4
  obtain ⟨htn, htx⟩ := id i1
  obtain ⟨hzs, hs60, hnn, hnz⟩ := id i2
  obtain ⟨hgn, hgx, hshb⟩ := id i3
  obtain ⟨hcols, hlc, hsmp, hky, htl⟩ := id r1
  obtain ⟨hns, hnb⟩ := id r2
  obtain ⟨hTL, hfm, hml, hmb, hfo4, hfn, hby, hlzb⟩ := id r3
  obtain ⟨hF, hmp, hst9, hlr9⟩ := id r4
  obtain ⟨hnse, hsr⟩ := id r5
  obtain ⟨hnpa, hpr⟩ := id r6
  obtain ⟨hnbo, hbr⟩ := id r7
  obtain ⟨hkf, hm1, hm2, hm3, hlc', hIM⟩ := id i5
  obtain ⟨htz, hts, htq1⟩ := id i6
  obtain ⟨hso, hso'⟩ := id i7
  have hP := hF.1
  have hst5 := hF.1.2.2.2
  have hml9 : pMk P ≤ lc := hF.1.2.1
  have hrm9 : pRs P ≤ pMk P := hF.1.1
  have hmk24 : pMk P ≤ 24 := Nat.le_trans hml9 hlc
  have hrs24 : pRs P ≤ 24 := Nat.le_trans hrm9 hmk24
  have hk0 : k ≤ R.cells ∧ n ≤ R.slots := ⟨by omega, by omega⟩
  refine x_aload_n C dL_law_415 (q := 416) rfl rfl 1 rfl ?_
  refine lw_arg (j := 1) C hsc (by omega) (by omega) dL_law_416 dL_law_417 dL_law_418 dL_law_419 dL_law_420 (q := 421) rfl ?_
  refine x_callVP C (List.append_assoc _ _ _).symm (ci := 8) (c_X9_run l D cy (xa 0) (xa 1) (xa 3) (xa 5) (xa 8) (xa 29) (xa 50) (xa 57) (xa 58) kf (xa 9) (xa 10) (xa 12) (xa 19) (xa 22) (xa 25) (xa 11) (xa 28) cols lc smp nzf tlf lnf bal (xa 13) (xa 14) (xa 15) (xa 16) (xa 17) (xa 18) P ky ld pl (xs (i + 1)) hcols hlc hTL hfm htl hsmp hP) (cwV 1 C.2.2.2.2.1 gL_law_X9_run rfl rfl rfl (by decide +kernel) (by rw [hR]; exact ⟨Nat.le_of_ble_eq_true rfl, Nat.le_of_ble_eq_true rfl⟩)) [0, 8, 9, 10, 11, 28, 12, 13, 14, 15, 16, 17, 18] fm_len (by decide) (mapc_cons f_at_0 (mapc_cons f_at_8 (mapc_cons f_at_9 (mapc_cons f_at_10 (mapc_cons f_at_11 (mapc_cons f_at_28 (mapc_cons f_at_12 (mapc_cons f_at_13 (mapc_cons f_at_14 (mapc_cons f_at_15 (mapc_cons f_at_16 (mapc_cons f_at_17 (mapc_cons f_at_18 mapc_nil))))))))))))) (by decide) List.mem_cons_self rfl xT_bl (fun _ _ _ _ _ _ _ => trivial) rfl rfl dL_law_421 rfl rfl (Nat.le_of_ble_eq_true rfl) (q := 424) rfl (k' := k) rfl (n' := n) rfl hk0 (fun v9 w9 hp => ?_)
  obtain ⟨b2, rfl, rfl⟩ := hp
  refine x_ws (xput_keep f_at_0 (xput_keep f_at_8 (xput_keep f_at_9 (xput_keep f_at_10 (xput_keep f_at_11 (xput_chg f_set_28 (xput_chg f_set_12 (xput_chg f_set_13 (xput_chg f_set_14 (xput_chg f_set_15 (xput_chg f_set_16 (xput_chg f_set_17 (xput_chg f_set_18 xput_nil))))))))))))) ?_
  refine x_aload_n C dL_law_424 (q := 425) rfl rfl 2 rfl ?_
  refine lw_arg (j := 1) C hsc (by omega) (by omega) dL_law_425 dL_law_426 dL_law_427 dL_law_428 dL_law_429 (q := 430) rfl ?_
  refine x_callV C (roW := []) (roR := []) (ci := 9) (c_X10_run l D cy mo mr cols lc smp nse npa nbo tn kf ky j0 j1 j2 j3 j4 P fn fo ex wo tlf st9 lr9 rl9 fa9 ca9 dc9 ld (xs (i + 1)) hml hfo4 hfn hlc hF htl hst9 hcols hky hsmp hlr9 hmp) (cwV 1 C.2.2.2.2.1 gL_law_X10_run rfl rfl rfl (by decide +kernel) (by rw [hR]; exact ⟨Nat.le_of_ble_eq_true rfl, Nat.le_of_ble_eq_true rfl⟩)) [71, 78, 79, 80, 81, 74, 75, 82, 83, 84, 85, 86] [] (mapc_cons m_at_0 (mapc_cons m_at_7 (mapc_cons m_at_8 (mapc_cons m_at_9 (mapc_cons m_at_10 (mapc_cons m_at_3 (mapc_cons m_at_4 (mapc_cons m_at_11 (mapc_cons m_at_12 (mapc_cons m_at_13 (mapc_cons m_at_14 (mapc_cons m_at_15 mapc_nil)))))))))))) (by decide) rfl (fun _ h => absurd h List.not_mem_nil) xro_nil (List.mem_append_left _ List.mem_cons_self) rfl xT_bl (fun _ _ _ _ _ _ _ => trivial) rfl rfl dL_law_430 rfl rfl (Nat.le_of_ble_eq_true rfl) (q := 433) rfl (k' := k) rfl (n' := n) rfl hk0 (fun v9 w9 hp => ?_)
  obtain ⟨st2, lr2, rl2, fa2, ca2, dc2, rfl, rfl, hq2_0, hq2_1, hq2_2⟩ := hp
  refine x_ws (xput_chg m_set_0 (xput_keep m_at_7 (xput_keep m_at_8 (xput_keep m_at_9 (xput_keep m_at_10 (xput_keep m_at_3 (xput_chg m_set_4 (xput_chg m_set_11 (xput_chg m_set_12 (xput_chg m_set_13 (xput_chg m_set_14 (xput_chg m_set_15 xput_nil)))))))))))) ?_
  refine x_icmp_eq C (tgt := 1264) dL_law_433 (by decide) (q := 436) rfl rfl rfl (fun _ => ?_) (fun hne => absurd rfl hne)
  refine x_widen (k' := k + 125) (n' := n + 401) (Nat.le_add_right _ _) (Nat.le_add_right _ _) ?_
  exact hc kf tn tx gn gx nm ss zs cols lc smp nzf tlf lnf ((ruN ld cols lc tlf (min smp lc) ky.toInt P (xs (i + 1)))) ky nse fs gs npa fp gp nbo fb gb b2 cols' lc' smp' nzf' tlf' lnf' P' ky' nse' fs' gs' npa' fp' gp' nbo' fb' gb' Z kz ga so sz tf j0 j1 j2 j3 j4 nm9 ns9 st2 by9 lz fn fo ex wo lr2 rl2 fa2 ca2 dc2 fs9 gs9 fp9 gp9 fb9 gb9 im mi nn9 nz9 sh9 mv ld lt ln pl ⟨i1, i2, i3, ⟨r1, r2, r3, ⟨R4_run hF htl hlc, hq2_0, hq2_1, hq2_2⟩, r5, r6, r7⟩, i5, i6, i7⟩
set_option maxHeartbeats 4000000 in
set_option maxRecDepth 100000 in
/-- the law's case 10: reset -/
theorem op_reset {p : Program} {l : Launch} {e : Env} {R : Room} {s : State} {m : MethodId} {args : Array Value} {below : List Frame} {meth : Method} {c : Code} {Q : State → Prop} {D : va_G} {A : Nat → Prop} {cy : Nat → ClassId} {xa mr : Nat → Nat} {mo : Nat} {tpf : Nat → Option Nat} {b i k n Ln : Nat} {xs : Nat → Int32} (C : xC p s m args meth c D cy A 4 cL_law wsL_law RL) (hR : R = room_1) (hsc : xSc A s b Ln xs) (hi : i + 6 ≤ Ln) (hLn : Ln ≤ 3072) (hkn : k + 125 ≤ R.cells ∧ n + 401 ≤ R.slots) (htp : ∀ k, k < 6 → tpf k = some (xa (59 + 2 * k))) (hc : AT p l e R s m args below meth c Q D A cy xa mr mo tpf b i (k + 125) (n + 401) 1264) : AT p l e R s m args below meth c Q D A cy xa mr mo tpf b i k n 438 := by
  intro kf tn tx gn gx nm ss zs cols lc smp nzf tlf lnf P ky nse fs gs npa fp gp nbo fb gb bal cols' lc' smp' nzf' tlf' lnf' P' ky' nse' fs' gs' npa' fp' gp' nbo' fb' gb' Z kz ga so sz tf j0 j1 j2 j3 j4 nm9 ns9 st9 by9 lz fn fo ex wo lr9 rl9 fa9 ca9 dc9 fs9 gs9 fp9 gp9 fb9 gb9 im mi nn9 nz9 sh9 mv ld lt ln pl hI
  obtain ⟨i1, i2, i3, i4, i5, i6, i7⟩ := hI
  obtain ⟨r1, r2, r3, r4, r5, r6, r7⟩ := id i4
  obtain ⟨htn, htx⟩ := id i1
  obtain ⟨hzs, hs60, hnn, hnz⟩ := id i2
  obtain ⟨hgn, hgx, hshb⟩ := id i3
  obtain ⟨hcols, hlc, hsmp, hky, htl⟩ := id r1
  obtain ⟨hns, hnb⟩ := id r2
  obtain ⟨hTL, hfm, hml, hmb, hfo4, hfn, hby, hlzb⟩ := id r3
  obtain ⟨hF, hmp, hst9, hlr9⟩ := id r4
  obtain ⟨hnse, hsr⟩ := id r5
  obtain ⟨hnpa, hpr⟩ := id r6
  obtain ⟨hnbo, hbr⟩ := id r7
  obtain ⟨hkf, hm1, hm2, hm3, hlc', hIM⟩ := id i5
  obtain ⟨htz, hts, htq1⟩ := id i6
  obtain ⟨hso, hso'⟩ := id i7
  have hP := hF.1
  have hst5 := hF.1.2.2.2
  have hml9 : pMk P ≤ lc := hF.1.2.1
  have hrm9 : pRs P ≤ pMk P := hF.1.1
  have hmk24 : pMk P ≤ 24 := Nat.le_trans hml9 hlc
  have hrs24 : pRs P ≤ 24 := Nat.le_trans hrm9 hmk24
  have hk0 : k ≤ R.cells ∧ n ≤ R.slots := ⟨by omega, by omega⟩
  refine x_aload_n C dL_law_438 (q := 439) rfl rfl 1 rfl ?_
  refine x_callV C (roW := []) (roR := []) (ci := 8) (c_X9_reset l D cy (xa 0) (xa 1) (xa 3) (xa 5) (xa 8) (xa 29) (xa 50) (xa 57) (xa 58) kf (xa 9) (xa 10) (xa 12) (xa 19) (xa 22) (xa 25) (xa 11) (xa 28) cols lc smp (xa 13) (xa 14) (xa 15) (xa 16) (xa 17) (xa 18) P ky hmk24) (cwV 0 C.2.2.2.2.1 gL_law_X9_reset rfl rfl rfl (by decide +kernel) (by rw [hR]; exact ⟨Nat.le_of_ble_eq_true rfl, Nat.le_of_ble_eq_true rfl⟩)) [0, 8, 12, 13, 14, 15, 16, 17, 18] [] (mapc_cons f_at_0 (mapc_cons f_at_8 (mapc_cons f_at_12 (mapc_cons f_at_13 (mapc_cons f_at_14 (mapc_cons f_at_15 (mapc_cons f_at_16 (mapc_cons f_at_17 (mapc_cons f_at_18 mapc_nil))))))))) (by decide) rfl (fun _ h => absurd h List.not_mem_nil) xro_nil (List.mem_append_left _ List.mem_cons_self) rfl xT_bl (fun _ _ _ _ _ _ _ => trivial) rfl rfl dL_law_439 rfl rfl (Nat.le_of_ble_eq_true rfl) (q := 442) rfl (k' := k) rfl (n' := n) rfl hk0 (fun v9 w9 hp => ?_)
  obtain ⟨rfl, rfl⟩ := hp
  refine x_ws (xput_keep f_at_0 (xput_keep f_at_8 (xput_chg f_set_12 (xput_chg f_set_13 (xput_chg f_set_14 (xput_chg f_set_15 (xput_chg f_set_16 (xput_chg f_set_17 (xput_chg f_set_18 xput_nil))))))))) ?_
  refine x_aload_n C dL_law_442 (q := 443) rfl rfl 2 rfl ?_
  refine x_callV C (roW := []) (roR := []) (ci := 9) (c_X10_reset l D cy mo mr cols lc smp nse npa nbo tn kf ky j0 j1 j2 j3 j4 P st9 lr9 rl9 fa9 ca9 dc9 hmk24) (cwV 0 C.2.2.2.2.1 gL_law_X10_reset rfl rfl rfl (by decide +kernel) (by rw [hR]; exact ⟨Nat.le_of_ble_eq_true rfl, Nat.le_of_ble_eq_true rfl⟩)) [71, 75, 82, 83, 84, 85, 86] [] (mapc_cons m_at_0 (mapc_cons m_at_4 (mapc_cons m_at_11 (mapc_cons m_at_12 (mapc_cons m_at_13 (mapc_cons m_at_14 (mapc_cons m_at_15 mapc_nil))))))) (by decide) rfl (fun _ h => absurd h List.not_mem_nil) xro_nil (List.mem_append_left _ List.mem_cons_self) rfl xT_bl (fun _ _ _ _ _ _ _ => trivial) rfl rfl dL_law_443 rfl rfl (Nat.le_of_ble_eq_true rfl) (q := 446) rfl (k' := k) rfl (n' := n) rfl hk0 (fun v9 w9 hp => ?_)
  obtain ⟨rfl, rfl⟩ := hp
  refine x_ws (xput_chg m_set_0 (xput_chg m_set_4 (xput_keep m_at_11 (xput_chg m_set_12 (xput_chg m_set_13 (xput_chg m_set_14 (xput_chg m_set_15 xput_nil))))))) ?_
  refine x_icmp_eq C (tgt := 1264) dL_law_446 (by decide) (q := 449) rfl rfl rfl (fun _ => ?_) (fun hne => absurd rfl hne)
  refine x_widen (k' := k + 125) (n' := n + 401) (Nat.le_add_right _ _) (Nat.le_add_right _ _) ?_
  exact hc kf tn tx gn gx nm ss zs cols lc smp nzf tlf lnf (rs0 P) ky nse fs gs npa fp gp nbo fb gb bal cols' lc' smp' nzf' tlf' lnf' P' ky' nse' fs' gs' npa' fp' gp' nbo' fb' gb' Z kz ga so sz tf j0 j1 j2 j3 j4 nm9 ns9 (fun _ => 0) by9 lz fn fo ex wo lr9 (fun _ => -5) (fun _ => -5) (fun _ => -5) (fun _ => -5) fs9 gs9 fp9 gp9 fb9 gb9 im mi nn9 nz9 sh9 mv ld lt ln pl ⟨i1, i2, i3, ⟨r1, r2, r3, ⟨InvF_rs P, MdP_rs hcols, fun _ => Nat.zero_le 4, hlr9⟩, r5, r6, r7⟩, i5, i6, i7⟩
