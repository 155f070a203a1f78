set_option maxHeartbeats 4000000 in
set_option maxRecDepth 100000 in
/-- the whole, but for the row of an array of arrays -/
theorem whole_open {PP : State → Prop} (hmn : MnaRow PP) (hAA : ∀ (s : State) (a : Array Value), (Cond.arrayOver (.array .long)).before a s = true → PP s) {p : Program} {e : Env} {s : State} {m : MethodId} {below : List Frame} {meth : Method} {c : Code} (l : Launch) {b L : Nat} {xs : Nat → Int32} (hL : L ≤ 3072) (C0 : lw_At p s m meth c b L xs) : W p l e room_1 s m #[Value.ref b] below meth c s.heap [] 0 0 (lw_Z below #[Value.ref b] s) (entryFrame m ([Value.ref b] : List Value).toArray 4) := by
  obtain ⟨hx, hb, hr, hml, hown, hts, hX, hbl, hlk, hg⟩ := id C0
  obtain ⟨D, cy, hK⟩ := k_start hts
  obtain ⟨t0, adK, adV, hZ⟩ := xz_start hts hg
  have hA : ∀ q : Nat, s.heap.size ≤ q → (fun q : Nat => s.heap.size ≤ q) q := fun _ h => h
  have C : xC p s m #[Value.ref b] meth c D cy (fun q => s.heap.size ≤ q) 4 cL_law wsL_law RL := ⟨hx, hb, hml, hown, fun w hw => hts w (wsL_law_in w hw), hK, hA, hlk⟩
  have hsc : xSc (fun q => s.heap.size ≤ q) s b L xs := ⟨hX, hbl, Nat.not_le.mpr hbl⟩
  have hZA : xZA t0 adK adV (fun q => s.heap.size ≤ q) s := ⟨hZ, va_AO.of (hts (.arrayOver (.object "FeatureImport$Field")) (by decide +kernel))⟩
  have hLT : xLT (fun q => s.heap.size ≤ q) s := ⟨va_AO.of (hts (.arrayOver (.object "FeatureImport$Line")) (by decide +kernel)), va_AO.of (hts (.arrayOver (.object "FeatureImport$Tape")) (by decide +kernel)), va_Nw.of rfl (hts (.methodLinkNest RX7 20 yX5_init RX9) (by decide +kernel)), va_Nw.of rfl (hts (.methodLinkNest RX9 25 yX3_init RX9) (by decide +kernel)), va_Nw.of rfl (hts (.methodLinkNest RX9 32 yX7_init RX9) (by decide +kernel)), va_Nw.of rfl (hts (.methodLinkNest RX9 42 yX5_init RX9) (by decide +kernel)), va_Nw.of rfl (hts (.methodLinkNest RX9 61 yX8_init RX9) (by decide +kernel))⟩
  have hpp : PP s := hAA s _ (hts (.arrayOver (.array .long)) (by decide +kernel))
  have hl := lv_entry ([.ref b]) (n := 4) (Nat.le_of_ble_eq_true rfl)
  rw [lg_entry_eq]
  refine lw_begin C rfl hsc hL hZA hLT hmn hpp (fun xa mo ws k n i hk hn => ?_) s.heap [] _ (fun k q h => by simp at h) ⟨fun i j p q h => by simp at h, fun k q h => by simp at h⟩ va_S.rf hl
  intro H locs ls hP hD hS hl
  refine lv_iconst hx hb dL_law_1270 (v := 1) (by decide) ?_
  refine va_forget hS.2.2 ?_
  refine W.widen (k := room_1.cells) (n := room_1.slots) (Nat.le_trans hk (Nat.le_of_ble_eq_true rfl)) (Nat.le_trans hn (Nat.le_of_ble_eq_true rfl)) ?_
  exact lw_ret hx hb hr hlk dL_law_1271

theorem mna_rows {f : Nat → va_E} {r : Nat → Nat} {e : va_E} : va_pl ([] ++ (List.range 6).map r) (vr_up f ((List.range 6).map r) e) = [(r 0, e), (r 1, e), (r 2, e), (r 3, e), (r 4, e), (r 5, e)] := by
  have h : ∀ i, i < 6 → vr_up f ((List.range 6).map r) e (r i) = e := fun i hi => vr_up_in (List.mem_map.mpr ⟨i, List.mem_range.mpr hi, rfl⟩)
  show [(r 0, vr_up f ((List.range 6).map r) e (r 0)), (r 1, vr_up f ((List.range 6).map r) e (r 1)), (r 2, vr_up f ((List.range 6).map r) e (r 2)), (r 3, vr_up f ((List.range 6).map r) e (r 3)), (r 4, vr_up f ((List.range 6).map r) e (r 4)), (r 5, vr_up f ((List.range 6).map r) e (r 5))] = _
  rw [h 0 (by decide), h 1 (by decide), h 2 (by decide), h 3 (by decide), h 4 (by decide), h 5 (by decide)]
theorem mna_z (c : ClassId) (K : Nat) : Jvm.Free.Multi.innerC c K (defaultValue .long) = vp_cell c (K, .inr (.inl (fun _ => 0))) := by
  show ({ cls := c, slots := Array.replicate K (Value.long 0), vm := .none } : Cell) = arrV c K (fun _ => Value.long 0)
  rw [arrV_new]
theorem mna_row : MnaRow (va_AOA .long) := by
  refine ⟨fun u U hal h => va_AOA.moved hal h, ?_⟩
  intro p l e R s m args below meth c Q D cy A nL cc Ts own ws k n pc q L st ix C hAO h1 h2 hf hdg hq kk
  subst hq
  intro H locs ls hP hD hS hl
  have hK := C.2.2.2.2.2.1
  have hpl : ∀ f : Nat → va_E, ws ++ va_pl [] f = ws := fun f => List.append_nil ws
  refine va_mna (X := ws) (L := []) (f := fun _ => .inr (0, [])) (cy := cy 2) (ty := .long) (cells := k) (slots := n) C.1 C.2.1 C.2.2.2.1 (C.2.2.2.2.1 _ h1) hAO (C.2.2.2.2.1 _ h2) (hK.2 2 (cy 2, .long) rfl).2 hK (by rw [hpl]; exact hP) (by rw [hpl]; exact hD) hS C.2.2.2.2.2.2.1 (n := nI 6) (k := nI 60) (N' := 6) (K' := 60) (z := (60, .inr (.inl (fun _ => 0)))) (by decide) (by decide) rfl rfl (by decide) (by decide) (by decide) rfl rfl hf.1 hf.2 (fun c9 => mna_z c9 60) hdg (fun q r cA H1 hinj _ hK1 hP1 hD1 hS1 => ?_)
  have e1 : cA = cy 6 := by
    have g1 := (hK1.2 7 (cA, .array .long) rfl).2
    have g2 := (hK.2 6 (cy 6, .array .long) rfl).2
    exact Option.some.inj ((show s.vm.findClass _ = some cA from g1).symm.trans (show s.vm.findClass _ = some (cy 6) from g2))
  subst e1
  rw [mna_rows, List.append_assoc] at hP1 hD1
  exact kk q r H1 locs ls hP1 hD1 hS1 hl
