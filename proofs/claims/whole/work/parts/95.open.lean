set_option maxHeartbeats 4000000 in
set_option maxRecDepth 100000 in
/-- the whole, but for the row of an array of arrays -/
theorem whole_open {PP : State → Prop} (hmn : MnaRow PP) (hAA : ∀ (s : State) (a : Array Value), (Cond.arrayOver (.array .long)).before a s = true → PP s) {p : Program} {e : Env} {s : State} {m : MethodId} {below : List Frame} {meth : Method} {c : Code} (l : Launch) {b L : Nat} {xs : Nat → Int32} (hL : L ≤ 3072) (C0 : lw_At p s m meth c b L xs) : W p l e room_1 s m #[Value.ref b] below meth c s.heap [] 0 0 (lw_Z below #[Value.ref b] s) (entryFrame m ([Value.ref b] : List Value).toArray 4) := by
  obtain ⟨hx, hb, hr, hml, hown, hts, hX, hbl, hlk, hg⟩ := id C0
  obtain ⟨D, cy, hK⟩ := k_start hts
  obtain ⟨t0, adK, adV, hZ⟩ := xz_start hts hg
  have hA : ∀ q : Nat, s.heap.size ≤ q → (fun q : Nat => s.heap.size ≤ q) q := fun _ h => h
  have C : xC p s m #[Value.ref b] meth c D cy (fun q => s.heap.size ≤ q) 4 cL_law wsL_law RL := ⟨hx, hb, hml, hown, fun w hw => hts w (wsL_law_in w hw), hK, hA, hlk⟩
  have hsc : xSc (fun q => s.heap.size ≤ q) s b L xs := ⟨hX, hbl, Nat.not_le.mpr hbl⟩
  have hZA : xZA t0 adK adV (fun q => s.heap.size ≤ q) s := ⟨hZ, va_AO.of (hts (.arrayOver (.object "FeatureImport$Field")) (by decide +kernel))⟩
  have hLT : xLT (fun q => s.heap.size ≤ q) s := ⟨va_AO.of (hts (.arrayOver (.object "FeatureImport$Line")) (by decide +kernel)), va_AO.of (hts (.arrayOver (.object "FeatureImport$Tape")) (by decide +kernel)), va_Nw.of rfl (hts (.methodLinkNest RX7 20 yX5_init RX9) (by decide +kernel)), va_Nw.of rfl (hts (.methodLinkNest RX9 25 yX3_init RX9) (by decide +kernel)), va_Nw.of rfl (hts (.methodLinkNest RX9 32 yX7_init RX9) (by decide +kernel)), va_Nw.of rfl (hts (.methodLinkNest RX9 42 yX5_init RX9) (by decide +kernel)), va_Nw.of rfl (hts (.methodLinkNest RX9 61 yX8_init RX9) (by decide +kernel))⟩
  have hpp : PP s := hAA s _ (hts (.arrayOver (.array .long)) (by decide +kernel))
  have hl := lv_entry ([.ref b]) (n := 4) (Nat.le_of_ble_eq_true rfl)
  rw [lg_entry_eq]
  refine lw_begin C rfl hsc hL hZA hLT hmn hpp (fun xa mo ws k n i hk hn => ?_) s.heap [] _ (fun k q h => by simp at h) ⟨fun i j p q h => by simp at h, fun k q h => by simp at h⟩ va_S.rf hl
  intro H locs ls hP hD hS hl
  refine lv_iconst hx hb dL_law_1270 (v := 1) (by decide) ?_
  refine va_forget hS.2.2 ?_
  refine W.widen hk hn ?_
  exact lw_ret hx hb hr hlk dL_law_1271
