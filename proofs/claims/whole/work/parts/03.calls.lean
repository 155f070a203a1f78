
/-- cells put back at their places, new ones behind -/
def xput : va_W → List Nat → va_W → va_W
  | ws, [], cs => ws ++ cs
  | ws, i :: is, c :: cs => xput (ws.set i c) is cs
  | ws, _ :: _, [] => ws
theorem xput_get : ∀ (is : List Nat) (ws cs : va_W), is.length ≤ cs.length → (∀ i ∈ is, i < ws.length) → ∀ (k : Nat) (q : Nat × va_E), (xput ws is cs)[k]? = some q →
    (∃ j : Nat, is[j]? = some k ∧ cs[j]? = some q) ∨ (k ∉ is ∧ ws[k]? = some q) ∨ (∃ j : Nat, is.length ≤ j ∧ cs[j]? = some q ∧ k + is.length = ws.length + j)
  | [], ws, cs, _, _, k, q, h => by
    have h : (ws ++ cs)[k]? = some q := by cases cs <;> exact h
    by_cases hk : k < ws.length
    · rw [List.getElem?_append_left hk] at h
      exact Or.inr (Or.inl ⟨List.not_mem_nil, h⟩)
    · rw [List.getElem?_append_right (by omega)] at h
      exact Or.inr (Or.inr ⟨k - ws.length, Nat.zero_le _, h, by simp only [List.length_nil]; omega⟩)
  | i :: is, ws, [], hl, _, _, _, _ => by simp at hl
  | i :: is, ws, c :: cs, hl, hi, k, q, h => by
    have hl' : is.length ≤ cs.length := by simpa using hl
    have h : (xput (ws.set i c) is cs)[k]? = some q := h
    have hi0 : i < ws.length := hi i List.mem_cons_self
    rcases xput_get is (ws.set i c) cs hl' (fun j hj => by rw [List.length_set]; exact hi j (List.mem_cons_of_mem _ hj)) k q h with ⟨j, h1, h2⟩ | ⟨h1, h2⟩ | ⟨j, h1, h2, h3⟩
    · exact Or.inl ⟨j + 1, h1, h2⟩
    · by_cases hk : k = i
      · subst hk
        rw [List.getElem?_set_self hi0] at h2
        exact Or.inl ⟨0, rfl, h2⟩
      · rw [List.getElem?_set_ne (Ne.symm hk)] at h2
        exact Or.inr (Or.inl ⟨fun z => by rcases List.mem_cons.mp z with z | z; exact hk z; exact h1 z, h2⟩)
    · rw [List.length_set] at h3
      exact Or.inr (Or.inr ⟨j + 1, by simp only [List.length_cons]; omega, h2, by simp only [List.length_cons]; omega⟩)
theorem xput_ok {A0 : Nat → Prop} {D : va_G} {cl : List vw_C} {ws wc w1 : va_W} {H H1 : Heap} (hP : va_P D cl ws H) (hD : va_D A0 ws) (isC : List Nat) (hC : isC.map (fun i => ws[i]?) = wc.map some)
    (hlen : wc.length ≤ w1.length) (hk : ∀ q : Nat, q < H.size → ¬ va_A wc H.size q → H1[q]? = H[q]?) (hF : ∀ q, va_A wc H.size q → A0 q) (hP1 : va_P D cl w1 H1) (hD1 : va_D (va_A wc H.size) w1) : va_P D cl (xput ws isC w1) H1 ∧ va_D A0 (xput ws isC w1) := by
  have hlC : isC.length = wc.length := by simpa using congrArg List.length hC
  have hl : isC.length ≤ w1.length := by omega
  have at' : ∀ (k : Nat) (q : Nat × va_E), wc[k]? = some q → ∃ i, isC[k]? = some i ∧ ws[i]? = some q := by
    intro k q hq
    have h1 : (isC.map (fun i => ws[i]?))[k]? = some (some q) := by rw [hC, List.getElem?_map, hq]; rfl
    rw [List.getElem?_map] at h1
    cases hi : isC[k]? with
    | none => rw [hi] at h1; cases h1
    | some i => rw [hi] at h1; exact ⟨i, rfl, Option.some.inj h1⟩
  have hin : ∀ i ∈ isC, i < ws.length := by
    intro i hi
    obtain ⟨k, hk'⟩ := List.getElem?_of_mem hi
    have h1 : (isC.map (fun i => ws[i]?))[k]? = some (ws[i]?) := by rw [List.getElem?_map, hk']; rfl
    rw [hC, List.getElem?_map] at h1
    cases hw : wc[k]? with
    | none => rw [hw] at h1; cases h1
    | some z => rw [hw] at h1; exact (List.getElem?_eq_some_iff.mp (Option.some.inj h1).symm).1
  have apart : ∀ (k : Nat) (q : Nat × va_E), k ∉ isC → ws[k]? = some q → q.1 < H.size ∧ ¬ va_A wc H.size q.1 := by
    intro k q hkn hq
    have hlt := (hP k q hq).lt
    refine ⟨hlt, fun h => ?_⟩
    rcases h with ⟨k2, e, h⟩ | h
    · obtain ⟨j, h3, h4⟩ := at' k2 (q.1, e) h
      have := hD.1 k j q (q.1, e) hq h4 rfl
      subst this
      exact hkn (List.mem_of_getElem? h3)
    · omega
  have key := xput_get isC ws w1 hl hin
  refine ⟨fun k q hq => ?_, fun i j x y hx hy hxy => ?_, fun k q hq => ?_⟩
  · rcases key k q hq with ⟨j, -, h2⟩ | ⟨h1, h2⟩ | ⟨j, -, h2, -⟩
    · exact hP1 j q h2
    · obtain ⟨g1, g2⟩ := apart k q h1 h2
      exact (hP k q h2).kept (hk q.1 g1 g2)
    · exact hP1 j q h2
  · rcases key i x hx with ⟨a, a1, a2⟩ | ⟨a1, a2⟩ | ⟨a, a1, a2, a3⟩ <;> rcases key j y hy with ⟨b, b1, b2⟩ | ⟨b1, b2⟩ | ⟨b, b1, b2, b3⟩
    · have := hD1.1 a b x y a2 b2 hxy
      subst this
      exact Option.some.inj (a1.symm.trans b1)
    · exact absurd (hxy ▸ hD1.2 a x a2) (apart j y b1 b2).2
    · have := hD1.1 a b x y a2 b2 hxy
      have h9 := (List.getElem?_eq_some_iff.mp a1).1
      omega
    · exact absurd (hxy ▸ hD1.2 b y b2) (apart i x a1 a2).2
    · exact hD.1 i j x y a2 b2 hxy
    · exact absurd (hxy ▸ hD1.2 b y b2) (apart i x a1 a2).2
    · have := hD1.1 a b x y a2 b2 hxy
      have h9 := (List.getElem?_eq_some_iff.mp b1).1
      omega
    · exact absurd (hxy ▸ hD1.2 a x a2) (apart j y b1 b2).2
    · have := hD1.1 a b x y a2 b2 hxy
      omega
  · rcases key k q hq with ⟨j, -, h2⟩ | ⟨-, h2⟩ | ⟨j, -, h2, -⟩
    · exact hF _ (hD1.2 j q h2)
    · exact hD.2 k q h2
    · exact hF _ (hD1.2 j q h2)
section XC
variable {p : Program} {l : Launch} {e : Env} {R : Room} {s : State} {m : MethodId} {args : Array Value} {below : List Frame} {meth : Method} {c : Code} {Q : State → Prop} {D : va_G} {cy : Nat → ClassId} {A : Nat → Prop} {nL : Nat} {cc : ByteArray} {Ts : List Cond} {own : String} {ws : va_W} {k n pc q : Nat} {L L' : List (Nat × Value)} {st : List Value}
theorem xPre_bl {cy' : Nat → ClassId} {wc ro : va_W} {X : (Nat → Prop) → State → Prop} {sz : Nat} {av : List Value} (hX : xBl X) : FrameBlind (va_Pc av (xPre D cy' wc ro X sz)) := by
  intro a U g mk h
  obtain ⟨h0, h1, h2, h3, h4, h5, h6⟩ := h
  exact ⟨h0, h1, h2, va_K.moved (u := U) (U := U.calling g mk a) (Vm.Alike.refl U.vm) h3, h4, h5, hX _ U g mk a h6⟩
theorem x_pre {H : Heap} {locs : List Loc} {wc roW roR : va_W} {X : (Nat → Prop) → State → Prop} (hK : va_K D vwCl (TY cy) s) (hA : ∀ q, s.heap.size ≤ q → A q) (hP : va_P D vwCl ws H) (hD : va_D A ws) (hS : va_S A s.heap H locs) (isC isO : List Nat) (hC : isC.map (fun i => ws[i]?) = wc.map some) (hn : va_nd isC = true) (hO : isO.map (fun i => ws[i]?) = roW.map some) (hdis : ∀ i ∈ isO, i ∉ isC) (hR : ∀ q ∈ roR, xRo D A s q)
    (hX : ∀ (U : State), va_S A s.heap H locs → (∀ q, va_A wc H.size q → A q) → U.heap = H → s.WarmedH U.vm → X (va_A wc H.size) U) : ∀ U : State, U.heap = H → s.WarmedH U.vm → xPre D cy wc (roW ++ roR) X H.size U := by
  intro U hU hW
  have hF := va_free hD hS hA isC hC
  have at' : ∀ {is : List Nat} {w : va_W}, is.map (fun i => ws[i]?) = w.map some → ∀ (k : Nat) (q : Nat × va_E), w[k]? = some q → ∃ i, is[k]? = some i ∧ ws[i]? = some q := by
    intro is w hs k q hq
    have h1 : (is.map (fun i => ws[i]?))[k]? = some (some q) := by rw [hs, List.getElem?_map, hq]; rfl
    rw [List.getElem?_map] at h1
    cases hi : is[k]? with
    | none => rw [hi] at h1; cases h1
    | some i => rw [hi] at h1; exact ⟨i, rfl, Option.some.inj h1⟩
  refine ⟨by rw [hU], fun j r hr => ?_, va_K.moved hW.alike hK, (hD.sub isC hn hC).weaken (fun _ _ _ _ => trivial), fun r hr => ?_, hX U hS hF hU hW⟩
  · rw [hU]
    obtain ⟨i, -, h2⟩ := at' hC j r hr
    exact hP i r h2
  · rcases List.mem_append.mp hr with h | h
    · obtain ⟨j, hj⟩ := List.getElem?_of_mem h
      obtain ⟨i, h1, h2⟩ := at' hO j r hj
      refine ⟨by rw [hU]; exact hP i r h2, fun z => ?_⟩
      rcases z with ⟨k2, e2, z⟩ | z
      · obtain ⟨i2, h3, h4⟩ := at' hC k2 (r.1, e2) z
        have := hD.1 i i2 r (r.1, e2) h2 h4 rfl
        subst this
        exact hdis i (List.mem_of_getElem? h1) (List.mem_of_getElem? h3)
      · have := (hP i r h2).lt
        omega
    · have h0 := hR r h
      exact ⟨by rw [hU]; exact h0.at hS, fun z => h0.2 (hF _ z)⟩
theorem x_after {mc ms : Nat} {wc : va_W} {Post : Option Value → va_W → Prop} {rest st0 : List Value} {a : Array Value} {H : Heap} {locs : List Loc} {ls : Array Slot} (hA : ∀ q, s.heap.size ≤ q → A q) (hP : va_P D vwCl ws H) (hD : va_D A ws) (hS : va_S A s.heap H locs) (hl : lv_has ls nL L) (isC : List Nat) (hC : isC.map (fun i => ws[i]?) = wc.map some)
    (hr : va_Run p l e R s m args below meth c H locs k n mc ms (F0 m pc ls st0) rest (xQ D wc H.size Post a) (va_A wc H.size))
    (kk : ∀ (v : Option Value) (w' : va_W), Post v w' → xG p l e R s m args below meth c Q D A nL (xput ws isC w') (k + mc) (n + ms) (pc + 3) L (v.toList ++ rest)) : W p l e R s m args below meth c H locs k n Q (F0 m pc ls st0) := by
  intro T hT X
  have hF := va_free hD hS hA isC hC
  obtain ⟨v, st₀, t, T', L', h0, X', hL, e1, e2, ⟨⟨v', w', hv, hp, hlen, hP1, hD1⟩, hz, hk⟩, st⟩ := hr T hT X
  cases hv
  rw [h0] at hz hk
  obtain ⟨g1, g2⟩ := xput_ok hP hD isC hC hlen hk hF hP1 hD1
  obtain ⟨t2, a1, b1⟩ := kk v w' hp T'.heap (locs ++ L') ls (by rw [e1]; exact g1) g2
    ⟨Nat.le_trans hS.1 (by rw [e1]; exact hz), fun q h1 h2 => by rw [e1, hk q (Nat.lt_of_lt_of_le h1 hS.1) (fun z => h2 (hF q z))]; exact hS.2.1 q h1 h2, fun q hq => by
      rcases List.mem_append.mp hq with h | h
      · exact hS.2.2 q h
      · exact hF _ (hL q h)⟩ hl T' rfl X'
  exact ⟨t2, st t2 a1, b1⟩

theorem x_callV (C : xC p s m args meth c D cy A nL cc Ts own) {y : MethodName} {wy : List Cond} {rm : Room} {As st0 : List Value} {wc roW roR : va_W} {Post : Option Value → va_W → Prop} {X : (Nat → Prop) → State → Prop} {maxL ix na mc ms k' n' : Nat} {ret : Option FieldType} {bytes : ByteArray} {Cn : String} {b ci N : Nat} {fs : List Value} {T : u_T} (hM : xMet l D cy X y wy rm (.ref b :: As) wc (roW ++ roR) Post) (cw : CallW R s args own Cn ix y bytes maxL ret wy rm mc ms na) (isC isO : List Nat) (hC : isC.map (fun i => ws[i]?) = wc.map some) (hn : va_nd isC = true) (hO : isO.map (fun i => ws[i]?) = roW.map some) (hdis : ∀ i ∈ isO, i ∉ isC) (hR : ∀ q ∈ roR, xRo D A s q) (hrc : (b, .inr (ci, fs)) ∈ wc ++ (roW ++ roR)) (hcl : vwCl[ci]? = some (Cn, T, N)) (hbl : xBl X) (hX : ∀ (H : Heap) (locs : List Loc) (U : State), va_S A s.heap H locs → (∀ q, va_A wc H.size q → A q) → U.heap = H → s.WarmedH U.vm → X (va_A wc H.size) U) (hna : As.length = na) (hst : st0 = As.reverse ++ .ref b :: st) (hdg : decode cc pc = .ok (.invokevirtual ix, 3)) (hmc : rm.cells = mc) (hms : rm.slots = ms) (hcat : (st.map fun v => v.category).sum ≤ 8) (hq : pc + 3 = q) (hk : k + mc = k') (hn2 : n + ms = n') (hf : k' ≤ R.cells ∧ n' ≤ R.slots) (kk : ∀ (v : Option Value) (w' : va_W), Post v w' → xG p l e R s m args below meth c Q D A nL (xput ws isC w') k' n' q L (v.toList ++ st)) : xG p l e R s m args below meth c Q D A nL ws k n pc L st0 := by
  subst hmc hms hq hk hn2 hst
  intro H locs ls hP hD hS hl
  have hpre := x_pre C.2.2.2.2.2.1 C.2.2.2.2.2.2.1 hP hD hS isC isO hC hn hO hdis hR (hX H locs)
  refine x_after (wc := wc) (Post := Post) (a := (Value.ref b :: As).toArray) C.2.2.2.2.2.2.1 hP hD hS hl isC hC (va_runV (As := As) (rest := st) (b := b) ⟨C.1, C.2.1, C.2.2.1, C.2.2.2.1, C.2.2.2.2.1⟩ (hM H.size) cw ⟨xPre_bl hbl, ?_, fun U hU hW => ⟨rfl, hpre U hU hW⟩⟩ rfl hna hl.1 rfl (lv_room hcat) hdg hf) kk
  have hb : va_at D vwCl (b, .inr (ci, fs)) H := by
    have at' : ∀ {is : List Nat} {w : va_W}, is.map (fun i => ws[i]?) = w.map some → ∀ q ∈ w, va_at D vwCl q H := by
      intro is w hs q hq
      obtain ⟨j, hj⟩ := List.getElem?_of_mem hq
      have h1 : (is.map (fun i => ws[i]?))[j]? = some (some q) := by rw [hs, List.getElem?_map, hj]; rfl
      rw [List.getElem?_map] at h1
      cases hi : is[j]? with
      | none => rw [hi] at h1; cases h1
      | some i => rw [hi] at h1; exact hP i q (Option.some.inj h1)
    rcases List.mem_append.mp hrc with h | h
    · exact at' hC _ h
    · rcases List.mem_append.mp h with h | h
      · exact at' hO _ h
      · exact (hR _ h).at hS
  exact va_recv C.2.2.2.2.2.1 (ws := [(b, .inr (ci, fs))]) (q0 := 0) (ci := ci) (q := (Cn, T, N)) (fun j r hj => by
    cases j with
    | zero => cases hj; exact hb
    | succ j => simp at hj) hcl rfl
theorem x_callS (C : xC p s m args meth c D cy A nL cc Ts own) {y : MethodName} {wy : List Cond} {rm : Room} {As st0 : List Value} {wc roW roR : va_W} {Post : Option Value → va_W → Prop} {X : (Nat → Prop) → State → Prop} {maxL ix na mc ms k' n' : Nat} {ret : Option FieldType} {bytes : ByteArray}  (hM : xMet l D cy X y wy rm As wc (roW ++ roR) Post) (cw : CallB R s args own ix y bytes maxL ret wy rm mc ms na ∧ (Cond.static y).before args s = true) (isC isO : List Nat) (hC : isC.map (fun i => ws[i]?) = wc.map some) (hn : va_nd isC = true) (hO : isO.map (fun i => ws[i]?) = roW.map some) (hdis : ∀ i ∈ isO, i ∉ isC) (hR : ∀ q ∈ roR, xRo D A s q)  (hbl : xBl X) (hX : ∀ (H : Heap) (locs : List Loc) (U : State), va_S A s.heap H locs → (∀ q, va_A wc H.size q → A q) → U.heap = H → s.WarmedH U.vm → X (va_A wc H.size) U) (hna : As.length = na) (hst : st0 = As.reverse ++ st) (hdg : decode cc pc = .ok (.invokestatic ix, 3)) (hmc : rm.cells = mc) (hms : rm.slots = ms) (hcat : (st.map fun v => v.category).sum ≤ 8) (hq : pc + 3 = q) (hk : k + mc = k') (hn2 : n + ms = n') (hf : k' ≤ R.cells ∧ n' ≤ R.slots) (kk : ∀ (v : Option Value) (w' : va_W), Post v w' → xG p l e R s m args below meth c Q D A nL (xput ws isC w') k' n' q L (v.toList ++ st)) : xG p l e R s m args below meth c Q D A nL ws k n pc L st0 := by
  subst hmc hms hq hk hn2 hst
  intro H locs ls hP hD hS hl
  have hpre := x_pre C.2.2.2.2.2.1 C.2.2.2.2.2.2.1 hP hD hS isC isO hC hn hO hdis hR (hX H locs)
  exact x_after (wc := wc) (Post := Post) (a := As.toArray) C.2.2.2.2.2.2.1 hP hD hS hl isC hC (va_runS (As := As) (rest := st) ⟨C.1, C.2.1, C.2.2.1, C.2.2.2.1, C.2.2.2.2.1⟩ (hM H.size) cw ⟨xPre_bl hbl, fun U hU hW => ⟨rfl, hpre U hU hW⟩⟩ rfl hna hl.1 rfl (lv_room hcat) hdg hf) kk
theorem x_callI (C : xC p s m args meth c D cy A nL cc Ts own) {y : MethodName} {wy : List Cond} {rm : Room} {As st0 : List Value} {wc roW roR : va_W} {Post : Option Value → va_W → Prop} {X : (Nat → Prop) → State → Prop} {maxL ix na mc ms k' n' : Nat} {ret : Option FieldType} {bytes : ByteArray} {b : Nat} (hM : xMet l D cy X y wy rm (.ref b :: As) wc (roW ++ roR) Post) (cw : CallB R s args own ix y bytes maxL none wy rm mc ms na ∧ y.name = "<init>" ∧ (Cond.instanceMethod y).before args s = true) (isC isO : List Nat) (hC : isC.map (fun i => ws[i]?) = wc.map some) (hn : va_nd isC = true) (hO : isO.map (fun i => ws[i]?) = roW.map some) (hdis : ∀ i ∈ isO, i ∉ isC) (hR : ∀ q ∈ roR, xRo D A s q)  (hbl : xBl X) (hX : ∀ (H : Heap) (locs : List Loc) (U : State), va_S A s.heap H locs → (∀ q, va_A wc H.size q → A q) → U.heap = H → s.WarmedH U.vm → X (va_A wc H.size) U) (hna : As.length = na) (hst : st0 = As.reverse ++ .ref b :: st) (hdg : decode cc pc = .ok (.invokespecial ix, 3)) (hmc : rm.cells = mc) (hms : rm.slots = ms) (hcat : (st.map fun v => v.category).sum ≤ 8) (hq : pc + 3 = q) (hk : k + mc = k') (hn2 : n + ms = n') (hf : k' ≤ R.cells ∧ n' ≤ R.slots) (kk : ∀ (v : Option Value) (w' : va_W), Post v w' → xG p l e R s m args below meth c Q D A nL (xput ws isC w') k' n' q L (v.toList ++ st)) : xG p l e R s m args below meth c Q D A nL ws k n pc L st0 := by
  subst hmc hms hq hk hn2 hst
  intro H locs ls hP hD hS hl
  have hpre := x_pre C.2.2.2.2.2.1 C.2.2.2.2.2.2.1 hP hD hS isC isO hC hn hO hdis hR (hX H locs)
  exact x_after (wc := wc) (Post := Post) (a := (Value.ref b :: As).toArray) C.2.2.2.2.2.2.1 hP hD hS hl isC hC (va_runI (As := As) (rest := st) (b := b) ⟨C.1, C.2.1, C.2.2.1, C.2.2.2.1, C.2.2.2.2.1⟩ (hM H.size) cw ⟨xPre_bl hbl, fun U hU hW => ⟨rfl, hpre U hU hW⟩⟩ rfl hna hl.1 rfl (lv_room hcat) hdg hf) kk
theorem x_iret (C : xC p s m args meth c D cy A nL cc Ts own) {ws0 : va_W} {Post : Option Value → va_W → Prop} {v : Int32} (hA : A = va_A ws0 s.heap.size) (hQ : Q = xE D below ws0 Post args s k n) (hr : meth.sig.returnType = some .int) (hdg : decode cc pc = .ok (.ireturn, 1)) (hlen : ws0.length ≤ ws.length) (hp : Post (some (.int v)) ws) : xG p l e R s m args below meth c Q D A nL ws k n pc L [.int v] := by
  subst hA hQ
  intro H locs ls hP hD hS hl
  exact W.iret C.1 C.2.1 hr (fun t ht hW => ⟨⟨_, ws, rfl, hp, hlen, by rw [ht]; exact hP, hD⟩, hS.F ht⟩) hS.2.2 hdg (hlocks := C.2.2.2.2.2.2.2)
theorem x_zret (C : xC p s m args meth c D cy A nL cc Ts own) {ws0 : va_W} {Post : Option Value → va_W → Prop} {v : Int32} {ty : FieldType} (hA : A = va_A ws0 s.heap.size) (hQ : Q = xE D below ws0 Post args s k n) (hr : meth.sig.returnType = some ty) (hnr : narrow ty (.int v) = .int v) (hdg : decode cc pc = .ok (.ireturn, 1)) (hlen : ws0.length ≤ ws.length) (hp : Post (some (.int v)) ws) : xG p l e R s m args below meth c Q D A nL ws k n pc L [.int v] := by
  subst hA hQ
  intro H locs ls hP hD hS hl
  exact W.zret C.1 C.2.1 hr hnr (fun t ht hW => ⟨⟨_, ws, rfl, hp, hlen, by rw [ht]; exact hP, hD⟩, hS.F ht⟩) hS.2.2 hdg (hlocks := C.2.2.2.2.2.2.2)
theorem x_lret (C : xC p s m args meth c D cy A nL cc Ts own) {ws0 : va_W} {Post : Option Value → va_W → Prop} {v : Int64} (hA : A = va_A ws0 s.heap.size) (hQ : Q = xE D below ws0 Post args s k n) (hr : meth.sig.returnType = some .long) (hdg : decode cc pc = .ok (.lreturn, 1)) (hlen : ws0.length ≤ ws.length) (hp : Post (some (.long v)) ws) : xG p l e R s m args below meth c Q D A nL ws k n pc L [.long v] := by
  subst hA hQ
  intro H locs ls hP hD hS hl
  exact W.lret C.1 C.2.1 hr (fun t ht hW => ⟨⟨_, ws, rfl, hp, hlen, by rw [ht]; exact hP, hD⟩, hS.F ht⟩) hS.2.2 hdg (hlocks := C.2.2.2.2.2.2.2)
theorem x_vret (C : xC p s m args meth c D cy A nL cc Ts own) {ws0 : va_W} {Post : Option Value → va_W → Prop}  (hA : A = va_A ws0 s.heap.size) (hQ : Q = xE D below ws0 Post args s k n) (hr : meth.sig.returnType = none) (hdg : decode cc pc = .ok (.return_, 1)) (hlen : ws0.length ≤ ws.length) (hp : Post none ws) : xG p l e R s m args below meth c Q D A nL ws k n pc L [] := by
  subst hA hQ
  intro H locs ls hP hD hS hl
  exact W.vret C.1 C.2.1 hr (fun t ht hW => ⟨⟨_, ws, rfl, hp, hlen, by rw [ht]; exact hP, hD⟩, hS.F ht⟩) hS.2.2 hdg (hlocks := C.2.2.2.2.2.2.2)
theorem x_aret (C : xC p s m args meth c D cy A nL cc Ts own) {ws0 : va_W} {Post : Option Value → va_W → Prop} {v : Value} {ty : FieldType} (hA : A = va_A ws0 s.heap.size) (hQ : Q = xE D below ws0 Post args s k n) (hr : meth.sig.returnType = some ty) (hrt : (∃ z, ty = .object z) ∨ ∃ z, ty = .array z) (hv : v = .null ∨ ∃ a, v = .ref a) (hdg : decode cc pc = .ok (.areturn, 1)) (hlen : ws0.length ≤ ws.length) (hp : Post (some v) ws) : xG p l e R s m args below meth c Q D A nL ws k n pc L [v] := by
  subst hA hQ
  intro H locs ls hP hD hS hl
  exact W.aret C.1 C.2.1 hr hrt hv (fun t ht hW => ⟨⟨_, ws, rfl, hp, hlen, by rw [ht]; exact hP, hD⟩, hS.F ht⟩) hS.2.2 hdg (hlocks := C.2.2.2.2.2.2.2)
theorem x_obj (C : xC p s m args meth c D cy A nL cc Ts own) {ix a : Nat} (h1 : Cond.methodLink own ix Lib.objectInit ∈ Ts) (h2 : Cond.instanceMethod Lib.objectInit ∈ Ts) (h3 : Cond.code Lib.objectInit ⟨#[0xb1]⟩ 1 none ∈ Ts) (hfr : 1 ≤ R.frames) (hlo : (st.map fun v => v.category).sum + 12 ≤ R.locals) (hdg : decode cc pc = .ok (.invokespecial ix, 3)) (hq : pc + 3 = q) (kk : xG p l e R s m args below meth c Q D A nL ws k n q L st) : xG p l e R s m args below meth c Q D A nL ws k n pc L (.ref a :: st) := by
  subst hq
  intro H locs ls hP hD hS hl
  exact W.objInit C.1 C.2.1 C.2.2.2.1 (C.2.2.2.2.1 _ h1) (C.2.2.2.2.1 _ h2) (C.2.2.2.2.1 _ h3) rfl (by show ls.size = _; rw [hl.1, C.2.2.1]) rfl hdg hfr (by show 2 * 0 + _ + 12 ≤ _; omega) (kk H locs ls hP hD hS hl)
theorem x_new (C : xC p s m args meth c D cy A nL cc Ts own) {C' : String} {T : u_T} {N ci ix k' n' : Nat} {fs : List Value} (hin : ∀ w ∈ u_ws C' T N, w ∈ Ts) (ty : Nat → FieldType) (hty : ∀ k, k < N → parseFieldDescriptor (T k).2.2.1 = some (ty k)) (h1 : Cond.classLink own ix C' ∈ Ts) (h2 : Cond.instantiable C' N ∈ Ts) (h3 : Cond.initialized C' ∈ Ts) (hc : vwCl[ci]? = some (C', T, N)) (hfs : ∀ j, j < N → defaultValue (ty j) = vp_V fs j) (hk : k + 1 = k') (hn2 : n + N = n') (hf : k' ≤ R.cells ∧ n' ≤ R.slots) (hdg : decode cc pc = .ok (.new ix, 3)) (hq : pc + 3 = q) (kk : ∀ a : Nat, xG p l e R s m args below meth c Q D A nL (ws ++ [(a, .inr (ci, fs))]) k' n' q L (.ref a :: st)) : xG p l e R s m args below meth c Q D A nL ws k n pc L st := by
  subst hq hk hn2
  intro H locs ls hP hD hS hl
  exact va_new C.1 C.2.1 C.2.2.2.2.1 hin ty hty C.2.2.2.1 (C.2.2.2.2.1 _ h1) (C.2.2.2.2.1 _ h2) (C.2.2.2.2.1 _ h3) C.2.2.2.2.2.1 hP hD hS C.2.2.2.2.2.2.1 hc hfs hf.1 hf.2 hdg (fun a H1 hP hD hS => kk a H1 locs ls hP hD hS hl)
theorem x_newI (C : xC p s m args meth c D cy A nL cc Ts own) {z : Int32} {N k' n' : Nat} (h1 : Cond.arrayClass .int ∈ Ts) (hz : z.toInt = (N : Int)) (hN : N ≤ 60000) (hk : k + 1 = k') (hn2 : n + N = n') (hf : k' ≤ R.cells ∧ n' ≤ R.slots) (hdg : decode cc pc = .ok (.newarray .int, 2)) (hq : pc + 2 = q) (kk : ∀ a : Nat, xG p l e R s m args below meth c Q D A nL (ws ++ [(a, .inl (cy 1, N, .inl (fun _ => 0)))]) k' n' q L (.ref a :: st)) : xG p l e R s m args below meth c Q D A nL ws k n pc L (.int z :: st) := by
  subst hq hk hn2
  intro H locs ls hP hD hS hl
  have hK := C.2.2.2.2.2.1
  refine va_newa (atype := .int) (ty := .int) C.1 C.2.1 (C.2.2.2.2.1 _ h1) rfl hK hP hD hS C.2.2.2.2.2.2.1 (n := z) (N' := N) (a0 := (N, .inl (fun _ => 0))) (fun _ => rfl) (by rw [Int32.lt_iff_toInt_lt]; simp only [Int32.toInt_zero]; omega) (by show z.toInt.toNat = N; omega) (by simp only [componentBytes]; omega) hf.1 hf.2 hdg (fun a cA H1 hK1 hP hD hS => ?_)
  have e1 : cA = cy 1 := by
    have g1 := (hK1.2 7 (cA, .int) rfl).2
    have g2 := (hK.2 1 (cy 1, .int) rfl).2
    exact Option.some.inj ((show s.vm.findClass _ = some cA from g1).symm.trans (show s.vm.findClass _ = some (cy 1) from g2))
  subst e1
  exact kk a H1 locs ls hP hD hS hl
theorem x_newJ (C : xC p s m args meth c D cy A nL cc Ts own) {z : Int32} {N k' n' : Nat} (h1 : Cond.arrayClass .long ∈ Ts) (hz : z.toInt = (N : Int)) (hN : N ≤ 60000) (hk : k + 1 = k') (hn2 : n + N = n') (hf : k' ≤ R.cells ∧ n' ≤ R.slots) (hdg : decode cc pc = .ok (.newarray .long, 2)) (hq : pc + 2 = q) (kk : ∀ a : Nat, xG p l e R s m args below meth c Q D A nL (ws ++ [(a, .inl (cy 2, N, .inr (.inl (fun _ => 0))))]) k' n' q L (.ref a :: st)) : xG p l e R s m args below meth c Q D A nL ws k n pc L (.int z :: st) := by
  subst hq hk hn2
  intro H locs ls hP hD hS hl
  have hK := C.2.2.2.2.2.1
  refine va_newa (atype := .long) (ty := .long) C.1 C.2.1 (C.2.2.2.2.1 _ h1) rfl hK hP hD hS C.2.2.2.2.2.2.1 (n := z) (N' := N) (a0 := (N, .inr (.inl (fun _ => 0)))) (fun _ => rfl) (by rw [Int32.lt_iff_toInt_lt]; simp only [Int32.toInt_zero]; omega) (by show z.toInt.toNat = N; omega) (by simp only [componentBytes]; omega) hf.1 hf.2 hdg (fun a cA H1 hK1 hP hD hS => ?_)
  have e1 : cA = cy 2 := by
    have g1 := (hK1.2 7 (cA, .long) rfl).2
    have g2 := (hK.2 2 (cy 2, .long) rfl).2
    exact Option.some.inj ((show s.vm.findClass _ = some cA from g1).symm.trans (show s.vm.findClass _ = some (cy 2) from g2))
  subst e1
  exact kk a H1 locs ls hP hD hS hl
theorem x_newB (C : xC p s m args meth c D cy A nL cc Ts own) {z : Int32} {N k' n' : Nat} (h1 : Cond.arrayClass .byte ∈ Ts) (hz : z.toInt = (N : Int)) (hN : N ≤ 60000) (hk : k + 1 = k') (hn2 : n + N = n') (hf : k' ≤ R.cells ∧ n' ≤ R.slots) (hdg : decode cc pc = .ok (.newarray .byte, 2)) (hq : pc + 2 = q) (kk : ∀ a : Nat, xG p l e R s m args below meth c Q D A nL (ws ++ [(a, .inl (cy 0, N, .inl (fun _ => 0)))]) k' n' q L (.ref a :: st)) : xG p l e R s m args below meth c Q D A nL ws k n pc L (.int z :: st) := by
  subst hq hk hn2
  intro H locs ls hP hD hS hl
  have hK := C.2.2.2.2.2.1
  refine va_newa (atype := .byte) (ty := .byte) C.1 C.2.1 (C.2.2.2.2.1 _ h1) rfl hK hP hD hS C.2.2.2.2.2.2.1 (n := z) (N' := N) (a0 := (N, .inl (fun _ => 0))) (fun _ => rfl) (by rw [Int32.lt_iff_toInt_lt]; simp only [Int32.toInt_zero]; omega) (by show z.toInt.toNat = N; omega) (by simp only [componentBytes]; omega) hf.1 hf.2 hdg (fun a cA H1 hK1 hP hD hS => ?_)
  have e1 : cA = cy 0 := by
    have g1 := (hK1.2 7 (cA, .byte) rfl).2
    have g2 := (hK.2 0 (cy 0, .byte) rfl).2
    exact Option.some.inj ((show s.vm.findClass _ = some cA from g1).symm.trans (show s.vm.findClass _ = some (cy 0) from g2))
  subst e1
  exact kk a H1 locs ls hP hD hS hl
theorem x_newq3 (C : xC p s m args meth c D cy A nL cc Ts own) {z : Int32} {N k' n' ix : Nat} (hao : va_AO "FeatureImport$Field" s) (h1 : Cond.classLink own ix "FeatureImport$Field" ∈ Ts) (hz : z.toInt = (N : Int)) (hN : N ≤ 60000) (hk : k + 1 = k') (hn2 : n + N = n') (hf : k' ≤ R.cells ∧ n' ≤ R.slots) (hdg : decode cc pc = .ok (.anewarray ix, 3)) (hq : pc + 3 = q) (kk : ∀ a : Nat, xG p l e R s m args below meth c Q D A nL (ws ++ [(a, .inl (cy 3, N, .inr (.inr (.inr (.inr (fun _ => none))))))]) k' n' q L (.ref a :: st)) : xG p l e R s m args below meth c Q D A nL ws k n pc L (.int z :: st) := by
  subst hq hk hn2
  intro H locs ls hP hD hS hl
  have hK := C.2.2.2.2.2.1
  refine va_newq C.1 C.2.1 C.2.2.2.1 (C.2.2.2.2.1 _ h1) hao hK hP hD hS C.2.2.2.2.2.2.1 (n := z) (N' := N) (by rw [Int32.lt_iff_toInt_lt]; simp only [Int32.toInt_zero]; omega) (by show z.toInt.toNat = N; omega) (by omega) hf.1 hf.2 hdg (fun a cA H1 hK1 hP hD hS => ?_)
  have e1 : cA = cy 3 := by
    obtain ⟨_, _, _, _, _, g1⟩ := (hK1.2 7 (cA, .object "FeatureImport$Field") rfl).2
    obtain ⟨_, _, _, _, _, g2⟩ := (hK.2 3 (cy 3, .object "FeatureImport$Field") rfl).2
    exact Option.some.inj (g1.symm.trans g2)
  subst e1
  exact kk a H1 locs ls hP hD hS hl
theorem x_newq4 (C : xC p s m args meth c D cy A nL cc Ts own) {z : Int32} {N k' n' ix : Nat} (hao : va_AO "FeatureImport$Line" s) (h1 : Cond.classLink own ix "FeatureImport$Line" ∈ Ts) (hz : z.toInt = (N : Int)) (hN : N ≤ 60000) (hk : k + 1 = k') (hn2 : n + N = n') (hf : k' ≤ R.cells ∧ n' ≤ R.slots) (hdg : decode cc pc = .ok (.anewarray ix, 3)) (hq : pc + 3 = q) (kk : ∀ a : Nat, xG p l e R s m args below meth c Q D A nL (ws ++ [(a, .inl (cy 4, N, .inr (.inr (.inr (.inr (fun _ => none))))))]) k' n' q L (.ref a :: st)) : xG p l e R s m args below meth c Q D A nL ws k n pc L (.int z :: st) := by
  subst hq hk hn2
  intro H locs ls hP hD hS hl
  have hK := C.2.2.2.2.2.1
  refine va_newq C.1 C.2.1 C.2.2.2.1 (C.2.2.2.2.1 _ h1) hao hK hP hD hS C.2.2.2.2.2.2.1 (n := z) (N' := N) (by rw [Int32.lt_iff_toInt_lt]; simp only [Int32.toInt_zero]; omega) (by show z.toInt.toNat = N; omega) (by omega) hf.1 hf.2 hdg (fun a cA H1 hK1 hP hD hS => ?_)
  have e1 : cA = cy 4 := by
    obtain ⟨_, _, _, _, _, g1⟩ := (hK1.2 7 (cA, .object "FeatureImport$Line") rfl).2
    obtain ⟨_, _, _, _, _, g2⟩ := (hK.2 4 (cy 4, .object "FeatureImport$Line") rfl).2
    exact Option.some.inj (g1.symm.trans g2)
  subst e1
  exact kk a H1 locs ls hP hD hS hl
theorem x_newq5 (C : xC p s m args meth c D cy A nL cc Ts own) {z : Int32} {N k' n' ix : Nat} (hao : va_AO "FeatureImport$Tape" s) (h1 : Cond.classLink own ix "FeatureImport$Tape" ∈ Ts) (hz : z.toInt = (N : Int)) (hN : N ≤ 60000) (hk : k + 1 = k') (hn2 : n + N = n') (hf : k' ≤ R.cells ∧ n' ≤ R.slots) (hdg : decode cc pc = .ok (.anewarray ix, 3)) (hq : pc + 3 = q) (kk : ∀ a : Nat, xG p l e R s m args below meth c Q D A nL (ws ++ [(a, .inl (cy 5, N, .inr (.inr (.inr (.inr (fun _ => none))))))]) k' n' q L (.ref a :: st)) : xG p l e R s m args below meth c Q D A nL ws k n pc L (.int z :: st) := by
  subst hq hk hn2
  intro H locs ls hP hD hS hl
  have hK := C.2.2.2.2.2.1
  refine va_newq C.1 C.2.1 C.2.2.2.1 (C.2.2.2.2.1 _ h1) hao hK hP hD hS C.2.2.2.2.2.2.1 (n := z) (N' := N) (by rw [Int32.lt_iff_toInt_lt]; simp only [Int32.toInt_zero]; omega) (by show z.toInt.toNat = N; omega) (by omega) hf.1 hf.2 hdg (fun a cA H1 hK1 hP hD hS => ?_)
  have e1 : cA = cy 5 := by
    obtain ⟨_, _, _, _, _, g1⟩ := (hK1.2 7 (cA, .object "FeatureImport$Tape") rfl).2
    obtain ⟨_, _, _, _, _, g2⟩ := (hK.2 5 (cy 5, .object "FeatureImport$Tape") rfl).2
    exact Option.some.inj (g1.symm.trans g2)
  subst e1
  exact kk a H1 locs ls hP hD hS hl
theorem x_copyI (C : xC p s m args meth c D cy A nL cc Ts own) {a a0 N0 N1 sp dp cn ix : Nat} {f g g' : Nat → Int32} {zs zd zc : Int32} {ws' : va_W} (h1 : Cond.methodLink own ix arraycopyName ∈ Ts) (h2 : Cond.native arraycopyName ∈ Ts) (h3 : Cond.static arraycopyName ∈ Ts) (h4 : Cond.initialized "java/lang/System" ∈ Ts) (q0 q1 : Nat) (ha0 : ws[q0]? = some (a0, .inl (cy 1, N0, .inl f))) (ha1 : ws[q1]? = some (a, .inl (cy 1, N1, .inl g))) (hs : zs.toInt = (sp : Int)) (hd : zd.toInt = (dp : Int)) (hc : zc.toInt = (cn : Int)) (h5 : sp + cn ≤ N0) (h6 : dp + cn ≤ N1) (hg : va_cpy f g sp dp cn = g') (hws : ws.set q1 (a, .inl (cy 1, N1, .inl g')) = ws') (hfr : 1 ≤ R.frames) (hlo : (st.map fun v => v.category).sum + (nativeFrameWords "java/lang/System" "arraycopy" 5 + 11) ≤ R.locals) (hdg : decode cc pc = .ok (.invokestatic ix, 3)) (hq : pc + 3 = q) (kk : xG p l e R s m args below meth c Q D A nL ws' k n q L st) : xG p l e R s m args below meth c Q D A nL ws k n pc L (.int zc :: .int zd :: .ref a :: .int zs :: .ref a0 :: st) := by
  subst hq hg hws
  intro H locs ls hP hD hS hl
  have nn : ∀ {z : Int32} {j : Nat}, z.toInt = (j : Int) → ¬ z < 0 := fun h => by rw [Int32.lt_iff_toInt_lt]; simp only [Int32.toInt_zero]; omega
  refine va_copyi C.1 C.2.1 (by rw [C.2.2.1, hl.1]) C.2.2.2.1 (C.2.2.2.2.1 _ h1) (C.2.2.2.2.1 _ h2) (C.2.2.2.2.1 _ h3) (C.2.2.2.2.1 _ h4) C.2.2.2.2.2.1 hP hD hS q0 q1 1 1 (ty := .int) ha0 ha1 rfl rfl rfl (nn hs) (nn hd) (nn hc) (by rw [x_cl hs, x_cl hc]; exact h5) (by rw [x_cl hd, x_cl hc]; exact h6) (fun _ _ => rfl) hfr hlo hdg (fun H locs hP hD hS => ?_)
  rw [x_cl hs, x_cl hd, x_cl hc] at hP hD
  exact kk H locs ls hP hD hS hl
theorem x_copyJ (C : xC p s m args meth c D cy A nL cc Ts own) {a a0 N0 N1 sp dp cn ix : Nat} {f g g' : Nat → Int64} {zs zd zc : Int32} {ws' : va_W} (h1 : Cond.methodLink own ix arraycopyName ∈ Ts) (h2 : Cond.native arraycopyName ∈ Ts) (h3 : Cond.static arraycopyName ∈ Ts) (h4 : Cond.initialized "java/lang/System" ∈ Ts) (q0 q1 : Nat) (ha0 : ws[q0]? = some (a0, .inl (cy 2, N0, .inr (.inl f)))) (ha1 : ws[q1]? = some (a, .inl (cy 2, N1, .inr (.inl g)))) (hs : zs.toInt = (sp : Int)) (hd : zd.toInt = (dp : Int)) (hc : zc.toInt = (cn : Int)) (h5 : sp + cn ≤ N0) (h6 : dp + cn ≤ N1) (hg : va_cpy f g sp dp cn = g') (hws : ws.set q1 (a, .inl (cy 2, N1, .inr (.inl g'))) = ws') (hfr : 1 ≤ R.frames) (hlo : (st.map fun v => v.category).sum + (nativeFrameWords "java/lang/System" "arraycopy" 5 + 11) ≤ R.locals) (hdg : decode cc pc = .ok (.invokestatic ix, 3)) (hq : pc + 3 = q) (kk : xG p l e R s m args below meth c Q D A nL ws' k n q L st) : xG p l e R s m args below meth c Q D A nL ws k n pc L (.int zc :: .int zd :: .ref a :: .int zs :: .ref a0 :: st) := by
  subst hq hg hws
  intro H locs ls hP hD hS hl
  have nn : ∀ {z : Int32} {j : Nat}, z.toInt = (j : Int) → ¬ z < 0 := fun h => by rw [Int32.lt_iff_toInt_lt]; simp only [Int32.toInt_zero]; omega
  refine va_copyl C.1 C.2.1 (by rw [C.2.2.1, hl.1]) C.2.2.2.1 (C.2.2.2.2.1 _ h1) (C.2.2.2.2.1 _ h2) (C.2.2.2.2.1 _ h3) (C.2.2.2.2.1 _ h4) C.2.2.2.2.2.1 hP hD hS q0 q1 2 2 (ty := .long) ha0 ha1 rfl rfl rfl (nn hs) (nn hd) (nn hc) (by rw [x_cl hs, x_cl hc]; exact h5) (by rw [x_cl hd, x_cl hc]; exact h6) (fun _ _ => rfl) hfr hlo hdg (fun H locs hP hD hS => ?_)
  rw [x_cl hs, x_cl hd, x_cl hc] at hP hD
  exact kk H locs ls hP hD hS hl
theorem x_mmax (C : xC p s m args meth c D cy A nL cc Ts own) {x y z : Int32} {ix : Nat} (h1 : Cond.methodLink own ix Lib.Math.max.name ∈ Ts) (h2 : Cond.static Lib.Math.max.name ∈ Ts) (h3 : Cond.initialized "java/lang/Math" ∈ Ts) (h4 : Cond.code Lib.Math.max.name Lib.Math.max.code 2 (some .int) ∈ Ts) (hfr : 1 ≤ R.frames) (hlo : (st.map fun v => v.category).sum + 13 ≤ R.locals) (hf : k ≤ R.cells ∧ n ≤ R.slots) (hz : (if x < y then y else x) = z) (hdg : decode cc pc = .ok (.invokestatic ix, 3)) (hq : pc + 3 = q) (kk : xG p l e R s m args below meth c Q D A nL ws k n q L (.int z :: st)) : xG p l e R s m args below meth c Q D A nL ws k n pc L (.int y :: .int x :: st) := by
  subst hq hz
  intro H locs ls hP hD hS hl
  exact va_mmax C.1 C.2.1 (by rw [C.2.2.1, hl.1]) C.2.2.2.1 (C.2.2.2.2.1 _ h1) (C.2.2.2.2.1 _ h2) (C.2.2.2.2.1 _ h3) (C.2.2.2.2.1 _ h4) hfr hlo hf.1 hf.2 hdg (kk H locs ls hP hD hS hl)
theorem x_mmin (C : xC p s m args meth c D cy A nL cc Ts own) {x y z : Int32} {ix : Nat} (h1 : Cond.methodLink own ix Lib.Math.min.name ∈ Ts) (h2 : Cond.static Lib.Math.min.name ∈ Ts) (h3 : Cond.initialized "java/lang/Math" ∈ Ts) (h4 : Cond.code Lib.Math.min.name Lib.Math.min.code 2 (some .int) ∈ Ts) (hfr : 1 ≤ R.frames) (hlo : (st.map fun v => v.category).sum + 13 ≤ R.locals) (hf : k ≤ R.cells ∧ n ≤ R.slots) (hz : (if y < x then y else x) = z) (hdg : decode cc pc = .ok (.invokestatic ix, 3)) (hq : pc + 3 = q) (kk : xG p l e R s m args below meth c Q D A nL ws k n q L (.int z :: st)) : xG p l e R s m args below meth c Q D A nL ws k n pc L (.int y :: .int x :: st) := by
  subst hq hz
  intro H locs ls hP hD hS hl
  exact va_mmin C.1 C.2.1 (by rw [C.2.2.1, hl.1]) C.2.2.2.1 (C.2.2.2.2.1 _ h1) (C.2.2.2.2.1 _ h2) (C.2.2.2.2.1 _ h3) (C.2.2.2.2.1 _ h4) hfr hlo hf.1 hf.2 hdg (kk H locs ls hP hD hS hl)
theorem x_mmaxl (C : xC p s m args meth c D cy A nL cc Ts own) {x y z : Int64} {ix : Nat} (h1 : Cond.methodLink own ix Lib.MathLoose.max_long.x ∈ Ts) (h2 : Cond.static Lib.MathLoose.max_long.x ∈ Ts) (h3 : Cond.initialized "java/lang/Math" ∈ Ts) (h4 : Cond.code Lib.MathLoose.max_long.x Lib.MathLoose.max_long.code 4 (some .long) ∈ Ts) (hfr : 1 ≤ R.frames) (hlo : (st.map fun v => v.category).sum + 15 ≤ R.locals) (hf : k ≤ R.cells ∧ n ≤ R.slots) (hz : (if y < x then x else y) = z) (hdg : decode cc pc = .ok (.invokestatic ix, 3)) (hq : pc + 3 = q) (kk : xG p l e R s m args below meth c Q D A nL ws k n q L (.long z :: st)) : xG p l e R s m args below meth c Q D A nL ws k n pc L (.long y :: .long x :: st) := by
  subst hq hz
  intro H locs ls hP hD hS hl
  exact va_mmax_long C.1 C.2.1 (by rw [C.2.2.1, hl.1]) C.2.2.2.1 (C.2.2.2.2.1 _ h1) (C.2.2.2.2.1 _ h2) (C.2.2.2.2.1 _ h3) (C.2.2.2.2.1 _ h4) hfr hlo hf.1 hf.2 hdg (kk H locs ls hP hD hS hl)
theorem x_mminl (C : xC p s m args meth c D cy A nL cc Ts own) {x y z : Int64} {ix : Nat} (h1 : Cond.methodLink own ix Lib.MathLoose.min_long.x ∈ Ts) (h2 : Cond.static Lib.MathLoose.min_long.x ∈ Ts) (h3 : Cond.initialized "java/lang/Math" ∈ Ts) (h4 : Cond.code Lib.MathLoose.min_long.x Lib.MathLoose.min_long.code 4 (some .long) ∈ Ts) (hfr : 1 ≤ R.frames) (hlo : (st.map fun v => v.category).sum + 15 ≤ R.locals) (hf : k ≤ R.cells ∧ n ≤ R.slots) (hz : (if y < x then y else x) = z) (hdg : decode cc pc = .ok (.invokestatic ix, 3)) (hq : pc + 3 = q) (kk : xG p l e R s m args below meth c Q D A nL ws k n q L (.long z :: st)) : xG p l e R s m args below meth c Q D A nL ws k n pc L (.long y :: .long x :: st) := by
  subst hq hz
  intro H locs ls hP hD hS hl
  exact va_mmin_long C.1 C.2.1 (by rw [C.2.2.1, hl.1]) C.2.2.2.1 (C.2.2.2.2.1 _ h1) (C.2.2.2.2.1 _ h2) (C.2.2.2.2.1 _ h3) (C.2.2.2.2.1 _ h4) hfr hlo hf.1 hf.2 hdg (kk H locs ls hP hD hS hl)
theorem x_mabsl (C : xC p s m args meth c D cy A nL cc Ts own) {x z : Int64} {ix : Nat} (h1 : Cond.methodLink own ix Lib.MathLoose.abs_long.x ∈ Ts) (h2 : Cond.static Lib.MathLoose.abs_long.x ∈ Ts) (h3 : Cond.initialized "java/lang/Math" ∈ Ts) (h4 : Cond.code Lib.MathLoose.abs_long.x Lib.MathLoose.abs_long.code 2 (some .long) ∈ Ts) (hfr : 1 ≤ R.frames) (hlo : (st.map fun v => v.category).sum + 13 ≤ R.locals) (hf : k ≤ R.cells ∧ n ≤ R.slots) (hz : (if 0 < x then x else -x) = z) (hdg : decode cc pc = .ok (.invokestatic ix, 3)) (hq : pc + 3 = q) (kk : xG p l e R s m args below meth c Q D A nL ws k n q L (.long z :: st)) : xG p l e R s m args below meth c Q D A nL ws k n pc L (.long x :: st) := by
  subst hq hz
  intro H locs ls hP hD hS hl
  exact va_mabs_long C.1 C.2.1 (by rw [C.2.2.1, hl.1]) C.2.2.2.1 (C.2.2.2.2.1 _ h1) (C.2.2.2.2.1 _ h2) (C.2.2.2.2.1 _ h3) (C.2.2.2.2.1 _ h4) hfr hlo hf.1 hf.2 hdg (kk H locs ls hP hD hS hl)
end XC
