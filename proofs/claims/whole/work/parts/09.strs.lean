/-! WHAT THE CLASS DAYS RESTS ON BESIDE ITS CELLS: its table, its two patterns, what String's own code reads -/
def zLens : List Nat := [10, 10]
def zBytes : List (List Int32) := [[48, 48, 47, 48, 48, 47, 48, 48, 48, 48], [48, 48, 48, 48, 45, 48, 48, 45, 48, 48]]
def patN (i k : Nat) : Nat := ([[48, 48, 47, 48, 48, 47, 48, 48, 48, 48], [48, 48, 48, 48, 45, 48, 48, 45, 48, 48]].getD i []).getD k 0
theorem patN_ch : ∀ i, i < 2 → ∀ k, k < 10 → (((zBytes.getD i []).getD k 0 &&& nI 255).toUInt32 % 65536).toInt32 = nI (patN i k) ∧ narrow .char (.int (nI (patN i k))) = .int (nI (patN i k)) := by decide +kernel
theorem patN_lt : ∀ i, i < 2 → ∀ k, k < 10 → patN i k < 128 := by decide +kernel
def xZ (t0 : Nat) (adK adV : Nat → Nat) (A : Nat → Prop) (U : State) : Prop :=
  va_Z "FeatureImport$Days" "AHEAD_OF_MONTH" "[I" (.ref t0) A U U.heap ∧ va_T .int t0 13 (fun j => .int (nI (mTab j))) A U U.heap ∧ vk_S 2 zLens zBytes adK adV A U U.heap ∧ vk_R RX0 9 "00/00/0000" (adK 0) U ∧ vk_R RX0 15 "0000-00-00" (adK 1) U ∧ va_Z "java/lang/String" "COMPACT_STRINGS" "Z" (.int 1) A U U.heap ∧ va_Zq "jdk/internal/util/Preconditions" "SIOOBE_FORMATTER" "Ljava/util/function/BiFunction;" A U U.heap
theorem xZ_bl (t0 : Nat) (adK adV : Nat → Nat) : xBl (xZ t0 adK adV) := by
  intro A U g mk a h
  obtain ⟨h1, h2, h3, h4, h5, h6, h7⟩ := h
  have hv : U.vm.Alike (U.calling g mk a).vm := Vm.Alike.refl U.vm
  exact ⟨h1.moved hv, h2.moved hv, h3.moved hv, h4.same rfl, h5.same rfl, h6.moved hv, h7.moved hv⟩
theorem xZ_call {t0 : Nat} {adK adV : Nat → Nat} {A A' : Nat → Prop} {s U : State} {H : Heap} {locs : List Loc} (h : xZ t0 adK adV A s) (hS : va_S A s.heap H locs) (hF : ∀ q, A' q → A q) (hU : U.heap = H) (hW : s.WarmedH U.vm) : xZ t0 adK adV A' U := by
  subst hU
  obtain ⟨h1, h2, h3, h4, h5, h6, h7⟩ := h
  exact ⟨((h1.kept hS.2.1).moved hW.alike).narrow hF, ((h2.kept hS.2.1).moved hW.alike).narrow hF, ((h3.kept hS.2.1).moved hW.alike).narrow hF, h4.warm hW, h5.warm hW, ((h6.kept hS.2.1).moved hW.alike).narrow hF, ((h7.kept hS.2.1).moved hW.alike).narrow hF⟩
section XS
variable {p : Program} {l : Launch} {e : Env} {R : Room} {s : State} {m : MethodId} {args : Array Value} {below : List Frame} {meth : Method} {c : Code} {Q : State → Prop} {D : va_G} {cy : Nat → ClassId} {A : Nat → Prop} {nL : Nat} {cc : ByteArray} {Ts : List Cond} {own : String} {ws : va_W} {k n pc q : Nat} {L L' : List (Nat × Value)} {st : List Value}
theorem x_gets (C : xC p s m args meth c D cy A nL cc Ts own) {Cn nm d : String} {v : Value} {ix : Nat} (hZ : va_Z Cn nm d v A s s.heap) (hlink : Cond.fieldLink own ix Cn nm d ∈ Ts) (hdg : decode cc pc = .ok (.getstatic ix, 3)) (hq : pc + 3 = q) (kk : xG p l e R s m args below meth c Q D A nL ws k n q L (v :: st)) : xG p l e R s m args below meth c Q D A nL ws k n pc L st := by
  subst hq
  intro H locs ls hP hD hS hl
  exact va_gets C.1 C.2.1 hZ hS C.2.2.2.1 (C.2.2.2.2.1 _ hlink) (fun _ h => h) hdg (kk H locs ls hP hD hS hl)
theorem x_tabI (C : xC p s m args meth c D cy A nL cc Ts own) {t N j : Nat} {f : Nat → Value} {i : Int32} {v : Value} (hT : va_T .int t N f A s s.heap) (hi : i.toInt = (j : Int)) (hj : j < N) (hv : f j = v) (hdg : decode cc pc = .ok (.iaload, 1)) (hq : pc + 1 = q) (kk : xG p l e R s m args below meth c Q D A nL ws k n q L (v :: st)) : xG p l e R s m args below meth c Q D A nL ws k n pc L (.int i :: .ref t :: st) := by
  subst hq
  intro H locs ls hP hD hS hl
  exact va_ti C.1 C.2.1 hT hS (x_in hi hj) (by rw [x_cl hi]; exact hv) hdg (kk H locs ls hP hD hS hl)
theorem x_tabB (C : xC p s m args meth c D cy A nL cc Ts own) {t N j : Nat} {f : Nat → Value} {i : Int32} {v : Value} (hT : va_T .byte t N f A s s.heap) (hi : i.toInt = (j : Int)) (hj : j < N) (hv : f j = v) (hdg : decode cc pc = .ok (.baload, 1)) (hq : pc + 1 = q) (kk : xG p l e R s m args below meth c Q D A nL ws k n q L (v :: st)) : xG p l e R s m args below meth c Q D A nL ws k n pc L (.int i :: .ref t :: st) := by
  subst hq
  intro H locs ls hP hD hS hl
  exact va_tb C.1 C.2.1 hT hS (x_in hi hj) (by rw [x_cl hi]; exact hv) hdg (kk H locs ls hP hD hS hl)
theorem x_tabLen (C : xC p s m args meth c D cy A nL cc Ts own) {ty : FieldType} {t N : Nat} {f : Nat → Value} {v : Int32} (hT : va_T ty t N f A s s.heap) (hv : Int32.ofNat N = v) (hdg : decode cc pc = .ok (.arraylength, 1)) (hq : pc + 1 = q) (kk : xG p l e R s m args below meth c Q D A nL ws k n q L (.int v :: st)) : xG p l e R s m args below meth c Q D A nL ws k n pc L (.ref t :: st) := by
  subst hq
  intro H locs ls hP hD hS hl
  exact va_tlen C.1 C.2.1 hT hS hv hdg (kk H locs ls hP hD hS hl)
theorem x_getStr (C : xC p s m args meth c D cy A nL cc Ts own) {o nm d : String} {v : Value} {ix a : Nat} (hE : va_OF o nm d v a A s s.heap) (hlink : Cond.fieldLink own ix o nm d ∈ Ts) (hdg : decode cc pc = .ok (.getfield ix, 3)) (hq : pc + 3 = q) (kk : xG p l e R s m args below meth c Q D A nL ws k n q L (v :: st)) : xG p l e R s m args below meth c Q D A nL ws k n pc L (.ref a :: st) := by
  subst hq
  intro H locs ls hP hD hS hl
  exact vk_getf C.1 C.2.1 hE hS C.2.2.2.1 (C.2.2.2.2.1 _ hlink) (fun _ h => h) hdg (kk H locs ls hP hD hS hl)
theorem x_ldcS (C : xC p s m args meth c D cy A nL cc Ts own) {tx : String} {ix a : Nat} (hZ : vk_R own ix tx a s) (hdg : decode cc pc = .ok (.ldc ix, 2)) (hq : pc + 2 = q) (kk : xG p l e R s m args below meth c Q D A nL ws k n q L (.ref a :: st)) : xG p l e R s m args below meth c Q D A nL ws k n pc L st := by
  subst hq
  intro H locs ls hP hD hS hl
  exact va_ldcS C.1 C.2.1 C.2.2.2.1 hZ hdg (kk H locs ls hP hD hS hl)
theorem x_ishr (C : xC p s m args meth c D cy A nL cc Ts own) {x y z : Int32} (hdg : decode cc pc = .ok (.ishr, 1)) (hq : pc + 1 = q) (hz : x >>> (y &&& 31) = z) (kk : xG p l e R s m args below meth c Q D A nL ws k n q L (.int z :: st)) : xG p l e R s m args below meth c Q D A nL ws k n pc L (.int y :: .int x :: st) := by
  subst hq hz
  intro H locs ls hP hD hS hl
  exact lv_ishr C.1 C.2.1 hdg (kk H locs ls hP hD hS hl)
theorem x_i2c (C : xC p s m args meth c D cy A nL cc Ts own) {x z : Int32} (hdg : decode cc pc = .ok (.i2c, 1)) (hq : pc + 1 = q) (hz : (x.toUInt32 % 65536).toInt32 = z) (kk : xG p l e R s m args below meth c Q D A nL ws k n q L (.int z :: st)) : xG p l e R s m args below meth c Q D A nL ws k n pc L (.int x :: st) := by
  subst hq
  intro H locs ls hP hD hS hl
  exact lv_i2c C.1 C.2.1 hdg hz (kk H locs ls hP hD hS hl)
/-- a call of a method of String on a pattern -/
theorem x_callStr (C : xC p s m args meth c D cy A nL cc Ts own) {t0 : Nat} {adK adV : Nat → Nat} {i : Nat} (hZ : xZ t0 adK adV A s) (hi : i < 2) {y : MethodName} {wy : List Cond} {rm : Room} {As st0 : List Value} {Post : Option Value → va_W → Prop} {maxL ix na : Nat} {ret : Option FieldType} {bytes : ByteArray} (hM : xMet l D cy (xZ t0 adK adV) y wy rm (.ref (adK i) :: As) [] [] Post) (cw : CallW R s args own "java/lang/String" ix y bytes maxL ret wy rm 0 0 na)
    (hna : As.length = na) (hst : st0 = As.reverse ++ .ref (adK i) :: st) (hdg : decode cc pc = .ok (.invokevirtual ix, 3)) (hmc : rm.cells = 0) (hms : rm.slots = 0) (hcat : (st.map fun v => v.category).sum ≤ 8) (hq : pc + 3 = q) (hf : k ≤ R.cells ∧ n ≤ R.slots) (kk : ∀ (v : Option Value) (w' : va_W), Post v w' → xG p l e R s m args below meth c Q D A nL (ws ++ w') k n q L (v.toList ++ st)) : xG p l e R s m args below meth c Q D A nL ws k n pc L st0 := by
  subst hq hst
  intro H locs ls hP hD hS hl
  have hM := hM H.size
  rw [hmc, hms] at hM
  have hpre := x_pre (wc := []) (roW := []) (roR := []) (X := xZ t0 adK adV) C.2.2.2.2.2.1 C.2.2.2.2.2.2.1 hP hD hS [] [] rfl rfl rfl (fun _ h => absurd h List.not_mem_nil) (fun _ h => absurd h List.not_mem_nil) (fun U hS2 hF hU hW => xZ_call hZ hS2 hF hU hW)
  refine x_after (wc := []) (Post := Post) (a := (Value.ref (adK i) :: As).toArray) C.2.2.2.2.2.2.1 hP hD hS hl [] rfl (va_runV (As := As) (rest := st) (b := adK i) ⟨C.1, C.2.1, C.2.2.1, C.2.2.2.1, C.2.2.2.2.1⟩ hM cw ⟨xPre_bl (xZ_bl t0 adK adV), vk_recv hZ.2.2.1 hi hS, fun U hU hW => ⟨rfl, hpre U hU hW⟩⟩ rfl hna hl.1 rfl (lv_room hcat) hdg hf) (fun v w' hp => ?_)
  have e : xput ws [] w' = ws ++ w' := by cases w' <;> rfl
  rw [e]
  exact kk v w' hp
end XS
