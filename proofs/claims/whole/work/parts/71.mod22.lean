
section XTP
variable {p : Program} {l : Launch} {e : Env} {R : Room} {s : State} {m : MethodId} {args : Array Value} {below : List Frame} {meth : Method} {c : Code} {Q : State → Prop} {D : va_G} {cy : Nat → ClassId} {A : Nat → Prop} {nL : Nat} {cc : ByteArray} {Ts : List Cond} {own : String} {ws : va_W} {k n pc q : Nat} {L L' : List (Nat × Value)} {st : List Value}
theorem x_aald6 (C : xC p s m args meth c D cy A nL cc Ts own) {a N j : Nat} {f : Nat → Option Nat} {i : Int32} {v : Value} (q0 : Nat) (he : ws[q0]? = some (a, .inl (cy 6, N, .inr (.inr (.inr (.inr f)))))) (hi : i.toInt = (j : Int)) (hj : j < N) (hv : va_rf (f j) = v) (hdg : decode cc pc = .ok (.aaload, 1)) (hq : pc + 1 = q) (kk : xG p l e R s m args below meth c Q D A nL ws k n q L (v :: st)) : xG p l e R s m args below meth c Q D A nL ws k n pc L (.int i :: .ref a :: st) := by
  subst hq hv
  intro H locs ls hP hD hS hl
  have hin := x_in hi hj
  have hlt : i.toNatClampNeg < N := Nat.not_le.mp fun q => hin (Or.inr q)
  refine W.aald (v := va_rf (f i.toNatClampNeg)) (ty := .array .long) C.1 C.2.1 (hP q0 _ he) ((C.2.2.2.2.2.1.2 6 _ rfl).1 N (fun j => va_rf (f j))) rfl (fun q => by cases q) (by show ¬ (i < 0 ∨ (arrV _ _ _).slots.size ≤ _); rw [arrV_size]; exact hin) (by show (arrV _ _ _).slots[_]? = _; rw [arrV_read _ _ hlt]) rfl rfl hdg ?_
  rw [x_cl hi]
  exact kk H locs ls hP hD hS hl
end XTP
theorem jdG_dif {g f : Nat → Int64} {n : Nat} {i : Int} {m k p : Nat} (h : k < m) (h1 : ¬ (i < 0 ∨ (n : Int) - k ≤ i)) (hp : p = i.toNat + k) (h2 : ¬ (f p).toInt = (g k).toInt) : jdS g f n i (m - k) k = nI k := by
  rw [show m - k = (m - (k + 1)) + 1 by omega]
  rw [hp] at h2
  exact (if_neg h1).trans (if_neg h2)
theorem jdG_go {g f : Nat → Int64} {n : Nat} {i : Int} {m k p : Nat} (h : k < m) (h1 : ¬ (i < 0 ∨ (n : Int) - k ≤ i)) (hp : p = i.toNat + k) (h2 : (f p).toInt = (g k).toInt) : jdS g f n i (m - k) k = jdS g f n i (m - (k + 1)) (k + 1) := by
  rw [show m - k = (m - (k + 1)) + 1 by omega]
  rw [hp] at h2
  exact (if_neg h1).trans (if_pos h2)
theorem va_cpy_in {α : Type} {f g : Nat → α} {sp dp n k : Nat} (h : k < n) : va_cpy f g sp dp n (dp + k) = f (sp + k) := by
  unfold va_cpy
  rw [if_pos (by omega)]
  congr 1
  omega
theorem va_cpy_out {α : Type} {f g : Nat → α} {sp dp n k : Nat} (h : ¬ (dp ≤ k ∧ k < dp + n)) : va_cpy f g sp dp n k = g k := if_neg h

set_option maxHeartbeats 600000 in
set_option maxRecDepth 100000 in
/-- fit -/
theorem c_X10_fit (l : Launch) (D : va_G) (cy : Nat → ClassId) (so : Int32) (v : Int64) (hso : 0 ≤ so.toInt ∧ so.toInt ≤ 4) : xMet l D cy xT yX10_fit wsX10_fit ({ frames := 1, cells := 0, slots := 0, locals := 0 } : Room) [.int (so), .long (v)] [] [] (fun (v9 : Option Value) (w9 : va_W) => (v9 = some (.long (cutS so.toInt v)) ∧ w9 = [])) := by
  refine xMet_of (cc := cX10_fit) (maxL := 3) (ret := (some .long)) (by decide) rfl (Nat.le_of_ble_eq_true rfl) (fun p e s m args below meth c A R Q hA hR hQ C hr hnm hro hX => ?_)
  refine x_L (L' := [(0, .int (so)), (1, .long (v))]) [0, 1] rfl ?_
  refine x_iload_n C dX10_fit_0 (q := 1) rfl rfl 0 rfl ?_
  by_cases hs1 : so.toInt < 0 ∨ 3 < so.toInt
  · refine x_tableOut C (tgt := 48) dX10_fit_1 hs1 (by decide) ?_
    refine x_lload_n C dX10_fit_48 (q := 49) rfl rfl 1 rfl ?_
    refine x_lconst C dX10_fit_49 (q := 50) rfl (v := lN 0) rfl ?_
    refine x_lcmp_eq C (tgt := 58) dX10_fit_50 dX10_fit_51 (by decide) (q := 54) rfl (a := v.toInt) (b := 0) rfl rfl (fun h2 => ?_) (fun h2 => ?_)
    · first
      | (exfalso; omega)
      |
        refine x_lconst C dX10_fit_58 (q := 59) rfl (v := lN 0) rfl ?_
        refine x_lret C hA hQ hr dX10_fit_59 (Nat.le_of_ble_eq_true rfl) ?_
        refine ⟨?_, rfl⟩
        unfold cutS
        repeat (first | rw [if_pos (by omega)] | rw [if_neg (by omega)])
    · first
      | (exfalso; omega)
      |
        refine x_lconst C dX10_fit_54 (q := 55) rfl (v := lN 1) rfl ?_
        refine x_goto C (tgt := 59) dX10_fit_55 (by decide) ?_
        refine x_lret C hA hQ hr dX10_fit_59 (Nat.le_of_ble_eq_true rfl) ?_
        refine ⟨?_, rfl⟩
        unfold cutS
        repeat (first | rw [if_pos (by omega)] | rw [if_neg (by omega)])
  · have hs1' : so.toInt = 0 ∨ so.toInt = 1 ∨ so.toInt = 2 ∨ so.toInt = 3 := by omega
    rcases hs1' with hs1e | hs1e | hs1e | hs1e
    · refine x_tableIn C (tgt := 32) (0 : Int) ((rfl : (so : Int32).toInt = so.toInt).trans hs1e) dX10_fit_1 (by decide) (by decide) rfl (by decide) ?_
      refine x_lload_n C dX10_fit_32 (q := 33) rfl rfl 1 rfl ?_
      refine x_l2i C dX10_fit_33 (q := 34) rfl (v := v.toInt32) (rfl) ?_
      refine x_i2b C dX10_fit_34 (q := 35) rfl (v := v.toInt32.toInt8.toInt32) (rfl) ?_
      refine x_i2l C dX10_fit_35 (q := 36) rfl (v := v.toInt32.toInt8.toInt32.toInt64) (rfl) ?_
      refine x_lret C hA hQ hr dX10_fit_36 (Nat.le_of_ble_eq_true rfl) ?_
      refine ⟨?_, rfl⟩
      unfold cutS
      repeat (first | rw [if_pos (by omega)] | rw [if_neg (by omega)])
    · refine x_tableIn C (tgt := 37) (1 : Int) ((rfl : (so : Int32).toInt = so.toInt).trans hs1e) dX10_fit_1 (by decide) (by decide) rfl (by decide) ?_
      refine x_lload_n C dX10_fit_37 (q := 38) rfl rfl 1 rfl ?_
      refine x_l2i C dX10_fit_38 (q := 39) rfl (v := v.toInt32) (rfl) ?_
      refine x_i2s C dX10_fit_39 (q := 40) rfl (v := v.toInt32.toInt16.toInt32) (rfl) ?_
      refine x_i2l C dX10_fit_40 (q := 41) rfl (v := v.toInt32.toInt16.toInt32.toInt64) (rfl) ?_
      refine x_lret C hA hQ hr dX10_fit_41 (Nat.le_of_ble_eq_true rfl) ?_
      refine ⟨?_, rfl⟩
      unfold cutS
      repeat (first | rw [if_pos (by omega)] | rw [if_neg (by omega)])
    · refine x_tableIn C (tgt := 42) (2 : Int) ((rfl : (so : Int32).toInt = so.toInt).trans hs1e) dX10_fit_1 (by decide) (by decide) rfl (by decide) ?_
      refine x_lload_n C dX10_fit_42 (q := 43) rfl rfl 1 rfl ?_
      refine x_l2i C dX10_fit_43 (q := 44) rfl (v := v.toInt32) (rfl) ?_
      refine x_i2l C dX10_fit_44 (q := 45) rfl (v := v.toInt32.toInt64) (rfl) ?_
      refine x_lret C hA hQ hr dX10_fit_45 (Nat.le_of_ble_eq_true rfl) ?_
      refine ⟨?_, rfl⟩
      unfold cutS
      repeat (first | rw [if_pos (by omega)] | rw [if_neg (by omega)])
    · refine x_tableIn C (tgt := 46) (3 : Int) ((rfl : (so : Int32).toInt = so.toInt).trans hs1e) dX10_fit_1 (by decide) (by decide) rfl (by decide) ?_
      refine x_lload_n C dX10_fit_46 (q := 47) rfl rfl 1 rfl ?_
      refine x_lret C hA hQ hr dX10_fit_47 (Nat.le_of_ble_eq_true rfl) ?_
      refine ⟨?_, rfl⟩
      unfold cutS
      repeat (first | rw [if_pos (by omega)] | rw [if_neg (by omega)])

set_option maxHeartbeats 600000 in
set_option maxRecDepth 100000 in
/-- tape -/
theorem c_X10_tape (l : Launch) (D : va_G) (cy : Nat → ClassId) (mo : Nat) (mr : Nat → Nat) (cols : Nat) (lc : Nat) (smp : Nat) (mk : Nat) (rs : Nat) (nse : Nat) (npa : Nat) (nbo : Nat) (tn : Nat) (ik : Nat) (ky : Int32) (j0 : Int32) (j1 : Int32) (j2 : Int32) (j3 : Int32) (j4 : Int32) (tso : Nat → Int32) (tsz : Nat → Nat) (tq9 : Nat → Option Nat) (ta : Nat) (f : Nat → Int64) (x : Int32) (y : Int32) (z : Int32) (hx0 : 0 ≤ x.toInt) (hx6 : x.toInt < 6) (htq : tq9 x.toInt.toNat = some ta) (htz : ∀ k, tsz k ≤ 60) (hts : ∀ k, -1 ≤ (tso k).toInt ∧ (tso k).toInt ≤ 4) (htn : ∀ k, (tso k).toInt = -1 → tsz k = 0) : xMet l D cy xT yX10_tape wsX10_tape ({ frames := 4, cells := 0, slots := 0, locals := 500 } : Room) [.ref mo, .int (x), .int (y), .int (z)] [(mo, .inr (9, [.int (nI cols), .int (nI lc), .int (nI smp), .int (ky), .ref (mr 0), .ref (mr 1), .ref (mr 2), .ref (mr 3), .ref (mr 4), .ref (mr 5), .ref (mr 6), .ref (mr 7), .ref (mr 8), .ref (mr 9), .int (nI mk), .int (nI rs), .ref (mr 10), .ref (mr 11), .ref (mr 12), .ref (mr 13), .ref (mr 14), .ref (mr 15), .ref (mr 16), .ref (mr 17), .ref (mr 18), .ref (mr 19), .ref (mr 20), .int (nI nse), .int (nI npa), .int (nI nbo), .ref (mr 21), .int (nI tn), .ref (mr 22), .int (nI ik), .int (j0), .int (j1), .ref (mr 23), .int (j2), .ref (mr 24), .ref (mr 25), .int (j3), .ref (mr 26), .int (j4), .ref (mr 27), .ref (mr 28), .ref (mr 29), .ref (mr 30)])), (mr 28, .inl (cy 1, 6, .inl tso)), (mr 29, .inl (cy 1, 6, .inl (fun k => nI (tsz k)))), (mr 27, .inl (cy 6, 6, .inr (.inr (.inr (.inr tq9))))), (ta, .inl (cy 2, 60, .inr (.inl f)))] [] (fun (v9 : Option Value) (w9 : va_W) => (v9 = some (.int (tapA y.toInt z.toInt)) ∧ w9 = [(mo, .inr (9, [.int (nI cols), .int (nI lc), .int (nI smp), .int (ky), .ref (mr 0), .ref (mr 1), .ref (mr 2), .ref (mr 3), .ref (mr 4), .ref (mr 5), .ref (mr 6), .ref (mr 7), .ref (mr 8), .ref (mr 9), .int (nI mk), .int (nI rs), .ref (mr 10), .ref (mr 11), .ref (mr 12), .ref (mr 13), .ref (mr 14), .ref (mr 15), .ref (mr 16), .ref (mr 17), .ref (mr 18), .ref (mr 19), .ref (mr 20), .int (nI nse), .int (nI npa), .int (nI nbo), .ref (mr 21), .int (nI tn), .ref (mr 22), .int (nI ik), .int (j0), .int (j1), .ref (mr 23), .int (j2), .ref (mr 24), .ref (mr 25), .int (j3), .ref (mr 26), .int (j4), .ref (mr 27), .ref (mr 28), .ref (mr 29), .ref (mr 30)])), (mr 28, .inl (cy 1, 6, .inl (va_up tso x.toInt.toNat (tapN (tso x.toInt.toNat, tsz x.toInt.toNat, f) y z).1))), (mr 29, .inl (cy 1, 6, .inl (fun k => nI ((va_up tsz x.toInt.toNat (tapN (tso x.toInt.toNat, tsz x.toInt.toNat, f) y z).2.1) k)))), (mr 27, .inl (cy 6, 6, .inr (.inr (.inr (.inr tq9))))), (ta, .inl (cy 2, 60, .inr (.inl ((tapN (tso x.toInt.toNat, tsz x.toInt.toNat, f) y z).2.2))))])) := by
  refine xMet_of (cc := cX10_tape) (maxL := 5) (ret := (some .int)) (by decide) rfl (Nat.le_of_ble_eq_true rfl) (fun p e s m args below meth c A R Q hA hR hQ C hr hnm hro hX => ?_)
  have hw0 : Jvm.Cond.constantLong RX10 386 (-1) ∈ wsX10_tape := by decide +kernel
  have hw1 : Jvm.Cond.constantLong RX10 282 (4) ∈ wsX10_tape := by decide +kernel
  have hw2 : ∀ w ∈ u_ws RX10 TX10 47, w ∈ wsX10_tape := by decide +kernel
  have hw3 : Cond.fieldLink RX10 106 (TX10 44).1 (TX10 44).2.1 (TX10 44).2.2.1 ∈ wsX10_tape := by decide +kernel
  have hw4 : Cond.fieldLink RX10 109 (TX10 45).1 (TX10 45).2.1 (TX10 45).2.2.1 ∈ wsX10_tape := by decide +kernel
  have hw5 : Cond.fieldLink RX10 103 (TX10 43).1 (TX10 43).2.1 (TX10 43).2.2.1 ∈ wsX10_tape := by decide +kernel
  refine x_L (L' := [(0, .ref mo), (1, .int (x)), (2, .int (y)), (3, .int (z))]) [0, 1, 2, 3] rfl ?_
  refine x_iload_n C dX10_tape_0 (q := 1) rfl rfl 1 rfl ?_
  refine x_callS C (roW := []) (roR := []) (c_X10_isTape l D cy x ) (cwS 1 C.2.2.2.2.1 gX10_tape_X10_isTape rfl rfl rfl (by decide +kernel) (by rw [hR]; exact ⟨Nat.le_of_ble_eq_true rfl, Nat.le_of_ble_eq_true rfl⟩)) [] [] rfl (by decide) rfl (by decide) xro_nil xT_bl (fun _ _ _ _ _ _ _ => trivial) rfl rfl dX10_tape_1 rfl rfl (Nat.le_of_ble_eq_true rfl) (q := 4) rfl (k' := 0) rfl (n' := 0) rfl (by rw [hR]; exact ⟨Nat.le_of_ble_eq_true rfl, Nat.le_of_ble_eq_true rfl⟩) (fun v1 w1 hp1 => ?_)
  rcases hp1 with hp1 | hp1
  · skip
    obtain ⟨rfl, rfl, hc2, hc3⟩ := hp1
    refine x_ws (ws' := [(mo, .inr (9, [.int (nI cols), .int (nI lc), .int (nI smp), .int (ky), .ref (mr 0), .ref (mr 1), .ref (mr 2), .ref (mr 3), .ref (mr 4), .ref (mr 5), .ref (mr 6), .ref (mr 7), .ref (mr 8), .ref (mr 9), .int (nI mk), .int (nI rs), .ref (mr 10), .ref (mr 11), .ref (mr 12), .ref (mr 13), .ref (mr 14), .ref (mr 15), .ref (mr 16), .ref (mr 17), .ref (mr 18), .ref (mr 19), .ref (mr 20), .int (nI nse), .int (nI npa), .int (nI nbo), .ref (mr 21), .int (nI tn), .ref (mr 22), .int (nI ik), .int (j0), .int (j1), .ref (mr 23), .int (j2), .ref (mr 24), .ref (mr 25), .int (j3), .ref (mr 26), .int (j4), .ref (mr 27), .ref (mr 28), .ref (mr 29), .ref (mr 30)])), (mr 28, .inl (cy 1, 6, .inl tso)), (mr 29, .inl (cy 1, 6, .inl (fun k => nI (tsz k)))), (mr 27, .inl (cy 6, 6, .inr (.inr (.inr (.inr tq9))))), (ta, .inl (cy 2, 60, .inr (.inl f)))]) (List.append_nil _) ?_
    refine x_if_ne C (tgt := 9) dX10_tape_4 (by decide) (q := 7) rfl (a := 1) rfl (fun h4 => ?_) (fun h4 => (by omega : False).elim)
    refine x_iload_n C dX10_tape_9 (q := 10) rfl rfl 2 rfl ?_
    refine x_i2l C dX10_tape_10 (q := 11) rfl (v := y.toInt64) (rfl) ?_
    refine x_ldc2 C (v := (-1)) hw0 dX10_tape_11 (q := 14) rfl ?_
    refine x_ldc2 C (v := lN 4) hw1 dX10_tape_14 (q := 17) rfl ?_
    refine x_callS C (roW := []) (roR := []) (c_X10_in l D cy y.toInt64 (-1) (lN 4) y.toInt ((-1)) 4 (xl_wide rfl) rfl rfl) (cwS 3 C.2.2.2.2.1 gX10_tape_X10_in rfl rfl rfl (by decide +kernel) (by rw [hR]; exact ⟨Nat.le_of_ble_eq_true rfl, Nat.le_of_ble_eq_true rfl⟩)) [] [] rfl (by decide) rfl (by decide) xro_nil xT_bl (fun _ _ _ _ _ _ _ => trivial) rfl rfl dX10_tape_17 rfl rfl (Nat.le_of_ble_eq_true rfl) (q := 20) rfl (k' := 0) rfl (n' := 0) rfl (by rw [hR]; exact ⟨Nat.le_of_ble_eq_true rfl, Nat.le_of_ble_eq_true rfl⟩) (fun v5 w5 hp5 => ?_)
    rcases hp5 with hp5 | hp5
    · skip
      obtain ⟨rfl, rfl, hc6, hc7⟩ := hp5
      refine x_ws (ws' := [(mo, .inr (9, [.int (nI cols), .int (nI lc), .int (nI smp), .int (ky), .ref (mr 0), .ref (mr 1), .ref (mr 2), .ref (mr 3), .ref (mr 4), .ref (mr 5), .ref (mr 6), .ref (mr 7), .ref (mr 8), .ref (mr 9), .int (nI mk), .int (nI rs), .ref (mr 10), .ref (mr 11), .ref (mr 12), .ref (mr 13), .ref (mr 14), .ref (mr 15), .ref (mr 16), .ref (mr 17), .ref (mr 18), .ref (mr 19), .ref (mr 20), .int (nI nse), .int (nI npa), .int (nI nbo), .ref (mr 21), .int (nI tn), .ref (mr 22), .int (nI ik), .int (j0), .int (j1), .ref (mr 23), .int (j2), .ref (mr 24), .ref (mr 25), .int (j3), .ref (mr 26), .int (j4), .ref (mr 27), .ref (mr 28), .ref (mr 29), .ref (mr 30)])), (mr 28, .inl (cy 1, 6, .inl tso)), (mr 29, .inl (cy 1, 6, .inl (fun k => nI (tsz k)))), (mr 27, .inl (cy 6, 6, .inr (.inr (.inr (.inr tq9))))), (ta, .inl (cy 2, 60, .inr (.inl f)))]) (List.append_nil _) ?_
      refine x_if_eq C (tgt := 33) dX10_tape_20 (by decide) (q := 23) rfl (a := 1) rfl (fun h8 => (by omega : False).elim) (fun h8 => ?_)
      refine x_iload_n C dX10_tape_23 (q := 24) rfl rfl 2 rfl ?_
      refine x_if_lt C (tgt := 36) dX10_tape_24 (by decide) (q := 27) rfl (a := y.toInt) rfl (fun h9 => ?_) (fun h9 => ?_)
      · first
        | (exfalso; omega)
        |
          refine x_iload_n C dX10_tape_36 (q := 37) rfl rfl 2 rfl ?_
          refine x_if_lt C (tgt := 47) dX10_tape_37 (by decide) (q := 40) rfl (a := y.toInt) rfl (fun h10 => ?_) (fun h10 => ?_)
          · first
            | (exfalso; omega)
            |
              refine x_aload_n C dX10_tape_47 (q := 48) rfl rfl 0 rfl ?_
              refine x_get C (ci := 9) (v := .ref (mr 28)) hw2 0 rfl rfl 44 (by decide) hw3 rfl dX10_tape_48 (q := 51) rfl ?_
              refine x_iload_n C dX10_tape_51 (q := 52) rfl rfl 1 rfl ?_
              refine x_iload_n C dX10_tape_52 (q := 53) rfl rfl 2 rfl ?_
              refine x_iast C (ws' := [(mo, .inr (9, [.int (nI cols), .int (nI lc), .int (nI smp), .int (ky), .ref (mr 0), .ref (mr 1), .ref (mr 2), .ref (mr 3), .ref (mr 4), .ref (mr 5), .ref (mr 6), .ref (mr 7), .ref (mr 8), .ref (mr 9), .int (nI mk), .int (nI rs), .ref (mr 10), .ref (mr 11), .ref (mr 12), .ref (mr 13), .ref (mr 14), .ref (mr 15), .ref (mr 16), .ref (mr 17), .ref (mr 18), .ref (mr 19), .ref (mr 20), .int (nI nse), .int (nI npa), .int (nI nbo), .ref (mr 21), .int (nI tn), .ref (mr 22), .int (nI ik), .int (j0), .int (j1), .ref (mr 23), .int (j2), .ref (mr 24), .ref (mr 25), .int (j3), .ref (mr 26), .int (j4), .ref (mr 27), .ref (mr 28), .ref (mr 29), .ref (mr 30)])), (mr 28, .inl (cy 1, 6, .inl (va_up tso x.toInt.toNat y))), (mr 29, .inl (cy 1, 6, .inl (fun k => nI (tsz k)))), (mr 27, .inl (cy 6, 6, .inr (.inr (.inr (.inr tq9))))), (ta, .inl (cy 2, 60, .inr (.inl f)))]) 1 rfl (j := x.toInt.toNat) (by have h9 := (rfl : (x : Int32).toInt = x.toInt); omega) (by omega) (rfl) rfl dX10_tape_53 (q := 54) rfl ?_
              refine x_aload_n C dX10_tape_54 (q := 55) rfl rfl 0 rfl ?_
              refine x_get C (ci := 9) (v := .ref (mr 29)) hw2 0 rfl rfl 45 (by decide) hw4 rfl dX10_tape_55 (q := 58) rfl ?_
              refine x_iload_n C dX10_tape_58 (q := 59) rfl rfl 1 rfl ?_
              refine x_iload_n C dX10_tape_59 (q := 60) rfl rfl 2 rfl ?_
              refine x_if_ge C (tgt := 67) dX10_tape_60 (by decide) (q := 63) rfl (a := y.toInt) rfl (fun h11 => ?_) (fun h11 => ?_)
              · first
                | (exfalso; omega)
                |
                  refine x_iload_n C dX10_tape_67 (q := 68) rfl rfl 3 rfl ?_
                  refine x_topi (y := nI z.toInt.toNat) (xi_nat (by omega)) ?_
                  refine x_iast C (ws' := [(mo, .inr (9, [.int (nI cols), .int (nI lc), .int (nI smp), .int (ky), .ref (mr 0), .ref (mr 1), .ref (mr 2), .ref (mr 3), .ref (mr 4), .ref (mr 5), .ref (mr 6), .ref (mr 7), .ref (mr 8), .ref (mr 9), .int (nI mk), .int (nI rs), .ref (mr 10), .ref (mr 11), .ref (mr 12), .ref (mr 13), .ref (mr 14), .ref (mr 15), .ref (mr 16), .ref (mr 17), .ref (mr 18), .ref (mr 19), .ref (mr 20), .int (nI nse), .int (nI npa), .int (nI nbo), .ref (mr 21), .int (nI tn), .ref (mr 22), .int (nI ik), .int (j0), .int (j1), .ref (mr 23), .int (j2), .ref (mr 24), .ref (mr 25), .int (j3), .ref (mr 26), .int (j4), .ref (mr 27), .ref (mr 28), .ref (mr 29), .ref (mr 30)])), (mr 28, .inl (cy 1, 6, .inl (va_up tso x.toInt.toNat y))), (mr 29, .inl (cy 1, 6, .inl (fun k => nI ((va_up tsz x.toInt.toNat z.toInt.toNat) k)))), (mr 27, .inl (cy 6, 6, .inr (.inr (.inr (.inr tq9))))), (ta, .inl (cy 2, 60, .inr (.inl f)))]) 2 rfl (j := x.toInt.toNat) (by have h9 := (rfl : (x : Int32).toInt = x.toInt); omega) (by omega) (xup_n tsz x.toInt.toNat z.toInt.toNat) rfl dX10_tape_68 (q := 69) rfl ?_
                  refine x_iconst C dX10_tape_69 (q := 70) rfl (v := nI 0) (by decide) ?_
                  refine x_istore C (L' := [(4, .int (nI 0)), (0, .ref mo), (1, .int (x)), (2, .int (y)), (3, .int (z))]) dX10_tape_70 (q := 72) rfl (by decide) rfl ?_
                  have cut72 : ∀ (fuel : Nat) (i : Nat) (fq : Nat → Int64), (i ≤ 60) → (∀ j, j < i → fq j = lN 0) → 60 - i < fuel → xG p l e R s m args below meth c Q D A 5 [(mo, .inr (9, [.int (nI cols), .int (nI lc), .int (nI smp), .int (ky), .ref (mr 0), .ref (mr 1), .ref (mr 2), .ref (mr 3), .ref (mr 4), .ref (mr 5), .ref (mr 6), .ref (mr 7), .ref (mr 8), .ref (mr 9), .int (nI mk), .int (nI rs), .ref (mr 10), .ref (mr 11), .ref (mr 12), .ref (mr 13), .ref (mr 14), .ref (mr 15), .ref (mr 16), .ref (mr 17), .ref (mr 18), .ref (mr 19), .ref (mr 20), .int (nI nse), .int (nI npa), .int (nI nbo), .ref (mr 21), .int (nI tn), .ref (mr 22), .int (nI ik), .int (j0), .int (j1), .ref (mr 23), .int (j2), .ref (mr 24), .ref (mr 25), .int (j3), .ref (mr 26), .int (j4), .ref (mr 27), .ref (mr 28), .ref (mr 29), .ref (mr 30)])), (mr 28, .inl (cy 1, 6, .inl (va_up tso x.toInt.toNat y))), (mr 29, .inl (cy 1, 6, .inl (fun k => nI ((va_up tsz x.toInt.toNat z.toInt.toNat) k)))), (mr 27, .inl (cy 6, 6, .inr (.inr (.inr (.inr tq9))))), (ta, .inl (cy 2, 60, .inr (.inl fq)))] 0 0 72 [(0, .ref mo), (1, .int (x)), (2, .int (y)), (3, .int (z)), (4, .int (nI i))] [] := by
                    intro fuel
                    induction fuel with
                    | zero =>
                      intro i fq hi hfq hmu
                      exact absurd hmu (Nat.not_lt_zero _)
                    | succ fuel ih =>
                      intro i fq hi hfq hmu
                      have ih72 := ih
                      clear ih
                      refine x_iload C dX10_tape_72 (q := 74) rfl 4 rfl ?_
                      refine x_bipush C dX10_tape_74 (q := 76) rfl (v := nI 60) (by decide) ?_
                      refine x_icmp_ge C (tgt := 95) dX10_tape_76 (by decide) (q := 79) rfl (a := ((i : Nat) : Int)) (b := 60) (nI_toInt (by omega)) rfl (fun h12 => ?_) (fun h12 => ?_)
                      · first
                        | (exfalso; omega)
                        |
                          refine x_recJ (ws' := [(mo, .inr (9, [.int (nI cols), .int (nI lc), .int (nI smp), .int (ky), .ref (mr 0), .ref (mr 1), .ref (mr 2), .ref (mr 3), .ref (mr 4), .ref (mr 5), .ref (mr 6), .ref (mr 7), .ref (mr 8), .ref (mr 9), .int (nI mk), .int (nI rs), .ref (mr 10), .ref (mr 11), .ref (mr 12), .ref (mr 13), .ref (mr 14), .ref (mr 15), .ref (mr 16), .ref (mr 17), .ref (mr 18), .ref (mr 19), .ref (mr 20), .int (nI nse), .int (nI npa), .int (nI nbo), .ref (mr 21), .int (nI tn), .ref (mr 22), .int (nI ik), .int (j0), .int (j1), .ref (mr 23), .int (j2), .ref (mr 24), .ref (mr 25), .int (j3), .ref (mr 26), .int (j4), .ref (mr 27), .ref (mr 28), .ref (mr 29), .ref (mr 30)])), (mr 28, .inl (cy 1, 6, .inl (va_up tso x.toInt.toNat y))), (mr 29, .inl (cy 1, 6, .inl (fun k => nI ((va_up tsz x.toInt.toNat z.toInt.toNat) k)))), (mr 27, .inl (cy 6, 6, .inr (.inr (.inr (.inr tq9))))), (ta, .inl (cy 2, 60, .inr (.inl (fun _ => lN 0))))]) 4 rfl (fun k hk => hfq k (by omega)) rfl ?_
                          refine x_iconst C dX10_tape_95 (q := 96) rfl (v := nI 1) (by decide) ?_
                          refine x_iret C hA hQ hr dX10_tape_96 (Nat.le_of_ble_eq_true rfl) ?_
                          unfold tapA tapN
                          dsimp only
                          repeat (first | rw [if_pos (by omega)] | rw [if_neg (by omega)])
                          first | exact ⟨rfl, rfl⟩ | (refine ⟨rfl, ?_⟩; rw [up_self, up_self])
                      · first
                        | (exfalso; omega)
                        |
                          refine x_aload_n C dX10_tape_79 (q := 80) rfl rfl 0 rfl ?_
                          refine x_get C (ci := 9) (v := .ref (mr 27)) hw2 0 rfl rfl 43 (by decide) hw5 rfl dX10_tape_80 (q := 83) rfl ?_
                          refine x_iload_n C dX10_tape_83 (q := 84) rfl rfl 1 rfl ?_
                          refine x_aald6 C (j := x.toInt.toNat) (v := .ref ta) 3 rfl (by have h9 := (rfl : (x : Int32).toInt = x.toInt); omega) (by omega) (by rw [htq]; rfl) dX10_tape_84 (q := 85) rfl ?_
                          refine x_iload C dX10_tape_85 (q := 87) rfl 4 rfl ?_
                          refine x_lconst C dX10_tape_87 (q := 88) rfl (v := lN 0) rfl ?_
                          refine x_last C (ws' := [(mo, .inr (9, [.int (nI cols), .int (nI lc), .int (nI smp), .int (ky), .ref (mr 0), .ref (mr 1), .ref (mr 2), .ref (mr 3), .ref (mr 4), .ref (mr 5), .ref (mr 6), .ref (mr 7), .ref (mr 8), .ref (mr 9), .int (nI mk), .int (nI rs), .ref (mr 10), .ref (mr 11), .ref (mr 12), .ref (mr 13), .ref (mr 14), .ref (mr 15), .ref (mr 16), .ref (mr 17), .ref (mr 18), .ref (mr 19), .ref (mr 20), .int (nI nse), .int (nI npa), .int (nI nbo), .ref (mr 21), .int (nI tn), .ref (mr 22), .int (nI ik), .int (j0), .int (j1), .ref (mr 23), .int (j2), .ref (mr 24), .ref (mr 25), .int (j3), .ref (mr 26), .int (j4), .ref (mr 27), .ref (mr 28), .ref (mr 29), .ref (mr 30)])), (mr 28, .inl (cy 1, 6, .inl (va_up tso x.toInt.toNat y))), (mr 29, .inl (cy 1, 6, .inl (fun k => nI ((va_up tsz x.toInt.toNat z.toInt.toNat) k)))), (mr 27, .inl (cy 6, 6, .inr (.inr (.inr (.inr tq9))))), (ta, .inl (cy 2, 60, .inr (.inl (va_up fq i (lN 0)))))]) 4 rfl (j := i) (nI_toInt (by omega)) (by omega) (rfl) rfl dX10_tape_88 (q := 89) rfl ?_
                          refine x_iinc C (L' := [(4, .int (nI (i + 1))), (0, .ref mo), (1, .int (x)), (2, .int (y)), (3, .int (z))]) dX10_tape_89 (q := 92) rfl 4 rfl (v := nI (i + 1)) (nI_add i 1) (by decide) rfl ?_
                          refine x_goto C (tgt := 72) dX10_tape_92 (by decide) ?_
                          refine x_L (L' := [(0, .ref mo), (1, .int (x)), (2, .int (y)), (3, .int (z)), (4, .int (nI (i + 1)))]) [1, 2, 3, 4, 0] rfl ?_
                          exact ih72 (i + 1) (va_up fq i (lN 0)) (by first | omega | assumption) (by intro j hj; by_cases h9 : j = i; (subst h9; exact va_up_eq); (rw [va_up_ne' h9]; exact hfq j (by omega))) (by omega)
                  refine x_L (L' := [(0, .ref mo), (1, .int (x)), (2, .int (y)), (3, .int (z)), (4, .int (nI 0))]) [1, 2, 3, 4, 0] rfl ?_
                  exact cut72 (60 - 0 + 1) 0 f (by first | omega | assumption) (by intro j hj; omega) (by omega)
              · first
                | (exfalso; omega)
                |
                  refine x_iconst C dX10_tape_63 (q := 64) rfl (v := nI 0) (by decide) ?_
                  refine x_goto C (tgt := 68) dX10_tape_64 (by decide) ?_
                  refine x_iast C (ws' := [(mo, .inr (9, [.int (nI cols), .int (nI lc), .int (nI smp), .int (ky), .ref (mr 0), .ref (mr 1), .ref (mr 2), .ref (mr 3), .ref (mr 4), .ref (mr 5), .ref (mr 6), .ref (mr 7), .ref (mr 8), .ref (mr 9), .int (nI mk), .int (nI rs), .ref (mr 10), .ref (mr 11), .ref (mr 12), .ref (mr 13), .ref (mr 14), .ref (mr 15), .ref (mr 16), .ref (mr 17), .ref (mr 18), .ref (mr 19), .ref (mr 20), .int (nI nse), .int (nI npa), .int (nI nbo), .ref (mr 21), .int (nI tn), .ref (mr 22), .int (nI ik), .int (j0), .int (j1), .ref (mr 23), .int (j2), .ref (mr 24), .ref (mr 25), .int (j3), .ref (mr 26), .int (j4), .ref (mr 27), .ref (mr 28), .ref (mr 29), .ref (mr 30)])), (mr 28, .inl (cy 1, 6, .inl (va_up tso x.toInt.toNat y))), (mr 29, .inl (cy 1, 6, .inl (fun k => nI ((va_up tsz x.toInt.toNat 0) k)))), (mr 27, .inl (cy 6, 6, .inr (.inr (.inr (.inr tq9))))), (ta, .inl (cy 2, 60, .inr (.inl f)))]) 2 rfl (j := x.toInt.toNat) (by have h9 := (rfl : (x : Int32).toInt = x.toInt); omega) (by omega) (xup_n tsz x.toInt.toNat 0) rfl dX10_tape_68 (q := 69) rfl ?_
                  refine x_iconst C dX10_tape_69 (q := 70) rfl (v := nI 0) (by decide) ?_
                  refine x_istore C (L' := [(4, .int (nI 0)), (0, .ref mo), (1, .int (x)), (2, .int (y)), (3, .int (z))]) dX10_tape_70 (q := 72) rfl (by decide) rfl ?_
                  have cut72 : ∀ (fuel : Nat) (i : Nat) (fq : Nat → Int64), (i ≤ 60) → (∀ j, j < i → fq j = lN 0) → 60 - i < fuel → xG p l e R s m args below meth c Q D A 5 [(mo, .inr (9, [.int (nI cols), .int (nI lc), .int (nI smp), .int (ky), .ref (mr 0), .ref (mr 1), .ref (mr 2), .ref (mr 3), .ref (mr 4), .ref (mr 5), .ref (mr 6), .ref (mr 7), .ref (mr 8), .ref (mr 9), .int (nI mk), .int (nI rs), .ref (mr 10), .ref (mr 11), .ref (mr 12), .ref (mr 13), .ref (mr 14), .ref (mr 15), .ref (mr 16), .ref (mr 17), .ref (mr 18), .ref (mr 19), .ref (mr 20), .int (nI nse), .int (nI npa), .int (nI nbo), .ref (mr 21), .int (nI tn), .ref (mr 22), .int (nI ik), .int (j0), .int (j1), .ref (mr 23), .int (j2), .ref (mr 24), .ref (mr 25), .int (j3), .ref (mr 26), .int (j4), .ref (mr 27), .ref (mr 28), .ref (mr 29), .ref (mr 30)])), (mr 28, .inl (cy 1, 6, .inl (va_up tso x.toInt.toNat y))), (mr 29, .inl (cy 1, 6, .inl (fun k => nI ((va_up tsz x.toInt.toNat 0) k)))), (mr 27, .inl (cy 6, 6, .inr (.inr (.inr (.inr tq9))))), (ta, .inl (cy 2, 60, .inr (.inl fq)))] 0 0 72 [(0, .ref mo), (1, .int (x)), (2, .int (y)), (3, .int (z)), (4, .int (nI i))] [] := by
                    intro fuel
                    induction fuel with
                    | zero =>
                      intro i fq hi hfq hmu
                      exact absurd hmu (Nat.not_lt_zero _)
                    | succ fuel ih =>
                      intro i fq hi hfq hmu
                      have ih72 := ih
                      clear ih
                      refine x_iload C dX10_tape_72 (q := 74) rfl 4 rfl ?_
                      refine x_bipush C dX10_tape_74 (q := 76) rfl (v := nI 60) (by decide) ?_
                      refine x_icmp_ge C (tgt := 95) dX10_tape_76 (by decide) (q := 79) rfl (a := ((i : Nat) : Int)) (b := 60) (nI_toInt (by omega)) rfl (fun h13 => ?_) (fun h13 => ?_)
                      · first
                        | (exfalso; omega)
                        |
                          refine x_recJ (ws' := [(mo, .inr (9, [.int (nI cols), .int (nI lc), .int (nI smp), .int (ky), .ref (mr 0), .ref (mr 1), .ref (mr 2), .ref (mr 3), .ref (mr 4), .ref (mr 5), .ref (mr 6), .ref (mr 7), .ref (mr 8), .ref (mr 9), .int (nI mk), .int (nI rs), .ref (mr 10), .ref (mr 11), .ref (mr 12), .ref (mr 13), .ref (mr 14), .ref (mr 15), .ref (mr 16), .ref (mr 17), .ref (mr 18), .ref (mr 19), .ref (mr 20), .int (nI nse), .int (nI npa), .int (nI nbo), .ref (mr 21), .int (nI tn), .ref (mr 22), .int (nI ik), .int (j0), .int (j1), .ref (mr 23), .int (j2), .ref (mr 24), .ref (mr 25), .int (j3), .ref (mr 26), .int (j4), .ref (mr 27), .ref (mr 28), .ref (mr 29), .ref (mr 30)])), (mr 28, .inl (cy 1, 6, .inl (va_up tso x.toInt.toNat y))), (mr 29, .inl (cy 1, 6, .inl (fun k => nI ((va_up tsz x.toInt.toNat 0) k)))), (mr 27, .inl (cy 6, 6, .inr (.inr (.inr (.inr tq9))))), (ta, .inl (cy 2, 60, .inr (.inl (fun _ => lN 0))))]) 4 rfl (fun k hk => hfq k (by omega)) rfl ?_
                          refine x_iconst C dX10_tape_95 (q := 96) rfl (v := nI 1) (by decide) ?_
                          refine x_iret C hA hQ hr dX10_tape_96 (Nat.le_of_ble_eq_true rfl) ?_
                          unfold tapA tapN
                          dsimp only
                          repeat (first | rw [if_pos (by omega)] | rw [if_neg (by omega)])
                          first | exact ⟨rfl, rfl⟩ | (refine ⟨rfl, ?_⟩; rw [up_self, up_self])
                      · first
                        | (exfalso; omega)
                        |
                          refine x_aload_n C dX10_tape_79 (q := 80) rfl rfl 0 rfl ?_
                          refine x_get C (ci := 9) (v := .ref (mr 27)) hw2 0 rfl rfl 43 (by decide) hw5 rfl dX10_tape_80 (q := 83) rfl ?_
                          refine x_iload_n C dX10_tape_83 (q := 84) rfl rfl 1 rfl ?_
                          refine x_aald6 C (j := x.toInt.toNat) (v := .ref ta) 3 rfl (by have h9 := (rfl : (x : Int32).toInt = x.toInt); omega) (by omega) (by rw [htq]; rfl) dX10_tape_84 (q := 85) rfl ?_
                          refine x_iload C dX10_tape_85 (q := 87) rfl 4 rfl ?_
                          refine x_lconst C dX10_tape_87 (q := 88) rfl (v := lN 0) rfl ?_
                          refine x_last C (ws' := [(mo, .inr (9, [.int (nI cols), .int (nI lc), .int (nI smp), .int (ky), .ref (mr 0), .ref (mr 1), .ref (mr 2), .ref (mr 3), .ref (mr 4), .ref (mr 5), .ref (mr 6), .ref (mr 7), .ref (mr 8), .ref (mr 9), .int (nI mk), .int (nI rs), .ref (mr 10), .ref (mr 11), .ref (mr 12), .ref (mr 13), .ref (mr 14), .ref (mr 15), .ref (mr 16), .ref (mr 17), .ref (mr 18), .ref (mr 19), .ref (mr 20), .int (nI nse), .int (nI npa), .int (nI nbo), .ref (mr 21), .int (nI tn), .ref (mr 22), .int (nI ik), .int (j0), .int (j1), .ref (mr 23), .int (j2), .ref (mr 24), .ref (mr 25), .int (j3), .ref (mr 26), .int (j4), .ref (mr 27), .ref (mr 28), .ref (mr 29), .ref (mr 30)])), (mr 28, .inl (cy 1, 6, .inl (va_up tso x.toInt.toNat y))), (mr 29, .inl (cy 1, 6, .inl (fun k => nI ((va_up tsz x.toInt.toNat 0) k)))), (mr 27, .inl (cy 6, 6, .inr (.inr (.inr (.inr tq9))))), (ta, .inl (cy 2, 60, .inr (.inl (va_up fq i (lN 0)))))]) 4 rfl (j := i) (nI_toInt (by omega)) (by omega) (rfl) rfl dX10_tape_88 (q := 89) rfl ?_
                          refine x_iinc C (L' := [(4, .int (nI (i + 1))), (0, .ref mo), (1, .int (x)), (2, .int (y)), (3, .int (z))]) dX10_tape_89 (q := 92) rfl 4 rfl (v := nI (i + 1)) (nI_add i 1) (by decide) rfl ?_
                          refine x_goto C (tgt := 72) dX10_tape_92 (by decide) ?_
                          refine x_L (L' := [(0, .ref mo), (1, .int (x)), (2, .int (y)), (3, .int (z)), (4, .int (nI (i + 1)))]) [1, 2, 3, 4, 0] rfl ?_
                          exact ih72 (i + 1) (va_up fq i (lN 0)) (by first | omega | assumption) (by intro j hj; by_cases h9 : j = i; (subst h9; exact va_up_eq); (rw [va_up_ne' h9]; exact hfq j (by omega))) (by omega)
                  refine x_L (L' := [(0, .ref mo), (1, .int (x)), (2, .int (y)), (3, .int (z)), (4, .int (nI 0))]) [1, 2, 3, 4, 0] rfl ?_
                  exact cut72 (60 - 0 + 1) 0 f (by first | omega | assumption) (by intro j hj; omega) (by omega)
          · first
            | (exfalso; omega)
            |
              refine x_iload_n C dX10_tape_40 (q := 41) rfl rfl 3 rfl ?_
              refine x_if_ge C (tgt := 47) dX10_tape_41 (by decide) (q := 44) rfl (a := z.toInt) rfl (fun h14 => ?_) (fun h14 => ?_)
              · first
                | (exfalso; omega)
                |
                  refine x_aload_n C dX10_tape_47 (q := 48) rfl rfl 0 rfl ?_
                  refine x_get C (ci := 9) (v := .ref (mr 28)) hw2 0 rfl rfl 44 (by decide) hw3 rfl dX10_tape_48 (q := 51) rfl ?_
                  refine x_iload_n C dX10_tape_51 (q := 52) rfl rfl 1 rfl ?_
                  refine x_iload_n C dX10_tape_52 (q := 53) rfl rfl 2 rfl ?_
                  refine x_iast C (ws' := [(mo, .inr (9, [.int (nI cols), .int (nI lc), .int (nI smp), .int (ky), .ref (mr 0), .ref (mr 1), .ref (mr 2), .ref (mr 3), .ref (mr 4), .ref (mr 5), .ref (mr 6), .ref (mr 7), .ref (mr 8), .ref (mr 9), .int (nI mk), .int (nI rs), .ref (mr 10), .ref (mr 11), .ref (mr 12), .ref (mr 13), .ref (mr 14), .ref (mr 15), .ref (mr 16), .ref (mr 17), .ref (mr 18), .ref (mr 19), .ref (mr 20), .int (nI nse), .int (nI npa), .int (nI nbo), .ref (mr 21), .int (nI tn), .ref (mr 22), .int (nI ik), .int (j0), .int (j1), .ref (mr 23), .int (j2), .ref (mr 24), .ref (mr 25), .int (j3), .ref (mr 26), .int (j4), .ref (mr 27), .ref (mr 28), .ref (mr 29), .ref (mr 30)])), (mr 28, .inl (cy 1, 6, .inl (va_up tso x.toInt.toNat y))), (mr 29, .inl (cy 1, 6, .inl (fun k => nI (tsz k)))), (mr 27, .inl (cy 6, 6, .inr (.inr (.inr (.inr tq9))))), (ta, .inl (cy 2, 60, .inr (.inl f)))]) 1 rfl (j := x.toInt.toNat) (by have h9 := (rfl : (x : Int32).toInt = x.toInt); omega) (by omega) (rfl) rfl dX10_tape_53 (q := 54) rfl ?_
                  refine x_aload_n C dX10_tape_54 (q := 55) rfl rfl 0 rfl ?_
                  refine x_get C (ci := 9) (v := .ref (mr 29)) hw2 0 rfl rfl 45 (by decide) hw4 rfl dX10_tape_55 (q := 58) rfl ?_
                  refine x_iload_n C dX10_tape_58 (q := 59) rfl rfl 1 rfl ?_
                  refine x_iload_n C dX10_tape_59 (q := 60) rfl rfl 2 rfl ?_
                  refine x_if_ge C (tgt := 67) dX10_tape_60 (by decide) (q := 63) rfl (a := y.toInt) rfl (fun h15 => ?_) (fun h15 => ?_)
                  · first
                    | (exfalso; omega)
                    |
                      refine x_iload_n C dX10_tape_67 (q := 68) rfl rfl 3 rfl ?_
                      refine x_topi (y := nI z.toInt.toNat) (xi_nat (by omega)) ?_
                      refine x_iast C (ws' := [(mo, .inr (9, [.int (nI cols), .int (nI lc), .int (nI smp), .int (ky), .ref (mr 0), .ref (mr 1), .ref (mr 2), .ref (mr 3), .ref (mr 4), .ref (mr 5), .ref (mr 6), .ref (mr 7), .ref (mr 8), .ref (mr 9), .int (nI mk), .int (nI rs), .ref (mr 10), .ref (mr 11), .ref (mr 12), .ref (mr 13), .ref (mr 14), .ref (mr 15), .ref (mr 16), .ref (mr 17), .ref (mr 18), .ref (mr 19), .ref (mr 20), .int (nI nse), .int (nI npa), .int (nI nbo), .ref (mr 21), .int (nI tn), .ref (mr 22), .int (nI ik), .int (j0), .int (j1), .ref (mr 23), .int (j2), .ref (mr 24), .ref (mr 25), .int (j3), .ref (mr 26), .int (j4), .ref (mr 27), .ref (mr 28), .ref (mr 29), .ref (mr 30)])), (mr 28, .inl (cy 1, 6, .inl (va_up tso x.toInt.toNat y))), (mr 29, .inl (cy 1, 6, .inl (fun k => nI ((va_up tsz x.toInt.toNat z.toInt.toNat) k)))), (mr 27, .inl (cy 6, 6, .inr (.inr (.inr (.inr tq9))))), (ta, .inl (cy 2, 60, .inr (.inl f)))]) 2 rfl (j := x.toInt.toNat) (by have h9 := (rfl : (x : Int32).toInt = x.toInt); omega) (by omega) (xup_n tsz x.toInt.toNat z.toInt.toNat) rfl dX10_tape_68 (q := 69) rfl ?_
                      refine x_iconst C dX10_tape_69 (q := 70) rfl (v := nI 0) (by decide) ?_
                      refine x_istore C (L' := [(4, .int (nI 0)), (0, .ref mo), (1, .int (x)), (2, .int (y)), (3, .int (z))]) dX10_tape_70 (q := 72) rfl (by decide) rfl ?_
                      have cut72 : ∀ (fuel : Nat) (i : Nat) (fq : Nat → Int64), (i ≤ 60) → (∀ j, j < i → fq j = lN 0) → 60 - i < fuel → xG p l e R s m args below meth c Q D A 5 [(mo, .inr (9, [.int (nI cols), .int (nI lc), .int (nI smp), .int (ky), .ref (mr 0), .ref (mr 1), .ref (mr 2), .ref (mr 3), .ref (mr 4), .ref (mr 5), .ref (mr 6), .ref (mr 7), .ref (mr 8), .ref (mr 9), .int (nI mk), .int (nI rs), .ref (mr 10), .ref (mr 11), .ref (mr 12), .ref (mr 13), .ref (mr 14), .ref (mr 15), .ref (mr 16), .ref (mr 17), .ref (mr 18), .ref (mr 19), .ref (mr 20), .int (nI nse), .int (nI npa), .int (nI nbo), .ref (mr 21), .int (nI tn), .ref (mr 22), .int (nI ik), .int (j0), .int (j1), .ref (mr 23), .int (j2), .ref (mr 24), .ref (mr 25), .int (j3), .ref (mr 26), .int (j4), .ref (mr 27), .ref (mr 28), .ref (mr 29), .ref (mr 30)])), (mr 28, .inl (cy 1, 6, .inl (va_up tso x.toInt.toNat y))), (mr 29, .inl (cy 1, 6, .inl (fun k => nI ((va_up tsz x.toInt.toNat z.toInt.toNat) k)))), (mr 27, .inl (cy 6, 6, .inr (.inr (.inr (.inr tq9))))), (ta, .inl (cy 2, 60, .inr (.inl fq)))] 0 0 72 [(0, .ref mo), (1, .int (x)), (2, .int (y)), (3, .int (z)), (4, .int (nI i))] [] := by
                        intro fuel
                        induction fuel with
                        | zero =>
                          intro i fq hi hfq hmu
                          exact absurd hmu (Nat.not_lt_zero _)
                        | succ fuel ih =>
                          intro i fq hi hfq hmu
                          have ih72 := ih
                          clear ih
                          refine x_iload C dX10_tape_72 (q := 74) rfl 4 rfl ?_
                          refine x_bipush C dX10_tape_74 (q := 76) rfl (v := nI 60) (by decide) ?_
                          refine x_icmp_ge C (tgt := 95) dX10_tape_76 (by decide) (q := 79) rfl (a := ((i : Nat) : Int)) (b := 60) (nI_toInt (by omega)) rfl (fun h16 => ?_) (fun h16 => ?_)
                          · first
                            | (exfalso; omega)
                            |
                              refine x_recJ (ws' := [(mo, .inr (9, [.int (nI cols), .int (nI lc), .int (nI smp), .int (ky), .ref (mr 0), .ref (mr 1), .ref (mr 2), .ref (mr 3), .ref (mr 4), .ref (mr 5), .ref (mr 6), .ref (mr 7), .ref (mr 8), .ref (mr 9), .int (nI mk), .int (nI rs), .ref (mr 10), .ref (mr 11), .ref (mr 12), .ref (mr 13), .ref (mr 14), .ref (mr 15), .ref (mr 16), .ref (mr 17), .ref (mr 18), .ref (mr 19), .ref (mr 20), .int (nI nse), .int (nI npa), .int (nI nbo), .ref (mr 21), .int (nI tn), .ref (mr 22), .int (nI ik), .int (j0), .int (j1), .ref (mr 23), .int (j2), .ref (mr 24), .ref (mr 25), .int (j3), .ref (mr 26), .int (j4), .ref (mr 27), .ref (mr 28), .ref (mr 29), .ref (mr 30)])), (mr 28, .inl (cy 1, 6, .inl (va_up tso x.toInt.toNat y))), (mr 29, .inl (cy 1, 6, .inl (fun k => nI ((va_up tsz x.toInt.toNat z.toInt.toNat) k)))), (mr 27, .inl (cy 6, 6, .inr (.inr (.inr (.inr tq9))))), (ta, .inl (cy 2, 60, .inr (.inl (fun _ => lN 0))))]) 4 rfl (fun k hk => hfq k (by omega)) rfl ?_
                              refine x_iconst C dX10_tape_95 (q := 96) rfl (v := nI 1) (by decide) ?_
                              refine x_iret C hA hQ hr dX10_tape_96 (Nat.le_of_ble_eq_true rfl) ?_
                              unfold tapA tapN
                              dsimp only
                              repeat (first | rw [if_pos (by omega)] | rw [if_neg (by omega)])
                              first | exact ⟨rfl, rfl⟩ | (refine ⟨rfl, ?_⟩; rw [up_self, up_self])
                          · first
                            | (exfalso; omega)
                            |
                              refine x_aload_n C dX10_tape_79 (q := 80) rfl rfl 0 rfl ?_
                              refine x_get C (ci := 9) (v := .ref (mr 27)) hw2 0 rfl rfl 43 (by decide) hw5 rfl dX10_tape_80 (q := 83) rfl ?_
                              refine x_iload_n C dX10_tape_83 (q := 84) rfl rfl 1 rfl ?_
                              refine x_aald6 C (j := x.toInt.toNat) (v := .ref ta) 3 rfl (by have h9 := (rfl : (x : Int32).toInt = x.toInt); omega) (by omega) (by rw [htq]; rfl) dX10_tape_84 (q := 85) rfl ?_
                              refine x_iload C dX10_tape_85 (q := 87) rfl 4 rfl ?_
                              refine x_lconst C dX10_tape_87 (q := 88) rfl (v := lN 0) rfl ?_
                              refine x_last C (ws' := [(mo, .inr (9, [.int (nI cols), .int (nI lc), .int (nI smp), .int (ky), .ref (mr 0), .ref (mr 1), .ref (mr 2), .ref (mr 3), .ref (mr 4), .ref (mr 5), .ref (mr 6), .ref (mr 7), .ref (mr 8), .ref (mr 9), .int (nI mk), .int (nI rs), .ref (mr 10), .ref (mr 11), .ref (mr 12), .ref (mr 13), .ref (mr 14), .ref (mr 15), .ref (mr 16), .ref (mr 17), .ref (mr 18), .ref (mr 19), .ref (mr 20), .int (nI nse), .int (nI npa), .int (nI nbo), .ref (mr 21), .int (nI tn), .ref (mr 22), .int (nI ik), .int (j0), .int (j1), .ref (mr 23), .int (j2), .ref (mr 24), .ref (mr 25), .int (j3), .ref (mr 26), .int (j4), .ref (mr 27), .ref (mr 28), .ref (mr 29), .ref (mr 30)])), (mr 28, .inl (cy 1, 6, .inl (va_up tso x.toInt.toNat y))), (mr 29, .inl (cy 1, 6, .inl (fun k => nI ((va_up tsz x.toInt.toNat z.toInt.toNat) k)))), (mr 27, .inl (cy 6, 6, .inr (.inr (.inr (.inr tq9))))), (ta, .inl (cy 2, 60, .inr (.inl (va_up fq i (lN 0)))))]) 4 rfl (j := i) (nI_toInt (by omega)) (by omega) (rfl) rfl dX10_tape_88 (q := 89) rfl ?_
                              refine x_iinc C (L' := [(4, .int (nI (i + 1))), (0, .ref mo), (1, .int (x)), (2, .int (y)), (3, .int (z))]) dX10_tape_89 (q := 92) rfl 4 rfl (v := nI (i + 1)) (nI_add i 1) (by decide) rfl ?_
                              refine x_goto C (tgt := 72) dX10_tape_92 (by decide) ?_
                              refine x_L (L' := [(0, .ref mo), (1, .int (x)), (2, .int (y)), (3, .int (z)), (4, .int (nI (i + 1)))]) [1, 2, 3, 4, 0] rfl ?_
                              exact ih72 (i + 1) (va_up fq i (lN 0)) (by first | omega | assumption) (by intro j hj; by_cases h9 : j = i; (subst h9; exact va_up_eq); (rw [va_up_ne' h9]; exact hfq j (by omega))) (by omega)
                      refine x_L (L' := [(0, .ref mo), (1, .int (x)), (2, .int (y)), (3, .int (z)), (4, .int (nI 0))]) [1, 2, 3, 4, 0] rfl ?_
                      exact cut72 (60 - 0 + 1) 0 f (by first | omega | assumption) (by intro j hj; omega) (by omega)
                  · first
                    | (exfalso; omega)
                    |
                      refine x_iconst C dX10_tape_63 (q := 64) rfl (v := nI 0) (by decide) ?_
                      refine x_goto C (tgt := 68) dX10_tape_64 (by decide) ?_
                      refine x_iast C (ws' := [(mo, .inr (9, [.int (nI cols), .int (nI lc), .int (nI smp), .int (ky), .ref (mr 0), .ref (mr 1), .ref (mr 2), .ref (mr 3), .ref (mr 4), .ref (mr 5), .ref (mr 6), .ref (mr 7), .ref (mr 8), .ref (mr 9), .int (nI mk), .int (nI rs), .ref (mr 10), .ref (mr 11), .ref (mr 12), .ref (mr 13), .ref (mr 14), .ref (mr 15), .ref (mr 16), .ref (mr 17), .ref (mr 18), .ref (mr 19), .ref (mr 20), .int (nI nse), .int (nI npa), .int (nI nbo), .ref (mr 21), .int (nI tn), .ref (mr 22), .int (nI ik), .int (j0), .int (j1), .ref (mr 23), .int (j2), .ref (mr 24), .ref (mr 25), .int (j3), .ref (mr 26), .int (j4), .ref (mr 27), .ref (mr 28), .ref (mr 29), .ref (mr 30)])), (mr 28, .inl (cy 1, 6, .inl (va_up tso x.toInt.toNat y))), (mr 29, .inl (cy 1, 6, .inl (fun k => nI ((va_up tsz x.toInt.toNat 0) k)))), (mr 27, .inl (cy 6, 6, .inr (.inr (.inr (.inr tq9))))), (ta, .inl (cy 2, 60, .inr (.inl f)))]) 2 rfl (j := x.toInt.toNat) (by have h9 := (rfl : (x : Int32).toInt = x.toInt); omega) (by omega) (xup_n tsz x.toInt.toNat 0) rfl dX10_tape_68 (q := 69) rfl ?_
                      refine x_iconst C dX10_tape_69 (q := 70) rfl (v := nI 0) (by decide) ?_
                      refine x_istore C (L' := [(4, .int (nI 0)), (0, .ref mo), (1, .int (x)), (2, .int (y)), (3, .int (z))]) dX10_tape_70 (q := 72) rfl (by decide) rfl ?_
                      have cut72 : ∀ (fuel : Nat) (i : Nat) (fq : Nat → Int64), (i ≤ 60) → (∀ j, j < i → fq j = lN 0) → 60 - i < fuel → xG p l e R s m args below meth c Q D A 5 [(mo, .inr (9, [.int (nI cols), .int (nI lc), .int (nI smp), .int (ky), .ref (mr 0), .ref (mr 1), .ref (mr 2), .ref (mr 3), .ref (mr 4), .ref (mr 5), .ref (mr 6), .ref (mr 7), .ref (mr 8), .ref (mr 9), .int (nI mk), .int (nI rs), .ref (mr 10), .ref (mr 11), .ref (mr 12), .ref (mr 13), .ref (mr 14), .ref (mr 15), .ref (mr 16), .ref (mr 17), .ref (mr 18), .ref (mr 19), .ref (mr 20), .int (nI nse), .int (nI npa), .int (nI nbo), .ref (mr 21), .int (nI tn), .ref (mr 22), .int (nI ik), .int (j0), .int (j1), .ref (mr 23), .int (j2), .ref (mr 24), .ref (mr 25), .int (j3), .ref (mr 26), .int (j4), .ref (mr 27), .ref (mr 28), .ref (mr 29), .ref (mr 30)])), (mr 28, .inl (cy 1, 6, .inl (va_up tso x.toInt.toNat y))), (mr 29, .inl (cy 1, 6, .inl (fun k => nI ((va_up tsz x.toInt.toNat 0) k)))), (mr 27, .inl (cy 6, 6, .inr (.inr (.inr (.inr tq9))))), (ta, .inl (cy 2, 60, .inr (.inl fq)))] 0 0 72 [(0, .ref mo), (1, .int (x)), (2, .int (y)), (3, .int (z)), (4, .int (nI i))] [] := by
                        intro fuel
                        induction fuel with
                        | zero =>
                          intro i fq hi hfq hmu
                          exact absurd hmu (Nat.not_lt_zero _)
                        | succ fuel ih =>
                          intro i fq hi hfq hmu
                          have ih72 := ih
                          clear ih
                          refine x_iload C dX10_tape_72 (q := 74) rfl 4 rfl ?_
                          refine x_bipush C dX10_tape_74 (q := 76) rfl (v := nI 60) (by decide) ?_
                          refine x_icmp_ge C (tgt := 95) dX10_tape_76 (by decide) (q := 79) rfl (a := ((i : Nat) : Int)) (b := 60) (nI_toInt (by omega)) rfl (fun h17 => ?_) (fun h17 => ?_)
                          · first
                            | (exfalso; omega)
                            |
                              refine x_recJ (ws' := [(mo, .inr (9, [.int (nI cols), .int (nI lc), .int (nI smp), .int (ky), .ref (mr 0), .ref (mr 1), .ref (mr 2), .ref (mr 3), .ref (mr 4), .ref (mr 5), .ref (mr 6), .ref (mr 7), .ref (mr 8), .ref (mr 9), .int (nI mk), .int (nI rs), .ref (mr 10), .ref (mr 11), .ref (mr 12), .ref (mr 13), .ref (mr 14), .ref (mr 15), .ref (mr 16), .ref (mr 17), .ref (mr 18), .ref (mr 19), .ref (mr 20), .int (nI nse), .int (nI npa), .int (nI nbo), .ref (mr 21), .int (nI tn), .ref (mr 22), .int (nI ik), .int (j0), .int (j1), .ref (mr 23), .int (j2), .ref (mr 24), .ref (mr 25), .int (j3), .ref (mr 26), .int (j4), .ref (mr 27), .ref (mr 28), .ref (mr 29), .ref (mr 30)])), (mr 28, .inl (cy 1, 6, .inl (va_up tso x.toInt.toNat y))), (mr 29, .inl (cy 1, 6, .inl (fun k => nI ((va_up tsz x.toInt.toNat 0) k)))), (mr 27, .inl (cy 6, 6, .inr (.inr (.inr (.inr tq9))))), (ta, .inl (cy 2, 60, .inr (.inl (fun _ => lN 0))))]) 4 rfl (fun k hk => hfq k (by omega)) rfl ?_
                              refine x_iconst C dX10_tape_95 (q := 96) rfl (v := nI 1) (by decide) ?_
                              refine x_iret C hA hQ hr dX10_tape_96 (Nat.le_of_ble_eq_true rfl) ?_
                              unfold tapA tapN
                              dsimp only
                              repeat (first | rw [if_pos (by omega)] | rw [if_neg (by omega)])
                              first | exact ⟨rfl, rfl⟩ | (refine ⟨rfl, ?_⟩; rw [up_self, up_self])
                          · first
                            | (exfalso; omega)
                            |
                              refine x_aload_n C dX10_tape_79 (q := 80) rfl rfl 0 rfl ?_
                              refine x_get C (ci := 9) (v := .ref (mr 27)) hw2 0 rfl rfl 43 (by decide) hw5 rfl dX10_tape_80 (q := 83) rfl ?_
                              refine x_iload_n C dX10_tape_83 (q := 84) rfl rfl 1 rfl ?_
                              refine x_aald6 C (j := x.toInt.toNat) (v := .ref ta) 3 rfl (by have h9 := (rfl : (x : Int32).toInt = x.toInt); omega) (by omega) (by rw [htq]; rfl) dX10_tape_84 (q := 85) rfl ?_
                              refine x_iload C dX10_tape_85 (q := 87) rfl 4 rfl ?_
                              refine x_lconst C dX10_tape_87 (q := 88) rfl (v := lN 0) rfl ?_
                              refine x_last C (ws' := [(mo, .inr (9, [.int (nI cols), .int (nI lc), .int (nI smp), .int (ky), .ref (mr 0), .ref (mr 1), .ref (mr 2), .ref (mr 3), .ref (mr 4), .ref (mr 5), .ref (mr 6), .ref (mr 7), .ref (mr 8), .ref (mr 9), .int (nI mk), .int (nI rs), .ref (mr 10), .ref (mr 11), .ref (mr 12), .ref (mr 13), .ref (mr 14), .ref (mr 15), .ref (mr 16), .ref (mr 17), .ref (mr 18), .ref (mr 19), .ref (mr 20), .int (nI nse), .int (nI npa), .int (nI nbo), .ref (mr 21), .int (nI tn), .ref (mr 22), .int (nI ik), .int (j0), .int (j1), .ref (mr 23), .int (j2), .ref (mr 24), .ref (mr 25), .int (j3), .ref (mr 26), .int (j4), .ref (mr 27), .ref (mr 28), .ref (mr 29), .ref (mr 30)])), (mr 28, .inl (cy 1, 6, .inl (va_up tso x.toInt.toNat y))), (mr 29, .inl (cy 1, 6, .inl (fun k => nI ((va_up tsz x.toInt.toNat 0) k)))), (mr 27, .inl (cy 6, 6, .inr (.inr (.inr (.inr tq9))))), (ta, .inl (cy 2, 60, .inr (.inl (va_up fq i (lN 0)))))]) 4 rfl (j := i) (nI_toInt (by omega)) (by omega) (rfl) rfl dX10_tape_88 (q := 89) rfl ?_
                              refine x_iinc C (L' := [(4, .int (nI (i + 1))), (0, .ref mo), (1, .int (x)), (2, .int (y)), (3, .int (z))]) dX10_tape_89 (q := 92) rfl 4 rfl (v := nI (i + 1)) (nI_add i 1) (by decide) rfl ?_
                              refine x_goto C (tgt := 72) dX10_tape_92 (by decide) ?_
                              refine x_L (L' := [(0, .ref mo), (1, .int (x)), (2, .int (y)), (3, .int (z)), (4, .int (nI (i + 1)))]) [1, 2, 3, 4, 0] rfl ?_
                              exact ih72 (i + 1) (va_up fq i (lN 0)) (by first | omega | assumption) (by intro j hj; by_cases h9 : j = i; (subst h9; exact va_up_eq); (rw [va_up_ne' h9]; exact hfq j (by omega))) (by omega)
                      refine x_L (L' := [(0, .ref mo), (1, .int (x)), (2, .int (y)), (3, .int (z)), (4, .int (nI 0))]) [1, 2, 3, 4, 0] rfl ?_
                      exact cut72 (60 - 0 + 1) 0 f (by first | omega | assumption) (by intro j hj; omega) (by omega)
              · first
                | (exfalso; omega)
                |
                  refine x_bipush C dX10_tape_44 (q := 46) rfl (v := (-14)) (by decide) ?_
                  refine x_iret C hA hQ hr dX10_tape_46 (Nat.le_of_ble_eq_true rfl) ?_
                  unfold tapA tapN
                  dsimp only
                  repeat (first | rw [if_pos (by omega)] | rw [if_neg (by omega)])
                  first | exact ⟨rfl, rfl⟩ | (refine ⟨rfl, ?_⟩; rw [up_self, up_self])
      · first
        | (exfalso; omega)
        |
          refine x_iload_n C dX10_tape_27 (q := 28) rfl rfl 3 rfl ?_
          refine x_bipush C dX10_tape_28 (q := 30) rfl (v := nI 60) (by decide) ?_
          refine x_icmp_le C (tgt := 36) dX10_tape_30 (by decide) (q := 33) rfl (a := z.toInt) (b := 60) rfl rfl (fun h18 => ?_) (fun h18 => ?_)
          · first
            | (exfalso; omega)
            |
              refine x_iload_n C dX10_tape_36 (q := 37) rfl rfl 2 rfl ?_
              refine x_if_lt C (tgt := 47) dX10_tape_37 (by decide) (q := 40) rfl (a := y.toInt) rfl (fun h19 => ?_) (fun h19 => ?_)
              · first
                | (exfalso; omega)
                |
                  refine x_aload_n C dX10_tape_47 (q := 48) rfl rfl 0 rfl ?_
                  refine x_get C (ci := 9) (v := .ref (mr 28)) hw2 0 rfl rfl 44 (by decide) hw3 rfl dX10_tape_48 (q := 51) rfl ?_
                  refine x_iload_n C dX10_tape_51 (q := 52) rfl rfl 1 rfl ?_
                  refine x_iload_n C dX10_tape_52 (q := 53) rfl rfl 2 rfl ?_
                  refine x_iast C (ws' := [(mo, .inr (9, [.int (nI cols), .int (nI lc), .int (nI smp), .int (ky), .ref (mr 0), .ref (mr 1), .ref (mr 2), .ref (mr 3), .ref (mr 4), .ref (mr 5), .ref (mr 6), .ref (mr 7), .ref (mr 8), .ref (mr 9), .int (nI mk), .int (nI rs), .ref (mr 10), .ref (mr 11), .ref (mr 12), .ref (mr 13), .ref (mr 14), .ref (mr 15), .ref (mr 16), .ref (mr 17), .ref (mr 18), .ref (mr 19), .ref (mr 20), .int (nI nse), .int (nI npa), .int (nI nbo), .ref (mr 21), .int (nI tn), .ref (mr 22), .int (nI ik), .int (j0), .int (j1), .ref (mr 23), .int (j2), .ref (mr 24), .ref (mr 25), .int (j3), .ref (mr 26), .int (j4), .ref (mr 27), .ref (mr 28), .ref (mr 29), .ref (mr 30)])), (mr 28, .inl (cy 1, 6, .inl (va_up tso x.toInt.toNat y))), (mr 29, .inl (cy 1, 6, .inl (fun k => nI (tsz k)))), (mr 27, .inl (cy 6, 6, .inr (.inr (.inr (.inr tq9))))), (ta, .inl (cy 2, 60, .inr (.inl f)))]) 1 rfl (j := x.toInt.toNat) (by have h9 := (rfl : (x : Int32).toInt = x.toInt); omega) (by omega) (rfl) rfl dX10_tape_53 (q := 54) rfl ?_
                  refine x_aload_n C dX10_tape_54 (q := 55) rfl rfl 0 rfl ?_
                  refine x_get C (ci := 9) (v := .ref (mr 29)) hw2 0 rfl rfl 45 (by decide) hw4 rfl dX10_tape_55 (q := 58) rfl ?_
                  refine x_iload_n C dX10_tape_58 (q := 59) rfl rfl 1 rfl ?_
                  refine x_iload_n C dX10_tape_59 (q := 60) rfl rfl 2 rfl ?_
                  refine x_if_ge C (tgt := 67) dX10_tape_60 (by decide) (q := 63) rfl (a := y.toInt) rfl (fun h20 => ?_) (fun h20 => ?_)
                  · first
                    | (exfalso; omega)
                    |
                      refine x_iload_n C dX10_tape_67 (q := 68) rfl rfl 3 rfl ?_
                      refine x_topi (y := nI z.toInt.toNat) (xi_nat (by omega)) ?_
                      refine x_iast C (ws' := [(mo, .inr (9, [.int (nI cols), .int (nI lc), .int (nI smp), .int (ky), .ref (mr 0), .ref (mr 1), .ref (mr 2), .ref (mr 3), .ref (mr 4), .ref (mr 5), .ref (mr 6), .ref (mr 7), .ref (mr 8), .ref (mr 9), .int (nI mk), .int (nI rs), .ref (mr 10), .ref (mr 11), .ref (mr 12), .ref (mr 13), .ref (mr 14), .ref (mr 15), .ref (mr 16), .ref (mr 17), .ref (mr 18), .ref (mr 19), .ref (mr 20), .int (nI nse), .int (nI npa), .int (nI nbo), .ref (mr 21), .int (nI tn), .ref (mr 22), .int (nI ik), .int (j0), .int (j1), .ref (mr 23), .int (j2), .ref (mr 24), .ref (mr 25), .int (j3), .ref (mr 26), .int (j4), .ref (mr 27), .ref (mr 28), .ref (mr 29), .ref (mr 30)])), (mr 28, .inl (cy 1, 6, .inl (va_up tso x.toInt.toNat y))), (mr 29, .inl (cy 1, 6, .inl (fun k => nI ((va_up tsz x.toInt.toNat z.toInt.toNat) k)))), (mr 27, .inl (cy 6, 6, .inr (.inr (.inr (.inr tq9))))), (ta, .inl (cy 2, 60, .inr (.inl f)))]) 2 rfl (j := x.toInt.toNat) (by have h9 := (rfl : (x : Int32).toInt = x.toInt); omega) (by omega) (xup_n tsz x.toInt.toNat z.toInt.toNat) rfl dX10_tape_68 (q := 69) rfl ?_
                      refine x_iconst C dX10_tape_69 (q := 70) rfl (v := nI 0) (by decide) ?_
                      refine x_istore C (L' := [(4, .int (nI 0)), (0, .ref mo), (1, .int (x)), (2, .int (y)), (3, .int (z))]) dX10_tape_70 (q := 72) rfl (by decide) rfl ?_
                      have cut72 : ∀ (fuel : Nat) (i : Nat) (fq : Nat → Int64), (i ≤ 60) → (∀ j, j < i → fq j = lN 0) → 60 - i < fuel → xG p l e R s m args below meth c Q D A 5 [(mo, .inr (9, [.int (nI cols), .int (nI lc), .int (nI smp), .int (ky), .ref (mr 0), .ref (mr 1), .ref (mr 2), .ref (mr 3), .ref (mr 4), .ref (mr 5), .ref (mr 6), .ref (mr 7), .ref (mr 8), .ref (mr 9), .int (nI mk), .int (nI rs), .ref (mr 10), .ref (mr 11), .ref (mr 12), .ref (mr 13), .ref (mr 14), .ref (mr 15), .ref (mr 16), .ref (mr 17), .ref (mr 18), .ref (mr 19), .ref (mr 20), .int (nI nse), .int (nI npa), .int (nI nbo), .ref (mr 21), .int (nI tn), .ref (mr 22), .int (nI ik), .int (j0), .int (j1), .ref (mr 23), .int (j2), .ref (mr 24), .ref (mr 25), .int (j3), .ref (mr 26), .int (j4), .ref (mr 27), .ref (mr 28), .ref (mr 29), .ref (mr 30)])), (mr 28, .inl (cy 1, 6, .inl (va_up tso x.toInt.toNat y))), (mr 29, .inl (cy 1, 6, .inl (fun k => nI ((va_up tsz x.toInt.toNat z.toInt.toNat) k)))), (mr 27, .inl (cy 6, 6, .inr (.inr (.inr (.inr tq9))))), (ta, .inl (cy 2, 60, .inr (.inl fq)))] 0 0 72 [(0, .ref mo), (1, .int (x)), (2, .int (y)), (3, .int (z)), (4, .int (nI i))] [] := by
                        intro fuel
                        induction fuel with
                        | zero =>
                          intro i fq hi hfq hmu
                          exact absurd hmu (Nat.not_lt_zero _)
                        | succ fuel ih =>
                          intro i fq hi hfq hmu
                          have ih72 := ih
                          clear ih
                          refine x_iload C dX10_tape_72 (q := 74) rfl 4 rfl ?_
                          refine x_bipush C dX10_tape_74 (q := 76) rfl (v := nI 60) (by decide) ?_
                          refine x_icmp_ge C (tgt := 95) dX10_tape_76 (by decide) (q := 79) rfl (a := ((i : Nat) : Int)) (b := 60) (nI_toInt (by omega)) rfl (fun h21 => ?_) (fun h21 => ?_)
                          · first
                            | (exfalso; omega)
                            |
                              refine x_recJ (ws' := [(mo, .inr (9, [.int (nI cols), .int (nI lc), .int (nI smp), .int (ky), .ref (mr 0), .ref (mr 1), .ref (mr 2), .ref (mr 3), .ref (mr 4), .ref (mr 5), .ref (mr 6), .ref (mr 7), .ref (mr 8), .ref (mr 9), .int (nI mk), .int (nI rs), .ref (mr 10), .ref (mr 11), .ref (mr 12), .ref (mr 13), .ref (mr 14), .ref (mr 15), .ref (mr 16), .ref (mr 17), .ref (mr 18), .ref (mr 19), .ref (mr 20), .int (nI nse), .int (nI npa), .int (nI nbo), .ref (mr 21), .int (nI tn), .ref (mr 22), .int (nI ik), .int (j0), .int (j1), .ref (mr 23), .int (j2), .ref (mr 24), .ref (mr 25), .int (j3), .ref (mr 26), .int (j4), .ref (mr 27), .ref (mr 28), .ref (mr 29), .ref (mr 30)])), (mr 28, .inl (cy 1, 6, .inl (va_up tso x.toInt.toNat y))), (mr 29, .inl (cy 1, 6, .inl (fun k => nI ((va_up tsz x.toInt.toNat z.toInt.toNat) k)))), (mr 27, .inl (cy 6, 6, .inr (.inr (.inr (.inr tq9))))), (ta, .inl (cy 2, 60, .inr (.inl (fun _ => lN 0))))]) 4 rfl (fun k hk => hfq k (by omega)) rfl ?_
                              refine x_iconst C dX10_tape_95 (q := 96) rfl (v := nI 1) (by decide) ?_
                              refine x_iret C hA hQ hr dX10_tape_96 (Nat.le_of_ble_eq_true rfl) ?_
                              unfold tapA tapN
                              dsimp only
                              repeat (first | rw [if_pos (by omega)] | rw [if_neg (by omega)])
                              first | exact ⟨rfl, rfl⟩ | (refine ⟨rfl, ?_⟩; rw [up_self, up_self])
                          · first
                            | (exfalso; omega)
                            |
                              refine x_aload_n C dX10_tape_79 (q := 80) rfl rfl 0 rfl ?_
                              refine x_get C (ci := 9) (v := .ref (mr 27)) hw2 0 rfl rfl 43 (by decide) hw5 rfl dX10_tape_80 (q := 83) rfl ?_
                              refine x_iload_n C dX10_tape_83 (q := 84) rfl rfl 1 rfl ?_
                              refine x_aald6 C (j := x.toInt.toNat) (v := .ref ta) 3 rfl (by have h9 := (rfl : (x : Int32).toInt = x.toInt); omega) (by omega) (by rw [htq]; rfl) dX10_tape_84 (q := 85) rfl ?_
                              refine x_iload C dX10_tape_85 (q := 87) rfl 4 rfl ?_
                              refine x_lconst C dX10_tape_87 (q := 88) rfl (v := lN 0) rfl ?_
                              refine x_last C (ws' := [(mo, .inr (9, [.int (nI cols), .int (nI lc), .int (nI smp), .int (ky), .ref (mr 0), .ref (mr 1), .ref (mr 2), .ref (mr 3), .ref (mr 4), .ref (mr 5), .ref (mr 6), .ref (mr 7), .ref (mr 8), .ref (mr 9), .int (nI mk), .int (nI rs), .ref (mr 10), .ref (mr 11), .ref (mr 12), .ref (mr 13), .ref (mr 14), .ref (mr 15), .ref (mr 16), .ref (mr 17), .ref (mr 18), .ref (mr 19), .ref (mr 20), .int (nI nse), .int (nI npa), .int (nI nbo), .ref (mr 21), .int (nI tn), .ref (mr 22), .int (nI ik), .int (j0), .int (j1), .ref (mr 23), .int (j2), .ref (mr 24), .ref (mr 25), .int (j3), .ref (mr 26), .int (j4), .ref (mr 27), .ref (mr 28), .ref (mr 29), .ref (mr 30)])), (mr 28, .inl (cy 1, 6, .inl (va_up tso x.toInt.toNat y))), (mr 29, .inl (cy 1, 6, .inl (fun k => nI ((va_up tsz x.toInt.toNat z.toInt.toNat) k)))), (mr 27, .inl (cy 6, 6, .inr (.inr (.inr (.inr tq9))))), (ta, .inl (cy 2, 60, .inr (.inl (va_up fq i (lN 0)))))]) 4 rfl (j := i) (nI_toInt (by omega)) (by omega) (rfl) rfl dX10_tape_88 (q := 89) rfl ?_
                              refine x_iinc C (L' := [(4, .int (nI (i + 1))), (0, .ref mo), (1, .int (x)), (2, .int (y)), (3, .int (z))]) dX10_tape_89 (q := 92) rfl 4 rfl (v := nI (i + 1)) (nI_add i 1) (by decide) rfl ?_
                              refine x_goto C (tgt := 72) dX10_tape_92 (by decide) ?_
                              refine x_L (L' := [(0, .ref mo), (1, .int (x)), (2, .int (y)), (3, .int (z)), (4, .int (nI (i + 1)))]) [1, 2, 3, 4, 0] rfl ?_
                              exact ih72 (i + 1) (va_up fq i (lN 0)) (by first | omega | assumption) (by intro j hj; by_cases h9 : j = i; (subst h9; exact va_up_eq); (rw [va_up_ne' h9]; exact hfq j (by omega))) (by omega)
                      refine x_L (L' := [(0, .ref mo), (1, .int (x)), (2, .int (y)), (3, .int (z)), (4, .int (nI 0))]) [1, 2, 3, 4, 0] rfl ?_
                      exact cut72 (60 - 0 + 1) 0 f (by first | omega | assumption) (by intro j hj; omega) (by omega)
                  · first
                    | (exfalso; omega)
                    |
                      refine x_iconst C dX10_tape_63 (q := 64) rfl (v := nI 0) (by decide) ?_
                      refine x_goto C (tgt := 68) dX10_tape_64 (by decide) ?_
                      refine x_iast C (ws' := [(mo, .inr (9, [.int (nI cols), .int (nI lc), .int (nI smp), .int (ky), .ref (mr 0), .ref (mr 1), .ref (mr 2), .ref (mr 3), .ref (mr 4), .ref (mr 5), .ref (mr 6), .ref (mr 7), .ref (mr 8), .ref (mr 9), .int (nI mk), .int (nI rs), .ref (mr 10), .ref (mr 11), .ref (mr 12), .ref (mr 13), .ref (mr 14), .ref (mr 15), .ref (mr 16), .ref (mr 17), .ref (mr 18), .ref (mr 19), .ref (mr 20), .int (nI nse), .int (nI npa), .int (nI nbo), .ref (mr 21), .int (nI tn), .ref (mr 22), .int (nI ik), .int (j0), .int (j1), .ref (mr 23), .int (j2), .ref (mr 24), .ref (mr 25), .int (j3), .ref (mr 26), .int (j4), .ref (mr 27), .ref (mr 28), .ref (mr 29), .ref (mr 30)])), (mr 28, .inl (cy 1, 6, .inl (va_up tso x.toInt.toNat y))), (mr 29, .inl (cy 1, 6, .inl (fun k => nI ((va_up tsz x.toInt.toNat 0) k)))), (mr 27, .inl (cy 6, 6, .inr (.inr (.inr (.inr tq9))))), (ta, .inl (cy 2, 60, .inr (.inl f)))]) 2 rfl (j := x.toInt.toNat) (by have h9 := (rfl : (x : Int32).toInt = x.toInt); omega) (by omega) (xup_n tsz x.toInt.toNat 0) rfl dX10_tape_68 (q := 69) rfl ?_
                      refine x_iconst C dX10_tape_69 (q := 70) rfl (v := nI 0) (by decide) ?_
                      refine x_istore C (L' := [(4, .int (nI 0)), (0, .ref mo), (1, .int (x)), (2, .int (y)), (3, .int (z))]) dX10_tape_70 (q := 72) rfl (by decide) rfl ?_
                      have cut72 : ∀ (fuel : Nat) (i : Nat) (fq : Nat → Int64), (i ≤ 60) → (∀ j, j < i → fq j = lN 0) → 60 - i < fuel → xG p l e R s m args below meth c Q D A 5 [(mo, .inr (9, [.int (nI cols), .int (nI lc), .int (nI smp), .int (ky), .ref (mr 0), .ref (mr 1), .ref (mr 2), .ref (mr 3), .ref (mr 4), .ref (mr 5), .ref (mr 6), .ref (mr 7), .ref (mr 8), .ref (mr 9), .int (nI mk), .int (nI rs), .ref (mr 10), .ref (mr 11), .ref (mr 12), .ref (mr 13), .ref (mr 14), .ref (mr 15), .ref (mr 16), .ref (mr 17), .ref (mr 18), .ref (mr 19), .ref (mr 20), .int (nI nse), .int (nI npa), .int (nI nbo), .ref (mr 21), .int (nI tn), .ref (mr 22), .int (nI ik), .int (j0), .int (j1), .ref (mr 23), .int (j2), .ref (mr 24), .ref (mr 25), .int (j3), .ref (mr 26), .int (j4), .ref (mr 27), .ref (mr 28), .ref (mr 29), .ref (mr 30)])), (mr 28, .inl (cy 1, 6, .inl (va_up tso x.toInt.toNat y))), (mr 29, .inl (cy 1, 6, .inl (fun k => nI ((va_up tsz x.toInt.toNat 0) k)))), (mr 27, .inl (cy 6, 6, .inr (.inr (.inr (.inr tq9))))), (ta, .inl (cy 2, 60, .inr (.inl fq)))] 0 0 72 [(0, .ref mo), (1, .int (x)), (2, .int (y)), (3, .int (z)), (4, .int (nI i))] [] := by
                        intro fuel
                        induction fuel with
                        | zero =>
                          intro i fq hi hfq hmu
                          exact absurd hmu (Nat.not_lt_zero _)
                        | succ fuel ih =>
                          intro i fq hi hfq hmu
                          have ih72 := ih
                          clear ih
                          refine x_iload C dX10_tape_72 (q := 74) rfl 4 rfl ?_
                          refine x_bipush C dX10_tape_74 (q := 76) rfl (v := nI 60) (by decide) ?_
                          refine x_icmp_ge C (tgt := 95) dX10_tape_76 (by decide) (q := 79) rfl (a := ((i : Nat) : Int)) (b := 60) (nI_toInt (by omega)) rfl (fun h22 => ?_) (fun h22 => ?_)
                          · first
                            | (exfalso; omega)
                            |
                              refine x_recJ (ws' := [(mo, .inr (9, [.int (nI cols), .int (nI lc), .int (nI smp), .int (ky), .ref (mr 0), .ref (mr 1), .ref (mr 2), .ref (mr 3), .ref (mr 4), .ref (mr 5), .ref (mr 6), .ref (mr 7), .ref (mr 8), .ref (mr 9), .int (nI mk), .int (nI rs), .ref (mr 10), .ref (mr 11), .ref (mr 12), .ref (mr 13), .ref (mr 14), .ref (mr 15), .ref (mr 16), .ref (mr 17), .ref (mr 18), .ref (mr 19), .ref (mr 20), .int (nI nse), .int (nI npa), .int (nI nbo), .ref (mr 21), .int (nI tn), .ref (mr 22), .int (nI ik), .int (j0), .int (j1), .ref (mr 23), .int (j2), .ref (mr 24), .ref (mr 25), .int (j3), .ref (mr 26), .int (j4), .ref (mr 27), .ref (mr 28), .ref (mr 29), .ref (mr 30)])), (mr 28, .inl (cy 1, 6, .inl (va_up tso x.toInt.toNat y))), (mr 29, .inl (cy 1, 6, .inl (fun k => nI ((va_up tsz x.toInt.toNat 0) k)))), (mr 27, .inl (cy 6, 6, .inr (.inr (.inr (.inr tq9))))), (ta, .inl (cy 2, 60, .inr (.inl (fun _ => lN 0))))]) 4 rfl (fun k hk => hfq k (by omega)) rfl ?_
                              refine x_iconst C dX10_tape_95 (q := 96) rfl (v := nI 1) (by decide) ?_
                              refine x_iret C hA hQ hr dX10_tape_96 (Nat.le_of_ble_eq_true rfl) ?_
                              unfold tapA tapN
                              dsimp only
                              repeat (first | rw [if_pos (by omega)] | rw [if_neg (by omega)])
                              first | exact ⟨rfl, rfl⟩ | (refine ⟨rfl, ?_⟩; rw [up_self, up_self])
                          · first
                            | (exfalso; omega)
                            |
                              refine x_aload_n C dX10_tape_79 (q := 80) rfl rfl 0 rfl ?_
                              refine x_get C (ci := 9) (v := .ref (mr 27)) hw2 0 rfl rfl 43 (by decide) hw5 rfl dX10_tape_80 (q := 83) rfl ?_
                              refine x_iload_n C dX10_tape_83 (q := 84) rfl rfl 1 rfl ?_
                              refine x_aald6 C (j := x.toInt.toNat) (v := .ref ta) 3 rfl (by have h9 := (rfl : (x : Int32).toInt = x.toInt); omega) (by omega) (by rw [htq]; rfl) dX10_tape_84 (q := 85) rfl ?_
                              refine x_iload C dX10_tape_85 (q := 87) rfl 4 rfl ?_
                              refine x_lconst C dX10_tape_87 (q := 88) rfl (v := lN 0) rfl ?_
                              refine x_last C (ws' := [(mo, .inr (9, [.int (nI cols), .int (nI lc), .int (nI smp), .int (ky), .ref (mr 0), .ref (mr 1), .ref (mr 2), .ref (mr 3), .ref (mr 4), .ref (mr 5), .ref (mr 6), .ref (mr 7), .ref (mr 8), .ref (mr 9), .int (nI mk), .int (nI rs), .ref (mr 10), .ref (mr 11), .ref (mr 12), .ref (mr 13), .ref (mr 14), .ref (mr 15), .ref (mr 16), .ref (mr 17), .ref (mr 18), .ref (mr 19), .ref (mr 20), .int (nI nse), .int (nI npa), .int (nI nbo), .ref (mr 21), .int (nI tn), .ref (mr 22), .int (nI ik), .int (j0), .int (j1), .ref (mr 23), .int (j2), .ref (mr 24), .ref (mr 25), .int (j3), .ref (mr 26), .int (j4), .ref (mr 27), .ref (mr 28), .ref (mr 29), .ref (mr 30)])), (mr 28, .inl (cy 1, 6, .inl (va_up tso x.toInt.toNat y))), (mr 29, .inl (cy 1, 6, .inl (fun k => nI ((va_up tsz x.toInt.toNat 0) k)))), (mr 27, .inl (cy 6, 6, .inr (.inr (.inr (.inr tq9))))), (ta, .inl (cy 2, 60, .inr (.inl (va_up fq i (lN 0)))))]) 4 rfl (j := i) (nI_toInt (by omega)) (by omega) (rfl) rfl dX10_tape_88 (q := 89) rfl ?_
                              refine x_iinc C (L' := [(4, .int (nI (i + 1))), (0, .ref mo), (1, .int (x)), (2, .int (y)), (3, .int (z))]) dX10_tape_89 (q := 92) rfl 4 rfl (v := nI (i + 1)) (nI_add i 1) (by decide) rfl ?_
                              refine x_goto C (tgt := 72) dX10_tape_92 (by decide) ?_
                              refine x_L (L' := [(0, .ref mo), (1, .int (x)), (2, .int (y)), (3, .int (z)), (4, .int (nI (i + 1)))]) [1, 2, 3, 4, 0] rfl ?_
                              exact ih72 (i + 1) (va_up fq i (lN 0)) (by first | omega | assumption) (by intro j hj; by_cases h9 : j = i; (subst h9; exact va_up_eq); (rw [va_up_ne' h9]; exact hfq j (by omega))) (by omega)
                      refine x_L (L' := [(0, .ref mo), (1, .int (x)), (2, .int (y)), (3, .int (z)), (4, .int (nI 0))]) [1, 2, 3, 4, 0] rfl ?_
                      exact cut72 (60 - 0 + 1) 0 f (by first | omega | assumption) (by intro j hj; omega) (by omega)
              · first
                | (exfalso; omega)
                |
                  refine x_iload_n C dX10_tape_40 (q := 41) rfl rfl 3 rfl ?_
                  refine x_if_ge C (tgt := 47) dX10_tape_41 (by decide) (q := 44) rfl (a := z.toInt) rfl (fun h23 => ?_) (fun h23 => ?_)
                  · first
                    | (exfalso; omega)
                    |
                      refine x_aload_n C dX10_tape_47 (q := 48) rfl rfl 0 rfl ?_
                      refine x_get C (ci := 9) (v := .ref (mr 28)) hw2 0 rfl rfl 44 (by decide) hw3 rfl dX10_tape_48 (q := 51) rfl ?_
                      refine x_iload_n C dX10_tape_51 (q := 52) rfl rfl 1 rfl ?_
                      refine x_iload_n C dX10_tape_52 (q := 53) rfl rfl 2 rfl ?_
                      refine x_iast C (ws' := [(mo, .inr (9, [.int (nI cols), .int (nI lc), .int (nI smp), .int (ky), .ref (mr 0), .ref (mr 1), .ref (mr 2), .ref (mr 3), .ref (mr 4), .ref (mr 5), .ref (mr 6), .ref (mr 7), .ref (mr 8), .ref (mr 9), .int (nI mk), .int (nI rs), .ref (mr 10), .ref (mr 11), .ref (mr 12), .ref (mr 13), .ref (mr 14), .ref (mr 15), .ref (mr 16), .ref (mr 17), .ref (mr 18), .ref (mr 19), .ref (mr 20), .int (nI nse), .int (nI npa), .int (nI nbo), .ref (mr 21), .int (nI tn), .ref (mr 22), .int (nI ik), .int (j0), .int (j1), .ref (mr 23), .int (j2), .ref (mr 24), .ref (mr 25), .int (j3), .ref (mr 26), .int (j4), .ref (mr 27), .ref (mr 28), .ref (mr 29), .ref (mr 30)])), (mr 28, .inl (cy 1, 6, .inl (va_up tso x.toInt.toNat y))), (mr 29, .inl (cy 1, 6, .inl (fun k => nI (tsz k)))), (mr 27, .inl (cy 6, 6, .inr (.inr (.inr (.inr tq9))))), (ta, .inl (cy 2, 60, .inr (.inl f)))]) 1 rfl (j := x.toInt.toNat) (by have h9 := (rfl : (x : Int32).toInt = x.toInt); omega) (by omega) (rfl) rfl dX10_tape_53 (q := 54) rfl ?_
                      refine x_aload_n C dX10_tape_54 (q := 55) rfl rfl 0 rfl ?_
                      refine x_get C (ci := 9) (v := .ref (mr 29)) hw2 0 rfl rfl 45 (by decide) hw4 rfl dX10_tape_55 (q := 58) rfl ?_
                      refine x_iload_n C dX10_tape_58 (q := 59) rfl rfl 1 rfl ?_
                      refine x_iload_n C dX10_tape_59 (q := 60) rfl rfl 2 rfl ?_
                      refine x_if_ge C (tgt := 67) dX10_tape_60 (by decide) (q := 63) rfl (a := y.toInt) rfl (fun h24 => ?_) (fun h24 => ?_)
                      · first
                        | (exfalso; omega)
                        |
                          refine x_iload_n C dX10_tape_67 (q := 68) rfl rfl 3 rfl ?_
                          refine x_topi (y := nI z.toInt.toNat) (xi_nat (by omega)) ?_
                          refine x_iast C (ws' := [(mo, .inr (9, [.int (nI cols), .int (nI lc), .int (nI smp), .int (ky), .ref (mr 0), .ref (mr 1), .ref (mr 2), .ref (mr 3), .ref (mr 4), .ref (mr 5), .ref (mr 6), .ref (mr 7), .ref (mr 8), .ref (mr 9), .int (nI mk), .int (nI rs), .ref (mr 10), .ref (mr 11), .ref (mr 12), .ref (mr 13), .ref (mr 14), .ref (mr 15), .ref (mr 16), .ref (mr 17), .ref (mr 18), .ref (mr 19), .ref (mr 20), .int (nI nse), .int (nI npa), .int (nI nbo), .ref (mr 21), .int (nI tn), .ref (mr 22), .int (nI ik), .int (j0), .int (j1), .ref (mr 23), .int (j2), .ref (mr 24), .ref (mr 25), .int (j3), .ref (mr 26), .int (j4), .ref (mr 27), .ref (mr 28), .ref (mr 29), .ref (mr 30)])), (mr 28, .inl (cy 1, 6, .inl (va_up tso x.toInt.toNat y))), (mr 29, .inl (cy 1, 6, .inl (fun k => nI ((va_up tsz x.toInt.toNat z.toInt.toNat) k)))), (mr 27, .inl (cy 6, 6, .inr (.inr (.inr (.inr tq9))))), (ta, .inl (cy 2, 60, .inr (.inl f)))]) 2 rfl (j := x.toInt.toNat) (by have h9 := (rfl : (x : Int32).toInt = x.toInt); omega) (by omega) (xup_n tsz x.toInt.toNat z.toInt.toNat) rfl dX10_tape_68 (q := 69) rfl ?_
                          refine x_iconst C dX10_tape_69 (q := 70) rfl (v := nI 0) (by decide) ?_
                          refine x_istore C (L' := [(4, .int (nI 0)), (0, .ref mo), (1, .int (x)), (2, .int (y)), (3, .int (z))]) dX10_tape_70 (q := 72) rfl (by decide) rfl ?_
                          have cut72 : ∀ (fuel : Nat) (i : Nat) (fq : Nat → Int64), (i ≤ 60) → (∀ j, j < i → fq j = lN 0) → 60 - i < fuel → xG p l e R s m args below meth c Q D A 5 [(mo, .inr (9, [.int (nI cols), .int (nI lc), .int (nI smp), .int (ky), .ref (mr 0), .ref (mr 1), .ref (mr 2), .ref (mr 3), .ref (mr 4), .ref (mr 5), .ref (mr 6), .ref (mr 7), .ref (mr 8), .ref (mr 9), .int (nI mk), .int (nI rs), .ref (mr 10), .ref (mr 11), .ref (mr 12), .ref (mr 13), .ref (mr 14), .ref (mr 15), .ref (mr 16), .ref (mr 17), .ref (mr 18), .ref (mr 19), .ref (mr 20), .int (nI nse), .int (nI npa), .int (nI nbo), .ref (mr 21), .int (nI tn), .ref (mr 22), .int (nI ik), .int (j0), .int (j1), .ref (mr 23), .int (j2), .ref (mr 24), .ref (mr 25), .int (j3), .ref (mr 26), .int (j4), .ref (mr 27), .ref (mr 28), .ref (mr 29), .ref (mr 30)])), (mr 28, .inl (cy 1, 6, .inl (va_up tso x.toInt.toNat y))), (mr 29, .inl (cy 1, 6, .inl (fun k => nI ((va_up tsz x.toInt.toNat z.toInt.toNat) k)))), (mr 27, .inl (cy 6, 6, .inr (.inr (.inr (.inr tq9))))), (ta, .inl (cy 2, 60, .inr (.inl fq)))] 0 0 72 [(0, .ref mo), (1, .int (x)), (2, .int (y)), (3, .int (z)), (4, .int (nI i))] [] := by
                            intro fuel
                            induction fuel with
                            | zero =>
                              intro i fq hi hfq hmu
                              exact absurd hmu (Nat.not_lt_zero _)
                            | succ fuel ih =>
                              intro i fq hi hfq hmu
                              have ih72 := ih
                              clear ih
                              refine x_iload C dX10_tape_72 (q := 74) rfl 4 rfl ?_
                              refine x_bipush C dX10_tape_74 (q := 76) rfl (v := nI 60) (by decide) ?_
                              refine x_icmp_ge C (tgt := 95) dX10_tape_76 (by decide) (q := 79) rfl (a := ((i : Nat) : Int)) (b := 60) (nI_toInt (by omega)) rfl (fun h25 => ?_) (fun h25 => ?_)
                              · first
                                | (exfalso; omega)
                                |
                                  refine x_recJ (ws' := [(mo, .inr (9, [.int (nI cols), .int (nI lc), .int (nI smp), .int (ky), .ref (mr 0), .ref (mr 1), .ref (mr 2), .ref (mr 3), .ref (mr 4), .ref (mr 5), .ref (mr 6), .ref (mr 7), .ref (mr 8), .ref (mr 9), .int (nI mk), .int (nI rs), .ref (mr 10), .ref (mr 11), .ref (mr 12), .ref (mr 13), .ref (mr 14), .ref (mr 15), .ref (mr 16), .ref (mr 17), .ref (mr 18), .ref (mr 19), .ref (mr 20), .int (nI nse), .int (nI npa), .int (nI nbo), .ref (mr 21), .int (nI tn), .ref (mr 22), .int (nI ik), .int (j0), .int (j1), .ref (mr 23), .int (j2), .ref (mr 24), .ref (mr 25), .int (j3), .ref (mr 26), .int (j4), .ref (mr 27), .ref (mr 28), .ref (mr 29), .ref (mr 30)])), (mr 28, .inl (cy 1, 6, .inl (va_up tso x.toInt.toNat y))), (mr 29, .inl (cy 1, 6, .inl (fun k => nI ((va_up tsz x.toInt.toNat z.toInt.toNat) k)))), (mr 27, .inl (cy 6, 6, .inr (.inr (.inr (.inr tq9))))), (ta, .inl (cy 2, 60, .inr (.inl (fun _ => lN 0))))]) 4 rfl (fun k hk => hfq k (by omega)) rfl ?_
                                  refine x_iconst C dX10_tape_95 (q := 96) rfl (v := nI 1) (by decide) ?_
                                  refine x_iret C hA hQ hr dX10_tape_96 (Nat.le_of_ble_eq_true rfl) ?_
                                  unfold tapA tapN
                                  dsimp only
                                  repeat (first | rw [if_pos (by omega)] | rw [if_neg (by omega)])
                                  first | exact ⟨rfl, rfl⟩ | (refine ⟨rfl, ?_⟩; rw [up_self, up_self])
                              · first
                                | (exfalso; omega)
                                |
                                  refine x_aload_n C dX10_tape_79 (q := 80) rfl rfl 0 rfl ?_
                                  refine x_get C (ci := 9) (v := .ref (mr 27)) hw2 0 rfl rfl 43 (by decide) hw5 rfl dX10_tape_80 (q := 83) rfl ?_
                                  refine x_iload_n C dX10_tape_83 (q := 84) rfl rfl 1 rfl ?_
                                  refine x_aald6 C (j := x.toInt.toNat) (v := .ref ta) 3 rfl (by have h9 := (rfl : (x : Int32).toInt = x.toInt); omega) (by omega) (by rw [htq]; rfl) dX10_tape_84 (q := 85) rfl ?_
                                  refine x_iload C dX10_tape_85 (q := 87) rfl 4 rfl ?_
                                  refine x_lconst C dX10_tape_87 (q := 88) rfl (v := lN 0) rfl ?_
                                  refine x_last C (ws' := [(mo, .inr (9, [.int (nI cols), .int (nI lc), .int (nI smp), .int (ky), .ref (mr 0), .ref (mr 1), .ref (mr 2), .ref (mr 3), .ref (mr 4), .ref (mr 5), .ref (mr 6), .ref (mr 7), .ref (mr 8), .ref (mr 9), .int (nI mk), .int (nI rs), .ref (mr 10), .ref (mr 11), .ref (mr 12), .ref (mr 13), .ref (mr 14), .ref (mr 15), .ref (mr 16), .ref (mr 17), .ref (mr 18), .ref (mr 19), .ref (mr 20), .int (nI nse), .int (nI npa), .int (nI nbo), .ref (mr 21), .int (nI tn), .ref (mr 22), .int (nI ik), .int (j0), .int (j1), .ref (mr 23), .int (j2), .ref (mr 24), .ref (mr 25), .int (j3), .ref (mr 26), .int (j4), .ref (mr 27), .ref (mr 28), .ref (mr 29), .ref (mr 30)])), (mr 28, .inl (cy 1, 6, .inl (va_up tso x.toInt.toNat y))), (mr 29, .inl (cy 1, 6, .inl (fun k => nI ((va_up tsz x.toInt.toNat z.toInt.toNat) k)))), (mr 27, .inl (cy 6, 6, .inr (.inr (.inr (.inr tq9))))), (ta, .inl (cy 2, 60, .inr (.inl (va_up fq i (lN 0)))))]) 4 rfl (j := i) (nI_toInt (by omega)) (by omega) (rfl) rfl dX10_tape_88 (q := 89) rfl ?_
                                  refine x_iinc C (L' := [(4, .int (nI (i + 1))), (0, .ref mo), (1, .int (x)), (2, .int (y)), (3, .int (z))]) dX10_tape_89 (q := 92) rfl 4 rfl (v := nI (i + 1)) (nI_add i 1) (by decide) rfl ?_
                                  refine x_goto C (tgt := 72) dX10_tape_92 (by decide) ?_
                                  refine x_L (L' := [(0, .ref mo), (1, .int (x)), (2, .int (y)), (3, .int (z)), (4, .int (nI (i + 1)))]) [1, 2, 3, 4, 0] rfl ?_
                                  exact ih72 (i + 1) (va_up fq i (lN 0)) (by first | omega | assumption) (by intro j hj; by_cases h9 : j = i; (subst h9; exact va_up_eq); (rw [va_up_ne' h9]; exact hfq j (by omega))) (by omega)
                          refine x_L (L' := [(0, .ref mo), (1, .int (x)), (2, .int (y)), (3, .int (z)), (4, .int (nI 0))]) [1, 2, 3, 4, 0] rfl ?_
                          exact cut72 (60 - 0 + 1) 0 f (by first | omega | assumption) (by intro j hj; omega) (by omega)
                      · first
                        | (exfalso; omega)
                        |
                          refine x_iconst C dX10_tape_63 (q := 64) rfl (v := nI 0) (by decide) ?_
                          refine x_goto C (tgt := 68) dX10_tape_64 (by decide) ?_
                          refine x_iast C (ws' := [(mo, .inr (9, [.int (nI cols), .int (nI lc), .int (nI smp), .int (ky), .ref (mr 0), .ref (mr 1), .ref (mr 2), .ref (mr 3), .ref (mr 4), .ref (mr 5), .ref (mr 6), .ref (mr 7), .ref (mr 8), .ref (mr 9), .int (nI mk), .int (nI rs), .ref (mr 10), .ref (mr 11), .ref (mr 12), .ref (mr 13), .ref (mr 14), .ref (mr 15), .ref (mr 16), .ref (mr 17), .ref (mr 18), .ref (mr 19), .ref (mr 20), .int (nI nse), .int (nI npa), .int (nI nbo), .ref (mr 21), .int (nI tn), .ref (mr 22), .int (nI ik), .int (j0), .int (j1), .ref (mr 23), .int (j2), .ref (mr 24), .ref (mr 25), .int (j3), .ref (mr 26), .int (j4), .ref (mr 27), .ref (mr 28), .ref (mr 29), .ref (mr 30)])), (mr 28, .inl (cy 1, 6, .inl (va_up tso x.toInt.toNat y))), (mr 29, .inl (cy 1, 6, .inl (fun k => nI ((va_up tsz x.toInt.toNat 0) k)))), (mr 27, .inl (cy 6, 6, .inr (.inr (.inr (.inr tq9))))), (ta, .inl (cy 2, 60, .inr (.inl f)))]) 2 rfl (j := x.toInt.toNat) (by have h9 := (rfl : (x : Int32).toInt = x.toInt); omega) (by omega) (xup_n tsz x.toInt.toNat 0) rfl dX10_tape_68 (q := 69) rfl ?_
                          refine x_iconst C dX10_tape_69 (q := 70) rfl (v := nI 0) (by decide) ?_
                          refine x_istore C (L' := [(4, .int (nI 0)), (0, .ref mo), (1, .int (x)), (2, .int (y)), (3, .int (z))]) dX10_tape_70 (q := 72) rfl (by decide) rfl ?_
                          have cut72 : ∀ (fuel : Nat) (i : Nat) (fq : Nat → Int64), (i ≤ 60) → (∀ j, j < i → fq j = lN 0) → 60 - i < fuel → xG p l e R s m args below meth c Q D A 5 [(mo, .inr (9, [.int (nI cols), .int (nI lc), .int (nI smp), .int (ky), .ref (mr 0), .ref (mr 1), .ref (mr 2), .ref (mr 3), .ref (mr 4), .ref (mr 5), .ref (mr 6), .ref (mr 7), .ref (mr 8), .ref (mr 9), .int (nI mk), .int (nI rs), .ref (mr 10), .ref (mr 11), .ref (mr 12), .ref (mr 13), .ref (mr 14), .ref (mr 15), .ref (mr 16), .ref (mr 17), .ref (mr 18), .ref (mr 19), .ref (mr 20), .int (nI nse), .int (nI npa), .int (nI nbo), .ref (mr 21), .int (nI tn), .ref (mr 22), .int (nI ik), .int (j0), .int (j1), .ref (mr 23), .int (j2), .ref (mr 24), .ref (mr 25), .int (j3), .ref (mr 26), .int (j4), .ref (mr 27), .ref (mr 28), .ref (mr 29), .ref (mr 30)])), (mr 28, .inl (cy 1, 6, .inl (va_up tso x.toInt.toNat y))), (mr 29, .inl (cy 1, 6, .inl (fun k => nI ((va_up tsz x.toInt.toNat 0) k)))), (mr 27, .inl (cy 6, 6, .inr (.inr (.inr (.inr tq9))))), (ta, .inl (cy 2, 60, .inr (.inl fq)))] 0 0 72 [(0, .ref mo), (1, .int (x)), (2, .int (y)), (3, .int (z)), (4, .int (nI i))] [] := by
                            intro fuel
                            induction fuel with
                            | zero =>
                              intro i fq hi hfq hmu
                              exact absurd hmu (Nat.not_lt_zero _)
                            | succ fuel ih =>
                              intro i fq hi hfq hmu
                              have ih72 := ih
                              clear ih
                              refine x_iload C dX10_tape_72 (q := 74) rfl 4 rfl ?_
                              refine x_bipush C dX10_tape_74 (q := 76) rfl (v := nI 60) (by decide) ?_
                              refine x_icmp_ge C (tgt := 95) dX10_tape_76 (by decide) (q := 79) rfl (a := ((i : Nat) : Int)) (b := 60) (nI_toInt (by omega)) rfl (fun h26 => ?_) (fun h26 => ?_)
                              · first
                                | (exfalso; omega)
                                |
                                  refine x_recJ (ws' := [(mo, .inr (9, [.int (nI cols), .int (nI lc), .int (nI smp), .int (ky), .ref (mr 0), .ref (mr 1), .ref (mr 2), .ref (mr 3), .ref (mr 4), .ref (mr 5), .ref (mr 6), .ref (mr 7), .ref (mr 8), .ref (mr 9), .int (nI mk), .int (nI rs), .ref (mr 10), .ref (mr 11), .ref (mr 12), .ref (mr 13), .ref (mr 14), .ref (mr 15), .ref (mr 16), .ref (mr 17), .ref (mr 18), .ref (mr 19), .ref (mr 20), .int (nI nse), .int (nI npa), .int (nI nbo), .ref (mr 21), .int (nI tn), .ref (mr 22), .int (nI ik), .int (j0), .int (j1), .ref (mr 23), .int (j2), .ref (mr 24), .ref (mr 25), .int (j3), .ref (mr 26), .int (j4), .ref (mr 27), .ref (mr 28), .ref (mr 29), .ref (mr 30)])), (mr 28, .inl (cy 1, 6, .inl (va_up tso x.toInt.toNat y))), (mr 29, .inl (cy 1, 6, .inl (fun k => nI ((va_up tsz x.toInt.toNat 0) k)))), (mr 27, .inl (cy 6, 6, .inr (.inr (.inr (.inr tq9))))), (ta, .inl (cy 2, 60, .inr (.inl (fun _ => lN 0))))]) 4 rfl (fun k hk => hfq k (by omega)) rfl ?_
                                  refine x_iconst C dX10_tape_95 (q := 96) rfl (v := nI 1) (by decide) ?_
                                  refine x_iret C hA hQ hr dX10_tape_96 (Nat.le_of_ble_eq_true rfl) ?_
                                  unfold tapA tapN
                                  dsimp only
                                  repeat (first | rw [if_pos (by omega)] | rw [if_neg (by omega)])
                                  first | exact ⟨rfl, rfl⟩ | (refine ⟨rfl, ?_⟩; rw [up_self, up_self])
                              · first
                                | (exfalso; omega)
                                |
                                  refine x_aload_n C dX10_tape_79 (q := 80) rfl rfl 0 rfl ?_
                                  refine x_get C (ci := 9) (v := .ref (mr 27)) hw2 0 rfl rfl 43 (by decide) hw5 rfl dX10_tape_80 (q := 83) rfl ?_
                                  refine x_iload_n C dX10_tape_83 (q := 84) rfl rfl 1 rfl ?_
                                  refine x_aald6 C (j := x.toInt.toNat) (v := .ref ta) 3 rfl (by have h9 := (rfl : (x : Int32).toInt = x.toInt); omega) (by omega) (by rw [htq]; rfl) dX10_tape_84 (q := 85) rfl ?_
                                  refine x_iload C dX10_tape_85 (q := 87) rfl 4 rfl ?_
                                  refine x_lconst C dX10_tape_87 (q := 88) rfl (v := lN 0) rfl ?_
                                  refine x_last C (ws' := [(mo, .inr (9, [.int (nI cols), .int (nI lc), .int (nI smp), .int (ky), .ref (mr 0), .ref (mr 1), .ref (mr 2), .ref (mr 3), .ref (mr 4), .ref (mr 5), .ref (mr 6), .ref (mr 7), .ref (mr 8), .ref (mr 9), .int (nI mk), .int (nI rs), .ref (mr 10), .ref (mr 11), .ref (mr 12), .ref (mr 13), .ref (mr 14), .ref (mr 15), .ref (mr 16), .ref (mr 17), .ref (mr 18), .ref (mr 19), .ref (mr 20), .int (nI nse), .int (nI npa), .int (nI nbo), .ref (mr 21), .int (nI tn), .ref (mr 22), .int (nI ik), .int (j0), .int (j1), .ref (mr 23), .int (j2), .ref (mr 24), .ref (mr 25), .int (j3), .ref (mr 26), .int (j4), .ref (mr 27), .ref (mr 28), .ref (mr 29), .ref (mr 30)])), (mr 28, .inl (cy 1, 6, .inl (va_up tso x.toInt.toNat y))), (mr 29, .inl (cy 1, 6, .inl (fun k => nI ((va_up tsz x.toInt.toNat 0) k)))), (mr 27, .inl (cy 6, 6, .inr (.inr (.inr (.inr tq9))))), (ta, .inl (cy 2, 60, .inr (.inl (va_up fq i (lN 0)))))]) 4 rfl (j := i) (nI_toInt (by omega)) (by omega) (rfl) rfl dX10_tape_88 (q := 89) rfl ?_
                                  refine x_iinc C (L' := [(4, .int (nI (i + 1))), (0, .ref mo), (1, .int (x)), (2, .int (y)), (3, .int (z))]) dX10_tape_89 (q := 92) rfl 4 rfl (v := nI (i + 1)) (nI_add i 1) (by decide) rfl ?_
                                  refine x_goto C (tgt := 72) dX10_tape_92 (by decide) ?_
                                  refine x_L (L' := [(0, .ref mo), (1, .int (x)), (2, .int (y)), (3, .int (z)), (4, .int (nI (i + 1)))]) [1, 2, 3, 4, 0] rfl ?_
                                  exact ih72 (i + 1) (va_up fq i (lN 0)) (by first | omega | assumption) (by intro j hj; by_cases h9 : j = i; (subst h9; exact va_up_eq); (rw [va_up_ne' h9]; exact hfq j (by omega))) (by omega)
                          refine x_L (L' := [(0, .ref mo), (1, .int (x)), (2, .int (y)), (3, .int (z)), (4, .int (nI 0))]) [1, 2, 3, 4, 0] rfl ?_
                          exact cut72 (60 - 0 + 1) 0 f (by first | omega | assumption) (by intro j hj; omega) (by omega)
                  · first
                    | (exfalso; omega)
                    |
                      refine x_bipush C dX10_tape_44 (q := 46) rfl (v := (-14)) (by decide) ?_
                      refine x_iret C hA hQ hr dX10_tape_46 (Nat.le_of_ble_eq_true rfl) ?_
                      unfold tapA tapN
                      dsimp only
                      repeat (first | rw [if_pos (by omega)] | rw [if_neg (by omega)])
                      first | exact ⟨rfl, rfl⟩ | (refine ⟨rfl, ?_⟩; rw [up_self, up_self])
          · first
            | (exfalso; omega)
            |
              refine x_bipush C dX10_tape_33 (q := 35) rfl (v := (-2)) (by decide) ?_
              refine x_iret C hA hQ hr dX10_tape_35 (Nat.le_of_ble_eq_true rfl) ?_
              unfold tapA tapN
              dsimp only
              repeat (first | rw [if_pos (by omega)] | rw [if_neg (by omega)])
              first | exact ⟨rfl, rfl⟩ | (refine ⟨rfl, ?_⟩; rw [up_self, up_self])
    · skip
      obtain ⟨rfl, rfl, hc27⟩ := hp5
      refine x_ws (ws' := [(mo, .inr (9, [.int (nI cols), .int (nI lc), .int (nI smp), .int (ky), .ref (mr 0), .ref (mr 1), .ref (mr 2), .ref (mr 3), .ref (mr 4), .ref (mr 5), .ref (mr 6), .ref (mr 7), .ref (mr 8), .ref (mr 9), .int (nI mk), .int (nI rs), .ref (mr 10), .ref (mr 11), .ref (mr 12), .ref (mr 13), .ref (mr 14), .ref (mr 15), .ref (mr 16), .ref (mr 17), .ref (mr 18), .ref (mr 19), .ref (mr 20), .int (nI nse), .int (nI npa), .int (nI nbo), .ref (mr 21), .int (nI tn), .ref (mr 22), .int (nI ik), .int (j0), .int (j1), .ref (mr 23), .int (j2), .ref (mr 24), .ref (mr 25), .int (j3), .ref (mr 26), .int (j4), .ref (mr 27), .ref (mr 28), .ref (mr 29), .ref (mr 30)])), (mr 28, .inl (cy 1, 6, .inl tso)), (mr 29, .inl (cy 1, 6, .inl (fun k => nI (tsz k)))), (mr 27, .inl (cy 6, 6, .inr (.inr (.inr (.inr tq9))))), (ta, .inl (cy 2, 60, .inr (.inl f)))]) (List.append_nil _) ?_
      refine x_if_eq C (tgt := 33) dX10_tape_20 (by decide) (q := 23) rfl (a := 0) rfl (fun h28 => ?_) (fun h28 => (by omega : False).elim)
      refine x_bipush C dX10_tape_33 (q := 35) rfl (v := (-2)) (by decide) ?_
      refine x_iret C hA hQ hr dX10_tape_35 (Nat.le_of_ble_eq_true rfl) ?_
      unfold tapA tapN
      dsimp only
      repeat (first | rw [if_pos (by omega)] | rw [if_neg (by omega)])
      first | exact ⟨rfl, rfl⟩ | (refine ⟨rfl, ?_⟩; rw [up_self, up_self])
  · exfalso; obtain ⟨_, _, hc29⟩ := hp1; omega

set_option maxHeartbeats 600000 in
set_option maxRecDepth 100000 in
/-- tape, of none -/
theorem c_X10_tape_o (l : Launch) (D : va_G) (cy : Nat → ClassId) (mo : Nat) (mr : Nat → Nat) (cols : Nat) (lc : Nat) (smp : Nat) (mk : Nat) (rs : Nat) (nse : Nat) (npa : Nat) (nbo : Nat) (tn : Nat) (ik : Nat) (ky : Int32) (j0 : Int32) (j1 : Int32) (j2 : Int32) (j3 : Int32) (j4 : Int32) (x : Int32) (y : Int32) (z : Int32) (hx : x.toInt < 0 ∨ 6 ≤ x.toInt) : xMet l D cy xT yX10_tape wsX10_tape ({ frames := 4, cells := 0, slots := 0, locals := 500 } : Room) [.ref mo, .int (x), .int (y), .int (z)] [(mo, .inr (9, [.int (nI cols), .int (nI lc), .int (nI smp), .int (ky), .ref (mr 0), .ref (mr 1), .ref (mr 2), .ref (mr 3), .ref (mr 4), .ref (mr 5), .ref (mr 6), .ref (mr 7), .ref (mr 8), .ref (mr 9), .int (nI mk), .int (nI rs), .ref (mr 10), .ref (mr 11), .ref (mr 12), .ref (mr 13), .ref (mr 14), .ref (mr 15), .ref (mr 16), .ref (mr 17), .ref (mr 18), .ref (mr 19), .ref (mr 20), .int (nI nse), .int (nI npa), .int (nI nbo), .ref (mr 21), .int (nI tn), .ref (mr 22), .int (nI ik), .int (j0), .int (j1), .ref (mr 23), .int (j2), .ref (mr 24), .ref (mr 25), .int (j3), .ref (mr 26), .int (j4), .ref (mr 27), .ref (mr 28), .ref (mr 29), .ref (mr 30)]))] [] (fun (v9 : Option Value) (w9 : va_W) => (v9 = some (.int ((-1))) ∧ w9 = [(mo, .inr (9, [.int (nI cols), .int (nI lc), .int (nI smp), .int (ky), .ref (mr 0), .ref (mr 1), .ref (mr 2), .ref (mr 3), .ref (mr 4), .ref (mr 5), .ref (mr 6), .ref (mr 7), .ref (mr 8), .ref (mr 9), .int (nI mk), .int (nI rs), .ref (mr 10), .ref (mr 11), .ref (mr 12), .ref (mr 13), .ref (mr 14), .ref (mr 15), .ref (mr 16), .ref (mr 17), .ref (mr 18), .ref (mr 19), .ref (mr 20), .int (nI nse), .int (nI npa), .int (nI nbo), .ref (mr 21), .int (nI tn), .ref (mr 22), .int (nI ik), .int (j0), .int (j1), .ref (mr 23), .int (j2), .ref (mr 24), .ref (mr 25), .int (j3), .ref (mr 26), .int (j4), .ref (mr 27), .ref (mr 28), .ref (mr 29), .ref (mr 30)]))])) := by
  refine xMet_of (cc := cX10_tape) (maxL := 5) (ret := (some .int)) (by decide) rfl (Nat.le_of_ble_eq_true rfl) (fun p e s m args below meth c A R Q hA hR hQ C hr hnm hro hX => ?_)
  refine x_L (L' := [(0, .ref mo), (1, .int (x)), (2, .int (y)), (3, .int (z))]) [0, 1, 2, 3] rfl ?_
  refine x_iload_n C dX10_tape_0 (q := 1) rfl rfl 1 rfl ?_
  refine x_callS C (roW := []) (roR := []) (c_X10_isTape l D cy x ) (cwS 1 C.2.2.2.2.1 gX10_tape_X10_isTape rfl rfl rfl (by decide +kernel) (by rw [hR]; exact ⟨Nat.le_of_ble_eq_true rfl, Nat.le_of_ble_eq_true rfl⟩)) [] [] rfl (by decide) rfl (by decide) xro_nil xT_bl (fun _ _ _ _ _ _ _ => trivial) rfl rfl dX10_tape_1 rfl rfl (Nat.le_of_ble_eq_true rfl) (q := 4) rfl (k' := 0) rfl (n' := 0) rfl (by rw [hR]; exact ⟨Nat.le_of_ble_eq_true rfl, Nat.le_of_ble_eq_true rfl⟩) (fun v1 w1 hp1 => ?_)
  rcases hp1 with hp1 | hp1
  · exfalso; obtain ⟨_, _, hc2, hc3⟩ := hp1; omega
  · skip
    obtain ⟨rfl, rfl, hc4⟩ := hp1
    refine x_ws (ws' := [(mo, .inr (9, [.int (nI cols), .int (nI lc), .int (nI smp), .int (ky), .ref (mr 0), .ref (mr 1), .ref (mr 2), .ref (mr 3), .ref (mr 4), .ref (mr 5), .ref (mr 6), .ref (mr 7), .ref (mr 8), .ref (mr 9), .int (nI mk), .int (nI rs), .ref (mr 10), .ref (mr 11), .ref (mr 12), .ref (mr 13), .ref (mr 14), .ref (mr 15), .ref (mr 16), .ref (mr 17), .ref (mr 18), .ref (mr 19), .ref (mr 20), .int (nI nse), .int (nI npa), .int (nI nbo), .ref (mr 21), .int (nI tn), .ref (mr 22), .int (nI ik), .int (j0), .int (j1), .ref (mr 23), .int (j2), .ref (mr 24), .ref (mr 25), .int (j3), .ref (mr 26), .int (j4), .ref (mr 27), .ref (mr 28), .ref (mr 29), .ref (mr 30)]))]) (List.append_nil _) ?_
    refine x_if_ne C (tgt := 9) dX10_tape_4 (by decide) (q := 7) rfl (a := 0) rfl (fun h5 => (by omega : False).elim) (fun h5 => ?_)
    refine x_iconst C dX10_tape_7 (q := 8) rfl (v := (-1)) (by decide) ?_
    refine x_iret C hA hQ hr dX10_tape_8 (Nat.le_of_ble_eq_true rfl) ?_
    first | exact ⟨rfl, rfl⟩ | exact ⟨_, rfl, rfl, by first | rfl | omega | assumption⟩ | (refine ⟨_, rfl, rfl, ?_⟩; (first | rfl | omega | (simp only []; omega)))

set_option maxHeartbeats 600000 in
set_option maxRecDepth 100000 in
/-- item -/
theorem c_X10_item (l : Launch) (D : va_G) (cy : Nat → ClassId) (mo : Nat) (mr : Nat → Nat) (cols : Nat) (lc : Nat) (smp : Nat) (mk : Nat) (rs : Nat) (nse : Nat) (npa : Nat) (nbo : Nat) (tn : Nat) (ik : Nat) (ky : Int32) (j0 : Int32) (j1 : Int32) (j2 : Int32) (j3 : Int32) (j4 : Int32) (tso : Nat → Int32) (tsz : Nat → Nat) (tq9 : Nat → Option Nat) (ta : Nat) (f : Nat → Int64) (x : Int32) (y : Int32) (v : Int64) (hx0 : 0 ≤ x.toInt) (hx6 : x.toInt < 6) (htq : tq9 x.toInt.toNat = some ta) (htz : ∀ k, tsz k ≤ 60) (hts : ∀ k, -1 ≤ (tso k).toInt ∧ (tso k).toInt ≤ 4) (htn : ∀ k, (tso k).toInt = -1 → tsz k = 0) : xMet l D cy xT yX10_item wsX10_item ({ frames := 4, cells := 0, slots := 0, locals := 500 } : Room) [.ref mo, .int (x), .int (y), .long (v)] [(mo, .inr (9, [.int (nI cols), .int (nI lc), .int (nI smp), .int (ky), .ref (mr 0), .ref (mr 1), .ref (mr 2), .ref (mr 3), .ref (mr 4), .ref (mr 5), .ref (mr 6), .ref (mr 7), .ref (mr 8), .ref (mr 9), .int (nI mk), .int (nI rs), .ref (mr 10), .ref (mr 11), .ref (mr 12), .ref (mr 13), .ref (mr 14), .ref (mr 15), .ref (mr 16), .ref (mr 17), .ref (mr 18), .ref (mr 19), .ref (mr 20), .int (nI nse), .int (nI npa), .int (nI nbo), .ref (mr 21), .int (nI tn), .ref (mr 22), .int (nI ik), .int (j0), .int (j1), .ref (mr 23), .int (j2), .ref (mr 24), .ref (mr 25), .int (j3), .ref (mr 26), .int (j4), .ref (mr 27), .ref (mr 28), .ref (mr 29), .ref (mr 30)])), (mr 28, .inl (cy 1, 6, .inl tso)), (mr 29, .inl (cy 1, 6, .inl (fun k => nI (tsz k)))), (mr 27, .inl (cy 6, 6, .inr (.inr (.inr (.inr tq9))))), (ta, .inl (cy 2, 60, .inr (.inl f)))] [] (fun (v9 : Option Value) (w9 : va_W) => (v9 = some (.int (iteA (tso x.toInt.toNat, tsz x.toInt.toNat, f) y.toInt)) ∧ w9 = [(mo, .inr (9, [.int (nI cols), .int (nI lc), .int (nI smp), .int (ky), .ref (mr 0), .ref (mr 1), .ref (mr 2), .ref (mr 3), .ref (mr 4), .ref (mr 5), .ref (mr 6), .ref (mr 7), .ref (mr 8), .ref (mr 9), .int (nI mk), .int (nI rs), .ref (mr 10), .ref (mr 11), .ref (mr 12), .ref (mr 13), .ref (mr 14), .ref (mr 15), .ref (mr 16), .ref (mr 17), .ref (mr 18), .ref (mr 19), .ref (mr 20), .int (nI nse), .int (nI npa), .int (nI nbo), .ref (mr 21), .int (nI tn), .ref (mr 22), .int (nI ik), .int (j0), .int (j1), .ref (mr 23), .int (j2), .ref (mr 24), .ref (mr 25), .int (j3), .ref (mr 26), .int (j4), .ref (mr 27), .ref (mr 28), .ref (mr 29), .ref (mr 30)])), (mr 28, .inl (cy 1, 6, .inl tso)), (mr 29, .inl (cy 1, 6, .inl (fun k => nI (tsz k)))), (mr 27, .inl (cy 6, 6, .inr (.inr (.inr (.inr tq9))))), (ta, .inl (cy 2, 60, .inr (.inl (iteN (tso x.toInt.toNat, tsz x.toInt.toNat, f) y.toInt v))))])) := by
  refine xMet_of (cc := cX10_item) (maxL := 5) (ret := (some .int)) (by decide) rfl (Nat.le_of_ble_eq_true rfl) (fun p e s m args below meth c A R Q hA hR hQ C hr hnm hro hX => ?_)
  have hw0 : ∀ w ∈ u_ws RX10 TX10 47, w ∈ wsX10_item := by decide +kernel
  have hw1 : Cond.fieldLink RX10 106 (TX10 44).1 (TX10 44).2.1 (TX10 44).2.2.1 ∈ wsX10_item := by decide +kernel
  have hw2 : Cond.fieldLink RX10 109 (TX10 45).1 (TX10 45).2.1 (TX10 45).2.2.1 ∈ wsX10_item := by decide +kernel
  have hw3 : Cond.fieldLink RX10 103 (TX10 43).1 (TX10 43).2.1 (TX10 43).2.2.1 ∈ wsX10_item := by decide +kernel
  refine x_L (L' := [(0, .ref mo), (1, .int (x)), (2, .int (y)), (3, .long (v))]) [0, 1, 2, 3] rfl ?_
  have hxs := hts x.toInt.toNat
  have hxz := htz x.toInt.toNat
  have hxn := htn x.toInt.toNat
  refine x_iload_n C dX10_item_0 (q := 1) rfl rfl 1 rfl ?_
  refine x_callS C (roW := []) (roR := []) (c_X10_isTape l D cy x ) (cwS 1 C.2.2.2.2.1 gX10_item_X10_isTape rfl rfl rfl (by decide +kernel) (by rw [hR]; exact ⟨Nat.le_of_ble_eq_true rfl, Nat.le_of_ble_eq_true rfl⟩)) [] [] rfl (by decide) rfl (by decide) xro_nil xT_bl (fun _ _ _ _ _ _ _ => trivial) rfl rfl dX10_item_1 rfl rfl (Nat.le_of_ble_eq_true rfl) (q := 4) rfl (k' := 0) rfl (n' := 0) rfl (by rw [hR]; exact ⟨Nat.le_of_ble_eq_true rfl, Nat.le_of_ble_eq_true rfl⟩) (fun v1 w1 hp1 => ?_)
  rcases hp1 with hp1 | hp1
  · skip
    obtain ⟨rfl, rfl, hc2, hc3⟩ := hp1
    refine x_ws (ws' := [(mo, .inr (9, [.int (nI cols), .int (nI lc), .int (nI smp), .int (ky), .ref (mr 0), .ref (mr 1), .ref (mr 2), .ref (mr 3), .ref (mr 4), .ref (mr 5), .ref (mr 6), .ref (mr 7), .ref (mr 8), .ref (mr 9), .int (nI mk), .int (nI rs), .ref (mr 10), .ref (mr 11), .ref (mr 12), .ref (mr 13), .ref (mr 14), .ref (mr 15), .ref (mr 16), .ref (mr 17), .ref (mr 18), .ref (mr 19), .ref (mr 20), .int (nI nse), .int (nI npa), .int (nI nbo), .ref (mr 21), .int (nI tn), .ref (mr 22), .int (nI ik), .int (j0), .int (j1), .ref (mr 23), .int (j2), .ref (mr 24), .ref (mr 25), .int (j3), .ref (mr 26), .int (j4), .ref (mr 27), .ref (mr 28), .ref (mr 29), .ref (mr 30)])), (mr 28, .inl (cy 1, 6, .inl tso)), (mr 29, .inl (cy 1, 6, .inl (fun k => nI (tsz k)))), (mr 27, .inl (cy 6, 6, .inr (.inr (.inr (.inr tq9))))), (ta, .inl (cy 2, 60, .inr (.inl f)))]) (List.append_nil _) ?_
    refine x_if_ne C (tgt := 9) dX10_item_4 (by decide) (q := 7) rfl (a := 1) rfl (fun h4 => ?_) (fun h4 => (by omega : False).elim)
    refine x_aload_n C dX10_item_9 (q := 10) rfl rfl 0 rfl ?_
    refine x_get C (ci := 9) (v := .ref (mr 28)) hw0 0 rfl rfl 44 (by decide) hw1 rfl dX10_item_10 (q := 13) rfl ?_
    refine x_iload_n C dX10_item_13 (q := 14) rfl rfl 1 rfl ?_
    refine x_iald C (j := x.toInt.toNat) (v := tso x.toInt.toNat) 1 rfl (by have h9 := (rfl : (x : Int32).toInt = x.toInt); omega) (by omega) rfl dX10_item_14 (q := 15) rfl ?_
    refine x_if_ge C (tgt := 21) dX10_item_15 (by decide) (q := 18) rfl (a := (tso x.toInt.toNat).toInt) rfl (fun h5 => ?_) (fun h5 => ?_)
    · first
      | (exfalso; omega)
      |
        refine x_iload_n C dX10_item_21 (q := 22) rfl rfl 2 rfl ?_
        refine x_i2l C dX10_item_22 (q := 23) rfl (v := y.toInt64) (rfl) ?_
        refine x_lconst C dX10_item_23 (q := 24) rfl (v := lN 0) rfl ?_
        refine x_aload_n C dX10_item_24 (q := 25) rfl rfl 0 rfl ?_
        refine x_get C (ci := 9) (v := .ref (mr 29)) hw0 0 rfl rfl 45 (by decide) hw2 rfl dX10_item_25 (q := 28) rfl ?_
        refine x_iload_n C dX10_item_28 (q := 29) rfl rfl 1 rfl ?_
        have hb6 := htz x.toInt.toNat
        refine x_iald C (j := x.toInt.toNat) (v := nI (tsz x.toInt.toNat)) 2 rfl (by have h9 := (rfl : (x : Int32).toInt = x.toInt); omega) (by omega) rfl dX10_item_29 (q := 30) rfl ?_
        refine x_iconst C dX10_item_30 (q := 31) rfl (v := nI 1) (by decide) ?_
        refine x_isub C dX10_item_31 (q := 32) rfl (z := (nI (tsz x.toInt.toNat)) - (nI 1)) (rfl) ?_
        refine x_i2l C dX10_item_32 (q := 33) rfl (v := ((nI (tsz x.toInt.toNat)) - (nI 1)).toInt64) (rfl) ?_
        refine x_callS C (roW := []) (roR := []) (c_X10_in l D cy y.toInt64 (lN 0) (((nI (tsz x.toInt.toNat)) - (nI 1)).toInt64) y.toInt 0 (((tsz x.toInt.toNat : Nat) : Int) - 1) (xl_wide rfl) rfl (xl_wide (xi_sub2 (nI_toInt (by omega)) rfl (by omega) (by omega)))) (cwS 3 C.2.2.2.2.1 gX10_item_X10_in rfl rfl rfl (by decide +kernel) (by rw [hR]; exact ⟨Nat.le_of_ble_eq_true rfl, Nat.le_of_ble_eq_true rfl⟩)) [] [] rfl (by decide) rfl (by decide) xro_nil xT_bl (fun _ _ _ _ _ _ _ => trivial) rfl rfl dX10_item_33 rfl rfl (Nat.le_of_ble_eq_true rfl) (q := 36) rfl (k' := 0) rfl (n' := 0) rfl (by rw [hR]; exact ⟨Nat.le_of_ble_eq_true rfl, Nat.le_of_ble_eq_true rfl⟩) (fun v7 w7 hp7 => ?_)
        rcases hp7 with hp7 | hp7
        · skip
          obtain ⟨rfl, rfl, hc8, hc9⟩ := hp7
          refine x_ws (ws' := [(mo, .inr (9, [.int (nI cols), .int (nI lc), .int (nI smp), .int (ky), .ref (mr 0), .ref (mr 1), .ref (mr 2), .ref (mr 3), .ref (mr 4), .ref (mr 5), .ref (mr 6), .ref (mr 7), .ref (mr 8), .ref (mr 9), .int (nI mk), .int (nI rs), .ref (mr 10), .ref (mr 11), .ref (mr 12), .ref (mr 13), .ref (mr 14), .ref (mr 15), .ref (mr 16), .ref (mr 17), .ref (mr 18), .ref (mr 19), .ref (mr 20), .int (nI nse), .int (nI npa), .int (nI nbo), .ref (mr 21), .int (nI tn), .ref (mr 22), .int (nI ik), .int (j0), .int (j1), .ref (mr 23), .int (j2), .ref (mr 24), .ref (mr 25), .int (j3), .ref (mr 26), .int (j4), .ref (mr 27), .ref (mr 28), .ref (mr 29), .ref (mr 30)])), (mr 28, .inl (cy 1, 6, .inl tso)), (mr 29, .inl (cy 1, 6, .inl (fun k => nI (tsz k)))), (mr 27, .inl (cy 6, 6, .inr (.inr (.inr (.inr tq9))))), (ta, .inl (cy 2, 60, .inr (.inl f)))]) (List.append_nil _) ?_
          refine x_if_ne C (tgt := 42) dX10_item_36 (by decide) (q := 39) rfl (a := 1) rfl (fun h10 => ?_) (fun h10 => (by omega : False).elim)
          refine x_aload_n C dX10_item_42 (q := 43) rfl rfl 0 rfl ?_
          refine x_get C (ci := 9) (v := .ref (mr 27)) hw0 0 rfl rfl 43 (by decide) hw3 rfl dX10_item_43 (q := 46) rfl ?_
          refine x_iload_n C dX10_item_46 (q := 47) rfl rfl 1 rfl ?_
          refine x_aald6 C (j := x.toInt.toNat) (v := .ref ta) 3 rfl (by have h9 := (rfl : (x : Int32).toInt = x.toInt); omega) (by omega) (by rw [htq]; rfl) dX10_item_47 (q := 48) rfl ?_
          refine x_iload_n C dX10_item_48 (q := 49) rfl rfl 2 rfl ?_
          refine x_aload_n C dX10_item_49 (q := 50) rfl rfl 0 rfl ?_
          refine x_get C (ci := 9) (v := .ref (mr 28)) hw0 0 rfl rfl 44 (by decide) hw1 rfl dX10_item_50 (q := 53) rfl ?_
          refine x_iload_n C dX10_item_53 (q := 54) rfl rfl 1 rfl ?_
          refine x_iald C (j := x.toInt.toNat) (v := tso x.toInt.toNat) 1 rfl (by have h9 := (rfl : (x : Int32).toInt = x.toInt); omega) (by omega) rfl dX10_item_54 (q := 55) rfl ?_
          refine x_lload_n C dX10_item_55 (q := 56) rfl rfl 3 rfl ?_
          refine x_callS C (roW := []) (roR := []) (c_X10_fit l D cy (tso x.toInt.toNat) v (by first | assumption | omega | (simp only []; omega))) (cwS 2 C.2.2.2.2.1 gX10_item_X10_fit rfl rfl rfl (by decide +kernel) (by rw [hR]; exact ⟨Nat.le_of_ble_eq_true rfl, Nat.le_of_ble_eq_true rfl⟩)) [] [] rfl (by decide) rfl (by decide) xro_nil xT_bl (fun _ _ _ _ _ _ _ => trivial) rfl rfl dX10_item_56 rfl rfl (Nat.le_of_ble_eq_true rfl) (q := 59) rfl (k' := 0) rfl (n' := 0) rfl (by rw [hR]; exact ⟨Nat.le_of_ble_eq_true rfl, Nat.le_of_ble_eq_true rfl⟩) (fun v11 w11 hp11 => ?_)
          obtain ⟨rfl, rfl⟩ := hp11
          refine x_ws (ws' := [(mo, .inr (9, [.int (nI cols), .int (nI lc), .int (nI smp), .int (ky), .ref (mr 0), .ref (mr 1), .ref (mr 2), .ref (mr 3), .ref (mr 4), .ref (mr 5), .ref (mr 6), .ref (mr 7), .ref (mr 8), .ref (mr 9), .int (nI mk), .int (nI rs), .ref (mr 10), .ref (mr 11), .ref (mr 12), .ref (mr 13), .ref (mr 14), .ref (mr 15), .ref (mr 16), .ref (mr 17), .ref (mr 18), .ref (mr 19), .ref (mr 20), .int (nI nse), .int (nI npa), .int (nI nbo), .ref (mr 21), .int (nI tn), .ref (mr 22), .int (nI ik), .int (j0), .int (j1), .ref (mr 23), .int (j2), .ref (mr 24), .ref (mr 25), .int (j3), .ref (mr 26), .int (j4), .ref (mr 27), .ref (mr 28), .ref (mr 29), .ref (mr 30)])), (mr 28, .inl (cy 1, 6, .inl tso)), (mr 29, .inl (cy 1, 6, .inl (fun k => nI (tsz k)))), (mr 27, .inl (cy 6, 6, .inr (.inr (.inr (.inr tq9))))), (ta, .inl (cy 2, 60, .inr (.inl f)))]) (List.append_nil _) ?_
          refine x_last C (ws' := [(mo, .inr (9, [.int (nI cols), .int (nI lc), .int (nI smp), .int (ky), .ref (mr 0), .ref (mr 1), .ref (mr 2), .ref (mr 3), .ref (mr 4), .ref (mr 5), .ref (mr 6), .ref (mr 7), .ref (mr 8), .ref (mr 9), .int (nI mk), .int (nI rs), .ref (mr 10), .ref (mr 11), .ref (mr 12), .ref (mr 13), .ref (mr 14), .ref (mr 15), .ref (mr 16), .ref (mr 17), .ref (mr 18), .ref (mr 19), .ref (mr 20), .int (nI nse), .int (nI npa), .int (nI nbo), .ref (mr 21), .int (nI tn), .ref (mr 22), .int (nI ik), .int (j0), .int (j1), .ref (mr 23), .int (j2), .ref (mr 24), .ref (mr 25), .int (j3), .ref (mr 26), .int (j4), .ref (mr 27), .ref (mr 28), .ref (mr 29), .ref (mr 30)])), (mr 28, .inl (cy 1, 6, .inl tso)), (mr 29, .inl (cy 1, 6, .inl (fun k => nI (tsz k)))), (mr 27, .inl (cy 6, 6, .inr (.inr (.inr (.inr tq9))))), (ta, .inl (cy 2, 60, .inr (.inl (va_up f y.toInt.toNat (cutS (tso x.toInt.toNat).toInt v)))))]) 4 rfl (j := y.toInt.toNat) (by have h9 := (rfl : (y : Int32).toInt = y.toInt); omega) (by omega) (rfl) rfl dX10_item_59 (q := 60) rfl ?_
          refine x_iconst C dX10_item_60 (q := 61) rfl (v := nI 1) (by decide) ?_
          refine x_iret C hA hQ hr dX10_item_61 (Nat.le_of_ble_eq_true rfl) ?_
          unfold iteA iteN
          dsimp only
          repeat (first | rw [if_pos (by omega)] | rw [if_neg (by omega)])
          exact ⟨rfl, rfl⟩
        · skip
          obtain ⟨rfl, rfl, hc12⟩ := hp7
          refine x_ws (ws' := [(mo, .inr (9, [.int (nI cols), .int (nI lc), .int (nI smp), .int (ky), .ref (mr 0), .ref (mr 1), .ref (mr 2), .ref (mr 3), .ref (mr 4), .ref (mr 5), .ref (mr 6), .ref (mr 7), .ref (mr 8), .ref (mr 9), .int (nI mk), .int (nI rs), .ref (mr 10), .ref (mr 11), .ref (mr 12), .ref (mr 13), .ref (mr 14), .ref (mr 15), .ref (mr 16), .ref (mr 17), .ref (mr 18), .ref (mr 19), .ref (mr 20), .int (nI nse), .int (nI npa), .int (nI nbo), .ref (mr 21), .int (nI tn), .ref (mr 22), .int (nI ik), .int (j0), .int (j1), .ref (mr 23), .int (j2), .ref (mr 24), .ref (mr 25), .int (j3), .ref (mr 26), .int (j4), .ref (mr 27), .ref (mr 28), .ref (mr 29), .ref (mr 30)])), (mr 28, .inl (cy 1, 6, .inl tso)), (mr 29, .inl (cy 1, 6, .inl (fun k => nI (tsz k)))), (mr 27, .inl (cy 6, 6, .inr (.inr (.inr (.inr tq9))))), (ta, .inl (cy 2, 60, .inr (.inl f)))]) (List.append_nil _) ?_
          refine x_if_ne C (tgt := 42) dX10_item_36 (by decide) (q := 39) rfl (a := 0) rfl (fun h13 => (by omega : False).elim) (fun h13 => ?_)
          refine x_bipush C dX10_item_39 (q := 41) rfl (v := (-13)) (by decide) ?_
          refine x_iret C hA hQ hr dX10_item_41 (Nat.le_of_ble_eq_true rfl) ?_
          unfold iteA iteN
          dsimp only
          repeat (first | rw [if_pos (by omega)] | rw [if_neg (by omega)])
          exact ⟨rfl, rfl⟩
    · first
      | (exfalso; omega)
      |
        refine x_bipush C dX10_item_18 (q := 20) rfl (v := (-11)) (by decide) ?_
        refine x_iret C hA hQ hr dX10_item_20 (Nat.le_of_ble_eq_true rfl) ?_
        unfold iteA iteN
        dsimp only
        repeat (first | rw [if_pos (by omega)] | rw [if_neg (by omega)])
        exact ⟨rfl, rfl⟩
  · exfalso; obtain ⟨_, _, hc14⟩ := hp1; omega

set_option maxHeartbeats 600000 in
set_option maxRecDepth 100000 in
/-- item, of none -/
theorem c_X10_item_o (l : Launch) (D : va_G) (cy : Nat → ClassId) (mo : Nat) (mr : Nat → Nat) (cols : Nat) (lc : Nat) (smp : Nat) (mk : Nat) (rs : Nat) (nse : Nat) (npa : Nat) (nbo : Nat) (tn : Nat) (ik : Nat) (ky : Int32) (j0 : Int32) (j1 : Int32) (j2 : Int32) (j3 : Int32) (j4 : Int32) (x : Int32) (y : Int32) (v : Int64) (hx : x.toInt < 0 ∨ 6 ≤ x.toInt) : xMet l D cy xT yX10_item wsX10_item ({ frames := 4, cells := 0, slots := 0, locals := 500 } : Room) [.ref mo, .int (x), .int (y), .long (v)] [(mo, .inr (9, [.int (nI cols), .int (nI lc), .int (nI smp), .int (ky), .ref (mr 0), .ref (mr 1), .ref (mr 2), .ref (mr 3), .ref (mr 4), .ref (mr 5), .ref (mr 6), .ref (mr 7), .ref (mr 8), .ref (mr 9), .int (nI mk), .int (nI rs), .ref (mr 10), .ref (mr 11), .ref (mr 12), .ref (mr 13), .ref (mr 14), .ref (mr 15), .ref (mr 16), .ref (mr 17), .ref (mr 18), .ref (mr 19), .ref (mr 20), .int (nI nse), .int (nI npa), .int (nI nbo), .ref (mr 21), .int (nI tn), .ref (mr 22), .int (nI ik), .int (j0), .int (j1), .ref (mr 23), .int (j2), .ref (mr 24), .ref (mr 25), .int (j3), .ref (mr 26), .int (j4), .ref (mr 27), .ref (mr 28), .ref (mr 29), .ref (mr 30)]))] [] (fun (v9 : Option Value) (w9 : va_W) => (v9 = some (.int ((-1))) ∧ w9 = [(mo, .inr (9, [.int (nI cols), .int (nI lc), .int (nI smp), .int (ky), .ref (mr 0), .ref (mr 1), .ref (mr 2), .ref (mr 3), .ref (mr 4), .ref (mr 5), .ref (mr 6), .ref (mr 7), .ref (mr 8), .ref (mr 9), .int (nI mk), .int (nI rs), .ref (mr 10), .ref (mr 11), .ref (mr 12), .ref (mr 13), .ref (mr 14), .ref (mr 15), .ref (mr 16), .ref (mr 17), .ref (mr 18), .ref (mr 19), .ref (mr 20), .int (nI nse), .int (nI npa), .int (nI nbo), .ref (mr 21), .int (nI tn), .ref (mr 22), .int (nI ik), .int (j0), .int (j1), .ref (mr 23), .int (j2), .ref (mr 24), .ref (mr 25), .int (j3), .ref (mr 26), .int (j4), .ref (mr 27), .ref (mr 28), .ref (mr 29), .ref (mr 30)]))])) := by
  refine xMet_of (cc := cX10_item) (maxL := 5) (ret := (some .int)) (by decide) rfl (Nat.le_of_ble_eq_true rfl) (fun p e s m args below meth c A R Q hA hR hQ C hr hnm hro hX => ?_)
  refine x_L (L' := [(0, .ref mo), (1, .int (x)), (2, .int (y)), (3, .long (v))]) [0, 1, 2, 3] rfl ?_
  refine x_iload_n C dX10_item_0 (q := 1) rfl rfl 1 rfl ?_
  refine x_callS C (roW := []) (roR := []) (c_X10_isTape l D cy x ) (cwS 1 C.2.2.2.2.1 gX10_item_X10_isTape rfl rfl rfl (by decide +kernel) (by rw [hR]; exact ⟨Nat.le_of_ble_eq_true rfl, Nat.le_of_ble_eq_true rfl⟩)) [] [] rfl (by decide) rfl (by decide) xro_nil xT_bl (fun _ _ _ _ _ _ _ => trivial) rfl rfl dX10_item_1 rfl rfl (Nat.le_of_ble_eq_true rfl) (q := 4) rfl (k' := 0) rfl (n' := 0) rfl (by rw [hR]; exact ⟨Nat.le_of_ble_eq_true rfl, Nat.le_of_ble_eq_true rfl⟩) (fun v1 w1 hp1 => ?_)
  rcases hp1 with hp1 | hp1
  · exfalso; obtain ⟨_, _, hc2, hc3⟩ := hp1; omega
  · skip
    obtain ⟨rfl, rfl, hc4⟩ := hp1
    refine x_ws (ws' := [(mo, .inr (9, [.int (nI cols), .int (nI lc), .int (nI smp), .int (ky), .ref (mr 0), .ref (mr 1), .ref (mr 2), .ref (mr 3), .ref (mr 4), .ref (mr 5), .ref (mr 6), .ref (mr 7), .ref (mr 8), .ref (mr 9), .int (nI mk), .int (nI rs), .ref (mr 10), .ref (mr 11), .ref (mr 12), .ref (mr 13), .ref (mr 14), .ref (mr 15), .ref (mr 16), .ref (mr 17), .ref (mr 18), .ref (mr 19), .ref (mr 20), .int (nI nse), .int (nI npa), .int (nI nbo), .ref (mr 21), .int (nI tn), .ref (mr 22), .int (nI ik), .int (j0), .int (j1), .ref (mr 23), .int (j2), .ref (mr 24), .ref (mr 25), .int (j3), .ref (mr 26), .int (j4), .ref (mr 27), .ref (mr 28), .ref (mr 29), .ref (mr 30)]))]) (List.append_nil _) ?_
    refine x_if_ne C (tgt := 9) dX10_item_4 (by decide) (q := 7) rfl (a := 0) rfl (fun h5 => (by omega : False).elim) (fun h5 => ?_)
    refine x_iconst C dX10_item_7 (q := 8) rfl (v := (-1)) (by decide) ?_
    refine x_iret C hA hQ hr dX10_item_8 (Nat.le_of_ble_eq_true rfl) ?_
    first | exact ⟨rfl, rfl⟩ | exact ⟨_, rfl, rfl, by first | rfl | omega | assumption⟩ | (refine ⟨_, rfl, rfl, ?_⟩; (first | rfl | omega | (simp only []; omega)))

set_option maxHeartbeats 600000 in
set_option maxRecDepth 100000 in
/-- read -/
theorem c_X10_read (l : Launch) (D : va_G) (cy : Nat → ClassId) (mo : Nat) (mr : Nat → Nat) (cols : Nat) (lc : Nat) (smp : Nat) (mk : Nat) (rs : Nat) (nse : Nat) (npa : Nat) (nbo : Nat) (tn : Nat) (ik : Nat) (ky : Int32) (j0 : Int32) (j1 : Int32) (j2 : Int32) (j3 : Int32) (j4 : Int32) (tso : Nat → Int32) (tsz : Nat → Nat) (tq9 : Nat → Option Nat) (ta : Nat) (f : Nat → Int64) (x : Int32) (y : Int32) (hx0 : 0 ≤ x.toInt) (hx6 : x.toInt < 6) (htq : tq9 x.toInt.toNat = some ta) (htz : ∀ k, tsz k ≤ 60) (hts : ∀ k, -1 ≤ (tso k).toInt ∧ (tso k).toInt ≤ 4) (htn : ∀ k, (tso k).toInt = -1 → tsz k = 0) : xMet l D cy xT yX10_read wsX10_read ({ frames := 4, cells := 0, slots := 0, locals := 500 } : Room) [.ref mo, .int (x), .int (y)] [(mo, .inr (9, [.int (nI cols), .int (nI lc), .int (nI smp), .int (ky), .ref (mr 0), .ref (mr 1), .ref (mr 2), .ref (mr 3), .ref (mr 4), .ref (mr 5), .ref (mr 6), .ref (mr 7), .ref (mr 8), .ref (mr 9), .int (nI mk), .int (nI rs), .ref (mr 10), .ref (mr 11), .ref (mr 12), .ref (mr 13), .ref (mr 14), .ref (mr 15), .ref (mr 16), .ref (mr 17), .ref (mr 18), .ref (mr 19), .ref (mr 20), .int (nI nse), .int (nI npa), .int (nI nbo), .ref (mr 21), .int (nI tn), .ref (mr 22), .int (nI ik), .int (j0), .int (j1), .ref (mr 23), .int (j2), .ref (mr 24), .ref (mr 25), .int (j3), .ref (mr 26), .int (j4), .ref (mr 27), .ref (mr 28), .ref (mr 29), .ref (mr 30)])), (mr 28, .inl (cy 1, 6, .inl tso)), (mr 29, .inl (cy 1, 6, .inl (fun k => nI (tsz k)))), (mr 27, .inl (cy 6, 6, .inr (.inr (.inr (.inr tq9))))), (ta, .inl (cy 2, 60, .inr (.inl f)))] [] (fun (v9 : Option Value) (w9 : va_W) => (v9 = some (.long (reaA (tso x.toInt.toNat, tsz x.toInt.toNat, f) y.toInt)) ∧ w9 = [(mo, .inr (9, [.int (nI cols), .int (nI lc), .int (nI smp), .int (ky), .ref (mr 0), .ref (mr 1), .ref (mr 2), .ref (mr 3), .ref (mr 4), .ref (mr 5), .ref (mr 6), .ref (mr 7), .ref (mr 8), .ref (mr 9), .int (nI mk), .int (nI rs), .ref (mr 10), .ref (mr 11), .ref (mr 12), .ref (mr 13), .ref (mr 14), .ref (mr 15), .ref (mr 16), .ref (mr 17), .ref (mr 18), .ref (mr 19), .ref (mr 20), .int (nI nse), .int (nI npa), .int (nI nbo), .ref (mr 21), .int (nI tn), .ref (mr 22), .int (nI ik), .int (j0), .int (j1), .ref (mr 23), .int (j2), .ref (mr 24), .ref (mr 25), .int (j3), .ref (mr 26), .int (j4), .ref (mr 27), .ref (mr 28), .ref (mr 29), .ref (mr 30)])), (mr 28, .inl (cy 1, 6, .inl tso)), (mr 29, .inl (cy 1, 6, .inl (fun k => nI (tsz k)))), (mr 27, .inl (cy 6, 6, .inr (.inr (.inr (.inr tq9))))), (ta, .inl (cy 2, 60, .inr (.inl f)))])) := by
  refine xMet_of (cc := cX10_read) (maxL := 3) (ret := (some .long)) (by decide) rfl (Nat.le_of_ble_eq_true rfl) (fun p e s m args below meth c A R Q hA hR hQ C hr hnm hro hX => ?_)
  have hw0 : ∀ w ∈ u_ws RX10 TX10 47, w ∈ wsX10_read := by decide +kernel
  have hw1 : Cond.fieldLink RX10 106 (TX10 44).1 (TX10 44).2.1 (TX10 44).2.2.1 ∈ wsX10_read := by decide +kernel
  have hw2 : Jvm.Cond.constantLong RX10 245 (-9223372036854775808) ∈ wsX10_read := by decide +kernel
  have hw3 : Cond.fieldLink RX10 109 (TX10 45).1 (TX10 45).2.1 (TX10 45).2.2.1 ∈ wsX10_read := by decide +kernel
  have hw4 : Cond.fieldLink RX10 103 (TX10 43).1 (TX10 43).2.1 (TX10 43).2.2.1 ∈ wsX10_read := by decide +kernel
  refine x_L (L' := [(0, .ref mo), (1, .int (x)), (2, .int (y))]) [0, 1, 2] rfl ?_
  have hxs := hts x.toInt.toNat
  have hxz := htz x.toInt.toNat
  have hxn := htn x.toInt.toNat
  refine x_iload_n C dX10_read_0 (q := 1) rfl rfl 1 rfl ?_
  refine x_callS C (roW := []) (roR := []) (c_X10_isTape l D cy x ) (cwS 1 C.2.2.2.2.1 gX10_read_X10_isTape rfl rfl rfl (by decide +kernel) (by rw [hR]; exact ⟨Nat.le_of_ble_eq_true rfl, Nat.le_of_ble_eq_true rfl⟩)) [] [] rfl (by decide) rfl (by decide) xro_nil xT_bl (fun _ _ _ _ _ _ _ => trivial) rfl rfl dX10_read_1 rfl rfl (Nat.le_of_ble_eq_true rfl) (q := 4) rfl (k' := 0) rfl (n' := 0) rfl (by rw [hR]; exact ⟨Nat.le_of_ble_eq_true rfl, Nat.le_of_ble_eq_true rfl⟩) (fun v1 w1 hp1 => ?_)
  rcases hp1 with hp1 | hp1
  · skip
    obtain ⟨rfl, rfl, hc2, hc3⟩ := hp1
    refine x_ws (ws' := [(mo, .inr (9, [.int (nI cols), .int (nI lc), .int (nI smp), .int (ky), .ref (mr 0), .ref (mr 1), .ref (mr 2), .ref (mr 3), .ref (mr 4), .ref (mr 5), .ref (mr 6), .ref (mr 7), .ref (mr 8), .ref (mr 9), .int (nI mk), .int (nI rs), .ref (mr 10), .ref (mr 11), .ref (mr 12), .ref (mr 13), .ref (mr 14), .ref (mr 15), .ref (mr 16), .ref (mr 17), .ref (mr 18), .ref (mr 19), .ref (mr 20), .int (nI nse), .int (nI npa), .int (nI nbo), .ref (mr 21), .int (nI tn), .ref (mr 22), .int (nI ik), .int (j0), .int (j1), .ref (mr 23), .int (j2), .ref (mr 24), .ref (mr 25), .int (j3), .ref (mr 26), .int (j4), .ref (mr 27), .ref (mr 28), .ref (mr 29), .ref (mr 30)])), (mr 28, .inl (cy 1, 6, .inl tso)), (mr 29, .inl (cy 1, 6, .inl (fun k => nI (tsz k)))), (mr 27, .inl (cy 6, 6, .inr (.inr (.inr (.inr tq9))))), (ta, .inl (cy 2, 60, .inr (.inl f)))]) (List.append_nil _) ?_
    refine x_if_eq C (tgt := 45) dX10_read_4 (by decide) (q := 7) rfl (a := 1) rfl (fun h4 => (by omega : False).elim) (fun h4 => ?_)
    refine x_aload_n C dX10_read_7 (q := 8) rfl rfl 0 rfl ?_
    refine x_get C (ci := 9) (v := .ref (mr 28)) hw0 0 rfl rfl 44 (by decide) hw1 rfl dX10_read_8 (q := 11) rfl ?_
    refine x_iload_n C dX10_read_11 (q := 12) rfl rfl 1 rfl ?_
    refine x_iald C (j := x.toInt.toNat) (v := tso x.toInt.toNat) 1 rfl (by have h9 := (rfl : (x : Int32).toInt = x.toInt); omega) (by omega) rfl dX10_read_12 (q := 13) rfl ?_
    refine x_if_lt C (tgt := 45) dX10_read_13 (by decide) (q := 16) rfl (a := (tso x.toInt.toNat).toInt) rfl (fun h5 => ?_) (fun h5 => ?_)
    · first
      | (exfalso; omega)
      |
        refine x_ldc2 C (v := (-9223372036854775808)) hw2 dX10_read_45 (q := 48) rfl ?_
        refine x_lret C hA hQ hr dX10_read_48 (Nat.le_of_ble_eq_true rfl) ?_
        refine ⟨?_, rfl⟩
        unfold reaA
        dsimp only
        first | rw [if_neg (by omega)] | rw [if_pos (by omega)]
    · first
      | (exfalso; omega)
      |
        refine x_iload_n C dX10_read_16 (q := 17) rfl rfl 2 rfl ?_
        refine x_i2l C dX10_read_17 (q := 18) rfl (v := y.toInt64) (rfl) ?_
        refine x_lconst C dX10_read_18 (q := 19) rfl (v := lN 0) rfl ?_
        refine x_aload_n C dX10_read_19 (q := 20) rfl rfl 0 rfl ?_
        refine x_get C (ci := 9) (v := .ref (mr 29)) hw0 0 rfl rfl 45 (by decide) hw3 rfl dX10_read_20 (q := 23) rfl ?_
        refine x_iload_n C dX10_read_23 (q := 24) rfl rfl 1 rfl ?_
        have hb6 := htz x.toInt.toNat
        refine x_iald C (j := x.toInt.toNat) (v := nI (tsz x.toInt.toNat)) 2 rfl (by have h9 := (rfl : (x : Int32).toInt = x.toInt); omega) (by omega) rfl dX10_read_24 (q := 25) rfl ?_
        refine x_iconst C dX10_read_25 (q := 26) rfl (v := nI 1) (by decide) ?_
        refine x_isub C dX10_read_26 (q := 27) rfl (z := (nI (tsz x.toInt.toNat)) - (nI 1)) (rfl) ?_
        refine x_i2l C dX10_read_27 (q := 28) rfl (v := ((nI (tsz x.toInt.toNat)) - (nI 1)).toInt64) (rfl) ?_
        refine x_callS C (roW := []) (roR := []) (c_X10_in l D cy y.toInt64 (lN 0) (((nI (tsz x.toInt.toNat)) - (nI 1)).toInt64) y.toInt 0 (((tsz x.toInt.toNat : Nat) : Int) - 1) (xl_wide rfl) rfl (xl_wide (xi_sub2 (nI_toInt (by omega)) rfl (by omega) (by omega)))) (cwS 3 C.2.2.2.2.1 gX10_read_X10_in rfl rfl rfl (by decide +kernel) (by rw [hR]; exact ⟨Nat.le_of_ble_eq_true rfl, Nat.le_of_ble_eq_true rfl⟩)) [] [] rfl (by decide) rfl (by decide) xro_nil xT_bl (fun _ _ _ _ _ _ _ => trivial) rfl rfl dX10_read_28 rfl rfl (Nat.le_of_ble_eq_true rfl) (q := 31) rfl (k' := 0) rfl (n' := 0) rfl (by rw [hR]; exact ⟨Nat.le_of_ble_eq_true rfl, Nat.le_of_ble_eq_true rfl⟩) (fun v7 w7 hp7 => ?_)
        rcases hp7 with hp7 | hp7
        · skip
          obtain ⟨rfl, rfl, hc8, hc9⟩ := hp7
          refine x_ws (ws' := [(mo, .inr (9, [.int (nI cols), .int (nI lc), .int (nI smp), .int (ky), .ref (mr 0), .ref (mr 1), .ref (mr 2), .ref (mr 3), .ref (mr 4), .ref (mr 5), .ref (mr 6), .ref (mr 7), .ref (mr 8), .ref (mr 9), .int (nI mk), .int (nI rs), .ref (mr 10), .ref (mr 11), .ref (mr 12), .ref (mr 13), .ref (mr 14), .ref (mr 15), .ref (mr 16), .ref (mr 17), .ref (mr 18), .ref (mr 19), .ref (mr 20), .int (nI nse), .int (nI npa), .int (nI nbo), .ref (mr 21), .int (nI tn), .ref (mr 22), .int (nI ik), .int (j0), .int (j1), .ref (mr 23), .int (j2), .ref (mr 24), .ref (mr 25), .int (j3), .ref (mr 26), .int (j4), .ref (mr 27), .ref (mr 28), .ref (mr 29), .ref (mr 30)])), (mr 28, .inl (cy 1, 6, .inl tso)), (mr 29, .inl (cy 1, 6, .inl (fun k => nI (tsz k)))), (mr 27, .inl (cy 6, 6, .inr (.inr (.inr (.inr tq9))))), (ta, .inl (cy 2, 60, .inr (.inl f)))]) (List.append_nil _) ?_
          refine x_if_eq C (tgt := 45) dX10_read_31 (by decide) (q := 34) rfl (a := 1) rfl (fun h10 => (by omega : False).elim) (fun h10 => ?_)
          refine x_aload_n C dX10_read_34 (q := 35) rfl rfl 0 rfl ?_
          refine x_get C (ci := 9) (v := .ref (mr 27)) hw0 0 rfl rfl 43 (by decide) hw4 rfl dX10_read_35 (q := 38) rfl ?_
          refine x_iload_n C dX10_read_38 (q := 39) rfl rfl 1 rfl ?_
          refine x_aald6 C (j := x.toInt.toNat) (v := .ref ta) 3 rfl (by have h9 := (rfl : (x : Int32).toInt = x.toInt); omega) (by omega) (by rw [htq]; rfl) dX10_read_39 (q := 40) rfl ?_
          refine x_iload_n C dX10_read_40 (q := 41) rfl rfl 2 rfl ?_
          refine x_lald C (j := y.toInt.toNat) (v := f y.toInt.toNat) 4 rfl (by have h9 := (rfl : (y : Int32).toInt = y.toInt); omega) (by omega) rfl dX10_read_41 (q := 42) rfl ?_
          refine x_goto C (tgt := 48) dX10_read_42 (by decide) ?_
          refine x_lret C hA hQ hr dX10_read_48 (Nat.le_of_ble_eq_true rfl) ?_
          refine ⟨?_, rfl⟩
          unfold reaA
          dsimp only
          first | rw [if_neg (by omega)] | rw [if_pos (by omega)]
        · skip
          obtain ⟨rfl, rfl, hc11⟩ := hp7
          refine x_ws (ws' := [(mo, .inr (9, [.int (nI cols), .int (nI lc), .int (nI smp), .int (ky), .ref (mr 0), .ref (mr 1), .ref (mr 2), .ref (mr 3), .ref (mr 4), .ref (mr 5), .ref (mr 6), .ref (mr 7), .ref (mr 8), .ref (mr 9), .int (nI mk), .int (nI rs), .ref (mr 10), .ref (mr 11), .ref (mr 12), .ref (mr 13), .ref (mr 14), .ref (mr 15), .ref (mr 16), .ref (mr 17), .ref (mr 18), .ref (mr 19), .ref (mr 20), .int (nI nse), .int (nI npa), .int (nI nbo), .ref (mr 21), .int (nI tn), .ref (mr 22), .int (nI ik), .int (j0), .int (j1), .ref (mr 23), .int (j2), .ref (mr 24), .ref (mr 25), .int (j3), .ref (mr 26), .int (j4), .ref (mr 27), .ref (mr 28), .ref (mr 29), .ref (mr 30)])), (mr 28, .inl (cy 1, 6, .inl tso)), (mr 29, .inl (cy 1, 6, .inl (fun k => nI (tsz k)))), (mr 27, .inl (cy 6, 6, .inr (.inr (.inr (.inr tq9))))), (ta, .inl (cy 2, 60, .inr (.inl f)))]) (List.append_nil _) ?_
          refine x_if_eq C (tgt := 45) dX10_read_31 (by decide) (q := 34) rfl (a := 0) rfl (fun h12 => ?_) (fun h12 => (by omega : False).elim)
          refine x_ldc2 C (v := (-9223372036854775808)) hw2 dX10_read_45 (q := 48) rfl ?_
          refine x_lret C hA hQ hr dX10_read_48 (Nat.le_of_ble_eq_true rfl) ?_
          refine ⟨?_, rfl⟩
          unfold reaA
          dsimp only
          first | rw [if_neg (by omega)] | rw [if_pos (by omega)]
  · exfalso; obtain ⟨_, _, hc13⟩ := hp1; omega

set_option maxHeartbeats 600000 in
set_option maxRecDepth 100000 in
/-- read, of none -/
theorem c_X10_read_o (l : Launch) (D : va_G) (cy : Nat → ClassId) (mo : Nat) (mr : Nat → Nat) (cols : Nat) (lc : Nat) (smp : Nat) (mk : Nat) (rs : Nat) (nse : Nat) (npa : Nat) (nbo : Nat) (tn : Nat) (ik : Nat) (ky : Int32) (j0 : Int32) (j1 : Int32) (j2 : Int32) (j3 : Int32) (j4 : Int32) (x : Int32) (y : Int32) (hx : x.toInt < 0 ∨ 6 ≤ x.toInt) : xMet l D cy xT yX10_read wsX10_read ({ frames := 4, cells := 0, slots := 0, locals := 500 } : Room) [.ref mo, .int (x), .int (y)] [(mo, .inr (9, [.int (nI cols), .int (nI lc), .int (nI smp), .int (ky), .ref (mr 0), .ref (mr 1), .ref (mr 2), .ref (mr 3), .ref (mr 4), .ref (mr 5), .ref (mr 6), .ref (mr 7), .ref (mr 8), .ref (mr 9), .int (nI mk), .int (nI rs), .ref (mr 10), .ref (mr 11), .ref (mr 12), .ref (mr 13), .ref (mr 14), .ref (mr 15), .ref (mr 16), .ref (mr 17), .ref (mr 18), .ref (mr 19), .ref (mr 20), .int (nI nse), .int (nI npa), .int (nI nbo), .ref (mr 21), .int (nI tn), .ref (mr 22), .int (nI ik), .int (j0), .int (j1), .ref (mr 23), .int (j2), .ref (mr 24), .ref (mr 25), .int (j3), .ref (mr 26), .int (j4), .ref (mr 27), .ref (mr 28), .ref (mr 29), .ref (mr 30)]))] [] (fun (v9 : Option Value) (w9 : va_W) => (v9 = some (.long ((-9223372036854775808))) ∧ w9 = [(mo, .inr (9, [.int (nI cols), .int (nI lc), .int (nI smp), .int (ky), .ref (mr 0), .ref (mr 1), .ref (mr 2), .ref (mr 3), .ref (mr 4), .ref (mr 5), .ref (mr 6), .ref (mr 7), .ref (mr 8), .ref (mr 9), .int (nI mk), .int (nI rs), .ref (mr 10), .ref (mr 11), .ref (mr 12), .ref (mr 13), .ref (mr 14), .ref (mr 15), .ref (mr 16), .ref (mr 17), .ref (mr 18), .ref (mr 19), .ref (mr 20), .int (nI nse), .int (nI npa), .int (nI nbo), .ref (mr 21), .int (nI tn), .ref (mr 22), .int (nI ik), .int (j0), .int (j1), .ref (mr 23), .int (j2), .ref (mr 24), .ref (mr 25), .int (j3), .ref (mr 26), .int (j4), .ref (mr 27), .ref (mr 28), .ref (mr 29), .ref (mr 30)]))])) := by
  refine xMet_of (cc := cX10_read) (maxL := 3) (ret := (some .long)) (by decide) rfl (Nat.le_of_ble_eq_true rfl) (fun p e s m args below meth c A R Q hA hR hQ C hr hnm hro hX => ?_)
  have hw0 : Jvm.Cond.constantLong RX10 245 (-9223372036854775808) ∈ wsX10_read := by decide +kernel
  refine x_L (L' := [(0, .ref mo), (1, .int (x)), (2, .int (y))]) [0, 1, 2] rfl ?_
  refine x_iload_n C dX10_read_0 (q := 1) rfl rfl 1 rfl ?_
  refine x_callS C (roW := []) (roR := []) (c_X10_isTape l D cy x ) (cwS 1 C.2.2.2.2.1 gX10_read_X10_isTape rfl rfl rfl (by decide +kernel) (by rw [hR]; exact ⟨Nat.le_of_ble_eq_true rfl, Nat.le_of_ble_eq_true rfl⟩)) [] [] rfl (by decide) rfl (by decide) xro_nil xT_bl (fun _ _ _ _ _ _ _ => trivial) rfl rfl dX10_read_1 rfl rfl (Nat.le_of_ble_eq_true rfl) (q := 4) rfl (k' := 0) rfl (n' := 0) rfl (by rw [hR]; exact ⟨Nat.le_of_ble_eq_true rfl, Nat.le_of_ble_eq_true rfl⟩) (fun v1 w1 hp1 => ?_)
  rcases hp1 with hp1 | hp1
  · exfalso; obtain ⟨_, _, hc2, hc3⟩ := hp1; omega
  · skip
    obtain ⟨rfl, rfl, hc4⟩ := hp1
    refine x_ws (ws' := [(mo, .inr (9, [.int (nI cols), .int (nI lc), .int (nI smp), .int (ky), .ref (mr 0), .ref (mr 1), .ref (mr 2), .ref (mr 3), .ref (mr 4), .ref (mr 5), .ref (mr 6), .ref (mr 7), .ref (mr 8), .ref (mr 9), .int (nI mk), .int (nI rs), .ref (mr 10), .ref (mr 11), .ref (mr 12), .ref (mr 13), .ref (mr 14), .ref (mr 15), .ref (mr 16), .ref (mr 17), .ref (mr 18), .ref (mr 19), .ref (mr 20), .int (nI nse), .int (nI npa), .int (nI nbo), .ref (mr 21), .int (nI tn), .ref (mr 22), .int (nI ik), .int (j0), .int (j1), .ref (mr 23), .int (j2), .ref (mr 24), .ref (mr 25), .int (j3), .ref (mr 26), .int (j4), .ref (mr 27), .ref (mr 28), .ref (mr 29), .ref (mr 30)]))]) (List.append_nil _) ?_
    refine x_if_eq C (tgt := 45) dX10_read_4 (by decide) (q := 7) rfl (a := 0) rfl (fun h5 => ?_) (fun h5 => (by omega : False).elim)
    refine x_ldc2 C (v := (-9223372036854775808)) hw0 dX10_read_45 (q := 48) rfl ?_
    refine x_lret C hA hQ hr dX10_read_48 (Nat.le_of_ble_eq_true rfl) ?_
    first | exact ⟨rfl, rfl⟩ | exact ⟨_, rfl, rfl, by first | rfl | omega | assumption⟩ | (refine ⟨_, rfl, rfl, ?_⟩; (first | rfl | omega | (simp only []; omega)))

set_option maxHeartbeats 600000 in
set_option maxRecDepth 100000 in
/-- judge -/
theorem c_X10_judge (l : Launch) (D : va_G) (cy : Nat → ClassId) (mo : Nat) (mr : Nat → Nat) (cols : Nat) (lc : Nat) (smp : Nat) (nse : Nat) (npa : Nat) (nbo : Nat) (tn : Nat) (ik : Nat) (ky : Int32) (j0 : Int32) (j1 : Int32) (j2 : Int32) (j3 : Int32) (j4 : Int32) (P : PS) (fn : Nat → Nat) (fo : Nat → Nat) (ex : Nat → Int64) (wo : Nat → Int64) (st9 : Nat → Nat) (lr9 : Nat → Nat) (rl9 : Nat → Int32) (fa9 : Nat → Int32) (ca9 : Nat → Int32) (dc9 : Nat → Int32) (ld : LD) (tl9 : Nat → Nat) (ga : Nat → Int64) (tso : Nat → Int32) (tsz : Nat → Nat) (tq9 : Nat → Option Nat) (ta : Nat) (f : Nat → Int64) (x : Int32) (y : Int32) (z : Int32) (hml : MdL ld lc fn fo ex wo) (hfo4 : ∀ q, fo q ≤ 4) (hfn : ∀ q, fn q ≤ 61) (hlc : lc ≤ 24) (hF : InvF ld cols lc P) (hmp : MdP cols P st9 lr9 rl9 fa9 ca9 dc9) (hcols : cols ≤ 5) (hlr9 : ∀ k, lr9 k < 24) (hst9 : ∀ k, st9 k ≤ 4) (hx0 : 0 ≤ y.toInt) (hx6 : y.toInt < 6) (htq : tq9 y.toInt.toNat = some ta) (htz : ∀ k, tsz k ≤ 60) (hts : ∀ k, -1 ≤ (tso k).toInt ∧ (tso k).toInt ≤ 4) (htn : ∀ k, (tso k).toInt = -1 → tsz k = 0) : xMet l D cy xT yX10_judge wsX10_judge ({ frames := 6, cells := 0, slots := 0, locals := 900 } : Room) [.ref mo, .int (x), .int (y), .int (z)] [(mo, .inr (9, [.int (nI cols), .int (nI lc), .int (nI smp), .int (ky), .ref (mr 0), .ref (mr 1), .ref (mr 2), .ref (mr 3), .ref (mr 4), .ref (mr 5), .ref (mr 6), .ref (mr 7), .ref (mr 8), .ref (mr 9), .int (nI (pMk P)), .int (nI (pRs P)), .ref (mr 10), .ref (mr 11), .ref (mr 12), .ref (mr 13), .ref (mr 14), .ref (mr 15), .ref (mr 16), .ref (mr 17), .ref (mr 18), .ref (mr 19), .ref (mr 20), .int (nI nse), .int (nI npa), .int (nI nbo), .ref (mr 21), .int (nI tn), .ref (mr 22), .int (nI ik), .int (j0), .int (j1), .ref (mr 23), .int (j2), .ref (mr 24), .ref (mr 25), .int (j3), .ref (mr 26), .int (j4), .ref (mr 27), .ref (mr 28), .ref (mr 29), .ref (mr 30)])), (mr 10, .inl (cy 1, 24, .inl (fun k => nI (lr9 k)))), (mr 3, .inl (cy 1, 5, .inl (fun k => nI (st9 k)))), (mr 6, .inl (cy 1, 24, .inl (fun k => nI (fn k)))), (mr 7, .inl (cy 1, 120, .inl (fun k => nI (fo k)))), (mr 8, .inl (cy 2, 120, .inr (.inl ex))), (mr 9, .inl (cy 2, 120, .inr (.inl wo))), (mr 28, .inl (cy 1, 6, .inl tso)), (mr 29, .inl (cy 1, 6, .inl (fun k => nI (tsz k)))), (mr 27, .inl (cy 6, 6, .inr (.inr (.inr (.inr tq9))))), (ta, .inl (cy 2, 60, .inr (.inl f)))] [] (fun (v9 : Option Value) (w9 : va_W) => (v9 = some (.int (judA ld cols tl9 (min smp lc) P ga (tso y.toInt.toNat, tsz y.toInt.toNat, f) x.toInt z.toInt)) ∧ w9 = [(mo, .inr (9, [.int (nI cols), .int (nI lc), .int (nI smp), .int (ky), .ref (mr 0), .ref (mr 1), .ref (mr 2), .ref (mr 3), .ref (mr 4), .ref (mr 5), .ref (mr 6), .ref (mr 7), .ref (mr 8), .ref (mr 9), .int (nI (pMk P)), .int (nI (pRs P)), .ref (mr 10), .ref (mr 11), .ref (mr 12), .ref (mr 13), .ref (mr 14), .ref (mr 15), .ref (mr 16), .ref (mr 17), .ref (mr 18), .ref (mr 19), .ref (mr 20), .int (nI nse), .int (nI npa), .int (nI nbo), .ref (mr 21), .int (nI tn), .ref (mr 22), .int (nI ik), .int (j0), .int (j1), .ref (mr 23), .int (j2), .ref (mr 24), .ref (mr 25), .int (j3), .ref (mr 26), .int (j4), .ref (mr 27), .ref (mr 28), .ref (mr 29), .ref (mr 30)])), (mr 10, .inl (cy 1, 24, .inl (fun k => nI (lr9 k)))), (mr 3, .inl (cy 1, 5, .inl (fun k => nI (st9 k)))), (mr 6, .inl (cy 1, 24, .inl (fun k => nI (fn k)))), (mr 7, .inl (cy 1, 120, .inl (fun k => nI (fo k)))), (mr 8, .inl (cy 2, 120, .inr (.inl ex))), (mr 9, .inl (cy 2, 120, .inr (.inl wo))), (mr 28, .inl (cy 1, 6, .inl tso)), (mr 29, .inl (cy 1, 6, .inl (fun k => nI (tsz k)))), (mr 27, .inl (cy 6, 6, .inr (.inr (.inr (.inr tq9))))), (ta, .inl (cy 2, 60, .inr (.inl f)))])) := by
  refine xMet_of (cc := cX10_judge) (maxL := 6) (ret := (some .int)) (by decide) rfl (Nat.le_of_ble_eq_true rfl) (fun p e s m args below meth c A R Q hA hR hQ C hr hnm hro hX => ?_)
  have hw0 : ∀ w ∈ u_ws RX10 TX10 47, w ∈ wsX10_judge := by decide +kernel
  have hw1 : Cond.fieldLink RX10 106 (TX10 44).1 (TX10 44).2.1 (TX10 44).2.2.1 ∈ wsX10_judge := by decide +kernel
  have hw2 : Cond.fieldLink RX10 128 (TX10 15).1 (TX10 15).2.1 (TX10 15).2.2.1 ∈ wsX10_judge := by decide +kernel
  have hw3 : Cond.fieldLink RX10 109 (TX10 45).1 (TX10 45).2.1 (TX10 45).2.2.1 ∈ wsX10_judge := by decide +kernel
  have hw4 : Cond.fieldLink RX10 103 (TX10 43).1 (TX10 43).2.1 (TX10 43).2.2.1 ∈ wsX10_judge := by decide +kernel
  refine x_L (L' := [(0, .ref mo), (1, .int (x)), (2, .int (y)), (3, .int (z))]) [0, 1, 2, 3] rfl ?_
  have hIP := hF.1
  have hP1 := hIP.1
  have hP2 := hIP.2.1
  have hxs := hts y.toInt.toNat
  have hxz := htz y.toInt.toNat
  refine x_aload_n C dX10_judge_0 (q := 1) rfl rfl 0 rfl ?_
  refine x_iload_n C dX10_judge_1 (q := 2) rfl rfl 1 rfl ?_
  refine x_callV C (roW := []) (roR := []) (c_X10_isColumn l D cy mo mr cols lc smp (pMk P) (pRs P) nse npa nbo tn ik ky j0 j1 j2 j3 j4 x (by first | assumption | omega | (simp only []; omega))) (cwV 1 C.2.2.2.2.1 gX10_judge_X10_isColumn rfl rfl rfl (by decide +kernel) (by rw [hR]; exact ⟨Nat.le_of_ble_eq_true rfl, Nat.le_of_ble_eq_true rfl⟩)) [0] [] rfl (by decide) rfl (by decide) xro_nil (List.mem_of_getElem? (i := 0) rfl) (ci := 9) rfl xT_bl (fun _ _ _ _ _ _ _ => trivial) rfl rfl dX10_judge_2 rfl rfl (Nat.le_of_ble_eq_true rfl) (q := 5) rfl (k' := 0) rfl (n' := 0) rfl (by rw [hR]; exact ⟨Nat.le_of_ble_eq_true rfl, Nat.le_of_ble_eq_true rfl⟩) (fun v1 w1 hp1 => ?_)
  rcases hp1 with hp1 | hp1
  · skip
    obtain ⟨rfl, rfl, hc2, hc3⟩ := hp1
    refine x_ws (ws' := [(mo, .inr (9, [.int (nI cols), .int (nI lc), .int (nI smp), .int (ky), .ref (mr 0), .ref (mr 1), .ref (mr 2), .ref (mr 3), .ref (mr 4), .ref (mr 5), .ref (mr 6), .ref (mr 7), .ref (mr 8), .ref (mr 9), .int (nI (pMk P)), .int (nI (pRs P)), .ref (mr 10), .ref (mr 11), .ref (mr 12), .ref (mr 13), .ref (mr 14), .ref (mr 15), .ref (mr 16), .ref (mr 17), .ref (mr 18), .ref (mr 19), .ref (mr 20), .int (nI nse), .int (nI npa), .int (nI nbo), .ref (mr 21), .int (nI tn), .ref (mr 22), .int (nI ik), .int (j0), .int (j1), .ref (mr 23), .int (j2), .ref (mr 24), .ref (mr 25), .int (j3), .ref (mr 26), .int (j4), .ref (mr 27), .ref (mr 28), .ref (mr 29), .ref (mr 30)])), (mr 10, .inl (cy 1, 24, .inl (fun k => nI (lr9 k)))), (mr 3, .inl (cy 1, 5, .inl (fun k => nI (st9 k)))), (mr 6, .inl (cy 1, 24, .inl (fun k => nI (fn k)))), (mr 7, .inl (cy 1, 120, .inl (fun k => nI (fo k)))), (mr 8, .inl (cy 2, 120, .inr (.inl ex))), (mr 9, .inl (cy 2, 120, .inr (.inl wo))), (mr 28, .inl (cy 1, 6, .inl tso)), (mr 29, .inl (cy 1, 6, .inl (fun k => nI (tsz k)))), (mr 27, .inl (cy 6, 6, .inr (.inr (.inr (.inr tq9))))), (ta, .inl (cy 2, 60, .inr (.inl f)))]) rfl ?_
    refine x_if_eq C (tgt := 15) dX10_judge_5 (by decide) (q := 8) rfl (a := 1) rfl (fun h4 => (by omega : False).elim) (fun h4 => ?_)
    refine x_iload_n C dX10_judge_8 (q := 9) rfl rfl 2 rfl ?_
    refine x_callS C (roW := []) (roR := []) (c_X10_isTape l D cy y ) (cwS 1 C.2.2.2.2.1 gX10_judge_X10_isTape rfl rfl rfl (by decide +kernel) (by rw [hR]; exact ⟨Nat.le_of_ble_eq_true rfl, Nat.le_of_ble_eq_true rfl⟩)) [] [] rfl (by decide) rfl (by decide) xro_nil xT_bl (fun _ _ _ _ _ _ _ => trivial) rfl rfl dX10_judge_9 rfl rfl (Nat.le_of_ble_eq_true rfl) (q := 12) rfl (k' := 0) rfl (n' := 0) rfl (by rw [hR]; exact ⟨Nat.le_of_ble_eq_true rfl, Nat.le_of_ble_eq_true rfl⟩) (fun v5 w5 hp5 => ?_)
    rcases hp5 with hp5 | hp5
    · skip
      obtain ⟨rfl, rfl, hc6, hc7⟩ := hp5
      refine x_ws (ws' := [(mo, .inr (9, [.int (nI cols), .int (nI lc), .int (nI smp), .int (ky), .ref (mr 0), .ref (mr 1), .ref (mr 2), .ref (mr 3), .ref (mr 4), .ref (mr 5), .ref (mr 6), .ref (mr 7), .ref (mr 8), .ref (mr 9), .int (nI (pMk P)), .int (nI (pRs P)), .ref (mr 10), .ref (mr 11), .ref (mr 12), .ref (mr 13), .ref (mr 14), .ref (mr 15), .ref (mr 16), .ref (mr 17), .ref (mr 18), .ref (mr 19), .ref (mr 20), .int (nI nse), .int (nI npa), .int (nI nbo), .ref (mr 21), .int (nI tn), .ref (mr 22), .int (nI ik), .int (j0), .int (j1), .ref (mr 23), .int (j2), .ref (mr 24), .ref (mr 25), .int (j3), .ref (mr 26), .int (j4), .ref (mr 27), .ref (mr 28), .ref (mr 29), .ref (mr 30)])), (mr 10, .inl (cy 1, 24, .inl (fun k => nI (lr9 k)))), (mr 3, .inl (cy 1, 5, .inl (fun k => nI (st9 k)))), (mr 6, .inl (cy 1, 24, .inl (fun k => nI (fn k)))), (mr 7, .inl (cy 1, 120, .inl (fun k => nI (fo k)))), (mr 8, .inl (cy 2, 120, .inr (.inl ex))), (mr 9, .inl (cy 2, 120, .inr (.inl wo))), (mr 28, .inl (cy 1, 6, .inl tso)), (mr 29, .inl (cy 1, 6, .inl (fun k => nI (tsz k)))), (mr 27, .inl (cy 6, 6, .inr (.inr (.inr (.inr tq9))))), (ta, .inl (cy 2, 60, .inr (.inl f)))]) (List.append_nil _) ?_
      refine x_if_ne C (tgt := 17) dX10_judge_12 (by decide) (q := 15) rfl (a := 1) rfl (fun h8 => ?_) (fun h8 => (by omega : False).elim)
      refine x_aload_n C dX10_judge_17 (q := 18) rfl rfl 0 rfl ?_
      refine x_get C (ci := 9) (v := .ref (mr 28)) hw0 0 rfl rfl 44 (by decide) hw1 rfl dX10_judge_18 (q := 21) rfl ?_
      refine x_iload_n C dX10_judge_21 (q := 22) rfl rfl 2 rfl ?_
      refine x_iald C (j := y.toInt.toNat) (v := tso y.toInt.toNat) 7 rfl (by have h9 := (rfl : (y : Int32).toInt = y.toInt); omega) (by omega) rfl dX10_judge_22 (q := 23) rfl ?_
      refine x_if_lt C (tgt := 39) dX10_judge_23 (by decide) (q := 26) rfl (a := (tso y.toInt.toNat).toInt) rfl (fun h9 => ?_) (fun h9 => ?_)
      · first
        | (exfalso; omega)
        |
          refine x_iconst C dX10_judge_39 (q := 40) rfl (v := nI 0) (by decide) ?_
          refine x_istore C (L' := [(4, .int (nI 0)), (0, .ref mo), (1, .int (x)), (2, .int (y)), (3, .int (z))]) dX10_judge_40 (q := 42) rfl (by decide) rfl ?_
          refine x_iconst C dX10_judge_42 (q := 43) rfl (v := nI 0) (by decide) ?_
          refine x_istore C (L' := [(5, .int (nI 0)), (4, .int (nI 0)), (0, .ref mo), (1, .int (x)), (2, .int (y)), (3, .int (z))]) dX10_judge_43 (q := 45) rfl (by decide) rfl ?_
          have cut45 : ∀ (fuel : Nat) (r : Nat) (cn : Nat), (r ≤ pRs P) → (cn = gaN ld (pLr P) x.toInt.toNat r) → (cn ≤ tsz y.toInt.toNat) → (jdS (gaF ld (pLr P) (pSt P x.toInt.toNat) x.toInt.toNat ga (pRs P)) f (tsz y.toInt.toNat) z.toInt (gaN ld (pLr P) x.toInt.toNat (pRs P) - gaN ld (pLr P) x.toInt.toNat r) (gaN ld (pLr P) x.toInt.toNat r) = jdS (gaF ld (pLr P) (pSt P x.toInt.toNat) x.toInt.toNat ga (pRs P)) f (tsz y.toInt.toNat) z.toInt (gaN ld (pLr P) x.toInt.toNat (pRs P)) 0) → pRs P - r < fuel → xG p l e R s m args below meth c Q D A 6 [(mo, .inr (9, [.int (nI cols), .int (nI lc), .int (nI smp), .int (ky), .ref (mr 0), .ref (mr 1), .ref (mr 2), .ref (mr 3), .ref (mr 4), .ref (mr 5), .ref (mr 6), .ref (mr 7), .ref (mr 8), .ref (mr 9), .int (nI (pMk P)), .int (nI (pRs P)), .ref (mr 10), .ref (mr 11), .ref (mr 12), .ref (mr 13), .ref (mr 14), .ref (mr 15), .ref (mr 16), .ref (mr 17), .ref (mr 18), .ref (mr 19), .ref (mr 20), .int (nI nse), .int (nI npa), .int (nI nbo), .ref (mr 21), .int (nI tn), .ref (mr 22), .int (nI ik), .int (j0), .int (j1), .ref (mr 23), .int (j2), .ref (mr 24), .ref (mr 25), .int (j3), .ref (mr 26), .int (j4), .ref (mr 27), .ref (mr 28), .ref (mr 29), .ref (mr 30)])), (mr 10, .inl (cy 1, 24, .inl (fun k => nI (lr9 k)))), (mr 3, .inl (cy 1, 5, .inl (fun k => nI (st9 k)))), (mr 6, .inl (cy 1, 24, .inl (fun k => nI (fn k)))), (mr 7, .inl (cy 1, 120, .inl (fun k => nI (fo k)))), (mr 8, .inl (cy 2, 120, .inr (.inl ex))), (mr 9, .inl (cy 2, 120, .inr (.inl wo))), (mr 28, .inl (cy 1, 6, .inl tso)), (mr 29, .inl (cy 1, 6, .inl (fun k => nI (tsz k)))), (mr 27, .inl (cy 6, 6, .inr (.inr (.inr (.inr tq9))))), (ta, .inl (cy 2, 60, .inr (.inl f)))] 0 0 45 [(0, .ref mo), (1, .int (x)), (2, .int (y)), (3, .int (z)), (4, .int (nI cn)), (5, .int (nI r))] [] := by
            intro fuel
            induction fuel with
            | zero =>
              intro r cn hrr hkn hkz hjd hmu
              exact absurd hmu (Nat.not_lt_zero _)
            | succ fuel ih =>
              intro r cn hrr hkn hkz hjd hmu
              have hg9 := gaN_le ld (pLr P) x.toInt.toNat r
              have ih45 := ih
              clear ih
              refine x_iload C dX10_judge_45 (q := 47) rfl 5 rfl ?_
              refine x_aload_n C dX10_judge_47 (q := 48) rfl rfl 0 rfl ?_
              refine x_get C (ci := 9) (v := .int (nI (pRs P))) hw0 0 rfl rfl 15 (by decide) hw2 rfl dX10_judge_48 (q := 51) rfl ?_
              refine x_icmp_ge C (tgt := 121) dX10_judge_51 (by decide) (q := 54) rfl (a := ((r : Nat) : Int)) (b := ((pRs P : Nat) : Int)) (nI_toInt (by omega)) (nI_toInt (by omega)) (fun h10 => ?_) (fun h10 => ?_)
              · first
                | (exfalso; omega)
                |
                  refine x_bipush C dX10_judge_121 (q := 123) rfl (v := (-5)) (by decide) ?_
                  refine x_iret C hA hQ hr dX10_judge_123 (Nat.le_of_ble_eq_true rfl) ?_
                  have ety : 0 < pRs P → tyS (pSt P) tl9 ld x.toInt.toNat (min smp lc) = pSt P x.toInt.toNat := fun h => tyS_s (hF.2.1 (by omega) _ (by omega))
                  refine ⟨?_, rfl⟩
                  unfold judA
                  dsimp only
                  rw [if_neg (by omega), if_neg (by omega)]
                  rcases Nat.eq_zero_or_pos (pRs P) with e0 | e0
                  · rw [show gaN ld (pLr P) x.toInt.toNat (pRs P) = 0 by rw [e0]; rfl]
                    rfl
                  · rw [ety e0, ← hjd, show gaN ld (pLr P) x.toInt.toNat r = gaN ld (pLr P) x.toInt.toNat (pRs P) by rw [show r = pRs P by omega], jdS_end rfl]
              · first
                | (exfalso; omega)
                |
                  refine x_aload_n C dX10_judge_54 (q := 55) rfl rfl 0 rfl ?_
                  refine x_iload C dX10_judge_55 (q := 57) rfl 5 rfl ?_
                  refine x_iload_n C dX10_judge_57 (q := 58) rfl rfl 1 rfl ?_
                  refine x_callV C (roW := []) (roR := []) (c_X10_hasValue_n l D cy mo mr cols lc smp nse npa nbo tn ik ky j0 j1 j2 j3 j4 P fn fo ex wo st9 lr9 rl9 fa9 ca9 dc9 ld r x (by assumption) (by assumption) (by assumption) (by first | assumption | omega | (simp only []; omega)) (by assumption) (by assumption) (by first | assumption | omega | (simp only []; omega)) (by assumption) (by assumption) (by first | assumption | omega | (simp only []; omega)) (by first | assumption | omega | (simp only []; omega)) (by first | assumption | omega | (simp only []; omega))) (cwV 2 C.2.2.2.2.1 gX10_judge_X10_hasValue rfl rfl rfl (by decide +kernel) (by rw [hR]; exact ⟨Nat.le_of_ble_eq_true rfl, Nat.le_of_ble_eq_true rfl⟩)) [0, 1, 2, 3, 4, 5, 6] [] rfl (by decide) rfl (by decide) xro_nil (List.mem_of_getElem? (i := 0) rfl) (ci := 9) rfl xT_bl (fun _ _ _ _ _ _ _ => trivial) rfl rfl dX10_judge_58 rfl rfl (Nat.le_of_ble_eq_true rfl) (q := 61) rfl (k' := 0) rfl (n' := 0) rfl (by rw [hR]; exact ⟨Nat.le_of_ble_eq_true rfl, Nat.le_of_ble_eq_true rfl⟩) (fun v11 w11 hp11 => ?_)
                  rcases hp11 with hp11 | hp11
                  · skip
                    obtain ⟨rfl, rfl, hc12⟩ := hp11
                    refine x_ws (ws' := [(mo, .inr (9, [.int (nI cols), .int (nI lc), .int (nI smp), .int (ky), .ref (mr 0), .ref (mr 1), .ref (mr 2), .ref (mr 3), .ref (mr 4), .ref (mr 5), .ref (mr 6), .ref (mr 7), .ref (mr 8), .ref (mr 9), .int (nI (pMk P)), .int (nI (pRs P)), .ref (mr 10), .ref (mr 11), .ref (mr 12), .ref (mr 13), .ref (mr 14), .ref (mr 15), .ref (mr 16), .ref (mr 17), .ref (mr 18), .ref (mr 19), .ref (mr 20), .int (nI nse), .int (nI npa), .int (nI nbo), .ref (mr 21), .int (nI tn), .ref (mr 22), .int (nI ik), .int (j0), .int (j1), .ref (mr 23), .int (j2), .ref (mr 24), .ref (mr 25), .int (j3), .ref (mr 26), .int (j4), .ref (mr 27), .ref (mr 28), .ref (mr 29), .ref (mr 30)])), (mr 10, .inl (cy 1, 24, .inl (fun k => nI (lr9 k)))), (mr 3, .inl (cy 1, 5, .inl (fun k => nI (st9 k)))), (mr 6, .inl (cy 1, 24, .inl (fun k => nI (fn k)))), (mr 7, .inl (cy 1, 120, .inl (fun k => nI (fo k)))), (mr 8, .inl (cy 2, 120, .inr (.inl ex))), (mr 9, .inl (cy 2, 120, .inr (.inl wo))), (mr 28, .inl (cy 1, 6, .inl tso)), (mr 29, .inl (cy 1, 6, .inl (fun k => nI (tsz k)))), (mr 27, .inl (cy 6, 6, .inr (.inr (.inr (.inr tq9))))), (ta, .inl (cy 2, 60, .inr (.inl f)))]) rfl ?_
                    refine x_if_eq C (tgt := 115) dX10_judge_61 (by decide) (q := 64) rfl (a := 1) rfl (fun h13 => (by omega : False).elim) (fun h13 => ?_)
                    refine x_iload_n C dX10_judge_64 (q := 65) rfl rfl 3 rfl ?_
                    refine x_if_lt C (tgt := 81) dX10_judge_65 (by decide) (q := 68) rfl (a := z.toInt) rfl (fun h14 => ?_) (fun h14 => ?_)
                    · first
                      | (exfalso; omega)
                      |
                        refine x_bipush C dX10_judge_81 (q := 83) rfl (v := nI 100) (by decide) ?_
                        refine x_iload C dX10_judge_83 (q := 85) rfl 4 rfl ?_
                        refine x_iadd C dX10_judge_85 (q := 86) rfl (z := nI (100 + cn)) (nI_add 100 cn) ?_
                        refine x_iret C hA hQ hr dX10_judge_86 (Nat.le_of_ble_eq_true rfl) ?_
                        have hlt : gaN ld (pLr P) x.toInt.toNat r < gaN ld (pLr P) x.toInt.toNat (pRs P) := by
                          have h1 := gaN_mono (ld := ld) (lr := pLr P) (c := x.toInt.toNat) (a := r + 1) (b := pRs P) (by omega)
                          rw [gaN_y (by assumption)] at h1
                          omega
                        have ety : 0 < pRs P → tyS (pSt P) tl9 ld x.toInt.toNat (min smp lc) = pSt P x.toInt.toNat := fun h => tyS_s (hF.2.1 (by omega) _ (by omega))
                        refine ⟨?_, rfl⟩
                        unfold judA
                        dsimp only
                        rw [if_neg (by omega), if_neg (by omega)]
                        rw [ety (by omega), ← hjd, jdS_out hlt (by omega), hkn]
                    · first
                      | (exfalso; omega)
                      |
                        refine x_iload_n C dX10_judge_68 (q := 69) rfl rfl 3 rfl ?_
                        refine x_aload_n C dX10_judge_69 (q := 70) rfl rfl 0 rfl ?_
                        refine x_get C (ci := 9) (v := .ref (mr 29)) hw0 0 rfl rfl 45 (by decide) hw3 rfl dX10_judge_70 (q := 73) rfl ?_
                        refine x_iload_n C dX10_judge_73 (q := 74) rfl rfl 2 rfl ?_
                        have hb15 := htz y.toInt.toNat
                        refine x_iald C (j := y.toInt.toNat) (v := nI (tsz y.toInt.toNat)) 8 rfl (by have h9 := (rfl : (y : Int32).toInt = y.toInt); omega) (by omega) rfl dX10_judge_74 (q := 75) rfl ?_
                        refine x_iload C dX10_judge_75 (q := 77) rfl 4 rfl ?_
                        refine x_isub C dX10_judge_77 (q := 78) rfl (z := nI (tsz y.toInt.toNat - cn)) (xi_subN (by omega) (by omega)) ?_
                        refine x_icmp_lt C (tgt := 87) dX10_judge_78 (by decide) (q := 81) rfl (a := z.toInt) (b := ((tsz y.toInt.toNat - cn : Nat) : Int)) rfl (nI_toInt (by omega)) (fun h16 => ?_) (fun h16 => ?_)
                        · first
                          | (exfalso; omega)
                          |
                            refine x_aload_n C dX10_judge_87 (q := 88) rfl rfl 0 rfl ?_
                            refine x_get C (ci := 9) (v := .ref (mr 27)) hw0 0 rfl rfl 43 (by decide) hw4 rfl dX10_judge_88 (q := 91) rfl ?_
                            refine x_iload_n C dX10_judge_91 (q := 92) rfl rfl 2 rfl ?_
                            refine x_aald6 C (j := y.toInt.toNat) (v := .ref ta) 9 rfl (by have h9 := (rfl : (y : Int32).toInt = y.toInt); omega) (by omega) (by rw [htq]; rfl) dX10_judge_92 (q := 93) rfl ?_
                            refine x_iload_n C dX10_judge_93 (q := 94) rfl rfl 3 rfl ?_
                            refine x_iload C dX10_judge_94 (q := 96) rfl 4 rfl ?_
                            refine x_iadd C dX10_judge_96 (q := 97) rfl (z := z + (nI cn)) (rfl) ?_
                            have e7 : (z + nI cn).toInt = z.toInt + (cn : Int) := xi_add rfl (nI_toInt (by omega)) (by omega) (by omega)
                            refine x_lald C (j := (z.toInt + ((cn : Nat) : Int)).toNat) (v := f ((z.toInt + ((cn : Nat) : Int)).toNat)) 10 rfl (by have h9 := ((xi_add rfl (nI_toInt (by omega)) (by omega) (by omega)) : (z + (nI cn) : Int32).toInt = z.toInt + ((cn : Nat) : Int)); omega) (by omega) rfl dX10_judge_97 (q := 98) rfl ?_
                            refine x_aload_n C dX10_judge_98 (q := 99) rfl rfl 0 rfl ?_
                            refine x_iload C dX10_judge_99 (q := 101) rfl 5 rfl ?_
                            refine x_iload_n C dX10_judge_101 (q := 102) rfl rfl 1 rfl ?_
                            refine x_callV C (roW := []) (roR := []) (c_X10_its l D cy mo mr cols lc smp nse npa nbo tn ik ky j0 j1 j2 j3 j4 P fn fo ex wo st9 lr9 rl9 fa9 ca9 dc9 ld r x (by assumption) (by assumption) (by assumption) (by first | assumption | omega | (simp only []; omega)) (by assumption) (by assumption) (by first | assumption | omega | (simp only []; omega)) (by assumption) (by assumption) (by first | assumption | omega | (simp only []; omega)) (by first | assumption | omega | (simp only []; omega)) (by first | assumption | omega | (simp only []; omega)) (by first | assumption | omega | (simp only []; omega))) (cwV 2 C.2.2.2.2.1 gX10_judge_X10_its rfl rfl rfl (by decide +kernel) (by rw [hR]; exact ⟨Nat.le_of_ble_eq_true rfl, Nat.le_of_ble_eq_true rfl⟩)) [0, 1, 2, 3, 4, 5, 6] [] rfl (by decide) rfl (by decide) xro_nil (List.mem_of_getElem? (i := 0) rfl) (ci := 9) rfl xT_bl (fun _ _ _ _ _ _ _ => trivial) rfl rfl dX10_judge_102 rfl rfl (Nat.le_of_ble_eq_true rfl) (q := 105) rfl (k' := 0) rfl (n' := 0) rfl (by rw [hR]; exact ⟨Nat.le_of_ble_eq_true rfl, Nat.le_of_ble_eq_true rfl⟩) (fun v17 w17 hp17 => ?_)
                            obtain ⟨rfl, rfl⟩ := hp17
                            refine x_ws (ws' := [(mo, .inr (9, [.int (nI cols), .int (nI lc), .int (nI smp), .int (ky), .ref (mr 0), .ref (mr 1), .ref (mr 2), .ref (mr 3), .ref (mr 4), .ref (mr 5), .ref (mr 6), .ref (mr 7), .ref (mr 8), .ref (mr 9), .int (nI (pMk P)), .int (nI (pRs P)), .ref (mr 10), .ref (mr 11), .ref (mr 12), .ref (mr 13), .ref (mr 14), .ref (mr 15), .ref (mr 16), .ref (mr 17), .ref (mr 18), .ref (mr 19), .ref (mr 20), .int (nI nse), .int (nI npa), .int (nI nbo), .ref (mr 21), .int (nI tn), .ref (mr 22), .int (nI ik), .int (j0), .int (j1), .ref (mr 23), .int (j2), .ref (mr 24), .ref (mr 25), .int (j3), .ref (mr 26), .int (j4), .ref (mr 27), .ref (mr 28), .ref (mr 29), .ref (mr 30)])), (mr 10, .inl (cy 1, 24, .inl (fun k => nI (lr9 k)))), (mr 3, .inl (cy 1, 5, .inl (fun k => nI (st9 k)))), (mr 6, .inl (cy 1, 24, .inl (fun k => nI (fn k)))), (mr 7, .inl (cy 1, 120, .inl (fun k => nI (fo k)))), (mr 8, .inl (cy 2, 120, .inr (.inl ex))), (mr 9, .inl (cy 2, 120, .inr (.inl wo))), (mr 28, .inl (cy 1, 6, .inl tso)), (mr 29, .inl (cy 1, 6, .inl (fun k => nI (tsz k)))), (mr 27, .inl (cy 6, 6, .inr (.inr (.inr (.inr tq9))))), (ta, .inl (cy 2, 60, .inr (.inl f)))]) rfl ?_
                            refine x_lcmp_eq C (tgt := 112) dX10_judge_105 dX10_judge_106 (by decide) (q := 109) rfl (a := (f ((z.toInt + ((cn : Nat) : Int)).toNat)).toInt) (b := (vlS ld (pSt P x.toInt.toNat) (pLr P r) x.toInt.toNat).toInt) rfl rfl (fun h18 => ?_) (fun h18 => ?_)
                            · first
                              | (exfalso; omega)
                              |
                                refine x_iinc C (L' := [(4, .int (nI (cn + 1))), (0, .ref mo), (1, .int (x)), (2, .int (y)), (3, .int (z)), (5, .int (nI r))]) dX10_judge_112 (q := 115) rfl 4 rfl (v := nI (cn + 1)) (nI_add cn 1) (by decide) rfl ?_
                                refine x_iinc C (L' := [(5, .int (nI (r + 1))), (4, .int (nI (cn + 1))), (0, .ref mo), (1, .int (x)), (2, .int (y)), (3, .int (z))]) dX10_judge_115 (q := 118) rfl 5 rfl (v := nI (r + 1)) (nI_add r 1) (by decide) rfl ?_
                                refine x_goto C (tgt := 45) dX10_judge_118 (by decide) ?_
                                refine x_L (L' := [(0, .ref mo), (1, .int (x)), (2, .int (y)), (3, .int (z)), (4, .int (nI (cn + 1))), (5, .int (nI (r + 1)))]) [2, 3, 4, 5, 1, 0] rfl ?_
                                exact ih45 (r + 1) (cn + 1) (by first | omega | assumption) (by first | (rw [gaN_n (by assumption)]; omega) | (rw [gaN_y (by assumption)]; omega)) (by first | omega | assumption) (by first | (rw [gaN_n (by assumption)]; exact hjd) | (have hlt : gaN ld (pLr P) x.toInt.toNat r < gaN ld (pLr P) x.toInt.toNat (pRs P) := (by have hm1 := gaN_mono (ld := ld) (lr := pLr P) (c := x.toInt.toNat) (a := r + 1) (b := pRs P) (by omega); rw [gaN_y (by assumption)] at hm1; omega); have hga := gaF_at (ld := ld) (lr := pLr P) (ty := pSt P x.toInt.toNat) (c := x.toInt.toNat) (g := ga) (r := r) (by assumption) (m := pRs P) (by omega); rw [gaN_y (by assumption), ← hjd]; exact (jdG_go hlt (by omega) (show (z.toInt + ((cn : Nat) : Int)).toNat = z.toInt.toNat + gaN ld (pLr P) x.toInt.toNat r by omega) (by rw [hga]; assumption)).symm)) (by omega)
                            · first
                              | (exfalso; omega)
                              |
                                refine x_iload C dX10_judge_109 (q := 111) rfl 4 rfl ?_
                                refine x_iret C hA hQ hr dX10_judge_111 (Nat.le_of_ble_eq_true rfl) ?_
                                have hlt : gaN ld (pLr P) x.toInt.toNat r < gaN ld (pLr P) x.toInt.toNat (pRs P) := by
                                  have h1 := gaN_mono (ld := ld) (lr := pLr P) (c := x.toInt.toNat) (a := r + 1) (b := pRs P) (by omega)
                                  rw [gaN_y (by assumption)] at h1
                                  omega
                                have hga := gaF_at (ld := ld) (lr := pLr P) (ty := pSt P x.toInt.toNat) (c := x.toInt.toNat) (g := ga) (r := r) (by assumption) (m := pRs P) (by omega)
                                have ety : 0 < pRs P → tyS (pSt P) tl9 ld x.toInt.toNat (min smp lc) = pSt P x.toInt.toNat := fun h => tyS_s (hF.2.1 (by omega) _ (by omega))
                                refine ⟨?_, rfl⟩
                                unfold judA
                                dsimp only
                                rw [if_neg (by omega), if_neg (by omega)]
                                rw [ety (by omega), ← hjd, jdG_dif hlt (by omega) (show (z.toInt + ((cn : Nat) : Int)).toNat = z.toInt.toNat + gaN ld (pLr P) x.toInt.toNat r by omega) (by rw [hga]; assumption), hkn]
                        · first
                          | (exfalso; omega)
                          |
                            refine x_bipush C dX10_judge_81 (q := 83) rfl (v := nI 100) (by decide) ?_
                            refine x_iload C dX10_judge_83 (q := 85) rfl 4 rfl ?_
                            refine x_iadd C dX10_judge_85 (q := 86) rfl (z := nI (100 + cn)) (nI_add 100 cn) ?_
                            refine x_iret C hA hQ hr dX10_judge_86 (Nat.le_of_ble_eq_true rfl) ?_
                            have hlt : gaN ld (pLr P) x.toInt.toNat r < gaN ld (pLr P) x.toInt.toNat (pRs P) := by
                              have h1 := gaN_mono (ld := ld) (lr := pLr P) (c := x.toInt.toNat) (a := r + 1) (b := pRs P) (by omega)
                              rw [gaN_y (by assumption)] at h1
                              omega
                            have ety : 0 < pRs P → tyS (pSt P) tl9 ld x.toInt.toNat (min smp lc) = pSt P x.toInt.toNat := fun h => tyS_s (hF.2.1 (by omega) _ (by omega))
                            refine ⟨?_, rfl⟩
                            unfold judA
                            dsimp only
                            rw [if_neg (by omega), if_neg (by omega)]
                            rw [ety (by omega), ← hjd, jdS_out hlt (by omega), hkn]
                  · skip
                    obtain ⟨rfl, rfl, hc19⟩ := hp11
                    refine x_ws (ws' := [(mo, .inr (9, [.int (nI cols), .int (nI lc), .int (nI smp), .int (ky), .ref (mr 0), .ref (mr 1), .ref (mr 2), .ref (mr 3), .ref (mr 4), .ref (mr 5), .ref (mr 6), .ref (mr 7), .ref (mr 8), .ref (mr 9), .int (nI (pMk P)), .int (nI (pRs P)), .ref (mr 10), .ref (mr 11), .ref (mr 12), .ref (mr 13), .ref (mr 14), .ref (mr 15), .ref (mr 16), .ref (mr 17), .ref (mr 18), .ref (mr 19), .ref (mr 20), .int (nI nse), .int (nI npa), .int (nI nbo), .ref (mr 21), .int (nI tn), .ref (mr 22), .int (nI ik), .int (j0), .int (j1), .ref (mr 23), .int (j2), .ref (mr 24), .ref (mr 25), .int (j3), .ref (mr 26), .int (j4), .ref (mr 27), .ref (mr 28), .ref (mr 29), .ref (mr 30)])), (mr 10, .inl (cy 1, 24, .inl (fun k => nI (lr9 k)))), (mr 3, .inl (cy 1, 5, .inl (fun k => nI (st9 k)))), (mr 6, .inl (cy 1, 24, .inl (fun k => nI (fn k)))), (mr 7, .inl (cy 1, 120, .inl (fun k => nI (fo k)))), (mr 8, .inl (cy 2, 120, .inr (.inl ex))), (mr 9, .inl (cy 2, 120, .inr (.inl wo))), (mr 28, .inl (cy 1, 6, .inl tso)), (mr 29, .inl (cy 1, 6, .inl (fun k => nI (tsz k)))), (mr 27, .inl (cy 6, 6, .inr (.inr (.inr (.inr tq9))))), (ta, .inl (cy 2, 60, .inr (.inl f)))]) rfl ?_
                    refine x_if_eq C (tgt := 115) dX10_judge_61 (by decide) (q := 64) rfl (a := 0) rfl (fun h20 => ?_) (fun h20 => (by omega : False).elim)
                    refine x_iinc C (L' := [(5, .int (nI (r + 1))), (0, .ref mo), (1, .int (x)), (2, .int (y)), (3, .int (z)), (4, .int (nI cn))]) dX10_judge_115 (q := 118) rfl 5 rfl (v := nI (r + 1)) (nI_add r 1) (by decide) rfl ?_
                    refine x_goto C (tgt := 45) dX10_judge_118 (by decide) ?_
                    refine x_L (L' := [(0, .ref mo), (1, .int (x)), (2, .int (y)), (3, .int (z)), (4, .int (nI cn)), (5, .int (nI (r + 1)))]) [1, 2, 3, 4, 5, 0] rfl ?_
                    exact ih45 (r + 1) cn (by first | omega | assumption) (by first | (rw [gaN_n (by assumption)]; omega) | (rw [gaN_y (by assumption)]; omega)) (by first | omega | assumption) (by first | (rw [gaN_n (by assumption)]; exact hjd) | (have hlt : gaN ld (pLr P) x.toInt.toNat r < gaN ld (pLr P) x.toInt.toNat (pRs P) := (by have hm1 := gaN_mono (ld := ld) (lr := pLr P) (c := x.toInt.toNat) (a := r + 1) (b := pRs P) (by omega); rw [gaN_y (by assumption)] at hm1; omega); have hga := gaF_at (ld := ld) (lr := pLr P) (ty := pSt P x.toInt.toNat) (c := x.toInt.toNat) (g := ga) (r := r) (by assumption) (m := pRs P) (by omega); rw [gaN_y (by assumption), ← hjd]; exact (jdG_go hlt (by omega) (show (z.toInt + ((cn : Nat) : Int)).toNat = z.toInt.toNat + gaN ld (pLr P) x.toInt.toNat r by omega) (by rw [hga]; assumption)).symm)) (by omega)
          refine x_L (L' := [(0, .ref mo), (1, .int (x)), (2, .int (y)), (3, .int (z)), (4, .int (nI 0)), (5, .int (nI 0))]) [2, 3, 4, 5, 1, 0] rfl ?_
          exact cut45 (pRs P - 0 + 1) 0 0 (by first | omega | assumption) (by rfl) (by first | omega | assumption) (by rfl) (by omega)
      · first
        | (exfalso; omega)
        |
          refine x_aload_n C dX10_judge_26 (q := 27) rfl rfl 0 rfl ?_
          refine x_get C (ci := 9) (v := .ref (mr 28)) hw0 0 rfl rfl 44 (by decide) hw1 rfl dX10_judge_27 (q := 30) rfl ?_
          refine x_iload_n C dX10_judge_30 (q := 31) rfl rfl 2 rfl ?_
          refine x_iald C (j := y.toInt.toNat) (v := tso y.toInt.toNat) 7 rfl (by have h9 := (rfl : (y : Int32).toInt = y.toInt); omega) (by omega) rfl dX10_judge_31 (q := 32) rfl ?_
          refine x_iconst C dX10_judge_32 (q := 33) rfl (v := nI 3) (by decide) ?_
          refine x_icmp_eq C (tgt := 39) dX10_judge_33 (by decide) (q := 36) rfl (a := (tso y.toInt.toNat).toInt) (b := 3) rfl rfl (fun h21 => ?_) (fun h21 => ?_)
          · first
            | (exfalso; omega)
            |
              refine x_iconst C dX10_judge_39 (q := 40) rfl (v := nI 0) (by decide) ?_
              refine x_istore C (L' := [(4, .int (nI 0)), (0, .ref mo), (1, .int (x)), (2, .int (y)), (3, .int (z))]) dX10_judge_40 (q := 42) rfl (by decide) rfl ?_
              refine x_iconst C dX10_judge_42 (q := 43) rfl (v := nI 0) (by decide) ?_
              refine x_istore C (L' := [(5, .int (nI 0)), (4, .int (nI 0)), (0, .ref mo), (1, .int (x)), (2, .int (y)), (3, .int (z))]) dX10_judge_43 (q := 45) rfl (by decide) rfl ?_
              have cut45 : ∀ (fuel : Nat) (r : Nat) (cn : Nat), (r ≤ pRs P) → (cn = gaN ld (pLr P) x.toInt.toNat r) → (cn ≤ tsz y.toInt.toNat) → (jdS (gaF ld (pLr P) (pSt P x.toInt.toNat) x.toInt.toNat ga (pRs P)) f (tsz y.toInt.toNat) z.toInt (gaN ld (pLr P) x.toInt.toNat (pRs P) - gaN ld (pLr P) x.toInt.toNat r) (gaN ld (pLr P) x.toInt.toNat r) = jdS (gaF ld (pLr P) (pSt P x.toInt.toNat) x.toInt.toNat ga (pRs P)) f (tsz y.toInt.toNat) z.toInt (gaN ld (pLr P) x.toInt.toNat (pRs P)) 0) → pRs P - r < fuel → xG p l e R s m args below meth c Q D A 6 [(mo, .inr (9, [.int (nI cols), .int (nI lc), .int (nI smp), .int (ky), .ref (mr 0), .ref (mr 1), .ref (mr 2), .ref (mr 3), .ref (mr 4), .ref (mr 5), .ref (mr 6), .ref (mr 7), .ref (mr 8), .ref (mr 9), .int (nI (pMk P)), .int (nI (pRs P)), .ref (mr 10), .ref (mr 11), .ref (mr 12), .ref (mr 13), .ref (mr 14), .ref (mr 15), .ref (mr 16), .ref (mr 17), .ref (mr 18), .ref (mr 19), .ref (mr 20), .int (nI nse), .int (nI npa), .int (nI nbo), .ref (mr 21), .int (nI tn), .ref (mr 22), .int (nI ik), .int (j0), .int (j1), .ref (mr 23), .int (j2), .ref (mr 24), .ref (mr 25), .int (j3), .ref (mr 26), .int (j4), .ref (mr 27), .ref (mr 28), .ref (mr 29), .ref (mr 30)])), (mr 10, .inl (cy 1, 24, .inl (fun k => nI (lr9 k)))), (mr 3, .inl (cy 1, 5, .inl (fun k => nI (st9 k)))), (mr 6, .inl (cy 1, 24, .inl (fun k => nI (fn k)))), (mr 7, .inl (cy 1, 120, .inl (fun k => nI (fo k)))), (mr 8, .inl (cy 2, 120, .inr (.inl ex))), (mr 9, .inl (cy 2, 120, .inr (.inl wo))), (mr 28, .inl (cy 1, 6, .inl tso)), (mr 29, .inl (cy 1, 6, .inl (fun k => nI (tsz k)))), (mr 27, .inl (cy 6, 6, .inr (.inr (.inr (.inr tq9))))), (ta, .inl (cy 2, 60, .inr (.inl f)))] 0 0 45 [(0, .ref mo), (1, .int (x)), (2, .int (y)), (3, .int (z)), (4, .int (nI cn)), (5, .int (nI r))] [] := by
                intro fuel
                induction fuel with
                | zero =>
                  intro r cn hrr hkn hkz hjd hmu
                  exact absurd hmu (Nat.not_lt_zero _)
                | succ fuel ih =>
                  intro r cn hrr hkn hkz hjd hmu
                  have hg9 := gaN_le ld (pLr P) x.toInt.toNat r
                  have ih45 := ih
                  clear ih
                  refine x_iload C dX10_judge_45 (q := 47) rfl 5 rfl ?_
                  refine x_aload_n C dX10_judge_47 (q := 48) rfl rfl 0 rfl ?_
                  refine x_get C (ci := 9) (v := .int (nI (pRs P))) hw0 0 rfl rfl 15 (by decide) hw2 rfl dX10_judge_48 (q := 51) rfl ?_
                  refine x_icmp_ge C (tgt := 121) dX10_judge_51 (by decide) (q := 54) rfl (a := ((r : Nat) : Int)) (b := ((pRs P : Nat) : Int)) (nI_toInt (by omega)) (nI_toInt (by omega)) (fun h22 => ?_) (fun h22 => ?_)
                  · first
                    | (exfalso; omega)
                    |
                      refine x_bipush C dX10_judge_121 (q := 123) rfl (v := (-5)) (by decide) ?_
                      refine x_iret C hA hQ hr dX10_judge_123 (Nat.le_of_ble_eq_true rfl) ?_
                      have ety : 0 < pRs P → tyS (pSt P) tl9 ld x.toInt.toNat (min smp lc) = pSt P x.toInt.toNat := fun h => tyS_s (hF.2.1 (by omega) _ (by omega))
                      refine ⟨?_, rfl⟩
                      unfold judA
                      dsimp only
                      rw [if_neg (by omega), if_neg (by omega)]
                      rcases Nat.eq_zero_or_pos (pRs P) with e0 | e0
                      · rw [show gaN ld (pLr P) x.toInt.toNat (pRs P) = 0 by rw [e0]; rfl]
                        rfl
                      · rw [ety e0, ← hjd, show gaN ld (pLr P) x.toInt.toNat r = gaN ld (pLr P) x.toInt.toNat (pRs P) by rw [show r = pRs P by omega], jdS_end rfl]
                  · first
                    | (exfalso; omega)
                    |
                      refine x_aload_n C dX10_judge_54 (q := 55) rfl rfl 0 rfl ?_
                      refine x_iload C dX10_judge_55 (q := 57) rfl 5 rfl ?_
                      refine x_iload_n C dX10_judge_57 (q := 58) rfl rfl 1 rfl ?_
                      refine x_callV C (roW := []) (roR := []) (c_X10_hasValue_n l D cy mo mr cols lc smp nse npa nbo tn ik ky j0 j1 j2 j3 j4 P fn fo ex wo st9 lr9 rl9 fa9 ca9 dc9 ld r x (by assumption) (by assumption) (by assumption) (by first | assumption | omega | (simp only []; omega)) (by assumption) (by assumption) (by first | assumption | omega | (simp only []; omega)) (by assumption) (by assumption) (by first | assumption | omega | (simp only []; omega)) (by first | assumption | omega | (simp only []; omega)) (by first | assumption | omega | (simp only []; omega))) (cwV 2 C.2.2.2.2.1 gX10_judge_X10_hasValue rfl rfl rfl (by decide +kernel) (by rw [hR]; exact ⟨Nat.le_of_ble_eq_true rfl, Nat.le_of_ble_eq_true rfl⟩)) [0, 1, 2, 3, 4, 5, 6] [] rfl (by decide) rfl (by decide) xro_nil (List.mem_of_getElem? (i := 0) rfl) (ci := 9) rfl xT_bl (fun _ _ _ _ _ _ _ => trivial) rfl rfl dX10_judge_58 rfl rfl (Nat.le_of_ble_eq_true rfl) (q := 61) rfl (k' := 0) rfl (n' := 0) rfl (by rw [hR]; exact ⟨Nat.le_of_ble_eq_true rfl, Nat.le_of_ble_eq_true rfl⟩) (fun v23 w23 hp23 => ?_)
                      rcases hp23 with hp23 | hp23
                      · skip
                        obtain ⟨rfl, rfl, hc24⟩ := hp23
                        refine x_ws (ws' := [(mo, .inr (9, [.int (nI cols), .int (nI lc), .int (nI smp), .int (ky), .ref (mr 0), .ref (mr 1), .ref (mr 2), .ref (mr 3), .ref (mr 4), .ref (mr 5), .ref (mr 6), .ref (mr 7), .ref (mr 8), .ref (mr 9), .int (nI (pMk P)), .int (nI (pRs P)), .ref (mr 10), .ref (mr 11), .ref (mr 12), .ref (mr 13), .ref (mr 14), .ref (mr 15), .ref (mr 16), .ref (mr 17), .ref (mr 18), .ref (mr 19), .ref (mr 20), .int (nI nse), .int (nI npa), .int (nI nbo), .ref (mr 21), .int (nI tn), .ref (mr 22), .int (nI ik), .int (j0), .int (j1), .ref (mr 23), .int (j2), .ref (mr 24), .ref (mr 25), .int (j3), .ref (mr 26), .int (j4), .ref (mr 27), .ref (mr 28), .ref (mr 29), .ref (mr 30)])), (mr 10, .inl (cy 1, 24, .inl (fun k => nI (lr9 k)))), (mr 3, .inl (cy 1, 5, .inl (fun k => nI (st9 k)))), (mr 6, .inl (cy 1, 24, .inl (fun k => nI (fn k)))), (mr 7, .inl (cy 1, 120, .inl (fun k => nI (fo k)))), (mr 8, .inl (cy 2, 120, .inr (.inl ex))), (mr 9, .inl (cy 2, 120, .inr (.inl wo))), (mr 28, .inl (cy 1, 6, .inl tso)), (mr 29, .inl (cy 1, 6, .inl (fun k => nI (tsz k)))), (mr 27, .inl (cy 6, 6, .inr (.inr (.inr (.inr tq9))))), (ta, .inl (cy 2, 60, .inr (.inl f)))]) rfl ?_
                        refine x_if_eq C (tgt := 115) dX10_judge_61 (by decide) (q := 64) rfl (a := 1) rfl (fun h25 => (by omega : False).elim) (fun h25 => ?_)
                        refine x_iload_n C dX10_judge_64 (q := 65) rfl rfl 3 rfl ?_
                        refine x_if_lt C (tgt := 81) dX10_judge_65 (by decide) (q := 68) rfl (a := z.toInt) rfl (fun h26 => ?_) (fun h26 => ?_)
                        · first
                          | (exfalso; omega)
                          |
                            refine x_bipush C dX10_judge_81 (q := 83) rfl (v := nI 100) (by decide) ?_
                            refine x_iload C dX10_judge_83 (q := 85) rfl 4 rfl ?_
                            refine x_iadd C dX10_judge_85 (q := 86) rfl (z := nI (100 + cn)) (nI_add 100 cn) ?_
                            refine x_iret C hA hQ hr dX10_judge_86 (Nat.le_of_ble_eq_true rfl) ?_
                            have hlt : gaN ld (pLr P) x.toInt.toNat r < gaN ld (pLr P) x.toInt.toNat (pRs P) := by
                              have h1 := gaN_mono (ld := ld) (lr := pLr P) (c := x.toInt.toNat) (a := r + 1) (b := pRs P) (by omega)
                              rw [gaN_y (by assumption)] at h1
                              omega
                            have ety : 0 < pRs P → tyS (pSt P) tl9 ld x.toInt.toNat (min smp lc) = pSt P x.toInt.toNat := fun h => tyS_s (hF.2.1 (by omega) _ (by omega))
                            refine ⟨?_, rfl⟩
                            unfold judA
                            dsimp only
                            rw [if_neg (by omega), if_neg (by omega)]
                            rw [ety (by omega), ← hjd, jdS_out hlt (by omega), hkn]
                        · first
                          | (exfalso; omega)
                          |
                            refine x_iload_n C dX10_judge_68 (q := 69) rfl rfl 3 rfl ?_
                            refine x_aload_n C dX10_judge_69 (q := 70) rfl rfl 0 rfl ?_
                            refine x_get C (ci := 9) (v := .ref (mr 29)) hw0 0 rfl rfl 45 (by decide) hw3 rfl dX10_judge_70 (q := 73) rfl ?_
                            refine x_iload_n C dX10_judge_73 (q := 74) rfl rfl 2 rfl ?_
                            have hb27 := htz y.toInt.toNat
                            refine x_iald C (j := y.toInt.toNat) (v := nI (tsz y.toInt.toNat)) 8 rfl (by have h9 := (rfl : (y : Int32).toInt = y.toInt); omega) (by omega) rfl dX10_judge_74 (q := 75) rfl ?_
                            refine x_iload C dX10_judge_75 (q := 77) rfl 4 rfl ?_
                            refine x_isub C dX10_judge_77 (q := 78) rfl (z := nI (tsz y.toInt.toNat - cn)) (xi_subN (by omega) (by omega)) ?_
                            refine x_icmp_lt C (tgt := 87) dX10_judge_78 (by decide) (q := 81) rfl (a := z.toInt) (b := ((tsz y.toInt.toNat - cn : Nat) : Int)) rfl (nI_toInt (by omega)) (fun h28 => ?_) (fun h28 => ?_)
                            · first
                              | (exfalso; omega)
                              |
                                refine x_aload_n C dX10_judge_87 (q := 88) rfl rfl 0 rfl ?_
                                refine x_get C (ci := 9) (v := .ref (mr 27)) hw0 0 rfl rfl 43 (by decide) hw4 rfl dX10_judge_88 (q := 91) rfl ?_
                                refine x_iload_n C dX10_judge_91 (q := 92) rfl rfl 2 rfl ?_
                                refine x_aald6 C (j := y.toInt.toNat) (v := .ref ta) 9 rfl (by have h9 := (rfl : (y : Int32).toInt = y.toInt); omega) (by omega) (by rw [htq]; rfl) dX10_judge_92 (q := 93) rfl ?_
                                refine x_iload_n C dX10_judge_93 (q := 94) rfl rfl 3 rfl ?_
                                refine x_iload C dX10_judge_94 (q := 96) rfl 4 rfl ?_
                                refine x_iadd C dX10_judge_96 (q := 97) rfl (z := z + (nI cn)) (rfl) ?_
                                have e7 : (z + nI cn).toInt = z.toInt + (cn : Int) := xi_add rfl (nI_toInt (by omega)) (by omega) (by omega)
                                refine x_lald C (j := (z.toInt + ((cn : Nat) : Int)).toNat) (v := f ((z.toInt + ((cn : Nat) : Int)).toNat)) 10 rfl (by have h9 := ((xi_add rfl (nI_toInt (by omega)) (by omega) (by omega)) : (z + (nI cn) : Int32).toInt = z.toInt + ((cn : Nat) : Int)); omega) (by omega) rfl dX10_judge_97 (q := 98) rfl ?_
                                refine x_aload_n C dX10_judge_98 (q := 99) rfl rfl 0 rfl ?_
                                refine x_iload C dX10_judge_99 (q := 101) rfl 5 rfl ?_
                                refine x_iload_n C dX10_judge_101 (q := 102) rfl rfl 1 rfl ?_
                                refine x_callV C (roW := []) (roR := []) (c_X10_its l D cy mo mr cols lc smp nse npa nbo tn ik ky j0 j1 j2 j3 j4 P fn fo ex wo st9 lr9 rl9 fa9 ca9 dc9 ld r x (by assumption) (by assumption) (by assumption) (by first | assumption | omega | (simp only []; omega)) (by assumption) (by assumption) (by first | assumption | omega | (simp only []; omega)) (by assumption) (by assumption) (by first | assumption | omega | (simp only []; omega)) (by first | assumption | omega | (simp only []; omega)) (by first | assumption | omega | (simp only []; omega)) (by first | assumption | omega | (simp only []; omega))) (cwV 2 C.2.2.2.2.1 gX10_judge_X10_its rfl rfl rfl (by decide +kernel) (by rw [hR]; exact ⟨Nat.le_of_ble_eq_true rfl, Nat.le_of_ble_eq_true rfl⟩)) [0, 1, 2, 3, 4, 5, 6] [] rfl (by decide) rfl (by decide) xro_nil (List.mem_of_getElem? (i := 0) rfl) (ci := 9) rfl xT_bl (fun _ _ _ _ _ _ _ => trivial) rfl rfl dX10_judge_102 rfl rfl (Nat.le_of_ble_eq_true rfl) (q := 105) rfl (k' := 0) rfl (n' := 0) rfl (by rw [hR]; exact ⟨Nat.le_of_ble_eq_true rfl, Nat.le_of_ble_eq_true rfl⟩) (fun v29 w29 hp29 => ?_)
                                obtain ⟨rfl, rfl⟩ := hp29
                                refine x_ws (ws' := [(mo, .inr (9, [.int (nI cols), .int (nI lc), .int (nI smp), .int (ky), .ref (mr 0), .ref (mr 1), .ref (mr 2), .ref (mr 3), .ref (mr 4), .ref (mr 5), .ref (mr 6), .ref (mr 7), .ref (mr 8), .ref (mr 9), .int (nI (pMk P)), .int (nI (pRs P)), .ref (mr 10), .ref (mr 11), .ref (mr 12), .ref (mr 13), .ref (mr 14), .ref (mr 15), .ref (mr 16), .ref (mr 17), .ref (mr 18), .ref (mr 19), .ref (mr 20), .int (nI nse), .int (nI npa), .int (nI nbo), .ref (mr 21), .int (nI tn), .ref (mr 22), .int (nI ik), .int (j0), .int (j1), .ref (mr 23), .int (j2), .ref (mr 24), .ref (mr 25), .int (j3), .ref (mr 26), .int (j4), .ref (mr 27), .ref (mr 28), .ref (mr 29), .ref (mr 30)])), (mr 10, .inl (cy 1, 24, .inl (fun k => nI (lr9 k)))), (mr 3, .inl (cy 1, 5, .inl (fun k => nI (st9 k)))), (mr 6, .inl (cy 1, 24, .inl (fun k => nI (fn k)))), (mr 7, .inl (cy 1, 120, .inl (fun k => nI (fo k)))), (mr 8, .inl (cy 2, 120, .inr (.inl ex))), (mr 9, .inl (cy 2, 120, .inr (.inl wo))), (mr 28, .inl (cy 1, 6, .inl tso)), (mr 29, .inl (cy 1, 6, .inl (fun k => nI (tsz k)))), (mr 27, .inl (cy 6, 6, .inr (.inr (.inr (.inr tq9))))), (ta, .inl (cy 2, 60, .inr (.inl f)))]) rfl ?_
                                refine x_lcmp_eq C (tgt := 112) dX10_judge_105 dX10_judge_106 (by decide) (q := 109) rfl (a := (f ((z.toInt + ((cn : Nat) : Int)).toNat)).toInt) (b := (vlS ld (pSt P x.toInt.toNat) (pLr P r) x.toInt.toNat).toInt) rfl rfl (fun h30 => ?_) (fun h30 => ?_)
                                · first
                                  | (exfalso; omega)
                                  |
                                    refine x_iinc C (L' := [(4, .int (nI (cn + 1))), (0, .ref mo), (1, .int (x)), (2, .int (y)), (3, .int (z)), (5, .int (nI r))]) dX10_judge_112 (q := 115) rfl 4 rfl (v := nI (cn + 1)) (nI_add cn 1) (by decide) rfl ?_
                                    refine x_iinc C (L' := [(5, .int (nI (r + 1))), (4, .int (nI (cn + 1))), (0, .ref mo), (1, .int (x)), (2, .int (y)), (3, .int (z))]) dX10_judge_115 (q := 118) rfl 5 rfl (v := nI (r + 1)) (nI_add r 1) (by decide) rfl ?_
                                    refine x_goto C (tgt := 45) dX10_judge_118 (by decide) ?_
                                    refine x_L (L' := [(0, .ref mo), (1, .int (x)), (2, .int (y)), (3, .int (z)), (4, .int (nI (cn + 1))), (5, .int (nI (r + 1)))]) [2, 3, 4, 5, 1, 0] rfl ?_
                                    exact ih45 (r + 1) (cn + 1) (by first | omega | assumption) (by first | (rw [gaN_n (by assumption)]; omega) | (rw [gaN_y (by assumption)]; omega)) (by first | omega | assumption) (by first | (rw [gaN_n (by assumption)]; exact hjd) | (have hlt : gaN ld (pLr P) x.toInt.toNat r < gaN ld (pLr P) x.toInt.toNat (pRs P) := (by have hm1 := gaN_mono (ld := ld) (lr := pLr P) (c := x.toInt.toNat) (a := r + 1) (b := pRs P) (by omega); rw [gaN_y (by assumption)] at hm1; omega); have hga := gaF_at (ld := ld) (lr := pLr P) (ty := pSt P x.toInt.toNat) (c := x.toInt.toNat) (g := ga) (r := r) (by assumption) (m := pRs P) (by omega); rw [gaN_y (by assumption), ← hjd]; exact (jdG_go hlt (by omega) (show (z.toInt + ((cn : Nat) : Int)).toNat = z.toInt.toNat + gaN ld (pLr P) x.toInt.toNat r by omega) (by rw [hga]; assumption)).symm)) (by omega)
                                · first
                                  | (exfalso; omega)
                                  |
                                    refine x_iload C dX10_judge_109 (q := 111) rfl 4 rfl ?_
                                    refine x_iret C hA hQ hr dX10_judge_111 (Nat.le_of_ble_eq_true rfl) ?_
                                    have hlt : gaN ld (pLr P) x.toInt.toNat r < gaN ld (pLr P) x.toInt.toNat (pRs P) := by
                                      have h1 := gaN_mono (ld := ld) (lr := pLr P) (c := x.toInt.toNat) (a := r + 1) (b := pRs P) (by omega)
                                      rw [gaN_y (by assumption)] at h1
                                      omega
                                    have hga := gaF_at (ld := ld) (lr := pLr P) (ty := pSt P x.toInt.toNat) (c := x.toInt.toNat) (g := ga) (r := r) (by assumption) (m := pRs P) (by omega)
                                    have ety : 0 < pRs P → tyS (pSt P) tl9 ld x.toInt.toNat (min smp lc) = pSt P x.toInt.toNat := fun h => tyS_s (hF.2.1 (by omega) _ (by omega))
                                    refine ⟨?_, rfl⟩
                                    unfold judA
                                    dsimp only
                                    rw [if_neg (by omega), if_neg (by omega)]
                                    rw [ety (by omega), ← hjd, jdG_dif hlt (by omega) (show (z.toInt + ((cn : Nat) : Int)).toNat = z.toInt.toNat + gaN ld (pLr P) x.toInt.toNat r by omega) (by rw [hga]; assumption), hkn]
                            · first
                              | (exfalso; omega)
                              |
                                refine x_bipush C dX10_judge_81 (q := 83) rfl (v := nI 100) (by decide) ?_
                                refine x_iload C dX10_judge_83 (q := 85) rfl 4 rfl ?_
                                refine x_iadd C dX10_judge_85 (q := 86) rfl (z := nI (100 + cn)) (nI_add 100 cn) ?_
                                refine x_iret C hA hQ hr dX10_judge_86 (Nat.le_of_ble_eq_true rfl) ?_
                                have hlt : gaN ld (pLr P) x.toInt.toNat r < gaN ld (pLr P) x.toInt.toNat (pRs P) := by
                                  have h1 := gaN_mono (ld := ld) (lr := pLr P) (c := x.toInt.toNat) (a := r + 1) (b := pRs P) (by omega)
                                  rw [gaN_y (by assumption)] at h1
                                  omega
                                have ety : 0 < pRs P → tyS (pSt P) tl9 ld x.toInt.toNat (min smp lc) = pSt P x.toInt.toNat := fun h => tyS_s (hF.2.1 (by omega) _ (by omega))
                                refine ⟨?_, rfl⟩
                                unfold judA
                                dsimp only
                                rw [if_neg (by omega), if_neg (by omega)]
                                rw [ety (by omega), ← hjd, jdS_out hlt (by omega), hkn]
                      · skip
                        obtain ⟨rfl, rfl, hc31⟩ := hp23
                        refine x_ws (ws' := [(mo, .inr (9, [.int (nI cols), .int (nI lc), .int (nI smp), .int (ky), .ref (mr 0), .ref (mr 1), .ref (mr 2), .ref (mr 3), .ref (mr 4), .ref (mr 5), .ref (mr 6), .ref (mr 7), .ref (mr 8), .ref (mr 9), .int (nI (pMk P)), .int (nI (pRs P)), .ref (mr 10), .ref (mr 11), .ref (mr 12), .ref (mr 13), .ref (mr 14), .ref (mr 15), .ref (mr 16), .ref (mr 17), .ref (mr 18), .ref (mr 19), .ref (mr 20), .int (nI nse), .int (nI npa), .int (nI nbo), .ref (mr 21), .int (nI tn), .ref (mr 22), .int (nI ik), .int (j0), .int (j1), .ref (mr 23), .int (j2), .ref (mr 24), .ref (mr 25), .int (j3), .ref (mr 26), .int (j4), .ref (mr 27), .ref (mr 28), .ref (mr 29), .ref (mr 30)])), (mr 10, .inl (cy 1, 24, .inl (fun k => nI (lr9 k)))), (mr 3, .inl (cy 1, 5, .inl (fun k => nI (st9 k)))), (mr 6, .inl (cy 1, 24, .inl (fun k => nI (fn k)))), (mr 7, .inl (cy 1, 120, .inl (fun k => nI (fo k)))), (mr 8, .inl (cy 2, 120, .inr (.inl ex))), (mr 9, .inl (cy 2, 120, .inr (.inl wo))), (mr 28, .inl (cy 1, 6, .inl tso)), (mr 29, .inl (cy 1, 6, .inl (fun k => nI (tsz k)))), (mr 27, .inl (cy 6, 6, .inr (.inr (.inr (.inr tq9))))), (ta, .inl (cy 2, 60, .inr (.inl f)))]) rfl ?_
                        refine x_if_eq C (tgt := 115) dX10_judge_61 (by decide) (q := 64) rfl (a := 0) rfl (fun h32 => ?_) (fun h32 => (by omega : False).elim)
                        refine x_iinc C (L' := [(5, .int (nI (r + 1))), (0, .ref mo), (1, .int (x)), (2, .int (y)), (3, .int (z)), (4, .int (nI cn))]) dX10_judge_115 (q := 118) rfl 5 rfl (v := nI (r + 1)) (nI_add r 1) (by decide) rfl ?_
                        refine x_goto C (tgt := 45) dX10_judge_118 (by decide) ?_
                        refine x_L (L' := [(0, .ref mo), (1, .int (x)), (2, .int (y)), (3, .int (z)), (4, .int (nI cn)), (5, .int (nI (r + 1)))]) [1, 2, 3, 4, 5, 0] rfl ?_
                        exact ih45 (r + 1) cn (by first | omega | assumption) (by first | (rw [gaN_n (by assumption)]; omega) | (rw [gaN_y (by assumption)]; omega)) (by first | omega | assumption) (by first | (rw [gaN_n (by assumption)]; exact hjd) | (have hlt : gaN ld (pLr P) x.toInt.toNat r < gaN ld (pLr P) x.toInt.toNat (pRs P) := (by have hm1 := gaN_mono (ld := ld) (lr := pLr P) (c := x.toInt.toNat) (a := r + 1) (b := pRs P) (by omega); rw [gaN_y (by assumption)] at hm1; omega); have hga := gaF_at (ld := ld) (lr := pLr P) (ty := pSt P x.toInt.toNat) (c := x.toInt.toNat) (g := ga) (r := r) (by assumption) (m := pRs P) (by omega); rw [gaN_y (by assumption), ← hjd]; exact (jdG_go hlt (by omega) (show (z.toInt + ((cn : Nat) : Int)).toNat = z.toInt.toNat + gaN ld (pLr P) x.toInt.toNat r by omega) (by rw [hga]; assumption)).symm)) (by omega)
              refine x_L (L' := [(0, .ref mo), (1, .int (x)), (2, .int (y)), (3, .int (z)), (4, .int (nI 0)), (5, .int (nI 0))]) [2, 3, 4, 5, 1, 0] rfl ?_
              exact cut45 (pRs P - 0 + 1) 0 0 (by first | omega | assumption) (by rfl) (by first | omega | assumption) (by rfl) (by omega)
          · first
            | (exfalso; omega)
            |
              refine x_bipush C dX10_judge_36 (q := 38) rfl (v := (-12)) (by decide) ?_
              refine x_iret C hA hQ hr dX10_judge_38 (Nat.le_of_ble_eq_true rfl) ?_
              refine ⟨?_, rfl⟩
              unfold judA
              dsimp only
              rw [if_neg (by omega), if_pos (by omega)]
    · exfalso; obtain ⟨_, _, hc33⟩ := hp5; omega
  · skip
    obtain ⟨rfl, rfl, hc34⟩ := hp1
    refine x_ws (ws' := [(mo, .inr (9, [.int (nI cols), .int (nI lc), .int (nI smp), .int (ky), .ref (mr 0), .ref (mr 1), .ref (mr 2), .ref (mr 3), .ref (mr 4), .ref (mr 5), .ref (mr 6), .ref (mr 7), .ref (mr 8), .ref (mr 9), .int (nI (pMk P)), .int (nI (pRs P)), .ref (mr 10), .ref (mr 11), .ref (mr 12), .ref (mr 13), .ref (mr 14), .ref (mr 15), .ref (mr 16), .ref (mr 17), .ref (mr 18), .ref (mr 19), .ref (mr 20), .int (nI nse), .int (nI npa), .int (nI nbo), .ref (mr 21), .int (nI tn), .ref (mr 22), .int (nI ik), .int (j0), .int (j1), .ref (mr 23), .int (j2), .ref (mr 24), .ref (mr 25), .int (j3), .ref (mr 26), .int (j4), .ref (mr 27), .ref (mr 28), .ref (mr 29), .ref (mr 30)])), (mr 10, .inl (cy 1, 24, .inl (fun k => nI (lr9 k)))), (mr 3, .inl (cy 1, 5, .inl (fun k => nI (st9 k)))), (mr 6, .inl (cy 1, 24, .inl (fun k => nI (fn k)))), (mr 7, .inl (cy 1, 120, .inl (fun k => nI (fo k)))), (mr 8, .inl (cy 2, 120, .inr (.inl ex))), (mr 9, .inl (cy 2, 120, .inr (.inl wo))), (mr 28, .inl (cy 1, 6, .inl tso)), (mr 29, .inl (cy 1, 6, .inl (fun k => nI (tsz k)))), (mr 27, .inl (cy 6, 6, .inr (.inr (.inr (.inr tq9))))), (ta, .inl (cy 2, 60, .inr (.inl f)))]) rfl ?_
    refine x_if_eq C (tgt := 15) dX10_judge_5 (by decide) (q := 8) rfl (a := 0) rfl (fun h35 => ?_) (fun h35 => (by omega : False).elim)
    refine x_iconst C dX10_judge_15 (q := 16) rfl (v := (-1)) (by decide) ?_
    refine x_iret C hA hQ hr dX10_judge_16 (Nat.le_of_ble_eq_true rfl) ?_
    refine ⟨?_, rfl⟩
    unfold judA
    rw [if_pos (by omega)]

set_option maxHeartbeats 600000 in
set_option maxRecDepth 100000 in
/-- judge, by none -/
theorem c_X10_judge_o (l : Launch) (D : va_G) (cy : Nat → ClassId) (mo : Nat) (mr : Nat → Nat) (cols : Nat) (lc : Nat) (smp : Nat) (mk : Nat) (rs : Nat) (nse : Nat) (npa : Nat) (nbo : Nat) (tn : Nat) (ik : Nat) (ky : Int32) (j0 : Int32) (j1 : Int32) (j2 : Int32) (j3 : Int32) (j4 : Int32) (x : Int32) (y : Int32) (z : Int32) (hcols : cols ≤ 5) (hx : y.toInt < 0 ∨ 6 ≤ y.toInt) : xMet l D cy xT yX10_judge wsX10_judge ({ frames := 6, cells := 0, slots := 0, locals := 900 } : Room) [.ref mo, .int (x), .int (y), .int (z)] [(mo, .inr (9, [.int (nI cols), .int (nI lc), .int (nI smp), .int (ky), .ref (mr 0), .ref (mr 1), .ref (mr 2), .ref (mr 3), .ref (mr 4), .ref (mr 5), .ref (mr 6), .ref (mr 7), .ref (mr 8), .ref (mr 9), .int (nI mk), .int (nI rs), .ref (mr 10), .ref (mr 11), .ref (mr 12), .ref (mr 13), .ref (mr 14), .ref (mr 15), .ref (mr 16), .ref (mr 17), .ref (mr 18), .ref (mr 19), .ref (mr 20), .int (nI nse), .int (nI npa), .int (nI nbo), .ref (mr 21), .int (nI tn), .ref (mr 22), .int (nI ik), .int (j0), .int (j1), .ref (mr 23), .int (j2), .ref (mr 24), .ref (mr 25), .int (j3), .ref (mr 26), .int (j4), .ref (mr 27), .ref (mr 28), .ref (mr 29), .ref (mr 30)]))] [] (fun (v9 : Option Value) (w9 : va_W) => (v9 = some (.int ((-1))) ∧ w9 = [(mo, .inr (9, [.int (nI cols), .int (nI lc), .int (nI smp), .int (ky), .ref (mr 0), .ref (mr 1), .ref (mr 2), .ref (mr 3), .ref (mr 4), .ref (mr 5), .ref (mr 6), .ref (mr 7), .ref (mr 8), .ref (mr 9), .int (nI mk), .int (nI rs), .ref (mr 10), .ref (mr 11), .ref (mr 12), .ref (mr 13), .ref (mr 14), .ref (mr 15), .ref (mr 16), .ref (mr 17), .ref (mr 18), .ref (mr 19), .ref (mr 20), .int (nI nse), .int (nI npa), .int (nI nbo), .ref (mr 21), .int (nI tn), .ref (mr 22), .int (nI ik), .int (j0), .int (j1), .ref (mr 23), .int (j2), .ref (mr 24), .ref (mr 25), .int (j3), .ref (mr 26), .int (j4), .ref (mr 27), .ref (mr 28), .ref (mr 29), .ref (mr 30)]))])) := by
  refine xMet_of (cc := cX10_judge) (maxL := 6) (ret := (some .int)) (by decide) rfl (Nat.le_of_ble_eq_true rfl) (fun p e s m args below meth c A R Q hA hR hQ C hr hnm hro hX => ?_)
  refine x_L (L' := [(0, .ref mo), (1, .int (x)), (2, .int (y)), (3, .int (z))]) [0, 1, 2, 3] rfl ?_
  refine x_aload_n C dX10_judge_0 (q := 1) rfl rfl 0 rfl ?_
  refine x_iload_n C dX10_judge_1 (q := 2) rfl rfl 1 rfl ?_
  refine x_callV C (roW := []) (roR := []) (c_X10_isColumn l D cy mo mr cols lc smp mk rs nse npa nbo tn ik ky j0 j1 j2 j3 j4 x (by first | assumption | omega | (simp only []; omega))) (cwV 1 C.2.2.2.2.1 gX10_judge_X10_isColumn rfl rfl rfl (by decide +kernel) (by rw [hR]; exact ⟨Nat.le_of_ble_eq_true rfl, Nat.le_of_ble_eq_true rfl⟩)) [0] [] rfl (by decide) rfl (by decide) xro_nil (List.mem_of_getElem? (i := 0) rfl) (ci := 9) rfl xT_bl (fun _ _ _ _ _ _ _ => trivial) rfl rfl dX10_judge_2 rfl rfl (Nat.le_of_ble_eq_true rfl) (q := 5) rfl (k' := 0) rfl (n' := 0) rfl (by rw [hR]; exact ⟨Nat.le_of_ble_eq_true rfl, Nat.le_of_ble_eq_true rfl⟩) (fun v1 w1 hp1 => ?_)
  rcases hp1 with hp1 | hp1
  · skip
    obtain ⟨rfl, rfl, hc2, hc3⟩ := hp1
    refine x_ws (ws' := [(mo, .inr (9, [.int (nI cols), .int (nI lc), .int (nI smp), .int (ky), .ref (mr 0), .ref (mr 1), .ref (mr 2), .ref (mr 3), .ref (mr 4), .ref (mr 5), .ref (mr 6), .ref (mr 7), .ref (mr 8), .ref (mr 9), .int (nI mk), .int (nI rs), .ref (mr 10), .ref (mr 11), .ref (mr 12), .ref (mr 13), .ref (mr 14), .ref (mr 15), .ref (mr 16), .ref (mr 17), .ref (mr 18), .ref (mr 19), .ref (mr 20), .int (nI nse), .int (nI npa), .int (nI nbo), .ref (mr 21), .int (nI tn), .ref (mr 22), .int (nI ik), .int (j0), .int (j1), .ref (mr 23), .int (j2), .ref (mr 24), .ref (mr 25), .int (j3), .ref (mr 26), .int (j4), .ref (mr 27), .ref (mr 28), .ref (mr 29), .ref (mr 30)]))]) rfl ?_
    refine x_if_eq C (tgt := 15) dX10_judge_5 (by decide) (q := 8) rfl (a := 1) rfl (fun h4 => (by omega : False).elim) (fun h4 => ?_)
    refine x_iload_n C dX10_judge_8 (q := 9) rfl rfl 2 rfl ?_
    refine x_callS C (roW := []) (roR := []) (c_X10_isTape l D cy y ) (cwS 1 C.2.2.2.2.1 gX10_judge_X10_isTape rfl rfl rfl (by decide +kernel) (by rw [hR]; exact ⟨Nat.le_of_ble_eq_true rfl, Nat.le_of_ble_eq_true rfl⟩)) [] [] rfl (by decide) rfl (by decide) xro_nil xT_bl (fun _ _ _ _ _ _ _ => trivial) rfl rfl dX10_judge_9 rfl rfl (Nat.le_of_ble_eq_true rfl) (q := 12) rfl (k' := 0) rfl (n' := 0) rfl (by rw [hR]; exact ⟨Nat.le_of_ble_eq_true rfl, Nat.le_of_ble_eq_true rfl⟩) (fun v5 w5 hp5 => ?_)
    rcases hp5 with hp5 | hp5
    · exfalso; obtain ⟨_, _, hc6, hc7⟩ := hp5; omega
    · skip
      obtain ⟨rfl, rfl, hc8⟩ := hp5
      refine x_ws (ws' := [(mo, .inr (9, [.int (nI cols), .int (nI lc), .int (nI smp), .int (ky), .ref (mr 0), .ref (mr 1), .ref (mr 2), .ref (mr 3), .ref (mr 4), .ref (mr 5), .ref (mr 6), .ref (mr 7), .ref (mr 8), .ref (mr 9), .int (nI mk), .int (nI rs), .ref (mr 10), .ref (mr 11), .ref (mr 12), .ref (mr 13), .ref (mr 14), .ref (mr 15), .ref (mr 16), .ref (mr 17), .ref (mr 18), .ref (mr 19), .ref (mr 20), .int (nI nse), .int (nI npa), .int (nI nbo), .ref (mr 21), .int (nI tn), .ref (mr 22), .int (nI ik), .int (j0), .int (j1), .ref (mr 23), .int (j2), .ref (mr 24), .ref (mr 25), .int (j3), .ref (mr 26), .int (j4), .ref (mr 27), .ref (mr 28), .ref (mr 29), .ref (mr 30)]))]) (List.append_nil _) ?_
      refine x_if_ne C (tgt := 17) dX10_judge_12 (by decide) (q := 15) rfl (a := 0) rfl (fun h9 => (by omega : False).elim) (fun h9 => ?_)
      refine x_iconst C dX10_judge_15 (q := 16) rfl (v := (-1)) (by decide) ?_
      refine x_iret C hA hQ hr dX10_judge_16 (Nat.le_of_ble_eq_true rfl) ?_
      first | exact ⟨rfl, rfl⟩ | exact ⟨_, rfl, rfl, by first | rfl | omega | assumption⟩ | (refine ⟨_, rfl, rfl, ?_⟩; (first | rfl | omega | (simp only []; omega)))
  · skip
    obtain ⟨rfl, rfl, hc10⟩ := hp1
    refine x_ws (ws' := [(mo, .inr (9, [.int (nI cols), .int (nI lc), .int (nI smp), .int (ky), .ref (mr 0), .ref (mr 1), .ref (mr 2), .ref (mr 3), .ref (mr 4), .ref (mr 5), .ref (mr 6), .ref (mr 7), .ref (mr 8), .ref (mr 9), .int (nI mk), .int (nI rs), .ref (mr 10), .ref (mr 11), .ref (mr 12), .ref (mr 13), .ref (mr 14), .ref (mr 15), .ref (mr 16), .ref (mr 17), .ref (mr 18), .ref (mr 19), .ref (mr 20), .int (nI nse), .int (nI npa), .int (nI nbo), .ref (mr 21), .int (nI tn), .ref (mr 22), .int (nI ik), .int (j0), .int (j1), .ref (mr 23), .int (j2), .ref (mr 24), .ref (mr 25), .int (j3), .ref (mr 26), .int (j4), .ref (mr 27), .ref (mr 28), .ref (mr 29), .ref (mr 30)]))]) rfl ?_
    refine x_if_eq C (tgt := 15) dX10_judge_5 (by decide) (q := 8) rfl (a := 0) rfl (fun h11 => ?_) (fun h11 => (by omega : False).elim)
    refine x_iconst C dX10_judge_15 (q := 16) rfl (v := (-1)) (by decide) ?_
    refine x_iret C hA hQ hr dX10_judge_16 (Nat.le_of_ble_eq_true rfl) ?_
    first | exact ⟨rfl, rfl⟩ | exact ⟨_, rfl, rfl, by first | rfl | omega | assumption⟩ | (refine ⟨_, rfl, rfl, ?_⟩; (first | rfl | omega | (simp only []; omega)))
