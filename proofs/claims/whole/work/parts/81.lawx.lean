
/-! THE LAW'S SMALL STEPS -/
theorem lw_k148 : Jvm.Cond.constantLong RL 148 (4294967295) ∈ wsL_law := by
  have h : Jvm.Cond.constantLong RL 148 (4294967295) ∈ wsL_law_r1 := List.mem_of_getElem? (i := 6) rfl
  unfold wsL_law
  exact List.mem_append_left _ (List.mem_append_left _ (List.mem_append_left _ (List.mem_append_left _ (List.mem_append_left _ (List.mem_append_left _ (List.mem_append_left _ (List.mem_append_left _ (List.mem_append_left _ (List.mem_append_left _ (List.mem_append_left _ (List.mem_append_left _ (h))))))))))))
/-- the script, which is only read -/
def xSc (A : Nat → Prop) (s : State) (b Ln : Nat) (xs : Nat → Int32) : Prop := va_X b Ln xs s s.heap ∧ b < s.heap.size ∧ ¬ A b
section XLX
variable {p : Program} {l : Launch} {e : Env} {R : Room} {s : State} {m : MethodId} {args : Array Value} {below : List Frame} {meth : Method} {c : Code} {Q : State → Prop} {D : va_G} {cy : Nat → ClassId} {A : Nat → Prop} {cc : ByteArray} {Ts : List Cond} {own : String} {ws : va_W} {k n pc q : Nat} {st : List Value}
theorem x_sld {nL : Nat} {L : List (Nat × Value)} (C : xC p s m args meth c D cy A nL cc Ts own) {b Ln j : Nat} {xs : Nat → Int32} {i : Int32} (hsc : xSc A s b Ln xs) (hi : i.toInt = (j : Int)) (hj : j < Ln) (hdg : decode cc pc = .ok (.iaload, 1)) (hq : pc + 1 = q) (kk : xG p l e R s m args below meth c Q D A nL ws k n q L (.int (xs j) :: st)) : xG p l e R s m args below meth c Q D A nL ws k n pc L (.int i :: .ref b :: st) := by
  subst hq
  exact fun H locs ls hP hD hS hl => va_sld C.1 C.2.1 hsc.1 hsc.2.1 hsc.2.2 hS (x_in hi hj) hdg (by rw [x_cl hi]; exact kk H locs ls hP hD hS hl)
theorem x_slen {nL : Nat} {L : List (Nat × Value)} (C : xC p s m args meth c D cy A nL cc Ts own) {b Ln : Nat} {xs : Nat → Int32} (hsc : xSc A s b Ln xs) (hdg : decode cc pc = .ok (.arraylength, 1)) (hq : pc + 1 = q) (kk : xG p l e R s m args below meth c Q D A nL ws k n q L (.int (nI Ln) :: st)) : xG p l e R s m args below meth c Q D A nL ws k n pc L (.ref b :: st) := by
  subst hq
  exact fun H locs ls hP hD hS hl => va_slen C.1 C.2.1 hsc.1 hsc.2.1 hsc.2.2 hS hdg (kk H locs ls hP hD hS hl)
theorem lw_arg (C : xC p s m args meth c D cy A 4 cc Ts own) {b Ln mo i j : Nat} {xa : Nat → Nat} {xs : Nat → Int32} (hsc : xSc A s b Ln xs) (hi : i + j < Ln) (hL : Ln ≤ 3072) (d0 : decode cc pc = .ok (.aload_n 0, 1)) (d1 : decode cc (pc + 1) = .ok (.iload_n 3, 1)) (d2 : decode cc (pc + 2) = .ok (.iconst (j : Int), 1)) (d3 : decode cc (pc + 3) = .ok (.iadd, 1)) (d4 : decode cc (pc + 4) = .ok (.iaload, 1)) (hq : pc + 5 = q)
    (kk : xG p l e R s m args below meth c Q D A 4 ws k n q (L4 b xa mo i) (.int (xs (i + j)) :: st)) : xG p l e R s m args below meth c Q D A 4 ws k n pc (L4 b xa mo i) st := by
  subst hq
  refine x_aload_n C d0 (q := pc + 1) rfl rfl 0 rfl ?_
  refine x_iload_n C d1 (q := pc + 2) rfl rfl 3 rfl ?_
  refine x_iconst C d2 (q := pc + 3) rfl (v := nI j) rfl ?_
  refine x_iadd C d3 (q := pc + 4) rfl (z := nI (i + j)) (nI_add i j) ?_
  refine x_sld C (j := i + j) hsc (nI_toInt (by omega)) hi d4 (q := pc + 5) rfl ?_
  exact kk
theorem lw_bool (C : xC p s m args meth c D cy A 4 cc Ts own) {L : List (Nat × Value)} {x : Int32} (d0 : decode cc pc = .ok (.ifCond .eq 7, 3)) (d1 : decode cc (pc + 3) = .ok (.iconst 1, 1)) (d2 : decode cc (pc + 4) = .ok (.goto 4, 3)) (d3 : decode cc (pc + 7) = .ok (.iconst 0, 1)) (hq : pc + 8 = q)
    (kk : xG p l e R s m args below meth c Q D A 4 ws k n q L (.int (nI (if x.toInt = 0 then 0 else 1)) :: st)) : xG p l e R s m args below meth c Q D A 4 ws k n pc L (.int x :: st) := by
  subst hq
  refine x_if_eq C (tgt := pc + 7) d0 (by omega) (q := pc + 3) rfl (a := x.toInt) rfl (fun h => ?_) (fun h => ?_)
  · rw [if_pos h] at kk
    exact x_iconst C d3 (q := pc + 8) rfl (v := nI 0) rfl kk
  · rw [if_neg h] at kk
    refine x_iconst C d1 (q := pc + 4) rfl (v := nI 1) rfl ?_
    exact x_goto C (tgt := pc + 8) d2 (by omega) kk
end XLX
