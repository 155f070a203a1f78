theorem xi_add {x y : Int32} {a b : Int} (hx : x.toInt = a) (hy : y.toInt = b) (h1 : -2147483648 ≤ a + b) (h2 : a + b < 2147483648) : (x + y).toInt = a + b := by
  rw [Int32.toInt_add, hx, hy, Int.bmod_eq_of_le (by omega) (by omega)]
theorem xi_sub2 {x y : Int32} {a b : Int} (hx : x.toInt = a) (hy : y.toInt = b) (h1 : -2147483648 ≤ a - b) (h2 : a - b < 2147483648) : (x - y).toInt = a - b := by
  rw [Int32.toInt_sub, hx, hy, Int.bmod_eq_of_le (by omega) (by omega)]
theorem xi_subN {a b c : Nat} (h : b ≤ a) (hc : a - b = c) : nI a - nI b = nI c := by subst hc; exact pk_sub h
theorem xi_ne0 {y : Int32} {b : Int} (hy : y.toInt = b) (h : b ≠ 0) : ¬ y = 0 := fun z => h (by rw [← hy, z]; rfl)
theorem xl_ne0 {y : Int64} {b : Int} (hy : y.toInt = b) (h : b ≠ 0) : ¬ y = 0 := fun z => h (by rw [← hy, z]; rfl)
theorem xl_wide {x : Int32} {a : Int} (hx : x.toInt = a) : x.toInt64.toInt = a := by rw [Int32.toInt_toInt64, hx]
theorem xi_dec (n d : Nat) : nI (n + d) + Int32.ofInt (-(d : Int)) = nI n := by
  have h : Int32.ofInt (-(d : Int)) = -nI d := by
    show _ = -Int32.ofNat d
    rw [Int32.ofInt_neg, Int32.ofInt_eq_ofNat]
  rw [h, ← nI_add, Int32.add_assoc, Int32.add_right_neg, Int32.add_zero]
theorem xi_sub (n d : Nat) (h : d ≤ n) : nI n + Int32.ofInt (-(d : Int)) = nI (n - d) := by
  have h2 := xi_dec (n - d) d
  rwa [Nat.sub_add_cancel h] at h2
theorem xi_i2b {n : Nat} (h : n < 128) : (nI n).toInt8.toInt32 = nI n := by
  apply Int32.toInt_inj.1
  rw [Int8.toInt_toInt32, Int32.toInt_toInt8, nI_toInt (by omega), Int.bmod_eq_of_le (by omega) (by omega)]
theorem xi_nb {n : Nat} (h : n < 128) : vp_nar .byte (nI n) = nI n := by rw [vp_nar_byte]; exact xi_i2b h
theorem xup_n (f : Nat → Nat) (j v : Nat) : va_up (fun k => nI (f k)) j (nI v) = fun k => nI (va_up f j v k) := by
  funext k
  simp only [va_up]
  split <;> rfl
theorem xi_rng (x : Int32) : -2147483648 ≤ x.toInt ∧ x.toInt < 2147483648 := by
  have h1 := Int32.le_toInt x
  have h2 := Int32.toInt_lt x
  omega
/-- a truth as Java has it -/
def bI (b : Bool) : Int32 := if b then 1 else 0
theorem xz_nar (b : Bool) : narrow .boolean (.int (bI b)) = .int (bI b) := by cases b <;> rfl
theorem bI_t : bI true = 1 := rfl
theorem bI_f : bI false = 0 := rfl
theorem bI_toInt (b : Bool) : (bI b).toInt = if b then 1 else 0 := by cases b <;> rfl
/-- how many places from 'from' on, below 'to', have it -/
def runLen (P : Nat → Bool) (to : Nat) : Nat → Nat → Nat
  | 0, _ => 0
  | f + 1, k => if k < to ∧ P k = true then runLen P to f (k + 1) + 1 else 0
theorem arrV_congr {c : ClassId} {n : Nat} {f g : Nat → Value} (h : ∀ k, k < n → f k = g k) : arrV c n f = arrV c n g := by
  unfold arrV
  congr 1
  apply Array.ext
  · simp
  · intro i h1 h2
    simp only [Array.getElem_ofFn]
    exact h i (by simpa using h1)
theorem xi_max0 {n : Nat} (h : n < 2 ^ 31) : (if nI 0 < nI n then nI n else nI 0) = nI n := by
  split
  · rfl
  · rename_i h1
    rw [Int32.lt_iff_toInt_lt, nI_toInt h, nI_toInt (by decide)] at h1
    have : n = 0 := by omega
    rw [this]
theorem xi_min {a b : Nat} (hb : b < 2 ^ 31) (h : a ≤ b) : (if nI b < nI a then nI b else nI a) = nI a := by
  split
  · rename_i h1
    rw [Int32.lt_iff_toInt_lt, nI_toInt hb, nI_toInt (by omega)] at h1
    omega
  · rfl
section XCG
variable {p : Program} {l : Launch} {e : Env} {R : Room} {s : State} {m : MethodId} {args : Array Value} {below : List Frame} {meth : Method} {c : Code} {Q : State → Prop} {D : va_G} {A : Nat → Prop} {nL : Nat} {ws : va_W} {k n pc : Nat} {L : List (Nat × Value)} {st : List Value}
/-- a row's content by another text of the same items -/
theorem x_recI {a N : Nat} {cA : ClassId} {f g : Nat → Int32} {ws' : va_W} (q0 : Nat) (he : ws[q0]? = some (a, .inl (cA, N, .inl f))) (h : ∀ j, j < N → f j = g j) (hws : ws.set q0 (a, .inl (cA, N, .inl g)) = ws') (kk : xG p l e R s m args below meth c Q D A nL ws' k n pc L st) : xG p l e R s m args below meth c Q D A nL ws k n pc L st := by
  subst hws
  intro H locs ls hP hD hS hl
  refine kk H locs ls (hP.set hD he ?_ (fun _ _ => rfl)) (hD.set he) hS hl
  show H[a]? = some (vp_cell cA (N, .inl g))
  rw [show vp_cell cA (N, .inl g) = vp_cell cA (N, .inl f) from arrV_congr (f := fun j => .int (g j)) (g := fun j => .int (f j)) (fun j hj => by rw [h j hj])]
  exact hP q0 _ he
theorem x_recJ {a N : Nat} {cA : ClassId} {f g : Nat → Int64} {ws' : va_W} (q0 : Nat) (he : ws[q0]? = some (a, .inl (cA, N, .inr (.inl f)))) (h : ∀ j, j < N → f j = g j) (hws : ws.set q0 (a, .inl (cA, N, .inr (.inl g))) = ws') (kk : xG p l e R s m args below meth c Q D A nL ws' k n pc L st) : xG p l e R s m args below meth c Q D A nL ws k n pc L st := by
  subst hws
  intro H locs ls hP hD hS hl
  refine kk H locs ls (hP.set hD he ?_ (fun _ _ => rfl)) (hD.set he) hS hl
  show H[a]? = some (vp_cell cA (N, .inr (.inl g)))
  rw [show vp_cell cA (N, .inr (.inl g)) = vp_cell cA (N, .inr (.inl f)) from arrV_congr (f := fun j => .long (g j)) (g := fun j => .long (f j)) (fun j hj => by rw [h j hj])]
  exact hP q0 _ he
theorem x_recQ {a N : Nat} {cA : ClassId} {f g : Nat → Option Nat} {ws' : va_W} (q0 : Nat) (he : ws[q0]? = some (a, .inl (cA, N, .inr (.inr (.inr (.inr f)))))) (h : ∀ j, j < N → f j = g j) (hws : ws.set q0 (a, .inl (cA, N, .inr (.inr (.inr (.inr g))))) = ws') (kk : xG p l e R s m args below meth c Q D A nL ws' k n pc L st) : xG p l e R s m args below meth c Q D A nL ws k n pc L st := by
  subst hws
  intro H locs ls hP hD hS hl
  refine kk H locs ls (hP.set hD he ?_ (fun _ _ => rfl)) (hD.set he) hS hl
  show H[a]? = some (vp_cell cA (N, .inr (.inr (.inr (.inr g)))))
  rw [show vp_cell cA (N, .inr (.inr (.inr (.inr g)))) = vp_cell cA (N, .inr (.inr (.inr (.inr f)))) from arrV_congr (f := fun j => va_rf (g j)) (g := fun j => va_rf (f j)) (fun j hj => by rw [h j hj])]
  exact hP q0 _ he
end XCG
theorem va_up_eq {α : Type} {f : Nat → α} {k : Nat} {v : α} : va_up f k v k = v := if_pos rfl
theorem va_up_ne' {α : Type} {f : Nat → α} {k j : Nat} {v : α} (h : j ≠ k) : va_up f k v j = f j := if_neg h
theorem va_cpy_all {α : Type} {f g : Nat → α} {N : Nat} : ∀ j, j < N → va_cpy f g 0 0 N j = f j := by
  intro j hj
  unfold va_cpy
  rw [if_pos (by omega)]
  congr 1
  omega
theorem xro_nil {D : va_G} {A : Nat → Prop} {s : State} : ∀ q ∈ ([] : va_W), xRo D A s q := fun _ h => absurd h List.not_mem_nil
theorem xro_cons {D : va_G} {A : Nat → Prop} {s : State} {q0 : Nat × va_E} {l : va_W} (h : xRo D A s q0) (t : ∀ q ∈ l, xRo D A s q) : ∀ q ∈ q0 :: l, xRo D A s q := fun q hq => by
  rcases List.mem_cons.mp hq with e | e
  · rw [e]; exact h
  · exact t q e
