theorem xi_add {x y : Int32} {a b : Int} (hx : x.toInt = a) (hy : y.toInt = b) (h1 : -2147483648 ≤ a + b) (h2 : a + b < 2147483648) : (x + y).toInt = a + b := by
  rw [Int32.toInt_add, hx, hy, Int.bmod_eq_of_le (by omega) (by omega)]
theorem xi_sub2 {x y : Int32} {a b : Int} (hx : x.toInt = a) (hy : y.toInt = b) (h1 : -2147483648 ≤ a - b) (h2 : a - b < 2147483648) : (x - y).toInt = a - b := by
  rw [Int32.toInt_sub, hx, hy, Int.bmod_eq_of_le (by omega) (by omega)]
theorem xi_subN {a b c : Nat} (h : b ≤ a) (hc : a - b = c) : nI a - nI b = nI c := by subst hc; exact pk_sub h
theorem xi_ne0 {y : Int32} {b : Int} (hy : y.toInt = b) (h : b ≠ 0) : ¬ y = 0 := fun z => h (by rw [← hy, z]; rfl)
theorem xl_ne0 {y : Int64} {b : Int} (hy : y.toInt = b) (h : b ≠ 0) : ¬ y = 0 := fun z => h (by rw [← hy, z]; rfl)
theorem xl_wide {x : Int32} {a : Int} (hx : x.toInt = a) : x.toInt64.toInt = a := by rw [Int32.toInt_toInt64, hx]
theorem xi_dec (n d : Nat) : nI (n + d) + Int32.ofInt (-(d : Int)) = nI n := by
  have h : Int32.ofInt (-(d : Int)) = -nI d := by
    show _ = -Int32.ofNat d
    rw [Int32.ofInt_neg, Int32.ofInt_natCast]
  rw [h, ← nI_add, Int32.add_assoc, Int32.add_right_neg, Int32.add_zero]
theorem xi_sub (n d : Nat) (h : d ≤ n) : nI n + Int32.ofInt (-(d : Int)) = nI (n - d) := by
  have h2 := xi_dec (n - d) d
  rwa [Nat.sub_add_cancel h] at h2
theorem xi_i2b {n : Nat} (h : n < 128) : (nI n).toInt8.toInt32 = nI n := by
  apply Int32.toInt_inj.1
  rw [Int8.toInt_toInt32, Int32.toInt_toInt8, nI_toInt (by omega), Int.bmod_eq_of_le (by omega) (by omega)]
theorem xi_nb {n : Nat} (h : n < 128) : vp_nar .byte (nI n) = nI n := by rw [vp_nar_byte]; exact xi_i2b h
theorem xup_n (f : Nat → Nat) (j v : Nat) : va_up (fun k => nI (f k)) j (nI v) = fun k => nI (va_up f j v k) := by
  funext k
  simp only [va_up]
  split <;> rfl
theorem xi_rng (x : Int32) : -2147483648 ≤ x.toInt ∧ x.toInt < 2147483648 := by
  have h1 := Int32.le_toInt x
  have h2 := Int32.toInt_lt x
  omega
/-- a truth as Java has it -/
def bI (b : Bool) : Int32 := if b then 1 else 0
theorem xz_nar (b : Bool) : narrow .boolean (.int (bI b)) = .int (bI b) := by cases b <;> rfl
theorem bI_t : bI true = 1 := rfl
theorem bI_f : bI false = 0 := rfl
theorem bI_toInt (b : Bool) : (bI b).toInt = if b then 1 else 0 := by cases b <;> rfl
/-- how many places from 'from' on, below 'to', have it -/
def runLen (P : Nat → Bool) (to : Nat) : Nat → Nat → Nat
  | 0, _ => 0
  | f + 1, k => if k < to ∧ P k = true then runLen P to f (k + 1) + 1 else 0
