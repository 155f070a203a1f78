/-! WHAT A FIELD IS: pure functions of its bytes -/
theorem runLen_step {P : Nat → Bool} {to k : Nat} (h : k < to) (hp : P k = true) : runLen P to (to - k) k = runLen P to (to - (k + 1)) (k + 1) + 1 := by
  have e : to - k = (to - (k + 1)) + 1 := by omega
  rw [e]
  show (if k < to ∧ P k = true then runLen P to (to - (k + 1)) (k + 1) + 1 else 0) = _
  rw [if_pos ⟨h, hp⟩]
theorem runLen_stop {P : Nat → Bool} {to k : Nat} (f : Nat) (h : ¬ (k < to ∧ P k = true)) : runLen P to f k = 0 := by
  cases f with
  | zero => rfl
  | succ f =>
    show (if k < to ∧ P k = true then runLen P to f (k + 1) + 1 else 0) = 0
    rw [if_neg h]
theorem runLen_le (P : Nat → Bool) (to : Nat) : ∀ f k, runLen P to f k ≤ to - k := by
  intro f
  induction f with
  | zero => intro k; exact Nat.zero_le _
  | succ f ih =>
    intro k
    show (if k < to ∧ P k = true then runLen P to f (k + 1) + 1 else 0) ≤ _
    have := ih (k + 1)
    split <;> omega
theorem runLen_all (P : Nat → Bool) (to : Nat) : ∀ f k j, k ≤ j → j < k + runLen P to f k → P j = true := by
  intro f
  induction f with
  | zero => intro k j h1 h2; exact absurd h2 (by show ¬ j < k + 0; omega)
  | succ f ih =>
    intro k j h1 h2
    have e : runLen P to (f + 1) k = if k < to ∧ P k = true then runLen P to f (k + 1) + 1 else 0 := rfl
    rw [e] at h2
    split at h2
    · rename_i h
      by_cases hj : j = k
      · rw [hj]; exact h.2
      · exact ih (k + 1) j (by omega) (by omega)
    · omega
theorem runLen_end (P : Nat → Bool) (to : Nat) : ∀ f k, to ≤ k + f → k + runLen P to f k < to → P (k + runLen P to f k) = false := by
  intro f
  induction f with
  | zero => intro k h1 h2; exact absurd h2 (by show ¬ k + 0 < to; omega)
  | succ f ih =>
    intro k h1 h2
    have e : runLen P to (f + 1) k = if k < to ∧ P k = true then runLen P to f (k + 1) + 1 else 0 := rfl
    rw [e] at h2 ⊢
    split at h2
    · rename_i h
      rw [if_pos h]
      have := ih (k + 1) (by omega) (by omega)
      rw [show k + (runLen P to f (k + 1) + 1) = k + 1 + runLen P to f (k + 1) by omega]
      exact this
    · rename_i h
      rw [if_neg h]
      by_cases hp : P (k + 0) = true
      · exact absurd ⟨h2, hp⟩ h
      · simpa using hp
theorem runLen_cong {P Q : Nat → Bool} {to : Nat} : ∀ f k, (∀ j, k ≤ j → j < to → P j = Q j) → runLen P to f k = runLen Q to f k := by
  intro f
  induction f with
  | zero => intro k _; rfl
  | succ f ih =>
    intro k h
    show (if k < to ∧ P k = true then runLen P to f (k + 1) + 1 else 0) = (if k < to ∧ Q k = true then runLen Q to f (k + 1) + 1 else 0)
    rw [ih (k + 1) (fun j h1 h2 => h j (by omega) h2)]
    by_cases hk : k < to
    · rw [h k (Nat.le_refl k) hk]
    · rw [if_neg (fun z => hk z.1), if_neg (fun z => hk z.1)]
theorem runLen_shift {P Q : Nat → Bool} (d to : Nat) : ∀ f k, (∀ j, k ≤ j → j < to → P (d + j) = Q j) → runLen P (d + to) f (d + k) = runLen Q to f k := by
  intro f
  induction f with
  | zero => intro k _; rfl
  | succ f ih =>
    intro k h
    show (if d + k < d + to ∧ P (d + k) = true then runLen P (d + to) f (d + k + 1) + 1 else 0) = (if k < to ∧ Q k = true then runLen Q to f (k + 1) + 1 else 0)
    rw [Nat.add_assoc d k 1, ih (k + 1) (fun j h1 h2 => h j (by omega) h2)]
    by_cases hk : k < to
    · rw [h k (Nat.le_refl k) hk]
      by_cases hq : Q k = true
      · rw [if_pos ⟨by omega, hq⟩, if_pos ⟨hk, hq⟩]
      · rw [if_neg (fun z => hq z.2), if_neg (fun z => hq z.2)]
    · rw [if_neg (fun z => hk (by omega)), if_neg (fun z => hk z.1)]
def isDg (b : Nat → Nat) (k : Nat) : Bool := decide (48 ≤ b k) && decide (b k ≤ 57)
theorem isDg_t {b : Nat → Nat} {k : Nat} : isDg b k = true ↔ 48 ≤ b k ∧ b k ≤ 57 := by simp [isDg]
/-- how many digits from k on -/
def dgs (b : Nat → Nat) (to k : Nat) : Nat := runLen (isDg b) to (to - k) k
theorem dgs_le (b : Nat → Nat) (to k : Nat) : dgs b to k ≤ to - k := runLen_le _ _ _ _
theorem dgs_step {b : Nat → Nat} {to k : Nat} (h : k < to) (h1 : 48 ≤ b k) (h2 : b k ≤ 57) : dgs b to k = dgs b to (k + 1) + 1 := runLen_step h (isDg_t.mpr ⟨h1, h2⟩)
theorem dgs_stop {b : Nat → Nat} {to k : Nat} (h : ¬ (k < to ∧ 48 ≤ b k ∧ b k ≤ 57)) : dgs b to k = 0 := runLen_stop _ (fun z => h ⟨z.1, isDg_t.mp z.2⟩)
theorem dgs_all {b : Nat → Nat} {to k j : Nat} (h1 : k ≤ j) (h2 : j < k + dgs b to k) : 48 ≤ b j ∧ b j ≤ 57 := isDg_t.mp (runLen_all _ _ _ _ j h1 h2)
theorem dgs_cong {b c : Nat → Nat} {to k : Nat} (h : ∀ j, k ≤ j → j < to → b j = c j) : dgs b to k = dgs c to k := runLen_cong _ _ (fun j h1 h2 => by unfold isDg; rw [h j h1 h2])
theorem dgs_shift {b c : Nat → Nat} (d : Nat) {to k : Nat} (h : ∀ j, k ≤ j → j < to → b (d + j) = c j) : dgs b (d + to) (d + k) = dgs c to k := by
  unfold dgs
  rw [show d + to - (d + k) = to - k by omega]
  exact runLen_shift d to _ _ (fun j h1 h2 => by unfold isDg; rw [h j h1 h2])
/-- a number of some digits -/
def numD (b : Nat → Nat) (p : Nat) : Nat → Nat
  | 0 => 0
  | k + 1 => numD b p k * 10 + (b (p + k) - 48)
theorem numD_lt {b : Nat → Nat} {p : Nat} : ∀ k, (∀ j, j < k → b (p + j) ≤ 57) → numD b p k < 10 ^ k
  | 0, _ => Nat.one_pos
  | k + 1, h => by
    have h1 := numD_lt k (fun j hj => h j (by omega))
    have h2 := h k (by omega)
    unfold numD
    rw [Nat.pow_succ]
    omega
theorem numD_cong {b c : Nat → Nat} {p d : Nat} : ∀ k, (∀ j, j < k → b (d + p + j) = c (p + j)) → numD b (d + p) k = numD c p k
  | 0, _ => rfl
  | k + 1, h => by
    unfold numD
    rw [numD_cong k (fun j hj => h j (by omega)), h k (by omega)]
/-! dates -/
abbrev isLp (y : Nat) : Prop := y % 4 = 0 ∧ (¬ y % 100 = 0 ∨ y % 400 = 0)
def mTab (m : Nat) : Nat := [0, 31, 59, 90, 120, 151, 181, 212, 243, 273, 304, 334, 365].getD m 0
theorem mTab_le : ∀ m, m ≤ 12 → mTab m ≤ 365 := by decide +kernel
theorem mTab_mono : ∀ m, m < 12 → mTab m + 28 ≤ mTab (m + 1) ∧ mTab (m + 1) ≤ mTab m + 31 := by decide +kernel
def lpD (y : Nat) : Nat := if isLp y then 1 else 0
theorem lpD_le (y : Nat) : lpD y ≤ 1 := by unfold lpD; split <;> omega
/-- how many days a month has; 0: no such month -/
def mLen (y m : Nat) : Nat := if m < 1 ∨ 12 < m then 0 else mTab m - mTab (m - 1) + (if m = 2 then lpD y else 0)
def yD (y : Nat) : Nat := (y - 1) * 365 + (y - 1) / 4 - (y - 1) / 100 + (y - 1) / 400
abbrev dg1 (b : Nat → Nat) (k : Nat) : Prop := 48 ≤ b k ∧ b k ≤ 57
/-- day/month/year; year-month-day -/
abbrev patD (b : Nat → Nat) : Prop := dg1 b 0 ∧ dg1 b 1 ∧ b 2 = 47 ∧ dg1 b 3 ∧ dg1 b 4 ∧ b 5 = 47 ∧ dg1 b 6 ∧ dg1 b 7 ∧ dg1 b 8 ∧ dg1 b 9
abbrev patY (b : Nat → Nat) : Prop := dg1 b 0 ∧ dg1 b 1 ∧ dg1 b 2 ∧ dg1 b 3 ∧ b 4 = 45 ∧ dg1 b 5 ∧ dg1 b 6 ∧ b 7 = 45 ∧ dg1 b 8 ∧ dg1 b 9
def yrS (b : Nat → Nat) : Nat := if b 2 = 47 then numD b 6 4 else numD b 0 4
def moS (b : Nat → Nat) : Nat := if b 2 = 47 then numD b 3 2 else numD b 5 2
def dyS (b : Nat → Nat) : Nat := if b 2 = 47 then numD b 0 2 else numD b 8 2
abbrev dateS (b : Nat → Nat) (len : Nat) : Prop := len = 10 ∧ (patD b ∨ patY b) ∧ 1900 ≤ yrS b ∧ yrS b ≤ 2099 ∧ 1 ≤ dyS b ∧ dyS b ≤ mLen (yrS b) (moS b)
/-- days behind 1 January 2000 -/
def dayS (b : Nat → Nat) : Int := (yD (yrS b) : Int) - (yD 2000 : Int) + ((mTab (moS b - 1) + (if 2 < moS b then lpD (yrS b) else 0) + dyS b : Nat) : Int) - 1
theorem yrS_lt {b : Nat → Nat} (h : patD b ∨ patY b) : yrS b < 10000 := by
  unfold yrS
  split
  · refine numD_lt 4 (fun j hj => ?_)
    have : j = 0 ∨ j = 1 ∨ j = 2 ∨ j = 3 := by omega
    rcases h with h | h <;> rcases this with rfl | rfl | rfl | rfl <;> simp only [Nat.add_zero, Nat.reduceAdd] <;> omega
  · refine numD_lt 4 (fun j hj => ?_)
    have : j = 0 ∨ j = 1 ∨ j = 2 ∨ j = 3 := by omega
    rcases h with h | h <;> rcases this with rfl | rfl | rfl | rfl <;> simp only [Nat.zero_add] <;> omega
theorem moS_lt {b : Nat → Nat} (h : patD b ∨ patY b) : moS b < 100 := by
  unfold moS
  split
  · refine numD_lt 2 (fun j hj => ?_)
    have : j = 0 ∨ j = 1 := by omega
    rcases h with h | h <;> rcases this with rfl | rfl <;> simp only [Nat.add_zero, Nat.reduceAdd] <;> omega
  · refine numD_lt 2 (fun j hj => ?_)
    have : j = 0 ∨ j = 1 := by omega
    rcases h with h | h <;> rcases this with rfl | rfl <;> simp only [Nat.add_zero, Nat.reduceAdd] <;> omega
theorem dyS_lt {b : Nat → Nat} (h : patD b ∨ patY b) : dyS b < 100 := by
  unfold dyS
  split
  · refine numD_lt 2 (fun j hj => ?_)
    have : j = 0 ∨ j = 1 := by omega
    rcases h with h | h <;> rcases this with rfl | rfl <;> simp only [Nat.zero_add] <;> omega
  · refine numD_lt 2 (fun j hj => ?_)
    have : j = 0 ∨ j = 1 := by omega
    rcases h with h | h <;> rcases this with rfl | rfl <;> simp only [Nat.add_zero, Nat.reduceAdd] <;> omega
/-! the form -/
def frB (b : Nat → Nat) : Nat := if b 0 = 45 then 1 else 0
abbrev fracS (b : Nat → Nat) (len p : Nat) : Prop := 1 ≤ dgs b len p ∧ dgs b len p ≤ 3 ∧ p + dgs b len p = len
def formS (b : Nat → Nat) (len : Nat) : Nat :=
  if len = 0 then 0
  else if 1 ≤ dgs b len (frB b) ∧ dgs b len (frB b) ≤ 6 ∧ frB b + dgs b len (frB b) = len then 1
  else if 1 ≤ dgs b len (frB b) ∧ dgs b len (frB b) ≤ 6 ∧ b (frB b + dgs b len (frB b)) = 46 ∧ fracS b len (frB b + dgs b len (frB b) + 1) then 2
  else if dateS b len then 3 else 4
theorem formS_le (b : Nat → Nat) (len : Nat) : formS b len ≤ 4 := by
  unfold formS
  split
  · omega
  · split
    · omega
    · split
      · omega
      · split <;> omega
/-! numbers: the digits, whether a dot came, how many digits behind it -/
def numF (b : Nat → Nat) : Nat → Nat × Nat × Nat
  | 0 => (0, 0, 0)
  | k + 1 =>
    (if 48 ≤ b k ∧ b k ≤ 57 then (numF b k).1 * 10 + (b k - 48) else (numF b k).1,
     if b k = 46 then 1 else (numF b k).2.1,
     if (48 ≤ b k ∧ b k ≤ 57) ∧ (numF b k).2.1 = 1 then (numF b k).2.2 + 1 else (numF b k).2.2)
theorem numF_lt (b : Nat → Nat) : ∀ k, (numF b k).1 < 10 ^ k
  | 0 => Nat.one_pos
  | k + 1 => by
    have h1 := numF_lt b k
    show (if 48 ≤ b k ∧ b k ≤ 57 then (numF b k).1 * 10 + (b k - 48) else (numF b k).1) < _
    rw [Nat.pow_succ]
    split <;> omega
theorem numF_bits (b : Nat → Nat) : ∀ k, (numF b k).2.1 ≤ 1 ∧ (numF b k).2.2 ≤ k
  | 0 => ⟨Nat.zero_le _, Nat.le_refl _⟩
  | k + 1 => by
    have h1 := numF_bits b k
    show (if b k = 46 then 1 else (numF b k).2.1) ≤ 1 ∧ (if (48 ≤ b k ∧ b k ≤ 57) ∧ (numF b k).2.1 = 1 then (numF b k).2.2 + 1 else (numF b k).2.2) ≤ k + 1
    constructor
    · split <;> omega
    · split <;> omega
/-- the number with so many digits behind the dot -/
def scaS (b : Nat → Nat) (len pl : Nat) : Int64 := if 0 < len ∧ b 0 = 45 then -lN ((numF b len).1 * 10 ^ (pl - (numF b len).2.2)) else lN ((numF b len).1 * 10 ^ (pl - (numF b len).2.2))
theorem sca_lt {v t len pl : Nat} (hv : v < 10 ^ len) (hlen : len ≤ 12) (hpl : pl ≤ 3) : v * 10 ^ (pl - t) < 1000000000000000 := by
  have h1 : (10 : Nat) ^ len ≤ 10 ^ 12 := Nat.pow_le_pow_right (by decide) hlen
  have h2 : (10 : Nat) ^ (pl - t) ≤ 10 ^ 3 := Nat.pow_le_pow_right (by decide) (by omega)
  have h3 : v * 10 ^ (pl - t) < 10 ^ 12 * 10 ^ 3 := Nat.mul_lt_mul_of_lt_of_le (by omega) h2 (by decide)
  exact h3
def wordF (b : Nat → Nat) : Nat → Int64
  | 0 => lN 0
  | k + 1 => wordF b k * lN 257 + lN (b k)
def wordS (b : Nat → Nat) (len : Nat) : Int64 := wordF b len
def numS (b : Nat → Nat) (len form : Nat) : Int64 := if form = 1 then scaS b len 0 else if form = 2 then scaS b len 3 else if form = 3 then Int64.ofInt (dayS b) else lN 0
theorem formS_0 {b : Nat → Nat} {len : Nat} (h : len = 0) : formS b len = 0 := if_pos h
theorem formS_1 {b : Nat → Nat} {len fr : Nat} (hf : frB b = fr) (h0 : ¬ len = 0) (h1 : 1 ≤ dgs b len fr) (h2 : dgs b len fr ≤ 6) (h3 : fr + dgs b len fr = len) : formS b len = 1 := by
  subst hf
  unfold formS
  rw [if_neg h0, if_pos ⟨h1, h2, h3⟩]
theorem formS_2 {b : Nat → Nat} {len fr : Nat} (hf : frB b = fr) (h0 : ¬ len = 0) (h1 : 1 ≤ dgs b len fr) (h2 : dgs b len fr ≤ 6) (h3 : ¬ fr + dgs b len fr = len) (h4 : b (fr + dgs b len fr) = 46) (h5 : fracS b len (fr + dgs b len fr + 1)) : formS b len = 2 := by
  subst hf
  unfold formS
  rw [if_neg h0, if_neg (fun z => h3 z.2.2), if_pos ⟨h1, h2, h4, h5⟩]
theorem formS_34 {b : Nat → Nat} {len fr : Nat} (hf : frB b = fr) (h0 : ¬ len = 0) (h1 : ¬ (1 ≤ dgs b len fr ∧ dgs b len fr ≤ 6 ∧ fr + dgs b len fr = len)) (h2 : ¬ (1 ≤ dgs b len fr ∧ dgs b len fr ≤ 6 ∧ b (fr + dgs b len fr) = 46 ∧ fracS b len (fr + dgs b len fr + 1))) : formS b len = if dateS b len then 3 else 4 := by
  subst hf
  unfold formS
  rw [if_neg h0, if_neg h1, if_neg h2]
