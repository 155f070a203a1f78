/-! THE TAPES' CELLS by their number -/
section XTP
variable {cy : Nat → ClassId} {xa mr : Nat → Nat} {mo : Nat} {c0 c1 c2 c3 c4 c5 c6 c7 c8 c9 c10 c11 c12 c13 c14 c15 c16 c17 c18 c19 c20 c21 c22 c23 c24 c25 c26 c27 c28 c29 c30 c31 c32 c33 c34 c35 c36 c37 c38 c39 c40 c41 c42 c43 c44 c45 c46 c47 c48 c49 c50 c51 c52 c53 c54 c55 c56 c57 c58 : va_E} {d0 d1 d2 d3 d4 d5 d6 d7 d8 d9 d10 d11 d12 d13 d14 d15 d16 d17 d18 d19 d20 d21 d22 d23 d24 d25 d26 d27 d28 d29 d30 d31 : va_E} {so : Nat → Int32} {sz : Nat → Nat} {tf : Nat → Nat → Int64} {F T : va_W} {k : Nat}
theorem ft_a (h : k < 6) : (F71 xa c0 c1 c2 c3 c4 c5 c6 c7 c8 c9 c10 c11 c12 c13 c14 c15 c16 c17 c18 c19 c20 c21 c22 c23 c24 c25 c26 c27 c28 c29 c30 c31 c32 c33 c34 c35 c36 c37 c38 c39 c40 c41 c42 c43 c44 c45 c46 c47 c48 c49 c50 c51 c52 c53 c54 c55 c56 c57 c58 (.inr (7, [.ref (xa 60), .int (so 0), .int (nI (sz 0))])) (.inl (cy 2, 60, .inr (.inl (tf 0)))) (.inr (7, [.ref (xa 62), .int (so 1), .int (nI (sz 1))])) (.inl (cy 2, 60, .inr (.inl (tf 1)))) (.inr (7, [.ref (xa 64), .int (so 2), .int (nI (sz 2))])) (.inl (cy 2, 60, .inr (.inl (tf 2)))) (.inr (7, [.ref (xa 66), .int (so 3), .int (nI (sz 3))])) (.inl (cy 2, 60, .inr (.inl (tf 3)))) (.inr (7, [.ref (xa 68), .int (so 4), .int (nI (sz 4))])) (.inl (cy 2, 60, .inr (.inl (tf 4)))) (.inr (7, [.ref (xa 70), .int (so 5), .int (nI (sz 5))])) (.inl (cy 2, 60, .inr (.inl (tf 5)))) ++ T)[59 + 2 * k]? = some (xa (59 + 2 * k), .inr (7, [.ref (xa (60 + 2 * k)), .int (so k), .int (nI (sz k))])) := match k, h with
  | 0, _ => rfl
  | 1, _ => rfl
  | 2, _ => rfl
  | 3, _ => rfl
  | 4, _ => rfl
  | 5, _ => rfl
  | k + 6, h => absurd h (by omega)
theorem ft_b (h : k < 6) : (F71 xa c0 c1 c2 c3 c4 c5 c6 c7 c8 c9 c10 c11 c12 c13 c14 c15 c16 c17 c18 c19 c20 c21 c22 c23 c24 c25 c26 c27 c28 c29 c30 c31 c32 c33 c34 c35 c36 c37 c38 c39 c40 c41 c42 c43 c44 c45 c46 c47 c48 c49 c50 c51 c52 c53 c54 c55 c56 c57 c58 (.inr (7, [.ref (xa 60), .int (so 0), .int (nI (sz 0))])) (.inl (cy 2, 60, .inr (.inl (tf 0)))) (.inr (7, [.ref (xa 62), .int (so 1), .int (nI (sz 1))])) (.inl (cy 2, 60, .inr (.inl (tf 1)))) (.inr (7, [.ref (xa 64), .int (so 2), .int (nI (sz 2))])) (.inl (cy 2, 60, .inr (.inl (tf 2)))) (.inr (7, [.ref (xa 66), .int (so 3), .int (nI (sz 3))])) (.inl (cy 2, 60, .inr (.inl (tf 3)))) (.inr (7, [.ref (xa 68), .int (so 4), .int (nI (sz 4))])) (.inl (cy 2, 60, .inr (.inl (tf 4)))) (.inr (7, [.ref (xa 70), .int (so 5), .int (nI (sz 5))])) (.inl (cy 2, 60, .inr (.inl (tf 5)))) ++ T)[60 + 2 * k]? = some (xa (60 + 2 * k), .inl (cy 2, 60, .inr (.inl (tf k)))) := match k, h with
  | 0, _ => rfl
  | 1, _ => rfl
  | 2, _ => rfl
  | 3, _ => rfl
  | 4, _ => rfl
  | 5, _ => rfl
  | k + 6, h => absurd h (by omega)
theorem ft_sab {a : Int32} {z : Nat} {g : Nat → Int64} (h : k < 6) : ((F71 xa c0 c1 c2 c3 c4 c5 c6 c7 c8 c9 c10 c11 c12 c13 c14 c15 c16 c17 c18 c19 c20 c21 c22 c23 c24 c25 c26 c27 c28 c29 c30 c31 c32 c33 c34 c35 c36 c37 c38 c39 c40 c41 c42 c43 c44 c45 c46 c47 c48 c49 c50 c51 c52 c53 c54 c55 c56 c57 c58 (.inr (7, [.ref (xa 60), .int (so 0), .int (nI (sz 0))])) (.inl (cy 2, 60, .inr (.inl (tf 0)))) (.inr (7, [.ref (xa 62), .int (so 1), .int (nI (sz 1))])) (.inl (cy 2, 60, .inr (.inl (tf 1)))) (.inr (7, [.ref (xa 64), .int (so 2), .int (nI (sz 2))])) (.inl (cy 2, 60, .inr (.inl (tf 2)))) (.inr (7, [.ref (xa 66), .int (so 3), .int (nI (sz 3))])) (.inl (cy 2, 60, .inr (.inl (tf 3)))) (.inr (7, [.ref (xa 68), .int (so 4), .int (nI (sz 4))])) (.inl (cy 2, 60, .inr (.inl (tf 4)))) (.inr (7, [.ref (xa 70), .int (so 5), .int (nI (sz 5))])) (.inl (cy 2, 60, .inr (.inl (tf 5)))) ++ T).set (59 + 2 * k) (xa (59 + 2 * k), .inr (7, [.ref (xa (60 + 2 * k)), .int a, .int (nI z)]))).set (60 + 2 * k) (xa (60 + 2 * k), .inl (cy 2, 60, .inr (.inl g))) = F71 xa c0 c1 c2 c3 c4 c5 c6 c7 c8 c9 c10 c11 c12 c13 c14 c15 c16 c17 c18 c19 c20 c21 c22 c23 c24 c25 c26 c27 c28 c29 c30 c31 c32 c33 c34 c35 c36 c37 c38 c39 c40 c41 c42 c43 c44 c45 c46 c47 c48 c49 c50 c51 c52 c53 c54 c55 c56 c57 c58 (.inr (7, [.ref (xa 60), .int (va_up so k a 0), .int (nI (va_up sz k z 0))])) (.inl (cy 2, 60, .inr (.inl (va_up tf k g 0)))) (.inr (7, [.ref (xa 62), .int (va_up so k a 1), .int (nI (va_up sz k z 1))])) (.inl (cy 2, 60, .inr (.inl (va_up tf k g 1)))) (.inr (7, [.ref (xa 64), .int (va_up so k a 2), .int (nI (va_up sz k z 2))])) (.inl (cy 2, 60, .inr (.inl (va_up tf k g 2)))) (.inr (7, [.ref (xa 66), .int (va_up so k a 3), .int (nI (va_up sz k z 3))])) (.inl (cy 2, 60, .inr (.inl (va_up tf k g 3)))) (.inr (7, [.ref (xa 68), .int (va_up so k a 4), .int (nI (va_up sz k z 4))])) (.inl (cy 2, 60, .inr (.inl (va_up tf k g 4)))) (.inr (7, [.ref (xa 70), .int (va_up so k a 5), .int (nI (va_up sz k z 5))])) (.inl (cy 2, 60, .inr (.inl (va_up tf k g 5)))) ++ T := match k, h with
  | 0, _ => rfl
  | 1, _ => rfl
  | 2, _ => rfl
  | 3, _ => rfl
  | 4, _ => rfl
  | 5, _ => rfl
  | k + 6, h => absurd h (by omega)
theorem ft_sb {g : Nat → Int64} (h : k < 6) : (F71 xa c0 c1 c2 c3 c4 c5 c6 c7 c8 c9 c10 c11 c12 c13 c14 c15 c16 c17 c18 c19 c20 c21 c22 c23 c24 c25 c26 c27 c28 c29 c30 c31 c32 c33 c34 c35 c36 c37 c38 c39 c40 c41 c42 c43 c44 c45 c46 c47 c48 c49 c50 c51 c52 c53 c54 c55 c56 c57 c58 (.inr (7, [.ref (xa 60), .int (so 0), .int (nI (sz 0))])) (.inl (cy 2, 60, .inr (.inl (tf 0)))) (.inr (7, [.ref (xa 62), .int (so 1), .int (nI (sz 1))])) (.inl (cy 2, 60, .inr (.inl (tf 1)))) (.inr (7, [.ref (xa 64), .int (so 2), .int (nI (sz 2))])) (.inl (cy 2, 60, .inr (.inl (tf 2)))) (.inr (7, [.ref (xa 66), .int (so 3), .int (nI (sz 3))])) (.inl (cy 2, 60, .inr (.inl (tf 3)))) (.inr (7, [.ref (xa 68), .int (so 4), .int (nI (sz 4))])) (.inl (cy 2, 60, .inr (.inl (tf 4)))) (.inr (7, [.ref (xa 70), .int (so 5), .int (nI (sz 5))])) (.inl (cy 2, 60, .inr (.inl (tf 5)))) ++ T).set (60 + 2 * k) (xa (60 + 2 * k), .inl (cy 2, 60, .inr (.inl g))) = F71 xa c0 c1 c2 c3 c4 c5 c6 c7 c8 c9 c10 c11 c12 c13 c14 c15 c16 c17 c18 c19 c20 c21 c22 c23 c24 c25 c26 c27 c28 c29 c30 c31 c32 c33 c34 c35 c36 c37 c38 c39 c40 c41 c42 c43 c44 c45 c46 c47 c48 c49 c50 c51 c52 c53 c54 c55 c56 c57 c58 (.inr (7, [.ref (xa 60), .int (so 0), .int (nI (sz 0))])) (.inl (cy 2, 60, .inr (.inl (va_up tf k g 0)))) (.inr (7, [.ref (xa 62), .int (so 1), .int (nI (sz 1))])) (.inl (cy 2, 60, .inr (.inl (va_up tf k g 1)))) (.inr (7, [.ref (xa 64), .int (so 2), .int (nI (sz 2))])) (.inl (cy 2, 60, .inr (.inl (va_up tf k g 2)))) (.inr (7, [.ref (xa 66), .int (so 3), .int (nI (sz 3))])) (.inl (cy 2, 60, .inr (.inl (va_up tf k g 3)))) (.inr (7, [.ref (xa 68), .int (so 4), .int (nI (sz 4))])) (.inl (cy 2, 60, .inr (.inl (va_up tf k g 4)))) (.inr (7, [.ref (xa 70), .int (so 5), .int (nI (sz 5))])) (.inl (cy 2, 60, .inr (.inl (va_up tf k g 5)))) ++ T := match k, h with
  | 0, _ => rfl
  | 1, _ => rfl
  | 2, _ => rfl
  | 3, _ => rfl
  | 4, _ => rfl
  | 5, _ => rfl
  | k + 6, h => absurd h (by omega)
theorem mt_b0 (h : k < 6) : (M38 mo mr d0 d1 d2 d3 d4 d5 d6 d7 d8 d9 d10 d11 d12 d13 d14 d15 d16 d17 d18 d19 d20 d21 d22 d23 d24 d25 d26 d27 d28 d29 d30 d31 (.inl (cy 2, 60, .inr (.inl (tf 0)))) (.inl (cy 2, 60, .inr (.inl (tf 1)))) (.inl (cy 2, 60, .inr (.inl (tf 2)))) (.inl (cy 2, 60, .inr (.inl (tf 3)))) (.inl (cy 2, 60, .inr (.inl (tf 4)))) (.inl (cy 2, 60, .inr (.inl (tf 5)))) ++ T)[32 + k]? = some (mr (31 + k), .inl (cy 2, 60, .inr (.inl (tf k)))) := match k, h with
  | 0, _ => rfl
  | 1, _ => rfl
  | 2, _ => rfl
  | 3, _ => rfl
  | 4, _ => rfl
  | 5, _ => rfl
  | k + 6, h => absurd h (by omega)
theorem mt_sb0 {g : Nat → Int64} (h : k < 6) : (M38 mo mr d0 d1 d2 d3 d4 d5 d6 d7 d8 d9 d10 d11 d12 d13 d14 d15 d16 d17 d18 d19 d20 d21 d22 d23 d24 d25 d26 d27 d28 d29 d30 d31 (.inl (cy 2, 60, .inr (.inl (tf 0)))) (.inl (cy 2, 60, .inr (.inl (tf 1)))) (.inl (cy 2, 60, .inr (.inl (tf 2)))) (.inl (cy 2, 60, .inr (.inl (tf 3)))) (.inl (cy 2, 60, .inr (.inl (tf 4)))) (.inl (cy 2, 60, .inr (.inl (tf 5)))) ++ T).set (32 + k) (mr (31 + k), .inl (cy 2, 60, .inr (.inl g))) = M38 mo mr d0 d1 d2 d3 d4 d5 d6 d7 d8 d9 d10 d11 d12 d13 d14 d15 d16 d17 d18 d19 d20 d21 d22 d23 d24 d25 d26 d27 d28 d29 d30 d31 (.inl (cy 2, 60, .inr (.inl (va_up tf k g 0)))) (.inl (cy 2, 60, .inr (.inl (va_up tf k g 1)))) (.inl (cy 2, 60, .inr (.inl (va_up tf k g 2)))) (.inl (cy 2, 60, .inr (.inl (va_up tf k g 3)))) (.inl (cy 2, 60, .inr (.inl (va_up tf k g 4)))) (.inl (cy 2, 60, .inr (.inl (va_up tf k g 5)))) ++ T := match k, h with
  | 0, _ => rfl
  | 1, _ => rfl
  | 2, _ => rfl
  | 3, _ => rfl
  | 4, _ => rfl
  | 5, _ => rfl
  | k + 6, h => absurd h (by omega)
theorem mt_b (hF : F.length = 71) (h : k < 6) : (F ++ (M38 mo mr d0 d1 d2 d3 d4 d5 d6 d7 d8 d9 d10 d11 d12 d13 d14 d15 d16 d17 d18 d19 d20 d21 d22 d23 d24 d25 d26 d27 d28 d29 d30 d31 (.inl (cy 2, 60, .inr (.inl (tf 0)))) (.inl (cy 2, 60, .inr (.inl (tf 1)))) (.inl (cy 2, 60, .inr (.inl (tf 2)))) (.inl (cy 2, 60, .inr (.inl (tf 3)))) (.inl (cy 2, 60, .inr (.inl (tf 4)))) (.inl (cy 2, 60, .inr (.inl (tf 5)))) ++ T))[103 + k]? = some (mr (31 + k), .inl (cy 2, 60, .inr (.inl (tf k)))) := by
  rw [show 103 + k = 71 + (32 + k) by omega]
  exact lw_at_r hF (mt_b0 h)
theorem mt_sb {g : Nat → Int64} (hF : F.length = 71) (h : k < 6) : (F ++ (M38 mo mr d0 d1 d2 d3 d4 d5 d6 d7 d8 d9 d10 d11 d12 d13 d14 d15 d16 d17 d18 d19 d20 d21 d22 d23 d24 d25 d26 d27 d28 d29 d30 d31 (.inl (cy 2, 60, .inr (.inl (tf 0)))) (.inl (cy 2, 60, .inr (.inl (tf 1)))) (.inl (cy 2, 60, .inr (.inl (tf 2)))) (.inl (cy 2, 60, .inr (.inl (tf 3)))) (.inl (cy 2, 60, .inr (.inl (tf 4)))) (.inl (cy 2, 60, .inr (.inl (tf 5)))) ++ T)).set (103 + k) (mr (31 + k), .inl (cy 2, 60, .inr (.inl g))) = F ++ (M38 mo mr d0 d1 d2 d3 d4 d5 d6 d7 d8 d9 d10 d11 d12 d13 d14 d15 d16 d17 d18 d19 d20 d21 d22 d23 d24 d25 d26 d27 d28 d29 d30 d31 (.inl (cy 2, 60, .inr (.inl (va_up tf k g 0)))) (.inl (cy 2, 60, .inr (.inl (va_up tf k g 1)))) (.inl (cy 2, 60, .inr (.inl (va_up tf k g 2)))) (.inl (cy 2, 60, .inr (.inl (va_up tf k g 3)))) (.inl (cy 2, 60, .inr (.inl (va_up tf k g 4)))) (.inl (cy 2, 60, .inr (.inl (va_up tf k g 5)))) ++ T) := by
  rw [show 103 + k = 71 + (32 + k) by omega]
  exact lw_set_r hF (mt_sb0 h)
end XTP
theorem xput_chg2 {ws ws' cs Z : va_W} {i j : Nat} {is : List Nat} {c c2 : Nat × va_E} (h : (ws.set i c).set j c2 = ws') (k : xput ws' is cs = Z) : xput ws (i :: j :: is) (c :: c2 :: cs) = Z := by
  subst h
  exact k
theorem nd_t4 : ∀ a, a < 6 → va_nd [0, 58, 59 + 2 * a, 60 + 2 * a] = true := by decide
theorem nd_t6 : ∀ a, a < 6 → ∀ b, b < 6 → ¬ b = a → va_nd [0, 58, 59 + 2 * a, 60 + 2 * a, 59 + 2 * b, 60 + 2 * b] = true := by decide
theorem nd_m5 : ∀ a, a < 6 → va_nd [71, 100, 101, 99, 103 + a] = true := by decide
theorem nd_m6 : ∀ a, a < 6 → va_nd [71, 100, 101, 99, 102, 103 + a] = true := by decide
theorem nd_m7 : ∀ a, a < 6 → ∀ b, b < 6 → ¬ b = a → va_nd [71, 100, 101, 99, 102, 103 + a, 103 + b] = true := by decide
theorem nd_j : ∀ a, a < 6 → va_nd [0, 8, 9, 10, 11, 28, 12, 13, 14, 15, 16, 17, 18, 57, 58, 59 + 2 * a, 60 + 2 * a] = true := by decide
theorem lt_j : ∀ a, a < 6 → [0, 8, 9, 10, 11, 28, 12, 13, 14, 15, 16, 17, 18, 57, 58, 59 + 2 * a, 60 + 2 * a].all (fun i => decide (i < 109)) = true := by decide
theorem nd_mj : ∀ a, a < 6 → va_nd [71, 82, 75, 78, 79, 80, 81, 100, 101, 99, 103 + a] = true := by decide
theorem tq_at {mr : Nat → Nat} {k : Nat} (h : k < 6) : (fun i => if i < 6 then some (mr (31 + i)) else none) k = some (mr (31 + k)) := if_pos h
