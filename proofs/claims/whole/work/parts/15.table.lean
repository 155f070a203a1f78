
/-! A TABLE: its lines' data, votes, guesses -/
abbrev LD : Type := (Nat → Nat) × (Nat → Nat → Nat) × (Nat → Nat → Int64) × (Nat → Nat → Int64) × (Nat → Nat → Nat) × (Nat → Nat → Nat → Nat)
abbrev dNf (ld : LD) : Nat → Nat := ld.1
abbrev dFm (ld : LD) : Nat → Nat → Nat := ld.2.1
abbrev dNm (ld : LD) : Nat → Nat → Int64 := ld.2.2.1
abbrev dWd (ld : LD) : Nat → Nat → Int64 := ld.2.2.2.1
abbrev dBl (ld : LD) : Nat → Nat → Nat := ld.2.2.2.2.1
abbrev dBs (ld : LD) : Nat → Nat → Nat → Nat := ld.2.2.2.2.2
def TbL (cy : Nat → ClassId) (pl : va_W) (lc : Nat) (lnf : Nat → Option Nat) (ld : LD) : Prop :=
  ∀ k, k < lc → ∃ (a fa : Nat) (ad : Nat → Option Nat), lnf k = some a ∧ (a, .inr (3, [.ref fa])) ∈ pl ∧ (fa, .inl (cy 3, dNf ld k, .inr (.inr (.inr (.inr ad))))) ∈ pl ∧ dNf ld k ≤ 61 ∧ LnG cy pl (dNf ld k) (dFm ld k) (dNm ld k) (dWd ld k) (dBl ld k) (dBs ld k) ad
theorem TbL.some {cy : Nat → ClassId} {pl : va_W} {lc : Nat} {lnf : Nat → Option Nat} {ld : LD} (h : TbL cy pl lc lnf ld) : ∀ k, k < lc → ∃ a, lnf k = some a := fun k hk => by
  obtain ⟨a, _, _, h1, _⟩ := h k hk
  exact ⟨a, h1⟩
theorem LnG.some {cy : Nat → ClassId} {pl : va_W} {nf : Nat} {fm : Nat → Nat} {nm wd : Nat → Int64} {bl : Nat → Nat} {bs : Nat → Nat → Nat} {ad : Nat → Option Nat} (h : LnG cy pl nf fm nm wd bl bs ad) : ∀ i, i < nf → ∃ q, ad i = some q := fun i hi => by
  obtain ⟨q, _, h1, _⟩ := h i hi
  exact ⟨q, h1⟩
/-- of the first k lines those that have a form in a column -/
def vts (ld : LD) (c f : Nat) : Nat → Nat
  | 0 => 0
  | k + 1 => vts ld c f k + (if c < dNf ld k ∧ dFm ld k c = f then 1 else 0)
theorem vts_le (ld : LD) (c f : Nat) : ∀ k, vts ld c f k ≤ k
  | 0 => Nat.le_refl 0
  | k + 1 => by
    have := vts_le ld c f k
    unfold vts
    split <;> omega
def vtF (ld : LD) (c z : Nat) : Nat → Nat := fun f => vts ld c f z
theorem vtF_le (ld : LD) (c z : Nat) (h : z ≤ 24) : ∀ f, vtF ld c z f ≤ 24 := fun f => Nat.le_trans (vts_le ld c f z) h
def gsS (v : Nat → Nat) : Nat :=
  if v 4 < v 3 then (if v 3 < v 2 then (if v 2 < v 1 then 1 else 2) else (if v 3 < v 1 then 1 else 3))
  else (if v 4 < v 2 then (if v 2 < v 1 then 1 else 2) else (if v 4 < v 1 then 1 else 4))
theorem gsS_in (v : Nat → Nat) : 1 ≤ gsS v ∧ gsS v ≤ 4 := by
  unfold gsS
  repeat' split
  all_goals omega
/-- TOLD, else GUESS -/
def tgS (tl : Nat → Nat) (ld : LD) (c z : Nat) : Nat := if tl c = 0 then gsS (vtF ld c z) else tl c
theorem tgS_in {tl : Nat → Nat} {ld : LD} {c z : Nat} (h : tl c ≤ 4) : 1 ≤ tgS tl ld c z ∧ tgS tl ld c z ≤ 4 := by
  unfold tgS
  have := gsS_in (vtF ld c z)
  split <;> omega
/-- SETTLED, else that -/
def tyS (st tl : Nat → Nat) (ld : LD) (c z : Nat) : Nat := if st c = 0 then tgS tl ld c z else st c
theorem x_lookup {p : Program} {l : Launch} {e : Env} {R : Room} {s : State} {m : MethodId} {args : Array Value} {below : List Frame} {meth : Method} {c : Code} {Q : State → Prop} {D : va_G} {cy : Nat → ClassId} {A : Nat → Prop} {nL : Nat} {cc : ByteArray} {Ts : List Cond} {own : String} {ws : va_W} {k n pc : Nat} {L : List (Nat × Value)} {st : List Value} (C : xC p s m args meth c D cy A nL cc Ts own) {dflt off : Int} {ps : Array (Int × Int)} {len tgt : Nat} {x : Int32} (hdg : decode cc pc = .ok (.lookupswitch dflt ps, len)) (hp : (ps.toList.zip (ps.toList.drop 1)).all (fun (a, next) => a.1 < next.1) = true) (ho : Op.lookupswitch.offset ps.toList dflt x.toInt = off) (ht : (pc : Int) + off = (tgt : Int)) (kk : xG p l e R s m args below meth c Q D A nL ws k n tgt L st) : xG p l e R s m args below meth c Q D A nL ws k n pc L (.int x :: st) :=
  fun H locs ls hP hD hS hl => lv_lookup C.1 C.2.1 hdg hp ho ht (kk H locs ls hP hD hS hl)
theorem x_lkx {x : Int32} {a off : Int} {ps : List (Int × Int)} {d : Int} (h : x.toInt = a) (ho : Op.lookupswitch.offset ps d a = off) : Op.lookupswitch.offset ps d x.toInt = off := by rw [h]; exact ho
theorem x_lkn2 {x : Int32} {z a b : Int} {o1 o2 d : Int} (h : x.toInt = z) (hn : ¬ z = a ∧ ¬ z = b) : Op.lookupswitch.offset [(a, o1), (b, o2)] d x.toInt = d := by
  rw [h, Op.lookupswitch.offset_cons, if_neg (fun q => hn.1 q.symm), Op.lookupswitch.offset_cons, if_neg (fun q => hn.2 q.symm)]
  rfl

set_option maxHeartbeats 4000000 in
set_option maxRecDepth 100000 in
/-- Table.hasColumn -/
theorem c_X7_hasColumn (l : Launch) (D : va_G) (cy : Nat → ClassId) (tb : Nat) (nz : Nat) (tl : Nat) (pg : Nat) (se : Nat) (pa : Nat) (bo : Nat) (li : Nat) (ba : Nat) (cols : Nat) (lc : Nat) (smp : Nat) (x : Int32) (hcols : cols ≤ 5) (hlc : lc ≤ 24) : xMet l D cy xT yX7_hasColumn wsX7_hasColumn ({ frames := 1, cells := 0, slots := 0, locals := 0 } : Room) [.ref tb, .int (x)] [] [(tb, .inr (6, [.ref nz, .ref tl, .ref pg, .ref se, .ref pa, .ref bo, .ref li, .ref ba, .int (nI cols), .int (nI lc), .int (nI smp)]))] (fun (v9 : Option Value) (w9 : va_W) => (v9 = some (.int (nI 1)) ∧ w9 = [] ∧ 0 ≤ x.toInt ∧ x.toInt < cols) ∨ (v9 = some (.int (nI 0)) ∧ w9 = [] ∧ (x.toInt < 0 ∨ cols ≤ x.toInt))) := by
  refine xMet_of (cc := cX7_hasColumn) (maxL := 2) (ret := (some .boolean)) (by decide) rfl (Nat.le_of_ble_eq_true rfl) (fun p e s m args below meth c A R Q hA hR hQ C hr hnm hro hX => ?_)
  have hw0 : ∀ w ∈ u_ws RX7 TX7 11, w ∈ wsX7_hasColumn := by decide +kernel
  have hw1 : Cond.fieldLink RX7 49 (TX7 8).1 (TX7 8).2.1 (TX7 8).2.2.1 ∈ wsX7_hasColumn := by decide +kernel
  refine x_L (L' := [(0, .ref tb), (1, .int (x))]) [0, 1] rfl ?_
  refine x_iload_n C dX7_hasColumn_0 (q := 1) rfl rfl 1 rfl ?_
  refine x_if_lt C (tgt := 21) dX7_hasColumn_1 (by decide) (q := 4) rfl (a := x.toInt) rfl (fun h1 => ?_) (fun h1 => ?_)
  · first
    | (exfalso; omega)
    |
      refine x_iconst C dX7_hasColumn_21 (q := 22) rfl (v := nI 0) (by decide) ?_
      refine x_zret C hA hQ hr (ty := .boolean) (by first | rfl | assumption | exact xz_nar _) dX7_hasColumn_22 (Nat.le_of_ble_eq_true rfl) ?_
      first | exact Or.inl ⟨rfl, rfl, by omega, by omega⟩ | exact Or.inr ⟨rfl, rfl, by omega⟩
  · first
    | (exfalso; omega)
    |
      refine x_iload_n C dX7_hasColumn_4 (q := 5) rfl rfl 1 rfl ?_
      refine x_aload_n C dX7_hasColumn_5 (q := 6) rfl rfl 0 rfl ?_
      refine x_getR C (ci := 6) (v := .int (nI cols)) hw0 (hro (tb, .inr (6, [.ref nz, .ref tl, .ref pg, .ref se, .ref pa, .ref bo, .ref li, .ref ba, .int (nI cols), .int (nI lc), .int (nI smp)])) (List.mem_of_getElem? (i := 0) rfl)) rfl 8 (by decide) hw1 rfl dX7_hasColumn_6 (q := 9) rfl ?_
      refine x_icmp_ge C (tgt := 21) dX7_hasColumn_9 (by decide) (q := 12) rfl (a := x.toInt) (b := ((cols : Nat) : Int)) rfl (nI_toInt (by omega)) (fun h2 => ?_) (fun h2 => ?_)
      · first
        | (exfalso; omega)
        |
          refine x_iconst C dX7_hasColumn_21 (q := 22) rfl (v := nI 0) (by decide) ?_
          refine x_zret C hA hQ hr (ty := .boolean) (by first | rfl | assumption | exact xz_nar _) dX7_hasColumn_22 (Nat.le_of_ble_eq_true rfl) ?_
          first | exact Or.inl ⟨rfl, rfl, by omega, by omega⟩ | exact Or.inr ⟨rfl, rfl, by omega⟩
      · first
        | (exfalso; omega)
        |
          refine x_iload_n C dX7_hasColumn_12 (q := 13) rfl rfl 1 rfl ?_
          refine x_iconst C dX7_hasColumn_13 (q := 14) rfl (v := nI 5) (by decide) ?_
          refine x_icmp_ge C (tgt := 21) dX7_hasColumn_14 (by decide) (q := 17) rfl (a := x.toInt) (b := 5) rfl rfl (fun h3 => ?_) (fun h3 => ?_)
          · first
            | (exfalso; omega)
            |
              refine x_iconst C dX7_hasColumn_21 (q := 22) rfl (v := nI 0) (by decide) ?_
              refine x_zret C hA hQ hr (ty := .boolean) (by first | rfl | assumption | exact xz_nar _) dX7_hasColumn_22 (Nat.le_of_ble_eq_true rfl) ?_
              first | exact Or.inl ⟨rfl, rfl, by omega, by omega⟩ | exact Or.inr ⟨rfl, rfl, by omega⟩
          · first
            | (exfalso; omega)
            |
              refine x_iconst C dX7_hasColumn_17 (q := 18) rfl (v := nI 1) (by decide) ?_
              refine x_goto C (tgt := 22) dX7_hasColumn_18 (by decide) ?_
              refine x_zret C hA hQ hr (ty := .boolean) (by first | rfl | assumption | exact xz_nar _) dX7_hasColumn_22 (Nat.le_of_ble_eq_true rfl) ?_
              first | exact Or.inl ⟨rfl, rfl, by omega, by omega⟩ | exact Or.inr ⟨rfl, rfl, by omega⟩

set_option maxHeartbeats 4000000 in
set_option maxRecDepth 100000 in
/-- Table.hasColumn -/
theorem c_X7_hasColumn_n (l : Launch) (D : va_G) (cy : Nat → ClassId) (tb : Nat) (nz : Nat) (tl : Nat) (pg : Nat) (se : Nat) (pa : Nat) (bo : Nat) (li : Nat) (ba : Nat) (cols : Nat) (lc : Nat) (smp : Nat) (cq : Nat) (hcols : cols ≤ 5) (hlc : lc ≤ 24) (hcq : cq < 1000) : xMet l D cy xT yX7_hasColumn wsX7_hasColumn ({ frames := 1, cells := 0, slots := 0, locals := 0 } : Room) [.ref tb, .int (nI cq)] [] [(tb, .inr (6, [.ref nz, .ref tl, .ref pg, .ref se, .ref pa, .ref bo, .ref li, .ref ba, .int (nI cols), .int (nI lc), .int (nI smp)]))] (fun (v9 : Option Value) (w9 : va_W) => (v9 = some (.int (nI 1)) ∧ w9 = [] ∧ cq < cols) ∨ (v9 = some (.int (nI 0)) ∧ w9 = [] ∧ cols ≤ cq)) := by
  refine xMet_of (cc := cX7_hasColumn) (maxL := 2) (ret := (some .boolean)) (by decide) rfl (Nat.le_of_ble_eq_true rfl) (fun p e s m args below meth c A R Q hA hR hQ C hr hnm hro hX => ?_)
  have hw0 : ∀ w ∈ u_ws RX7 TX7 11, w ∈ wsX7_hasColumn := by decide +kernel
  have hw1 : Cond.fieldLink RX7 49 (TX7 8).1 (TX7 8).2.1 (TX7 8).2.2.1 ∈ wsX7_hasColumn := by decide +kernel
  refine x_L (L' := [(0, .ref tb), (1, .int (nI cq))]) [0, 1] rfl ?_
  refine x_iload_n C dX7_hasColumn_0 (q := 1) rfl rfl 1 rfl ?_
  refine x_if_lt C (tgt := 21) dX7_hasColumn_1 (by decide) (q := 4) rfl (a := ((cq : Nat) : Int)) (nI_toInt (by omega)) (fun h1 => ?_) (fun h1 => ?_)
  · first
    | (exfalso; omega)
    |
      refine x_iconst C dX7_hasColumn_21 (q := 22) rfl (v := nI 0) (by decide) ?_
      refine x_zret C hA hQ hr (ty := .boolean) (by first | rfl | assumption | exact xz_nar _) dX7_hasColumn_22 (Nat.le_of_ble_eq_true rfl) ?_
      first | exact Or.inl ⟨rfl, rfl, by omega⟩ | exact Or.inr ⟨rfl, rfl, by omega⟩
  · first
    | (exfalso; omega)
    |
      refine x_iload_n C dX7_hasColumn_4 (q := 5) rfl rfl 1 rfl ?_
      refine x_aload_n C dX7_hasColumn_5 (q := 6) rfl rfl 0 rfl ?_
      refine x_getR C (ci := 6) (v := .int (nI cols)) hw0 (hro (tb, .inr (6, [.ref nz, .ref tl, .ref pg, .ref se, .ref pa, .ref bo, .ref li, .ref ba, .int (nI cols), .int (nI lc), .int (nI smp)])) (List.mem_of_getElem? (i := 0) rfl)) rfl 8 (by decide) hw1 rfl dX7_hasColumn_6 (q := 9) rfl ?_
      refine x_icmp_ge C (tgt := 21) dX7_hasColumn_9 (by decide) (q := 12) rfl (a := ((cq : Nat) : Int)) (b := ((cols : Nat) : Int)) (nI_toInt (by omega)) (nI_toInt (by omega)) (fun h2 => ?_) (fun h2 => ?_)
      · first
        | (exfalso; omega)
        |
          refine x_iconst C dX7_hasColumn_21 (q := 22) rfl (v := nI 0) (by decide) ?_
          refine x_zret C hA hQ hr (ty := .boolean) (by first | rfl | assumption | exact xz_nar _) dX7_hasColumn_22 (Nat.le_of_ble_eq_true rfl) ?_
          first | exact Or.inl ⟨rfl, rfl, by omega⟩ | exact Or.inr ⟨rfl, rfl, by omega⟩
      · first
        | (exfalso; omega)
        |
          refine x_iload_n C dX7_hasColumn_12 (q := 13) rfl rfl 1 rfl ?_
          refine x_iconst C dX7_hasColumn_13 (q := 14) rfl (v := nI 5) (by decide) ?_
          refine x_icmp_ge C (tgt := 21) dX7_hasColumn_14 (by decide) (q := 17) rfl (a := ((cq : Nat) : Int)) (b := 5) (nI_toInt (by omega)) rfl (fun h3 => ?_) (fun h3 => ?_)
          · first
            | (exfalso; omega)
            |
              refine x_iconst C dX7_hasColumn_21 (q := 22) rfl (v := nI 0) (by decide) ?_
              refine x_zret C hA hQ hr (ty := .boolean) (by first | rfl | assumption | exact xz_nar _) dX7_hasColumn_22 (Nat.le_of_ble_eq_true rfl) ?_
              first | exact Or.inl ⟨rfl, rfl, by omega⟩ | exact Or.inr ⟨rfl, rfl, by omega⟩
          · first
            | (exfalso; omega)
            |
              refine x_iconst C dX7_hasColumn_17 (q := 18) rfl (v := nI 1) (by decide) ?_
              refine x_goto C (tgt := 22) dX7_hasColumn_18 (by decide) ?_
              refine x_zret C hA hQ hr (ty := .boolean) (by first | rfl | assumption | exact xz_nar _) dX7_hasColumn_22 (Nat.le_of_ble_eq_true rfl) ?_
              first | exact Or.inl ⟨rfl, rfl, by omega⟩ | exact Or.inr ⟨rfl, rfl, by omega⟩

set_option maxHeartbeats 4000000 in
set_option maxRecDepth 100000 in
/-- Table.lineAt -/
theorem c_X7_lineAt (l : Launch) (D : va_G) (cy : Nat → ClassId) (tb : Nat) (nz : Nat) (tl : Nat) (pg : Nat) (se : Nat) (pa : Nat) (bo : Nat) (li : Nat) (ba : Nat) (cols : Nat) (lc : Nat) (smp : Nat) (lnf : Nat → Option Nat) (x : Int32) (hcols : cols ≤ 5) (hlc : lc ≤ 24) (hln : ∀ k, k < lc → ∃ a, lnf k = some a) : xMet l D cy xT yX7_lineAt wsX7_lineAt ({ frames := 1, cells := 0, slots := 0, locals := 0 } : Room) [.ref tb, .int (x)] [] [(tb, .inr (6, [.ref nz, .ref tl, .ref pg, .ref se, .ref pa, .ref bo, .ref li, .ref ba, .int (nI cols), .int (nI lc), .int (nI smp)])), (li, .inl (cy 4, 24, .inr (.inr (.inr (.inr lnf)))))] (fun (v9 : Option Value) (w9 : va_W) => (∃ a : Nat, v9 = some (.ref a) ∧ w9 = [] ∧ 0 ≤ x.toInt ∧ x.toInt < lc ∧ lnf x.toInt.toNat = some a) ∨ (v9 = some (.null) ∧ w9 = [] ∧ (x.toInt < 0 ∨ lc ≤ x.toInt))) := by
  refine xMet_of (cc := cX7_lineAt) (maxL := 2) (ret := (some (.object "FeatureImport$Line"))) (by decide) rfl (Nat.le_of_ble_eq_true rfl) (fun p e s m args below meth c A R Q hA hR hQ C hr hnm hro hX => ?_)
  have hw0 : ∀ w ∈ u_ws RX7 TX7 11, w ∈ wsX7_lineAt := by decide +kernel
  have hw1 : Cond.fieldLink RX7 53 (TX7 9).1 (TX7 9).2.1 (TX7 9).2.2.1 ∈ wsX7_lineAt := by decide +kernel
  have hw2 : Cond.fieldLink RX7 42 (TX7 6).1 (TX7 6).2.1 (TX7 6).2.2.1 ∈ wsX7_lineAt := by decide +kernel
  refine x_L (L' := [(0, .ref tb), (1, .int (x))]) [0, 1] rfl ?_
  refine x_iload_n C dX7_lineAt_0 (q := 1) rfl rfl 1 rfl ?_
  refine x_if_lt C (tgt := 27) dX7_lineAt_1 (by decide) (q := 4) rfl (a := x.toInt) rfl (fun h1 => ?_) (fun h1 => ?_)
  · first
    | (exfalso; omega)
    |
      refine x_null C dX7_lineAt_27 (q := 28) rfl ?_
      refine x_aret C hA hQ hr (Or.inl ⟨_, rfl⟩) (Or.inl rfl) dX7_lineAt_28 (Nat.le_of_ble_eq_true rfl) ?_
      first | exact Or.inl ⟨a, rfl, rfl, by omega, by omega, ha⟩ | exact Or.inr ⟨rfl, rfl, by omega⟩
  · first
    | (exfalso; omega)
    |
      refine x_iload_n C dX7_lineAt_4 (q := 5) rfl rfl 1 rfl ?_
      refine x_aload_n C dX7_lineAt_5 (q := 6) rfl rfl 0 rfl ?_
      refine x_getR C (ci := 6) (v := .int (nI lc)) hw0 (hro (tb, .inr (6, [.ref nz, .ref tl, .ref pg, .ref se, .ref pa, .ref bo, .ref li, .ref ba, .int (nI cols), .int (nI lc), .int (nI smp)])) (List.mem_of_getElem? (i := 0) rfl)) rfl 9 (by decide) hw1 rfl dX7_lineAt_6 (q := 9) rfl ?_
      refine x_icmp_ge C (tgt := 27) dX7_lineAt_9 (by decide) (q := 12) rfl (a := x.toInt) (b := ((lc : Nat) : Int)) rfl (nI_toInt (by omega)) (fun h2 => ?_) (fun h2 => ?_)
      · first
        | (exfalso; omega)
        |
          refine x_null C dX7_lineAt_27 (q := 28) rfl ?_
          refine x_aret C hA hQ hr (Or.inl ⟨_, rfl⟩) (Or.inl rfl) dX7_lineAt_28 (Nat.le_of_ble_eq_true rfl) ?_
          first | exact Or.inl ⟨a, rfl, rfl, by omega, by omega, ha⟩ | exact Or.inr ⟨rfl, rfl, by omega⟩
      · first
        | (exfalso; omega)
        |
          refine x_iload_n C dX7_lineAt_12 (q := 13) rfl rfl 1 rfl ?_
          refine x_bipush C dX7_lineAt_13 (q := 15) rfl (v := nI 24) (by decide) ?_
          refine x_icmp_ge C (tgt := 27) dX7_lineAt_15 (by decide) (q := 18) rfl (a := x.toInt) (b := 24) rfl rfl (fun h3 => ?_) (fun h3 => ?_)
          · first
            | (exfalso; omega)
            |
              refine x_null C dX7_lineAt_27 (q := 28) rfl ?_
              refine x_aret C hA hQ hr (Or.inl ⟨_, rfl⟩) (Or.inl rfl) dX7_lineAt_28 (Nat.le_of_ble_eq_true rfl) ?_
              first | exact Or.inl ⟨a, rfl, rfl, by omega, by omega, ha⟩ | exact Or.inr ⟨rfl, rfl, by omega⟩
          · first
            | (exfalso; omega)
            |
              refine x_aload_n C dX7_lineAt_18 (q := 19) rfl rfl 0 rfl ?_
              refine x_getR C (ci := 6) (v := .ref li) hw0 (hro (tb, .inr (6, [.ref nz, .ref tl, .ref pg, .ref se, .ref pa, .ref bo, .ref li, .ref ba, .int (nI cols), .int (nI lc), .int (nI smp)])) (List.mem_of_getElem? (i := 0) rfl)) rfl 6 (by decide) hw2 rfl dX7_lineAt_19 (q := 22) rfl ?_
              refine x_iload_n C dX7_lineAt_22 (q := 23) rfl rfl 1 rfl ?_
              obtain ⟨a, ha⟩ := hln x.toInt.toNat (by omega)
              refine x_aald4R C (j := x.toInt.toNat) (v := .ref a) (hro (li, .inl (cy 4, 24, .inr (.inr (.inr (.inr lnf))))) (List.mem_of_getElem? (i := 1) rfl)) (by have h9 := (rfl : (x : Int32).toInt = x.toInt); omega) (by omega) (by rw [ha]; rfl) dX7_lineAt_23 (q := 24) rfl ?_
              refine x_goto C (tgt := 28) dX7_lineAt_24 (by decide) ?_
              refine x_aret C hA hQ hr (Or.inl ⟨_, rfl⟩) (Or.inr ⟨_, rfl⟩) dX7_lineAt_28 (Nat.le_of_ble_eq_true rfl) ?_
              first | exact Or.inl ⟨a, rfl, rfl, by omega, by omega, ha⟩ | exact Or.inr ⟨rfl, rfl, by omega⟩

set_option maxHeartbeats 4000000 in
set_option maxRecDepth 100000 in
/-- Table.lineAt -/
theorem c_X7_lineAt_n (l : Launch) (D : va_G) (cy : Nat → ClassId) (tb : Nat) (nz : Nat) (tl : Nat) (pg : Nat) (se : Nat) (pa : Nat) (bo : Nat) (li : Nat) (ba : Nat) (cols : Nat) (lc : Nat) (smp : Nat) (lnf : Nat → Option Nat) (kq : Nat) (hcols : cols ≤ 5) (hlc : lc ≤ 24) (hln : ∀ k, k < lc → ∃ a, lnf k = some a) (hkq : kq < 1000) : xMet l D cy xT yX7_lineAt wsX7_lineAt ({ frames := 1, cells := 0, slots := 0, locals := 0 } : Room) [.ref tb, .int (nI kq)] [] [(tb, .inr (6, [.ref nz, .ref tl, .ref pg, .ref se, .ref pa, .ref bo, .ref li, .ref ba, .int (nI cols), .int (nI lc), .int (nI smp)])), (li, .inl (cy 4, 24, .inr (.inr (.inr (.inr lnf)))))] (fun (v9 : Option Value) (w9 : va_W) => (∃ a : Nat, v9 = some (.ref a) ∧ w9 = [] ∧ kq < lc ∧ lnf kq = some a) ∨ (v9 = some (.null) ∧ w9 = [] ∧ lc ≤ kq)) := by
  refine xMet_of (cc := cX7_lineAt) (maxL := 2) (ret := (some (.object "FeatureImport$Line"))) (by decide) rfl (Nat.le_of_ble_eq_true rfl) (fun p e s m args below meth c A R Q hA hR hQ C hr hnm hro hX => ?_)
  have hw0 : ∀ w ∈ u_ws RX7 TX7 11, w ∈ wsX7_lineAt := by decide +kernel
  have hw1 : Cond.fieldLink RX7 53 (TX7 9).1 (TX7 9).2.1 (TX7 9).2.2.1 ∈ wsX7_lineAt := by decide +kernel
  have hw2 : Cond.fieldLink RX7 42 (TX7 6).1 (TX7 6).2.1 (TX7 6).2.2.1 ∈ wsX7_lineAt := by decide +kernel
  refine x_L (L' := [(0, .ref tb), (1, .int (nI kq))]) [0, 1] rfl ?_
  refine x_iload_n C dX7_lineAt_0 (q := 1) rfl rfl 1 rfl ?_
  refine x_if_lt C (tgt := 27) dX7_lineAt_1 (by decide) (q := 4) rfl (a := ((kq : Nat) : Int)) (nI_toInt (by omega)) (fun h1 => ?_) (fun h1 => ?_)
  · first
    | (exfalso; omega)
    |
      refine x_null C dX7_lineAt_27 (q := 28) rfl ?_
      refine x_aret C hA hQ hr (Or.inl ⟨_, rfl⟩) (Or.inl rfl) dX7_lineAt_28 (Nat.le_of_ble_eq_true rfl) ?_
      first | exact Or.inl ⟨a, rfl, rfl, by omega, ha⟩ | exact Or.inr ⟨rfl, rfl, by omega⟩
  · first
    | (exfalso; omega)
    |
      refine x_iload_n C dX7_lineAt_4 (q := 5) rfl rfl 1 rfl ?_
      refine x_aload_n C dX7_lineAt_5 (q := 6) rfl rfl 0 rfl ?_
      refine x_getR C (ci := 6) (v := .int (nI lc)) hw0 (hro (tb, .inr (6, [.ref nz, .ref tl, .ref pg, .ref se, .ref pa, .ref bo, .ref li, .ref ba, .int (nI cols), .int (nI lc), .int (nI smp)])) (List.mem_of_getElem? (i := 0) rfl)) rfl 9 (by decide) hw1 rfl dX7_lineAt_6 (q := 9) rfl ?_
      refine x_icmp_ge C (tgt := 27) dX7_lineAt_9 (by decide) (q := 12) rfl (a := ((kq : Nat) : Int)) (b := ((lc : Nat) : Int)) (nI_toInt (by omega)) (nI_toInt (by omega)) (fun h2 => ?_) (fun h2 => ?_)
      · first
        | (exfalso; omega)
        |
          refine x_null C dX7_lineAt_27 (q := 28) rfl ?_
          refine x_aret C hA hQ hr (Or.inl ⟨_, rfl⟩) (Or.inl rfl) dX7_lineAt_28 (Nat.le_of_ble_eq_true rfl) ?_
          first | exact Or.inl ⟨a, rfl, rfl, by omega, ha⟩ | exact Or.inr ⟨rfl, rfl, by omega⟩
      · first
        | (exfalso; omega)
        |
          refine x_iload_n C dX7_lineAt_12 (q := 13) rfl rfl 1 rfl ?_
          refine x_bipush C dX7_lineAt_13 (q := 15) rfl (v := nI 24) (by decide) ?_
          refine x_icmp_ge C (tgt := 27) dX7_lineAt_15 (by decide) (q := 18) rfl (a := ((kq : Nat) : Int)) (b := 24) (nI_toInt (by omega)) rfl (fun h3 => ?_) (fun h3 => ?_)
          · first
            | (exfalso; omega)
            |
              refine x_null C dX7_lineAt_27 (q := 28) rfl ?_
              refine x_aret C hA hQ hr (Or.inl ⟨_, rfl⟩) (Or.inl rfl) dX7_lineAt_28 (Nat.le_of_ble_eq_true rfl) ?_
              first | exact Or.inl ⟨a, rfl, rfl, by omega, ha⟩ | exact Or.inr ⟨rfl, rfl, by omega⟩
          · first
            | (exfalso; omega)
            |
              refine x_aload_n C dX7_lineAt_18 (q := 19) rfl rfl 0 rfl ?_
              refine x_getR C (ci := 6) (v := .ref li) hw0 (hro (tb, .inr (6, [.ref nz, .ref tl, .ref pg, .ref se, .ref pa, .ref bo, .ref li, .ref ba, .int (nI cols), .int (nI lc), .int (nI smp)])) (List.mem_of_getElem? (i := 0) rfl)) rfl 6 (by decide) hw2 rfl dX7_lineAt_19 (q := 22) rfl ?_
              refine x_iload_n C dX7_lineAt_22 (q := 23) rfl rfl 1 rfl ?_
              obtain ⟨a, ha⟩ := hln kq (by omega)
              refine x_aald4R C (j := kq) (v := .ref a) (hro (li, .inl (cy 4, 24, .inr (.inr (.inr (.inr lnf))))) (List.mem_of_getElem? (i := 1) rfl)) (nI_toInt (by omega)) (by omega) (by rw [ha]; rfl) dX7_lineAt_23 (q := 24) rfl ?_
              refine x_goto C (tgt := 28) dX7_lineAt_24 (by decide) ?_
              refine x_aret C hA hQ hr (Or.inl ⟨_, rfl⟩) (Or.inr ⟨_, rfl⟩) dX7_lineAt_28 (Nat.le_of_ble_eq_true rfl) ?_
              first | exact Or.inl ⟨a, rfl, rfl, by omega, ha⟩ | exact Or.inr ⟨rfl, rfl, by omega⟩

set_option maxHeartbeats 4000000 in
set_option maxRecDepth 100000 in
/-- Table.countForms: the votes -/
theorem c_X7_countForms (l : Launch) (D : va_G) (cy : Nat → ClassId) (tb : Nat) (nz : Nat) (tl : Nat) (pg : Nat) (se : Nat) (pa : Nat) (bo : Nat) (li : Nat) (ba : Nat) (cols : Nat) (lc : Nat) (smp : Nat) (lnf : Nat → Option Nat) (bal : Nat → Nat) (ld : LD) (pl : va_W) (cq : Nat) (bz : Nat) (hcols : cols ≤ 5) (hlc : lc ≤ 24) (hTL : TbL cy pl lc lnf ld) (hfm : ∀ k i, dFm ld k i ≤ 4) (hcq : cq < 5) (hbz : bz ≤ 24) : xMet l D cy xT yX7_countForms wsX7_countForms ({ frames := 3, cells := 0, slots := 0, locals := 300 } : Room) [.ref tb, .int (nI cq), .int (nI bz)] [(tb, .inr (6, [.ref nz, .ref tl, .ref pg, .ref se, .ref pa, .ref bo, .ref li, .ref ba, .int (nI cols), .int (nI lc), .int (nI smp)])), (li, .inl (cy 4, 24, .inr (.inr (.inr (.inr lnf))))), (ba, .inl (cy 1, 5, .inl (fun k => nI (bal k))))] pl (fun (v9 : Option Value) (w9 : va_W) => (v9 = none ∧ w9 = [(tb, .inr (6, [.ref nz, .ref tl, .ref pg, .ref se, .ref pa, .ref bo, .ref li, .ref ba, .int (nI cols), .int (nI lc), .int (nI smp)])), (li, .inl (cy 4, 24, .inr (.inr (.inr (.inr lnf))))), (ba, .inl (cy 1, 5, .inl (fun k => nI ((vtF ld cq (min bz lc)) k))))])) := by
  refine xMet_of (cc := cX7_countForms) (maxL := 6) (ret := none) (by decide) rfl (Nat.le_of_ble_eq_true rfl) (fun p e s m args below meth c A R Q hA hR hQ C hr hnm hro hX => ?_)
  have hw0 : ∀ w ∈ u_ws RX7 TX7 11, w ∈ wsX7_countForms := by decide +kernel
  have hw1 : Cond.fieldLink RX7 46 (TX7 7).1 (TX7 7).2.1 (TX7 7).2.2.1 ∈ wsX7_countForms := by decide +kernel
  have hw2 : Cond.fieldLink RX7 53 (TX7 9).1 (TX7 9).2.1 (TX7 9).2.2.1 ∈ wsX7_countForms := by decide +kernel
  have hw3 : ∀ w ∈ u_ws RX1 TX1 4, w ∈ wsX7_countForms := by decide +kernel
  have hw4 : Cond.fieldLink RX7 122 (TX1 1).1 (TX1 1).2.1 (TX1 1).2.2.1 ∈ wsX7_countForms := by decide +kernel
  refine x_L (L' := [(0, .ref tb), (1, .int (nI cq)), (2, .int (nI bz))]) [0, 1, 2] rfl ?_
  have hpool : ∀ q ∈ pl, xRo D A s q := hro
  refine x_aload_n C dX7_countForms_0 (q := 1) rfl rfl 0 rfl ?_
  refine x_get C (ci := 6) (v := .ref ba) hw0 0 rfl rfl 7 (by decide) hw1 rfl dX7_countForms_1 (q := 4) rfl ?_
  refine x_iconst C dX7_countForms_4 (q := 5) rfl (v := nI 0) (by decide) ?_
  refine x_callS C (roW := []) (roR := []) (c_J7_fill_53178 l D cy ba 5 (fun k => nI (bal k)) (nI 0) (by first | assumption | omega | (simp only []; omega))) (va_cwS 2 C.2.2.2.2.1 gX7_countForms_J7_fill_53178 rfl rfl rfl (by decide +kernel) (by rw [hR]; exact ⟨Nat.le_of_ble_eq_true rfl, Nat.le_of_ble_eq_true rfl⟩)) [2] [] rfl (by decide) rfl (by decide) xro_nil xT_bl (fun _ _ _ _ _ _ _ => trivial) rfl rfl dX7_countForms_5 rfl rfl (Nat.le_of_ble_eq_true rfl) (q := 8) rfl (k' := 0) rfl (n' := 0) rfl (by rw [hR]; exact ⟨Nat.le_of_ble_eq_true rfl, Nat.le_of_ble_eq_true rfl⟩) (fun v1 w1 hp1 => ?_)
  obtain ⟨rfl, rfl⟩ := hp1
  refine x_ws (ws' := [(tb, .inr (6, [.ref nz, .ref tl, .ref pg, .ref se, .ref pa, .ref bo, .ref li, .ref ba, .int (nI cols), .int (nI lc), .int (nI smp)])), (li, .inl (cy 4, 24, .inr (.inr (.inr (.inr lnf))))), (ba, .inl (cy 1, 5, .inl (fun _ => (nI 0))))]) rfl ?_
  refine x_ws (ws' := [(tb, .inr (6, [.ref nz, .ref tl, .ref pg, .ref se, .ref pa, .ref bo, .ref li, .ref ba, .int (nI cols), .int (nI lc), .int (nI smp)])), (li, .inl (cy 4, 24, .inr (.inr (.inr (.inr lnf))))), (ba, .inl (cy 1, 5, .inl (fun k => nI ((fun _ => 0) k))))]) rfl ?_
  refine x_iconst C dX7_countForms_8 (q := 9) rfl (v := nI 0) (by decide) ?_
  refine x_istore_n C (L' := [(3, .int (nI 0)), (0, .ref tb), (1, .int (nI cq)), (2, .int (nI bz))]) dX7_countForms_9 (q := 10) rfl rfl (by decide) rfl ?_
  have cut10 : ∀ (fuel : Nat) (i : Nat) (b9 : Nat → Nat), (i ≤ bz) → (i ≤ lc) → (∀ f, f < 5 → b9 f = vts ld cq f i) → lc - i < fuel → xG p l e R s m args below meth c Q D A 6 [(tb, .inr (6, [.ref nz, .ref tl, .ref pg, .ref se, .ref pa, .ref bo, .ref li, .ref ba, .int (nI cols), .int (nI lc), .int (nI smp)])), (li, .inl (cy 4, 24, .inr (.inr (.inr (.inr lnf))))), (ba, .inl (cy 1, 5, .inl (fun k => nI (b9 k))))] 0 0 10 [(0, .ref tb), (1, .int (nI cq)), (2, .int (nI bz)), (3, .int (nI i))] [] := by
    intro fuel
    induction fuel with
    | zero =>
      intro i b9 hi hi2 hb9 hmu
      exact absurd hmu (Nat.not_lt_zero _)
    | succ fuel ih =>
      intro i b9 hi hi2 hb9 hmu
      have ih10 := ih
      clear ih
      refine x_iload_n C dX7_countForms_10 (q := 11) rfl rfl 3 rfl ?_
      refine x_iload_n C dX7_countForms_11 (q := 12) rfl rfl 2 rfl ?_
      refine x_icmp_ge C (tgt := 93) dX7_countForms_12 (by decide) (q := 15) rfl (a := ((i : Nat) : Int)) (b := ((bz : Nat) : Int)) (nI_toInt (by omega)) (nI_toInt (by omega)) (fun h2 => ?_) (fun h2 => ?_)
      · first
        | (exfalso; omega)
        |
          refine x_recI (ws' := [(tb, .inr (6, [.ref nz, .ref tl, .ref pg, .ref se, .ref pa, .ref bo, .ref li, .ref ba, .int (nI cols), .int (nI lc), .int (nI smp)])), (li, .inl (cy 4, 24, .inr (.inr (.inr (.inr lnf))))), (ba, .inl (cy 1, 5, .inl (fun k => nI ((vtF ld cq (min bz lc)) k))))]) 2 rfl (fun f hf => by rw [hb9 f hf, show i = min bz lc by omega]; rfl) rfl ?_
          refine x_vret C hA hQ hr dX7_countForms_93 (Nat.le_of_ble_eq_true rfl) ?_
          first | exact ⟨rfl, rfl⟩ | exact ⟨_, rfl, rfl, by first | rfl | omega | assumption⟩ | (refine ⟨_, rfl, rfl, ?_⟩; (first | rfl | omega | (simp only []; omega)))
      · first
        | (exfalso; omega)
        |
          refine x_iload_n C dX7_countForms_15 (q := 16) rfl rfl 3 rfl ?_
          refine x_aload_n C dX7_countForms_16 (q := 17) rfl rfl 0 rfl ?_
          refine x_get C (ci := 6) (v := .int (nI lc)) hw0 0 rfl rfl 9 (by decide) hw2 rfl dX7_countForms_17 (q := 20) rfl ?_
          refine x_icmp_ge C (tgt := 93) dX7_countForms_20 (by decide) (q := 23) rfl (a := ((i : Nat) : Int)) (b := ((lc : Nat) : Int)) (nI_toInt (by omega)) (nI_toInt (by omega)) (fun h3 => ?_) (fun h3 => ?_)
          · first
            | (exfalso; omega)
            |
              refine x_recI (ws' := [(tb, .inr (6, [.ref nz, .ref tl, .ref pg, .ref se, .ref pa, .ref bo, .ref li, .ref ba, .int (nI cols), .int (nI lc), .int (nI smp)])), (li, .inl (cy 4, 24, .inr (.inr (.inr (.inr lnf))))), (ba, .inl (cy 1, 5, .inl (fun k => nI ((vtF ld cq (min bz lc)) k))))]) 2 rfl (fun f hf => by rw [hb9 f hf, show i = min bz lc by omega]; rfl) rfl ?_
              refine x_vret C hA hQ hr dX7_countForms_93 (Nat.le_of_ble_eq_true rfl) ?_
              first | exact ⟨rfl, rfl⟩ | exact ⟨_, rfl, rfl, by first | rfl | omega | assumption⟩ | (refine ⟨_, rfl, rfl, ?_⟩; (first | rfl | omega | (simp only []; omega)))
          · first
            | (exfalso; omega)
            |
              refine x_aload_n C dX7_countForms_23 (q := 24) rfl rfl 0 rfl ?_
              refine x_iload_n C dX7_countForms_24 (q := 25) rfl rfl 3 rfl ?_
              refine x_callV C (roW := [(tb, .inr (6, [.ref nz, .ref tl, .ref pg, .ref se, .ref pa, .ref bo, .ref li, .ref ba, .int (nI cols), .int (nI lc), .int (nI smp)])), (li, .inl (cy 4, 24, .inr (.inr (.inr (.inr lnf)))))]) (roR := []) (c_X7_lineAt_n l D cy tb nz tl pg se pa bo li ba cols lc smp lnf i (by first | assumption | omega | (simp only []; omega)) (by first | assumption | omega | (simp only []; omega)) (by exact hTL.some) (by first | assumption | omega | (simp only []; omega))) (cwV 1 C.2.2.2.2.1 gX7_countForms_X7_lineAt rfl rfl rfl (by decide +kernel) (by rw [hR]; exact ⟨Nat.le_of_ble_eq_true rfl, Nat.le_of_ble_eq_true rfl⟩)) [] [0, 1] rfl (by decide) rfl (by decide) xro_nil (List.mem_of_getElem? (i := 0) rfl) (ci := 6) rfl xT_bl (fun _ _ _ _ _ _ _ => trivial) rfl rfl dX7_countForms_25 rfl rfl (Nat.le_of_ble_eq_true rfl) (q := 28) rfl (k' := 0) rfl (n' := 0) rfl (by rw [hR]; exact ⟨Nat.le_of_ble_eq_true rfl, Nat.le_of_ble_eq_true rfl⟩) (fun v4 w4 hp4 => ?_)
              rcases hp4 with hp4 | hp4
              · skip
                obtain ⟨a_5, rfl, rfl, hc6, hc7⟩ := hp4
                refine x_ws (ws' := [(tb, .inr (6, [.ref nz, .ref tl, .ref pg, .ref se, .ref pa, .ref bo, .ref li, .ref ba, .int (nI cols), .int (nI lc), .int (nI smp)])), (li, .inl (cy 4, 24, .inr (.inr (.inr (.inr lnf))))), (ba, .inl (cy 1, 5, .inl (fun k => nI (b9 k))))]) (List.append_nil _) ?_
                obtain ⟨a98, fa8, ad8, gA8, gB8, gC8, gD8, gE8⟩ := hTL i (by omega)
                obtain rfl : a_5 = a98 := Option.some.inj (hc7.symm.trans gA8)
                refine x_astore C (L' := [(4, .ref a_5), (0, .ref tb), (1, .int (nI cq)), (2, .int (nI bz)), (3, .int (nI i))]) dX7_countForms_28 (q := 30) rfl (by decide) rfl ?_
                refine x_aload C dX7_countForms_30 (q := 32) rfl 0 rfl ?_
                refine x_ifnonnull C (tgt := 39) dX7_countForms_32 (by decide) ?_
                refine x_aload C dX7_countForms_39 (q := 41) rfl 0 rfl ?_
                refine x_iload_n C dX7_countForms_41 (q := 42) rfl rfl 2 rfl ?_
                refine x_callV C (roW := []) (roR := [(a_5, .inr (3, [.ref fa8])), (fa8, .inl (cy 3, dNf ld i, .inr (.inr (.inr (.inr ad8)))))]) (c_X4_fieldAt_n l D cy a_5 fa8 (dNf ld i) ad8 cq (by omega) (by exact LnG.some (by assumption)) (by first | assumption | omega | (simp only []; omega))) (cwV 1 C.2.2.2.2.1 gX7_countForms_X4_fieldAt rfl rfl rfl (by decide +kernel) (by rw [hR]; exact ⟨Nat.le_of_ble_eq_true rfl, Nat.le_of_ble_eq_true rfl⟩)) [] [] rfl (by decide) rfl (by decide) (xro_cons (hpool _ gB8) (xro_cons (hpool _ gC8) xro_nil)) (List.mem_of_getElem? (i := 0) rfl) (ci := 3) rfl xT_bl (fun _ _ _ _ _ _ _ => trivial) rfl rfl dX7_countForms_42 rfl rfl (Nat.le_of_ble_eq_true rfl) (q := 45) rfl (k' := 0) rfl (n' := 0) rfl (by rw [hR]; exact ⟨Nat.le_of_ble_eq_true rfl, Nat.le_of_ble_eq_true rfl⟩) (fun v9 w9 hp9 => ?_)
                rcases hp9 with hp9 | hp9
                · skip
                  obtain ⟨q_10, rfl, rfl, hc11, hc12⟩ := hp9
                  refine x_ws (ws' := [(tb, .inr (6, [.ref nz, .ref tl, .ref pg, .ref se, .ref pa, .ref bo, .ref li, .ref ba, .int (nI cols), .int (nI lc), .int (nI smp)])), (li, .inl (cy 4, 24, .inr (.inr (.inr (.inr lnf))))), (ba, .inl (cy 1, 5, .inl (fun k => nI (b9 k))))]) (List.append_nil _) ?_
                  obtain ⟨q913, sg13, kA13, kB13, kC13⟩ := gE8 cq (by omega)
                  obtain rfl : q_10 = q913 := Option.some.inj (hc12.symm.trans kA13)
                  have hf913 := hfm i cq
                  refine x_astore C (L' := [(5, .ref q_10), (4, .ref a_5), (0, .ref tb), (1, .int (nI cq)), (2, .int (nI bz)), (3, .int (nI i))]) dX7_countForms_45 (q := 47) rfl (by decide) rfl ?_
                  refine x_aload C dX7_countForms_47 (q := 49) rfl 0 rfl ?_
                  refine x_ifnull C dX7_countForms_49 (q := 52) rfl ?_
                  refine x_aload C dX7_countForms_52 (q := 54) rfl 0 rfl ?_
                  refine x_getR C (ci := 0) (v := .int (nI (dFm ld i cq))) hw3 (hpool _ kB13) rfl 1 (by decide) hw4 rfl dX7_countForms_54 (q := 57) rfl ?_
                  refine x_if_lt C (tgt := 87) dX7_countForms_57 (by decide) (q := 60) rfl (a := ((dFm ld i cq : Nat) : Int)) (nI_toInt (by omega)) (fun h14 => ?_) (fun h14 => ?_)
                  · first
                    | (exfalso; omega)
                    |
                      refine x_iinc C (L' := [(3, .int (nI (i + 1))), (5, .ref q_10), (4, .ref a_5), (0, .ref tb), (1, .int (nI cq)), (2, .int (nI bz))]) dX7_countForms_87 (q := 90) rfl 5 rfl (v := nI (i + 1)) (nI_add i 1) (by decide) rfl ?_
                      refine x_goto C (tgt := 10) dX7_countForms_90 (by decide) ?_
                      refine x_L (L' := [(0, .ref tb), (1, .int (nI cq)), (2, .int (nI bz)), (3, .int (nI (i + 1)))]) [3, 4, 5, 0] rfl ?_
                      exact ih10 (i + 1) b9 (by first | omega | assumption) (by first | omega | assumption) (by intro f hf; unfold vts; first | (by_cases h9 : f = dFm ld i cq; (subst h9; rw [va_up_eq, if_pos ⟨by omega, rfl⟩, hb9 _ hf]); (rw [va_up_ne' h9, if_neg (fun z => h9 z.2.symm), hb9 f hf]; rfl)) | (rw [if_neg (by omega), hb9 f hf]; rfl)) (by omega)
                  · first
                    | (exfalso; omega)
                    |
                      refine x_aload C dX7_countForms_60 (q := 62) rfl 0 rfl ?_
                      refine x_getR C (ci := 0) (v := .int (nI (dFm ld i cq))) hw3 (hpool _ kB13) rfl 1 (by decide) hw4 rfl dX7_countForms_62 (q := 65) rfl ?_
                      refine x_aload_n C dX7_countForms_65 (q := 66) rfl rfl 2 rfl ?_
                      refine x_get C (ci := 6) (v := .ref ba) hw0 0 rfl rfl 7 (by decide) hw1 rfl dX7_countForms_66 (q := 69) rfl ?_
                      refine x_alen C 2 1 rfl rfl (v := nI 5) rfl dX7_countForms_69 (q := 70) rfl ?_
                      refine x_icmp_ge C (tgt := 87) dX7_countForms_70 (by decide) (q := 73) rfl (a := ((dFm ld i cq : Nat) : Int)) (b := 5) (nI_toInt (by omega)) rfl (fun h15 => ?_) (fun h15 => ?_)
                      · first
                        | (exfalso; omega)
                        |
                          refine x_iinc C (L' := [(3, .int (nI (i + 1))), (5, .ref q_10), (4, .ref a_5), (0, .ref tb), (1, .int (nI cq)), (2, .int (nI bz))]) dX7_countForms_87 (q := 90) rfl 5 rfl (v := nI (i + 1)) (nI_add i 1) (by decide) rfl ?_
                          refine x_goto C (tgt := 10) dX7_countForms_90 (by decide) ?_
                          refine x_L (L' := [(0, .ref tb), (1, .int (nI cq)), (2, .int (nI bz)), (3, .int (nI (i + 1)))]) [3, 4, 5, 0] rfl ?_
                          exact ih10 (i + 1) b9 (by first | omega | assumption) (by first | omega | assumption) (by intro f hf; unfold vts; first | (by_cases h9 : f = dFm ld i cq; (subst h9; rw [va_up_eq, if_pos ⟨by omega, rfl⟩, hb9 _ hf]); (rw [va_up_ne' h9, if_neg (fun z => h9 z.2.symm), hb9 f hf]; rfl)) | (rw [if_neg (by omega), hb9 f hf]; rfl)) (by omega)
                      · first
                        | (exfalso; omega)
                        |
                          refine x_aload_n C dX7_countForms_73 (q := 74) rfl rfl 2 rfl ?_
                          refine x_get C (ci := 6) (v := .ref ba) hw0 0 rfl rfl 7 (by decide) hw1 rfl dX7_countForms_74 (q := 77) rfl ?_
                          refine x_aload C dX7_countForms_77 (q := 79) rfl 0 rfl ?_
                          refine x_getR C (ci := 0) (v := .int (nI (dFm ld i cq))) hw3 (hpool _ kB13) rfl 1 (by decide) hw4 rfl dX7_countForms_79 (q := 82) rfl ?_
                          refine x_dup2 C dX7_countForms_82 (q := 83) rfl rfl rfl ?_
                          refine x_iald C (j := dFm ld i cq) (v := nI (b9 (dFm ld i cq))) 2 rfl (nI_toInt (by omega)) (by omega) rfl dX7_countForms_83 (q := 84) rfl ?_
                          refine x_iconst C dX7_countForms_84 (q := 85) rfl (v := nI 1) (by decide) ?_
                          refine x_iadd C dX7_countForms_85 (q := 86) rfl (z := nI (b9 (dFm ld i cq) + 1)) (nI_add (b9 (dFm ld i cq)) 1) ?_
                          refine x_iast C (ws' := [(tb, .inr (6, [.ref nz, .ref tl, .ref pg, .ref se, .ref pa, .ref bo, .ref li, .ref ba, .int (nI cols), .int (nI lc), .int (nI smp)])), (li, .inl (cy 4, 24, .inr (.inr (.inr (.inr lnf))))), (ba, .inl (cy 1, 5, .inl (fun k => nI ((va_up b9 (dFm ld i cq) (b9 (dFm ld i cq) + 1)) k))))]) 2 rfl (j := dFm ld i cq) (nI_toInt (by omega)) (by omega) (xup_n b9 (dFm ld i cq) (b9 (dFm ld i cq) + 1)) rfl dX7_countForms_86 (q := 87) rfl ?_
                          refine x_iinc C (L' := [(3, .int (nI (i + 1))), (5, .ref q_10), (4, .ref a_5), (0, .ref tb), (1, .int (nI cq)), (2, .int (nI bz))]) dX7_countForms_87 (q := 90) rfl 5 rfl (v := nI (i + 1)) (nI_add i 1) (by decide) rfl ?_
                          refine x_goto C (tgt := 10) dX7_countForms_90 (by decide) ?_
                          refine x_L (L' := [(0, .ref tb), (1, .int (nI cq)), (2, .int (nI bz)), (3, .int (nI (i + 1)))]) [3, 4, 5, 0] rfl ?_
                          exact ih10 (i + 1) (va_up b9 (dFm ld i cq) (b9 (dFm ld i cq) + 1)) (by first | omega | assumption) (by first | omega | assumption) (by intro f hf; unfold vts; first | (by_cases h9 : f = dFm ld i cq; (subst h9; rw [va_up_eq, if_pos ⟨by omega, rfl⟩, hb9 _ hf]); (rw [va_up_ne' h9, if_neg (fun z => h9 z.2.symm), hb9 f hf]; rfl)) | (rw [if_neg (by omega), hb9 f hf]; rfl)) (by omega)
                · skip
                  obtain ⟨rfl, rfl, hc16⟩ := hp9
                  refine x_ws (ws' := [(tb, .inr (6, [.ref nz, .ref tl, .ref pg, .ref se, .ref pa, .ref bo, .ref li, .ref ba, .int (nI cols), .int (nI lc), .int (nI smp)])), (li, .inl (cy 4, 24, .inr (.inr (.inr (.inr lnf))))), (ba, .inl (cy 1, 5, .inl (fun k => nI (b9 k))))]) (List.append_nil _) ?_
                  refine x_astoreN C (L' := [(5, .null), (4, .ref a_5), (0, .ref tb), (1, .int (nI cq)), (2, .int (nI bz)), (3, .int (nI i))]) dX7_countForms_45 (q := 47) rfl (by decide) rfl ?_
                  refine x_aloadN C dX7_countForms_47 (q := 49) rfl 0 rfl ?_
                  refine x_ifnullN C (tgt := 87) dX7_countForms_49 (by decide) ?_
                  refine x_iinc C (L' := [(3, .int (nI (i + 1))), (5, .null), (4, .ref a_5), (0, .ref tb), (1, .int (nI cq)), (2, .int (nI bz))]) dX7_countForms_87 (q := 90) rfl 5 rfl (v := nI (i + 1)) (nI_add i 1) (by decide) rfl ?_
                  refine x_goto C (tgt := 10) dX7_countForms_90 (by decide) ?_
                  refine x_L (L' := [(0, .ref tb), (1, .int (nI cq)), (2, .int (nI bz)), (3, .int (nI (i + 1)))]) [3, 4, 5, 0] rfl ?_
                  exact ih10 (i + 1) b9 (by first | omega | assumption) (by first | omega | assumption) (by intro f hf; unfold vts; first | (by_cases h9 : f = dFm ld i cq; (subst h9; rw [va_up_eq, if_pos ⟨by omega, rfl⟩, hb9 _ hf]); (rw [va_up_ne' h9, if_neg (fun z => h9 z.2.symm), hb9 f hf]; rfl)) | (rw [if_neg (by omega), hb9 f hf]; rfl)) (by omega)
              · exfalso; obtain ⟨_, _, hc17⟩ := hp4; omega
  refine x_L (L' := [(0, .ref tb), (1, .int (nI cq)), (2, .int (nI bz)), (3, .int (nI 0))]) [1, 2, 3, 0] rfl ?_
  exact cut10 (lc - 0 + 1) 0 (fun _ => 0) (by first | omega | assumption) (by first | omega | assumption) (by intro f hf; rfl) (by omega)
