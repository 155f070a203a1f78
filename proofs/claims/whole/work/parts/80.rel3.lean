/-! WHAT CLASS AND MODEL SHARE: the common state -/
def R1 (cols lc smp : Nat) (ky : Int32) (tlf : Nat → Nat) : Prop := cols ≤ 5 ∧ lc ≤ 24 ∧ smp ≤ 24 ∧ (-1 ≤ ky.toInt ∧ ky.toInt < cols) ∧ ∀ k, tlf k ≤ 4
def R2 (cols : Nat) (nzf ns9 : Nat → Nat) : Prop := (∀ c, c < cols → ns9 c = nzf c) ∧ ∀ c, c < cols → ns9 c ≤ 4
def R3 (cy : Nat → ClassId) (pl : va_W) (lc : Nat) (lnf : Nat → Option Nat) (ld : LD) (lt : Nat → Nat → Nat) (ln : Nat → Nat) (by9 lz fn fo : Nat → Nat) (ex wo : Nat → Int64) : Prop := TbL cy pl lc lnf ld ∧ (∀ k i, dFm ld k i ≤ 4) ∧ MdL ld lc fn fo ex wo ∧ MdB ld lc by9 lz lt ln ∧ (∀ q, fo q ≤ 4) ∧ (∀ q, fn q ≤ 61) ∧ (∀ k, by9 k < 128) ∧ ∀ q, lz q ≤ 60
def R4 (ld : LD) (cols lc : Nat) (P : PS) (st9 lr9 : Nat → Nat) (rl9 fa9 ca9 dc9 : Nat → Int32) : Prop := InvF ld cols lc P ∧ MdP cols P st9 lr9 rl9 fa9 ca9 dc9 ∧ (∀ k, st9 k ≤ 4) ∧ ∀ k, lr9 k < 24
def R5 (lc nse : Nat) (fs gs fs9 gs9 : Nat → Int32) : Prop := nse ≤ 6 ∧ ∀ i, i < nse → fs i = fs9 i ∧ gs i = gs9 i ∧ 0 ≤ (fs9 i).toInt ∧ (fs9 i).toInt < lc
def R6 (cols npa : Nat) (fp gp fp9 gp9 : Nat → Int32) : Prop := npa ≤ 8 ∧ ∀ i, i < npa → fp i = fp9 i ∧ gp i = gp9 i ∧ ((fp9 i).toInt = 0 → 0 ≤ (gp9 i).toInt ∧ (gp9 i).toInt ≤ 24) ∧ ((fp9 i).toInt = 1 → -1 ≤ (gp9 i).toInt ∧ (gp9 i).toInt < cols)
def R7 (cols nbo : Nat) (fb gb fb9 gb9 : Nat → Int32) : Prop := nbo ≤ 8 ∧ ∀ i, i < nbo → fb i = fb9 i ∧ gb i = gb9 i ∧ 0 ≤ (fb9 i).toInt ∧ (fb9 i).toInt < cols
def RT (cy : Nat → ClassId) (pl : va_W) (cols : Nat) (lc : Nat) (smp : Nat) (nzf : Nat → Nat) (tlf : Nat → Nat) (lnf : Nat → Option Nat) (P : PS) (ky : Int32) (nse : Nat) (fs : Nat → Int32) (gs : Nat → Int32) (npa : Nat) (fp : Nat → Int32) (gp : Nat → Int32) (nbo : Nat) (fb : Nat → Int32) (gb : Nat → Int32) (ns9 : Nat → Nat) (st9 : Nat → Nat) (by9 : Nat → Nat) (lz : Nat → Nat) (fn : Nat → Nat) (fo : Nat → Nat) (ex : Nat → Int64) (wo : Nat → Int64) (lr9 : Nat → Nat) (rl9 : Nat → Int32) (fa9 : Nat → Int32) (ca9 : Nat → Int32) (dc9 : Nat → Int32) (fs9 : Nat → Int32) (gs9 : Nat → Int32) (fp9 : Nat → Int32) (gp9 : Nat → Int32) (fb9 : Nat → Int32) (gb9 : Nat → Int32) (ld : LD) (lt : Nat → Nat → Nat) (ln : Nat → Nat) : Prop := R1 cols lc smp ky tlf ∧ R2 cols nzf ns9 ∧ R3 cy pl lc lnf ld lt ln by9 lz fn fo ex wo ∧ R4 ld cols lc P st9 lr9 rl9 fa9 ca9 dc9 ∧ R5 lc nse fs gs fs9 gs9 ∧ R6 cols npa fp gp fp9 gp9 ∧ R7 cols nbo fb gb fb9 gb9
def I1 (tn : Nat) (tx : Nat → Nat) : Prop := tn ≤ 60 ∧ ∀ k, tx k < 128
def I2 (zs ss nn9 nz9 : Nat → Nat) : Prop := (∀ k, zs k ≤ 4) ∧ (∀ k, ss k ≤ 60) ∧ (∀ k, nn9 k < 128) ∧ ∀ k, nz9 k ≤ 4
def I3 (gn : Nat) (gx sh9 : Nat → Nat) : Prop := gn ≤ 12 ∧ (∀ k, gx k < 128) ∧ ∀ k, sh9 k < 1000
def I5 (cy : Nat → ClassId) (pl : va_W) (kf : Nat) (cols : Nat) (lc : Nat) (smp : Nat) (nzf : Nat → Nat) (tlf : Nat → Nat) (lnf : Nat → Option Nat) (P : PS) (ky : Int32) (nse : Nat) (fs : Nat → Int32) (gs : Nat → Int32) (npa : Nat) (fp : Nat → Int32) (gp : Nat → Int32) (nbo : Nat) (fb : Nat → Int32) (gb : Nat → Int32) (im : Nat → Int64) : Prop := kf ≤ 1 ∧ nse ≤ 6 ∧ npa ≤ 8 ∧ nbo ≤ 8 ∧ lc ≤ 24 ∧ (kf = 1 → ∃ (nm9 : Nat → Nat) (ns9 : Nat → Nat) (st9 : Nat → Nat) (by9 : Nat → Nat) (lz : Nat → Nat) (fn : Nat → Nat) (fo : Nat → Nat) (ex : Nat → Int64) (wo : Nat → Int64) (lr9 : Nat → Nat) (rl9 : Nat → Int32) (fa9 : Nat → Int32) (ca9 : Nat → Int32) (dc9 : Nat → Int32) (fs9 : Nat → Int32) (gs9 : Nat → Int32) (fp9 : Nat → Int32) (gp9 : Nat → Int32) (fb9 : Nat → Int32) (gb9 : Nat → Int32) (ld : LD) (lt : Nat → Nat → Nat) (ln : Nat → Nat), RT cy pl cols lc smp nzf tlf lnf P ky nse fs gs npa fp gp nbo fb gb ns9 st9 by9 lz fn fo ex wo lr9 rl9 fa9 ca9 dc9 fs9 gs9 fp9 gp9 fb9 gb9 ld lt ln ∧ snL (imL cols lc smp ky (pMk P) (pRs P) nse npa nbo nm9 ns9 tlf st9 by9 lz fn fo ex wo lr9 rl9 fa9 ca9 dc9 fs9 gs9 fp9 gp9 fb9 gb9) im 2056)
def I6 (so : Nat → Int32) (sz : Nat → Nat) : Prop := (∀ k, sz k ≤ 60) ∧ (∀ k, -1 ≤ (so k).toInt ∧ (so k).toInt ≤ 4) ∧ ∀ k, (so k).toInt = -1 → sz k = 0
def HS (lnf : Nat → Option Nat) (pl : va_W) : Prop := ∀ k x, lnf k = some x → ∃ fa, (x, .inr (3, [.ref fa])) ∈ pl
def I7 (lnf lnf' : Nat → Option Nat) (pl : va_W) : Prop := HS lnf pl ∧ HS lnf' pl
def INV (cy : Nat → ClassId) (kf : Nat) (tn : Nat) (tx : Nat → Nat) (gn : Nat) (gx : Nat → Nat) (nm : Nat) (ss : Nat → Nat) (zs : Nat → Nat) (cols : Nat) (lc : Nat) (smp : Nat) (nzf : Nat → Nat) (tlf : Nat → Nat) (lnf : Nat → Option Nat) (P : PS) (ky : Int32) (nse : Nat) (fs : Nat → Int32) (gs : Nat → Int32) (npa : Nat) (fp : Nat → Int32) (gp : Nat → Int32) (nbo : Nat) (fb : Nat → Int32) (gb : Nat → Int32) (bal : Nat → Nat) (cols' : Nat) (lc' : Nat) (smp' : Nat) (nzf' : Nat → Nat) (tlf' : Nat → Nat) (lnf' : Nat → Option Nat) (P' : PS) (ky' : Int32) (nse' : Nat) (fs' : Nat → Int32) (gs' : Nat → Int32) (npa' : Nat) (fp' : Nat → Int32) (gp' : Nat → Int32) (nbo' : Nat) (fb' : Nat → Int32) (gb' : Nat → Int32) (Z : PS) (kz : Int32) (ga : Nat → Int64) (so : Nat → Int32) (sz : Nat → Nat) (tf : Nat → Nat → Int64) (j0 : Int32) (j1 : Int32) (j2 : Int32) (j3 : Int32) (j4 : Int32) (nm9 : Nat → Nat) (ns9 : Nat → Nat) (st9 : Nat → Nat) (by9 : Nat → Nat) (lz : Nat → Nat) (fn : Nat → Nat) (fo : Nat → Nat) (ex : Nat → Int64) (wo : Nat → Int64) (lr9 : Nat → Nat) (rl9 : Nat → Int32) (fa9 : Nat → Int32) (ca9 : Nat → Int32) (dc9 : Nat → Int32) (fs9 : Nat → Int32) (gs9 : Nat → Int32) (fp9 : Nat → Int32) (gp9 : Nat → Int32) (fb9 : Nat → Int32) (gb9 : Nat → Int32) (im : Nat → Int64) (mi : Nat → Int32) (nn9 : Nat → Nat) (nz9 : Nat → Nat) (sh9 : Nat → Nat) (mv : Nat → Int64) (ld : LD) (lt : Nat → Nat → Nat) (ln : Nat → Nat) (pl : va_W) : Prop := I1 tn tx ∧ I2 zs ss nn9 nz9 ∧ I3 gn gx sh9 ∧ RT cy pl cols lc smp nzf tlf lnf P ky nse fs gs npa fp gp nbo fb gb ns9 st9 by9 lz fn fo ex wo lr9 rl9 fa9 ca9 dc9 fs9 gs9 fp9 gp9 fb9 gb9 ld lt ln ∧ I5 cy pl kf cols' lc' smp' nzf' tlf' lnf' P' ky' nse' fs' gs' npa' fp' gp' nbo' fb' gb' im ∧ I6 so sz ∧ I7 lnf lnf' pl
abbrev FX (cy : Nat → ClassId) (xa : Nat → Nat) (tpf : Nat → Option Nat) (kf : Nat) (tn : Nat) (tx : Nat → Nat) (gn : Nat) (gx : Nat → Nat) (nm : Nat) (ss : Nat → Nat) (zs : Nat → Nat) (cols : Nat) (lc : Nat) (smp : Nat) (nzf : Nat → Nat) (tlf : Nat → Nat) (lnf : Nat → Option Nat) (P : PS) (ky : Int32) (nse : Nat) (fs : Nat → Int32) (gs : Nat → Int32) (npa : Nat) (fp : Nat → Int32) (gp : Nat → Int32) (nbo : Nat) (fb : Nat → Int32) (gb : Nat → Int32) (bal : Nat → Nat) (cols' : Nat) (lc' : Nat) (smp' : Nat) (nzf' : Nat → Nat) (tlf' : Nat → Nat) (lnf' : Nat → Option Nat) (P' : PS) (ky' : Int32) (nse' : Nat) (fs' : Nat → Int32) (gs' : Nat → Int32) (npa' : Nat) (fp' : Nat → Int32) (gp' : Nat → Int32) (nbo' : Nat) (fb' : Nat → Int32) (gb' : Nat → Int32) (Z : PS) (kz : Int32) (ga : Nat → Int64) (so : Nat → Int32) (sz : Nat → Nat) (tf : Nat → Nat → Int64) : va_W := F71 xa (.inr (8, [.ref (xa 1), .ref (xa 3), .ref (xa 5), .ref (xa 8), .ref (xa 29), .ref (xa 50), .ref (xa 57), .ref (xa 58), .int (nI kf)])) (.inr (5, [.ref (xa 2), .int (nI tn)])) (.inl (cy 0, 60, .inl (fun k => nI (tx k)))) (.inr (5, [.ref (xa 4), .int (nI gn)])) (.inl (cy 0, 12, .inl (fun k => nI (gx k)))) (.inr (2, [.ref (xa 6), .ref (xa 7), .int (nI nm)])) (.inl (cy 1, 5, .inl (fun k => nI (ss k)))) (.inl (cy 1, 5, .inl (fun k => nI (zs k)))) (.inr (6, [.ref (xa 9), .ref (xa 10), .ref (xa 12), .ref (xa 19), .ref (xa 22), .ref (xa 25), .ref (xa 11), .ref (xa 28), .int (nI cols), .int (nI lc), .int (nI smp)])) (.inl (cy 1, 5, .inl (fun k => nI (nzf k)))) (.inl (cy 1, 5, .inl (fun k => nI (tlf k)))) (.inl (cy 4, 24, .inr (.inr (.inr (.inr lnf))))) (.inr (4, [.ref (xa 13), .ref (xa 14), .ref (xa 15), .ref (xa 16), .ref (xa 17), .ref (xa 18), .int (nI (pMk P)), .int (nI (pRs P)), .int (ky)])) (.inl (cy 1, 5, .inl (fun k => nI ((pSt P) k)))) (.inl (cy 1, 24, .inl (pFa P))) (.inl (cy 1, 24, .inl (pCa P))) (.inl (cy 1, 24, .inl (pDc P))) (.inl (cy 1, 24, .inl (pRl P))) (.inl (cy 1, 24, .inl (fun k => nI ((pLr P) k)))) (.inr (1, [.ref (xa 20), .ref (xa 21), .int (nI nse)])) (.inl (cy 1, 6, .inl fs)) (.inl (cy 1, 6, .inl gs)) (.inr (1, [.ref (xa 23), .ref (xa 24), .int (nI npa)])) (.inl (cy 1, 8, .inl fp)) (.inl (cy 1, 8, .inl gp)) (.inr (1, [.ref (xa 26), .ref (xa 27), .int (nI nbo)])) (.inl (cy 1, 8, .inl fb)) (.inl (cy 1, 8, .inl gb)) (.inl (cy 1, 5, .inl (fun k => nI (bal k)))) (.inr (6, [.ref (xa 30), .ref (xa 31), .ref (xa 33), .ref (xa 40), .ref (xa 43), .ref (xa 46), .ref (xa 32), .ref (xa 49), .int (nI cols'), .int (nI lc'), .int (nI smp')])) (.inl (cy 1, 5, .inl (fun k => nI (nzf' k)))) (.inl (cy 1, 5, .inl (fun k => nI (tlf' k)))) (.inl (cy 4, 24, .inr (.inr (.inr (.inr lnf'))))) (.inr (4, [.ref (xa 34), .ref (xa 35), .ref (xa 36), .ref (xa 37), .ref (xa 38), .ref (xa 39), .int (nI (pMk P')), .int (nI (pRs P')), .int (ky')])) (.inl (cy 1, 5, .inl (fun k => nI ((pSt P') k)))) (.inl (cy 1, 24, .inl (pFa P'))) (.inl (cy 1, 24, .inl (pCa P'))) (.inl (cy 1, 24, .inl (pDc P'))) (.inl (cy 1, 24, .inl (pRl P'))) (.inl (cy 1, 24, .inl (fun k => nI ((pLr P') k)))) (.inr (1, [.ref (xa 41), .ref (xa 42), .int (nI nse')])) (.inl (cy 1, 6, .inl fs')) (.inl (cy 1, 6, .inl gs')) (.inr (1, [.ref (xa 44), .ref (xa 45), .int (nI npa')])) (.inl (cy 1, 8, .inl fp')) (.inl (cy 1, 8, .inl gp')) (.inr (1, [.ref (xa 47), .ref (xa 48), .int (nI nbo')])) (.inl (cy 1, 8, .inl fb')) (.inl (cy 1, 8, .inl gb')) (.inl (cy 1, 5, .inl (fun k => nI ((fun _ => 0) k)))) (.inr (4, [.ref (xa 51), .ref (xa 52), .ref (xa 53), .ref (xa 54), .ref (xa 55), .ref (xa 56), .int (nI (pMk Z)), .int (nI (pRs Z)), .int (kz)])) (.inl (cy 1, 5, .inl (fun k => nI ((pSt Z) k)))) (.inl (cy 1, 24, .inl (pFa Z))) (.inl (cy 1, 24, .inl (pCa Z))) (.inl (cy 1, 24, .inl (pDc Z))) (.inl (cy 1, 24, .inl (pRl Z))) (.inl (cy 1, 24, .inl (fun k => nI ((pLr Z) k)))) (.inl (cy 2, 24, .inr (.inl ga))) (.inl (cy 5, 6, .inr (.inr (.inr (.inr tpf))))) (.inr (7, [.ref (xa 60), .int (so 0), .int (nI (sz 0))])) (.inl (cy 2, 60, .inr (.inl (tf 0)))) (.inr (7, [.ref (xa 62), .int (so 1), .int (nI (sz 1))])) (.inl (cy 2, 60, .inr (.inl (tf 1)))) (.inr (7, [.ref (xa 64), .int (so 2), .int (nI (sz 2))])) (.inl (cy 2, 60, .inr (.inl (tf 2)))) (.inr (7, [.ref (xa 66), .int (so 3), .int (nI (sz 3))])) (.inl (cy 2, 60, .inr (.inl (tf 3)))) (.inr (7, [.ref (xa 68), .int (so 4), .int (nI (sz 4))])) (.inl (cy 2, 60, .inr (.inl (tf 4)))) (.inr (7, [.ref (xa 70), .int (so 5), .int (nI (sz 5))])) (.inl (cy 2, 60, .inr (.inl (tf 5))))
abbrev MX (cy : Nat → ClassId) (mo : Nat) (mr : Nat → Nat) (cols : Nat) (lc : Nat) (smp : Nat) (ky : Int32) (mk : Nat) (rs : Nat) (nse : Nat) (npa : Nat) (nbo : Nat) (tn : Nat) (kf : Nat) (j0 : Int32) (j1 : Int32) (j2 : Int32) (j3 : Int32) (j4 : Int32) (nm9 : Nat → Nat) (tlf : Nat → Nat) (ns9 : Nat → Nat) (st9 : Nat → Nat) (by9 : Nat → Nat) (lz : Nat → Nat) (fn : Nat → Nat) (fo : Nat → Nat) (ex : Nat → Int64) (wo : Nat → Int64) (lr9 : Nat → Nat) (rl9 : Nat → Int32) (fa9 : Nat → Int32) (ca9 : Nat → Int32) (dc9 : Nat → Int32) (fs9 : Nat → Int32) (gs9 : Nat → Int32) (fp9 : Nat → Int32) (gp9 : Nat → Int32) (fb9 : Nat → Int32) (gb9 : Nat → Int32) (tx : Nat → Nat) (im : Nat → Int64) (mi : Nat → Int32) (nn9 : Nat → Nat) (nz9 : Nat → Nat) (sh9 : Nat → Nat) (so : Nat → Int32) (sz : Nat → Nat) (mv : Nat → Int64) (tf : Nat → Nat → Int64) : va_W := M38 mo mr (.inr (9, [.int (nI cols), .int (nI lc), .int (nI smp), .int (ky), .ref (mr 0), .ref (mr 1), .ref (mr 2), .ref (mr 3), .ref (mr 4), .ref (mr 5), .ref (mr 6), .ref (mr 7), .ref (mr 8), .ref (mr 9), .int (nI mk), .int (nI rs), .ref (mr 10), .ref (mr 11), .ref (mr 12), .ref (mr 13), .ref (mr 14), .ref (mr 15), .ref (mr 16), .ref (mr 17), .ref (mr 18), .ref (mr 19), .ref (mr 20), .int (nI nse), .int (nI npa), .int (nI nbo), .ref (mr 21), .int (nI tn), .ref (mr 22), .int (nI kf), .int (j0), .int (j1), .ref (mr 23), .int (j2), .ref (mr 24), .ref (mr 25), .int (j3), .ref (mr 26), .int (j4), .ref (mr 27), .ref (mr 28), .ref (mr 29), .ref (mr 30)])) (.inl (cy 1, 20, .inl (fun k => nI (nm9 k)))) (.inl (cy 1, 5, .inl (fun k => nI (ns9 k)))) (.inl (cy 1, 5, .inl (fun k => nI (tlf k)))) (.inl (cy 1, 5, .inl (fun k => nI (st9 k)))) (.inl (cy 1, 1440, .inl (fun k => nI (by9 k)))) (.inl (cy 1, 24, .inl (fun k => nI (lz k)))) (.inl (cy 1, 24, .inl (fun k => nI (fn k)))) (.inl (cy 1, 120, .inl (fun k => nI (fo k)))) (.inl (cy 2, 120, .inr (.inl ex))) (.inl (cy 2, 120, .inr (.inl wo))) (.inl (cy 1, 24, .inl (fun k => nI (lr9 k)))) (.inl (cy 1, 24, .inl rl9)) (.inl (cy 1, 24, .inl fa9)) (.inl (cy 1, 24, .inl ca9)) (.inl (cy 1, 24, .inl dc9)) (.inl (cy 1, 6, .inl fs9)) (.inl (cy 1, 6, .inl gs9)) (.inl (cy 1, 8, .inl fp9)) (.inl (cy 1, 8, .inl gp9)) (.inl (cy 1, 8, .inl fb9)) (.inl (cy 1, 8, .inl gb9)) (.inl (cy 1, 60, .inl (fun k => nI (tx k)))) (.inl (cy 2, 2400, .inr (.inl im))) (.inl (cy 1, 134, .inl mi)) (.inl (cy 1, 20, .inl (fun k => nI (nn9 k)))) (.inl (cy 1, 5, .inl (fun k => nI (nz9 k)))) (.inl (cy 1, 24, .inl (fun k => nI (sh9 k)))) (.inl (cy 6, 6, .inr (.inr (.inr (.inr (fun i => if i < 6 then some (mr (31 + i)) else none)))))) (.inl (cy 1, 6, .inl so)) (.inl (cy 1, 6, .inl (fun k => nI (sz k)))) (.inl (cy 2, 60, .inr (.inl mv))) (.inl (cy 2, 60, .inr (.inl (tf 0)))) (.inl (cy 2, 60, .inr (.inl (tf 1)))) (.inl (cy 2, 60, .inr (.inl (tf 2)))) (.inl (cy 2, 60, .inr (.inl (tf 3)))) (.inl (cy 2, 60, .inr (.inl (tf 4)))) (.inl (cy 2, 60, .inr (.inl (tf 5))))
abbrev WX (cy : Nat → ClassId) (xa mr : Nat → Nat) (mo : Nat) (tpf : Nat → Option Nat) (kf : Nat) (tn : Nat) (tx : Nat → Nat) (gn : Nat) (gx : Nat → Nat) (nm : Nat) (ss : Nat → Nat) (zs : Nat → Nat) (cols : Nat) (lc : Nat) (smp : Nat) (nzf : Nat → Nat) (tlf : Nat → Nat) (lnf : Nat → Option Nat) (P : PS) (ky : Int32) (nse : Nat) (fs : Nat → Int32) (gs : Nat → Int32) (npa : Nat) (fp : Nat → Int32) (gp : Nat → Int32) (nbo : Nat) (fb : Nat → Int32) (gb : Nat → Int32) (bal : Nat → Nat) (cols' : Nat) (lc' : Nat) (smp' : Nat) (nzf' : Nat → Nat) (tlf' : Nat → Nat) (lnf' : Nat → Option Nat) (P' : PS) (ky' : Int32) (nse' : Nat) (fs' : Nat → Int32) (gs' : Nat → Int32) (npa' : Nat) (fp' : Nat → Int32) (gp' : Nat → Int32) (nbo' : Nat) (fb' : Nat → Int32) (gb' : Nat → Int32) (Z : PS) (kz : Int32) (ga : Nat → Int64) (so : Nat → Int32) (sz : Nat → Nat) (tf : Nat → Nat → Int64) (j0 : Int32) (j1 : Int32) (j2 : Int32) (j3 : Int32) (j4 : Int32) (nm9 : Nat → Nat) (ns9 : Nat → Nat) (st9 : Nat → Nat) (by9 : Nat → Nat) (lz : Nat → Nat) (fn : Nat → Nat) (fo : Nat → Nat) (ex : Nat → Int64) (wo : Nat → Int64) (lr9 : Nat → Nat) (rl9 : Nat → Int32) (fa9 : Nat → Int32) (ca9 : Nat → Int32) (dc9 : Nat → Int32) (fs9 : Nat → Int32) (gs9 : Nat → Int32) (fp9 : Nat → Int32) (gp9 : Nat → Int32) (fb9 : Nat → Int32) (gb9 : Nat → Int32) (im : Nat → Int64) (mi : Nat → Int32) (nn9 : Nat → Nat) (nz9 : Nat → Nat) (sh9 : Nat → Nat) (mv : Nat → Int64) (ld : LD) (lt : Nat → Nat → Nat) (ln : Nat → Nat) (pl : va_W) : va_W := FX cy xa tpf kf tn tx gn gx nm ss zs cols lc smp nzf tlf lnf P ky nse fs gs npa fp gp nbo fb gb bal cols' lc' smp' nzf' tlf' lnf' P' ky' nse' fs' gs' npa' fp' gp' nbo' fb' gb' Z kz ga so sz tf ++ (MX cy mo mr cols lc smp ky (pMk P) (pRs P) nse npa nbo tn kf j0 j1 j2 j3 j4 nm9 tlf ns9 st9 by9 lz fn fo ex wo lr9 rl9 fa9 ca9 dc9 fs9 gs9 fp9 gp9 fb9 gb9 tx im mi nn9 nz9 sh9 so sz mv tf ++ pl)
abbrev L4 (b : Nat) (xa : Nat → Nat) (mo i : Nat) : List (Nat × Value) := [(0, .ref b), (1, .ref (xa 0)), (2, .ref mo), (3, .int (nI i))]
def AT (p : Program) (l : Launch) (e : Env) (R : Room) (s : State) (m : MethodId) (args : Array Value) (below : List Frame) (meth : Method) (c : Code) (Q : State → Prop) (D : va_G) (A : Nat → Prop) (cy : Nat → ClassId) (xa mr : Nat → Nat) (mo : Nat) (tpf : Nat → Option Nat) (b i k n pc : Nat) : Prop := ∀ (kf : Nat) (tn : Nat) (tx : Nat → Nat) (gn : Nat) (gx : Nat → Nat) (nm : Nat) (ss : Nat → Nat) (zs : Nat → Nat) (cols : Nat) (lc : Nat) (smp : Nat) (nzf : Nat → Nat) (tlf : Nat → Nat) (lnf : Nat → Option Nat) (P : PS) (ky : Int32) (nse : Nat) (fs : Nat → Int32) (gs : Nat → Int32) (npa : Nat) (fp : Nat → Int32) (gp : Nat → Int32) (nbo : Nat) (fb : Nat → Int32) (gb : Nat → Int32) (bal : Nat → Nat) (cols' : Nat) (lc' : Nat) (smp' : Nat) (nzf' : Nat → Nat) (tlf' : Nat → Nat) (lnf' : Nat → Option Nat) (P' : PS) (ky' : Int32) (nse' : Nat) (fs' : Nat → Int32) (gs' : Nat → Int32) (npa' : Nat) (fp' : Nat → Int32) (gp' : Nat → Int32) (nbo' : Nat) (fb' : Nat → Int32) (gb' : Nat → Int32) (Z : PS) (kz : Int32) (ga : Nat → Int64) (so : Nat → Int32) (sz : Nat → Nat) (tf : Nat → Nat → Int64) (j0 : Int32) (j1 : Int32) (j2 : Int32) (j3 : Int32) (j4 : Int32) (nm9 : Nat → Nat) (ns9 : Nat → Nat) (st9 : Nat → Nat) (by9 : Nat → Nat) (lz : Nat → Nat) (fn : Nat → Nat) (fo : Nat → Nat) (ex : Nat → Int64) (wo : Nat → Int64) (lr9 : Nat → Nat) (rl9 : Nat → Int32) (fa9 : Nat → Int32) (ca9 : Nat → Int32) (dc9 : Nat → Int32) (fs9 : Nat → Int32) (gs9 : Nat → Int32) (fp9 : Nat → Int32) (gp9 : Nat → Int32) (fb9 : Nat → Int32) (gb9 : Nat → Int32) (im : Nat → Int64) (mi : Nat → Int32) (nn9 : Nat → Nat) (nz9 : Nat → Nat) (sh9 : Nat → Nat) (mv : Nat → Int64) (ld : LD) (lt : Nat → Nat → Nat) (ln : Nat → Nat) (pl : va_W), INV cy kf tn tx gn gx nm ss zs cols lc smp nzf tlf lnf P ky nse fs gs npa fp gp nbo fb gb bal cols' lc' smp' nzf' tlf' lnf' P' ky' nse' fs' gs' npa' fp' gp' nbo' fb' gb' Z kz ga so sz tf j0 j1 j2 j3 j4 nm9 ns9 st9 by9 lz fn fo ex wo lr9 rl9 fa9 ca9 dc9 fs9 gs9 fp9 gp9 fb9 gb9 im mi nn9 nz9 sh9 mv ld lt ln pl → xG p l e R s m args below meth c Q D A 4 (WX cy xa mr mo tpf kf tn tx gn gx nm ss zs cols lc smp nzf tlf lnf P ky nse fs gs npa fp gp nbo fb gb bal cols' lc' smp' nzf' tlf' lnf' P' ky' nse' fs' gs' npa' fp' gp' nbo' fb' gb' Z kz ga so sz tf j0 j1 j2 j3 j4 nm9 ns9 st9 by9 lz fn fo ex wo lr9 rl9 fa9 ca9 dc9 fs9 gs9 fp9 gp9 fb9 gb9 im mi nn9 nz9 sh9 mv ld lt ln pl) k n pc (L4 b xa mo i) []


theorem int32_eq {x y : Int32} (h : x.toInt = y.toInt) : x = y := Int32.toInt_inj.mp h
theorem I1_feed {tn : Nat} {tx : Nat → Nat} {x : Int32} (h : I1 tn tx) : I1 (feN tn tx x).1 (feN tn tx x).2 := by
  unfold feN
  split
  · exact h
  · split
    · exact h
    · refine ⟨by show tn + 1 ≤ 60; omega, fun k => ?_⟩
      show va_up tx tn x.toInt.toNat k < 128
      unfold va_up
      split
      · omega
      · exact h.2 k
theorem saN_le {smp : Nat} {x : Int32} (h : smp ≤ 24) : saN smp x ≤ 24 := by
  unfold saN
  split <;> omega
theorem typN_le {cols : Nat} {tl : Nat → Nat} {x y : Int32} (h : ∀ k, tl k ≤ 4) : ∀ k, typN cols tl x y k ≤ 4 := fun k => by
  unfold typN
  split
  · exact h k
  · split
    · exact h k
    · unfold va_up
      split
      · omega
      · exact h k
theorem keN_in {cols mk : Nat} {ky x : Int32} (h : -1 ≤ ky.toInt ∧ ky.toInt < cols) : -1 ≤ (keN cols mk ky x).toInt ∧ (keN cols mk ky x).toInt < cols := by
  unfold keN
  split
  · exact h
  · split
    · exact h
    · omega
theorem R4_run {ld : LD} {cols lc : Nat} {tl : Nat → Nat} {z : Nat} {ky : Int} {P : PS} {x : Int32} (h : InvF ld cols lc P) (ht : ∀ k, tl k ≤ 4) (hlc : lc ≤ 24) : InvF ld cols lc (ruN ld cols lc tl z ky P x) := by
  unfold ruN
  split
  · exact h
  · have := h.1.2.1
    exact (InvF_go h ht hlc _ (by omega)).1
theorem enN_in {cap : Nat} {h : HR} {x y : Int32} (hh : h.1 ≤ cap) : (enN cap h x y).1 ≤ cap := by
  unfold enN
  split
  · exact hh
  · show h.1 + 1 ≤ cap
    omega
theorem R5_see {lc nse : Nat} {fs gs fs9 gs9 : Nat → Int32} {x y : Int32} (h : R5 lc nse fs gs fs9 gs9) : R5 lc (seeN lc (nse, fs, gs) x y).1 (seeN lc (nse, fs, gs) x y).2.1 (seeN lc (nse, fs, gs) x y).2.2 (seeN lc (nse, fs9, gs9) x y).2.1 (seeN lc (nse, fs9, gs9) x y).2.2 ∧ (seeN lc (nse, fs9, gs9) x y).1 = (seeN lc (nse, fs, gs) x y).1 := by
  unfold seeN
  by_cases c1 : x.toInt = -1
  · rw [if_pos c1, if_pos c1]
    exact ⟨⟨Nat.zero_le 6, fun i hi => absurd hi (Nat.not_lt_zero i)⟩, rfl⟩
  · rw [if_neg c1, if_neg c1]
    by_cases c2 : x.toInt < 0 ∨ (lc : Int) ≤ x.toInt
    · rw [if_pos c2, if_pos c2]
      exact ⟨h, rfl⟩
    · rw [if_neg c2, if_neg c2]
      unfold enN
      by_cases c3 : 6 ≤ nse
      · rw [if_pos c3, if_pos c3]
        exact ⟨h, rfl⟩
      · rw [if_neg c3, if_neg c3]
        refine ⟨⟨by show nse + 1 ≤ 6; omega, fun i hi => ?_⟩, rfl⟩
        have hi : i < nse + 1 := hi
        show va_up fs nse x i = va_up fs9 nse x i ∧ va_up gs nse (if y.toInt = 0 then nI 0 else nI 1) i = va_up gs9 nse (if y.toInt = 0 then nI 0 else nI 1) i ∧ 0 ≤ (va_up fs9 nse x i).toInt ∧ (va_up fs9 nse x i).toInt < lc
        by_cases e : i = nse
        · rw [e, va_up_eq, va_up_eq, va_up_eq, va_up_eq]
          exact ⟨rfl, rfl, by omega, by omega⟩
        · rw [va_up_ne' e, va_up_ne' e, va_up_ne' e, va_up_ne' e]
          exact h.2 i (by omega)
theorem R6_plan {cols npa : Nat} {fp gp fp9 gp9 : Nat → Int32} {x y : Int32} (h : R6 cols npa fp gp fp9 gp9) : R6 cols (plaN cols (npa, fp, gp) x y).1 (plaN cols (npa, fp, gp) x y).2.1 (plaN cols (npa, fp, gp) x y).2.2 (plaN cols (npa, fp9, gp9) x y).2.1 (plaN cols (npa, fp9, gp9) x y).2.2 ∧ (plaN cols (npa, fp9, gp9) x y).1 = (plaN cols (npa, fp, gp) x y).1 := by
  unfold plaN
  by_cases c0 : plaB cols x y = 0
  · rw [if_pos c0, if_pos c0]
    exact ⟨⟨Nat.zero_le 8, fun i hi => absurd hi (Nat.not_lt_zero i)⟩, rfl⟩
  · rw [if_neg c0, if_neg c0]
    by_cases c1 : plaB cols x y = 1
    · rw [if_pos c1, if_pos c1]
      exact ⟨h, rfl⟩
    · rw [if_neg c1, if_neg c1]
      by_cases c2 : plaB cols x y = 2
      · rw [if_pos c2, if_pos c2]
        exact ⟨h, rfl⟩
      · rw [if_neg c2, if_neg c2]
        have hxy : (x.toInt = 0 → 0 ≤ y.toInt ∧ y.toInt ≤ 24) ∧ (x.toInt = 1 → -1 ≤ y.toInt ∧ y.toInt < cols) := by
          unfold plaB at c0 c1 c2
          by_cases e0 : x.toInt = -1
          · rw [if_pos e0] at c0
            omega
          · rw [if_neg e0] at c0 c1 c2
            by_cases e1 : x.toInt < 0 ∨ 2 < x.toInt
            · rw [if_pos e1] at c1
              omega
            · rw [if_neg e1] at c0 c1 c2
              by_cases e2 : x.toInt = 1 ∧ ¬ y.toInt = -1 ∧ (y.toInt < 0 ∨ (cols : Int) ≤ y.toInt)
              · rw [if_pos e2] at c1
                omega
              · rw [if_neg e2] at c0 c1 c2
                by_cases e3 : x.toInt = 0 ∧ (y.toInt < 0 ∨ 24 < y.toInt)
                · rw [if_pos e3] at c2
                  omega
                · exact ⟨fun z => by omega, fun z => by omega⟩
        unfold enN
        by_cases c3 : 8 ≤ npa
        · rw [if_pos c3, if_pos c3]
          exact ⟨h, rfl⟩
        · rw [if_neg c3, if_neg c3]
          refine ⟨⟨by show npa + 1 ≤ 8; omega, fun i hi => ?_⟩, rfl⟩
          have hi : i < npa + 1 := hi
          show va_up fp npa x i = va_up fp9 npa x i ∧ va_up gp npa y i = va_up gp9 npa y i ∧ ((va_up fp9 npa x i).toInt = 0 → 0 ≤ (va_up gp9 npa y i).toInt ∧ (va_up gp9 npa y i).toInt ≤ 24) ∧ ((va_up fp9 npa x i).toInt = 1 → -1 ≤ (va_up gp9 npa y i).toInt ∧ (va_up gp9 npa y i).toInt < cols)
          by_cases e : i = npa
          · rw [e, va_up_eq, va_up_eq, va_up_eq, va_up_eq]
            exact ⟨rfl, rfl, hxy.1, hxy.2⟩
          · rw [va_up_ne' e, va_up_ne' e, va_up_ne' e, va_up_ne' e]
            exact h.2 i (by omega)
theorem R7_book {cols nbo : Nat} {fb gb fb9 gb9 : Nat → Int32} {x y : Int32} (h : R7 cols nbo fb gb fb9 gb9) : R7 cols (booN cols (nbo, fb, gb) x y).1 (booN cols (nbo, fb, gb) x y).2.1 (booN cols (nbo, fb, gb) x y).2.2 (booN cols (nbo, fb9, gb9) x y).2.1 (booN cols (nbo, fb9, gb9) x y).2.2 ∧ (booN cols (nbo, fb9, gb9) x y).1 = (booN cols (nbo, fb, gb) x y).1 := by
  unfold booN
  by_cases c0 : x.toInt = -1
  · rw [if_pos c0, if_pos c0]
    exact ⟨⟨Nat.zero_le 8, fun i hi => absurd hi (Nat.not_lt_zero i)⟩, rfl⟩
  · rw [if_neg c0, if_neg c0]
    by_cases c1 : x.toInt < 0 ∨ (cols : Int) ≤ x.toInt
    · rw [if_pos c1, if_pos c1]
      exact ⟨h, rfl⟩
    · rw [if_neg c1, if_neg c1]
      by_cases c2 : y.toInt < 1 ∨ 4 < y.toInt
      · rw [if_pos c2, if_pos c2]
        exact ⟨h, rfl⟩
      · rw [if_neg c2, if_neg c2]
        unfold enN
        by_cases c3 : 8 ≤ nbo
        · rw [if_pos c3, if_pos c3]
          exact ⟨h, rfl⟩
        · rw [if_neg c3, if_neg c3]
          refine ⟨⟨by show nbo + 1 ≤ 8; omega, fun i hi => ?_⟩, rfl⟩
          have hi : i < nbo + 1 := hi
          show va_up fb nbo x i = va_up fb9 nbo x i ∧ va_up gb nbo y i = va_up gb9 nbo y i ∧ 0 ≤ (va_up fb9 nbo x i).toInt ∧ (va_up fb9 nbo x i).toInt < cols
          by_cases e : i = nbo
          · rw [e, va_up_eq, va_up_eq, va_up_eq, va_up_eq]
            exact ⟨rfl, rfl, by omega, by omega⟩
          · rw [va_up_ne' e, va_up_ne' e, va_up_ne' e, va_up_ne' e]
            exact h.2 i (by omega)
/-! answers hang on the rows that there are -/
theorem ssS_rows {P : PS} {n : Nat} {f g f' g' : Nat → Int32} (h : ∀ i, i < n → f i = f' i ∧ g i = g' i) : ssS P (n, f, g) = ssS P (n, f', g') :=
  runLen_cong (n - 0) 0 (fun j _ hj => by
    show ssB P f g j = ssB P f' g' j
    unfold ssB
    rw [(h j hj).1, (h j hj).2])
theorem fiT_rows {ld : LD} {cols lc : Nat} {tl : Nat → Nat} {ky : Int} {n : Nat} {f g f' g' : Nat → Int32} (h : ∀ i, i < n → f i = f' i ∧ g i = g' i) : fiT ld cols lc tl ky (n, f, g) = fiT ld cols lc tl ky (n, f', g') := funext fun s => by
  unfold fiT
  rw [ssS_rows h]
theorem cpS_rows {ld : LD} {cols lc : Nat} {tl : Nat → Nat} {z : Nat} {f g f' g' : Nat → Int32} {P : PS × Int32} : ∀ n, (∀ i, i < n → f i = f' i ∧ g i = g' i) → cpS ld cols lc tl z f g n P = cpS ld cols lc tl z f' g' n P
  | 0, _ => rfl
  | n + 1, h => by
    show plS ld cols lc tl z (f n) (g n) (cpS ld cols lc tl z f g n P) = plS ld cols lc tl z (f' n) (g' n) (cpS ld cols lc tl z f' g' n P)
    rw [cpS_rows n (fun i hi => h i (by omega)), (h n (by omega)).1, (h n (by omega)).2]
theorem endA_rows {ld : LD} {cols lc : Nat} {tl : Nat → Nat} {z : Nat} {ky : Int32} {P : PS} {x : Int32} {n : Nat} {f g f' g' : Nat → Int32} (h : ∀ i, i < n → f i = f' i ∧ g i = g' i) : endA ld cols lc tl z ky P (n, f, g) x = endA ld cols lc tl z ky P (n, f', g') x := by
  unfold endA
  show (if _ then _ else if _ then nI (pRs (cpS ld cols lc tl z f g n (P, ky)).1) else nI (pMk (cpS ld cols lc tl z f g n (P, ky)).1 - pRs (cpS ld cols lc tl z f g n (P, ky)).1)) = _
  rw [cpS_rows n h]
theorem looA_rows {st tl : Nat → Nat} {ld : LD} {cols z n : Nat} {f g f' g' : Nat → Int32} (h : ∀ i, i < n → f i = f' i ∧ g i = g' i) : looA st tl ld cols z (n, f, g) = looA st tl ld cols z (n, f', g') := by
  have e : looS st tl ld cols z (n, f, g) = looS st tl ld cols z (n, f', g') := runLen_cong (n - 0) 0 (fun j _ hj => by
    show booB st tl ld cols z f g j = booB st tl ld cols z f' g' j
    unfold booB
    rw [(h j hj).1, (h j hj).2])
  unfold looA
  rw [e]
theorem rl_roA {cols : Nat} {P : PS} {st9 lr9 : Nat → Nat} {rl9 fa9 ca9 dc9 : Nat → Int32} (h : MdP cols P st9 lr9 rl9 fa9 ca9 dc9) : ∀ k : Nat, k < 24 → rl9 k = roA P k := fun k hk => by
  unfold roA
  by_cases c : k < pMk P
  · rw [if_pos (by omega)]
    exact (h.1.2.2.1 k c).1
  · rw [if_neg (by omega)]
    exact (h.1.2.2.2 k (by omega) hk).1
theorem nF_61 {tx : Nat → Nat} {n : Nat} (h : n ≤ 60) : nF tx n ≤ 61 := by
  have := cmm_le tx n
  show cmm tx n + 1 ≤ 61
  omega
theorem HS_more {lnf : Nat → Option Nat} {pl pl2 : va_W} (h : HS lnf pl) (hs : ∀ q ∈ pl, q ∈ pl2) : HS lnf pl2 := fun k x e => by
  obtain ⟨fa, hf⟩ := h k x e
  exact ⟨fa, hs _ hf⟩
theorem HS_up {lnf : Nat → Option Nat} {pl : va_W} {k a fa : Nat} (h : HS lnf pl) (h1 : (a, .inr (3, [.ref fa])) ∈ pl) : HS (va_up lnf k (some a)) pl := fun j x e => by
  by_cases c : j = k
  · rw [c, va_up_eq] at e
    cases e
    exact ⟨fa, h1⟩
  · rw [va_up_ne' c] at e
    exact h j x e


theorem I5_more {cy : Nat → ClassId} {pl pl2 : va_W} {kf : Nat} {cols : Nat} {lc : Nat} {smp : Nat} {nzf : Nat → Nat} {tlf : Nat → Nat} {lnf : Nat → Option Nat} {P : PS} {ky : Int32} {nse : Nat} {fs : Nat → Int32} {gs : Nat → Int32} {npa : Nat} {fp : Nat → Int32} {gp : Nat → Int32} {nbo : Nat} {fb : Nat → Int32} {gb : Nat → Int32} {im : Nat → Int64} (h : I5 cy pl kf cols lc smp nzf tlf lnf P ky nse fs gs npa fp gp nbo fb gb im) (hs : ∀ q ∈ pl, q ∈ pl2) : I5 cy pl2 kf cols lc smp nzf tlf lnf P ky nse fs gs npa fp gp nbo fb gb im := by
  obtain ⟨h1, h2, h3, h4, h5, h6⟩ := h
  refine ⟨h1, h2, h3, h4, h5, fun e => ?_⟩
  obtain ⟨nm9, ns9, st9, by9, lz, fn, fo, ex, wo, lr9, rl9, fa9, ca9, dc9, fs9, gs9, fp9, gp9, fb9, gb9, ld, lt, ln, ⟨r1, r2, ⟨a1, a2⟩, r4⟩, g⟩ := h6 e
  exact ⟨nm9, ns9, st9, by9, lz, fn, fo, ex, wo, lr9, rl9, fa9, ca9, dc9, fs9, gs9, fp9, gp9, fb9, gb9, ld, lt, ln, ⟨r1, r2, ⟨TbL_more a1 hs, a2⟩, r4⟩, g⟩


theorem tapN_in {so : Nat → Int32} {sz : Nat → Nat} {f : Nat → Int64} {k : Nat} {y z : Int32} (h : I6 so sz) : I6 (va_up so k (tapN (so k, sz k, f) y z).1) (va_up sz k (tapN (so k, sz k, f) y z).2.1) := by
  obtain ⟨h1, h2, h3⟩ := h
  have key : (tapN (so k, sz k, f) y z).2.1 ≤ 60 ∧ (-1 ≤ ((tapN (so k, sz k, f) y z).1).toInt ∧ ((tapN (so k, sz k, f) y z).1).toInt ≤ 4) ∧ (((tapN (so k, sz k, f) y z).1).toInt = -1 → (tapN (so k, sz k, f) y z).2.1 = 0) := by
    have a1 := h1 k
    have a2 := h2 k
    have a3 := h3 k
    unfold tapN
    by_cases c1 : y.toInt < -1 ∨ 4 < y.toInt
    · rw [if_pos c1]
      exact ⟨a1, a2, a3⟩
    · rw [if_neg c1]
      by_cases c2 : ¬ y.toInt = -1 ∧ 60 < z.toInt
      · rw [if_pos c2]
        exact ⟨a1, a2, a3⟩
      · rw [if_neg c2]
        by_cases c3 : ¬ y.toInt = -1 ∧ z.toInt < 0
        · rw [if_pos c3]
          exact ⟨a1, a2, a3⟩
        · rw [if_neg c3]
          show (if y.toInt = -1 then 0 else z.toInt.toNat) ≤ 60 ∧ (-1 ≤ y.toInt ∧ y.toInt ≤ 4) ∧ (y.toInt = -1 → (if y.toInt = -1 then 0 else z.toInt.toNat) = 0)
          by_cases c4 : y.toInt = -1
          · rw [if_pos c4]
            omega
          · rw [if_neg c4]
            omega
  refine ⟨fun j => ?_, fun j => ?_, fun j => ?_⟩
  · unfold va_up
    split
    · exact key.1
    · exact h1 j
  · unfold va_up
    split
    · exact key.2.1
    · exact h2 j
  · unfold va_up
    split
    · exact key.2.2
    · exact h3 j
