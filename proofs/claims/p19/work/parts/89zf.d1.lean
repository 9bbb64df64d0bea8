/-! the house at work: a machine with a list of what is under way -/
/-- a BOOK, and its settings' values -/
abbrev Bk := St × (Nat → Int32)
/-- numbers: 0 (0 STEPS in all, 1 of this call, 2 objects, 3 makings that ended, 4 how many were made for what is got, 5 closings, 6 the signal, 8 twenties, 9 kind), 1 an object's component, 2 its PLACE, 3 its state, 4 when its making ended, 5 those made, 6 how many a need is joined to, 7 to which, 8 SPOILED, 9 and 10 closings, 11 open, 12 a scope's sort, 13 its day -/
abbrev Mm := Nat → Nat → Int
/-- what is under way: its sort, numbers, values, pile -/
abbrev Fr := Nat × List Int × List Int32 × List Int32
abbrev MS := Mm × Int32 × List Fr
def mU (m : Mm) (c k : Nat) (v : Int) : Mm := fun x j => if x = c ∧ j = k then v else m x j
def bS (B : Bk) (c : Nat) : Nat := B.1.1 (61 + 8 * c)
def bN (B : Bk) (c : Nat) : Nat := B.1.1 (66 + 8 * c)
def bK (B : Bk) (c j : Nat) : Nat := B.1.1 (301 + 32 * c + 4 * j)
def svB (B : Bk) : Nat → Int := fun i => if i < (B.1.2.1 1).length then (B.2 i).toInt else 0
def bC (B : Bk) (c j : Nat) : List Nat := clF B.1.1 (svB B) (B.1.2.1 2).length c j
def bE (B : Bk) (c k : Nat) : Nat := if c < (B.1.2.1 2).length ∧ (k < 20 ∨ k = 30 ∨ k = 31) then nL B.1 (100 + 32 * c + k) else 0
theorem bE_i {B : Bk} {c k : Nat} (hc : c < (B.1.2.1 2).length) (hk : k < 20 ∨ k = 30 ∨ k = 31) : bE B c k = nL B.1 (100 + 32 * c + k) := if_pos ⟨hc, hk⟩
def wN (B : Bk) : Nat := min 12 B.1.2.2.1.length
/-- the wraps by rising numbers, of one number as told -/
def bW (B : Bk) : List Nat := (List.range 100).flatMap (fun n => (List.range (wN B)).filter (fun w => nL B.1 (902 + 8 * w) == n))
def isF (B : Bk) (ph c me : Nat) (w : Nat) : Bool := nL B.1 (903 + 8 * w) == ph && nL B.1 (901 + 8 * w) == me && (B.1.1 (60 + 8 * c)).testBit (nL B.1 (900 + 8 * w))
def fFr (l : List Nat) (P : Nat → Bool) : Nat → Nat → Option Nat
  | 0, _ => none
  | f + 1, p => if P (l.getD p 0) = true then some p else fFr l P f (p + 1)
def fF (l : List Nat) (P : Nat → Bool) (p : Nat) : Option Nat := fFr l P (min 12 l.length - p) p
def fBr (l : List Nat) (P : Nat → Bool) : Nat → Option Nat
  | 0 => none
  | p + 1 => if P (l.getD p 0) = true then some p else fBr l P p
def fB (l : List Nat) (P : Nat → Bool) (p : Nat) : Option Nat := fBr l P (min p (min 12 l.length))
def wAt (B : Bk) (i : Nat) : Nat := nL B.1 (904 + 8 * (bW B).getD i 0)
abbrev Froot0 (lv c sc mk : Int) : Fr := (0, [lv, c, sc, mk], [], [])
abbrev Froot1 (lv c sc mk : Int) : Fr := (1, [lv, c, sc, mk], [], [])
abbrev Froot2 (lv mk nd fl sp : Int) : Fr := (2, [lv, mk, nd, fl, sp], [], [])
abbrev Fmake (lv o c pl ps it : Int) : Fr := (3, [lv, o, c, pl, ps, it], [], [])
abbrev Fopen (lv o c pl : Int) : Fr := (4, [lv, o, c, pl], [], [])
abbrev Fcall0 (lv o c sc me : Int) (a : Int32) : Fr := (5, [lv, o, c, sc, me], [a], [])
abbrev Fcall1 (lv o c sc me : Int) : Fr := (6, [lv, o, c, sc, me], [], [])
abbrev Fcall3 (lv o c sc me ps nd fl : Int) : Fr := (7, [lv, o, c, sc, me, ps, nd, fl], [], [])
abbrev Fin0 (lv o c sc me ps : Int) (a : Int32) : Fr := (8, [lv, o, c, sc, me, ps], [a], [])
abbrev Fin1 (lv o c sc me : Int) : Fr := (9, [lv, o, c, sc, me], [], [])
abbrev Fin4 (lv o c sc me ps : Int) : Fr := (10, [lv, o, c, sc, me, ps], [], [])
abbrev Fin5 (lv o c sc me ps : Int) : Fr := (11, [lv, o, c, sc, me, ps], [], [])
abbrev Fwork (lv o c sc me ps at9 : Int) (a : Int32) (p : List Int32) : Fr := (12, [lv, o, c, sc, me, ps, at9], [a], p)
abbrev Fwait (lv o c sc me ps at9 : Int) (a : Int32) (p : List Int32) : Fr := (13, [lv, o, c, sc, me, ps, at9], [a], p)
abbrev Fask (lv o c sc at9 nd tg : Int) (a g : Int32) (p : List Int32) : Fr := (14, [lv, o, c, sc, at9, nd, tg], [a, g], p)
abbrev Fget (lv o c sc at9 nd tg : Int) (a g : Int32) (p : List Int32) : Fr := (15, [lv, o, c, sc, at9, nd, tg], [a, g], p)
abbrev Fsum (lv o c sc at9 nd tg it : Int) (a g u : Int32) (p : List Int32) : Fr := (16, [lv, o, c, sc, at9, nd, tg, it], [a, g, u], p)
abbrev Fclo0 (lv o c sc : Int) : Fr := (17, [lv, o, c, sc], [], [])
abbrev Fclo1 (lv o c sc : Int) : Fr := (18, [lv, o, c, sc], [], [])
def mAns (m : Mm) (v : Int32) (fs : List Fr) : MS := (mU m 0 6 1, v, fs)
def mFail (m : Mm) (a : Int32) (nd k : Int) (fs : List Fr) : MS := (mU (mU (mU m 0 6 2) 0 8 nd) 0 9 k, a, fs)
def mSpent (m : Mm) (a : Int32) (fs : List Fr) : MS := (mU m 0 6 3, a, fs)
def mGo (m : Mm) (a : Int32) (fs : List Fr) : MS := (mU m 0 6 0, a, fs)
abbrev mCan (m : Mm) : Prop := m 0 1 < 3000 ∧ m 0 0 < 60000
def mSt (m : Mm) : Mm := mU (mU m 0 1 (m 0 1 + 1)) 0 0 (m 0 0 + 1)
def plc (m : Mm) (sk : Nat) (sc : Int) : Int := if sk = 0 then 0 else if sk = 3 then sc else if sk = 2 then (if m 12 sc.toNat = 2 then sc else -1) else if m 12 sc.toNat = 1 then sc else if m 12 sc.toNat = 2 then m 13 sc.toNat else -1
def prs (m : Mm) (pl c : Int) : Nat → Int
  | 0 => -1
  | o + 1 => if m 1 o = c ∧ m 2 o = pl ∧ m 3 o < 2 then (o : Int) else prs m pl c o
def mNew (m : Mm) (c pl : Int) : Mm := fun x j =>
  if x = 0 ∧ j = 2 then m 0 2 + 1 else if x = 1 ∧ j = (m 0 2).toNat then c else if x = 2 ∧ j = (m 0 2).toNat then pl
  else if x = 3 ∧ j = (m 0 2).toNat then 0 else if x = 6 ∧ 8 * (m 0 2).toNat ≤ j ∧ j < 8 * (m 0 2).toNat + 8 then 0 else m x j
/-- TO MAKE begins -/
def makeM (m : Mm) (a : Int32) (fs : List Fr) (c pl lv : Int) : MS :=
  if ¬ mCan m then mSpent m a fs
  else if 300 ≤ m 0 2 then mFail (mSt m) a 0 16 fs
  else mGo (mNew (mSt m) c pl) a (Fmake lv (m 0 2) c pl 0 0 :: fs)
/-- TO GET: answers, fails, or begins a making -/
def seekM (B : Bk) (m : Mm) (a : Int32) (fs : List Fr) (c sc lv : Int) : MS :=
  if plc m (bS B c.toNat) sc < 0 then mFail m a 0 14 fs
  else if m 8 (24 * (plc m (bS B c.toNat) sc).toNat + c.toNat) ≠ 0 then mFail m a 0 15 fs
  else if bS B c.toNat ≠ 3 ∧ 0 ≤ prs m (plc m (bS B c.toNat) sc) c (m 0 2).toNat then
    (if m 3 (prs m (plc m (bS B c.toNat) sc) c (m 0 2).toNat).toNat = 1 then mAns m (nI (prs m (plc m (bS B c.toNat) sc) c (m 0 2).toNat).toNat) fs else mFail m a 0 12 fs)
  else makeM m a fs c (plc m (bS B c.toNat) sc) lv
def mDone (m : Mm) (o : Nat) : Mm := mU (mU (mU (mU (mU m 3 o 1) 4 o (m 0 3)) 0 3 (m 0 3 + 1)) 5 (m 0 4).toNat (o : Int)) 0 4 (m 0 4 + 1)
def mJoin (m : Mm) (o k : Nat) (v : Int) : Mm := mU (mU m 7 (24 * (8 * o + k) + (m 6 (8 * o + k)).toNat) v) 6 (8 * o + k) (m 6 (8 * o + k) + 1)
def jnd (m : Mm) (o k : Nat) (i : Int) : Option Int := if i < m 6 (8 * o + k) then some (m 7 (24 * (8 * o + k) + i.toNat)) else none
def mNote (m : Mm) (o k : Int) : Mm := if m 0 5 < 300 then mU (mU (mU m 9 (m 0 5).toNat o) 10 (m 0 5).toNat k) 0 5 (m 0 5 + 1) else mU m 0 5 (m 0 5 + 1)
/-- the next CANDIDATE of a need that is not late, from a need and a number on -/
def nxC (B : Bk) (c : Nat) : Nat → Nat → Nat → Option (Nat × Nat)
  | 0, _, _ => none
  | f + 1, ps, it => if bN B c ≤ ps ∨ 8 ≤ ps then none else match (if bK B c ps = 1 then [] else bC B c ps).find? (fun d => decide (it ≤ d ∧ d < 24)) with
    | some d => some (ps, d)
    | none => nxC B c f (ps + 1) 0
/-- a making fails: its object goes -/
def mAb (B : Bk) (m : Mm) (o c pl : Int) : Mm := if m 0 6 = 2 ∧ bS B c.toNat ≠ 3 ∧ m 0 9 ≠ 12 ∧ m 0 9 ≠ 13 ∧ m 0 9 ≠ 16 then mU (mU m 3 o.toNat 2) 8 (24 * pl.toNat + c.toNat) 1 else mU m 3 o.toNat 2
def undoM (m : Mm) (a : Int32) (r : List Fr) (lv mk nd fl sp : Int) : MS :=
  if mk < m 0 4 then mGo (mU m 0 4 (m 0 4 - 1)) a (Fclo0 lv (m 5 (m 0 4 - 1).toNat) (m 1 (m 5 (m 0 4 - 1).toNat).toNat) (m 2 (m 5 (m 0 4 - 1).toNat).toNat) :: Froot2 lv mk nd fl sp :: r)
  else if sp ≠ 0 then mSpent (mU (mU m 0 8 nd) 0 9 fl) a r else mFail m a nd fl r
def fst1 (nd fl : Int) : Int := if 0 < nd then 20 else fl
/-- an E of a wrap, for what is under way -/
def wrapM (B : Bk) (m : Mm) (a : Int32) (fs : List Fr) (lv o c sc me ps : Int) (i : Nat) (v : Int32) : MS := mGo m a (Fwork lv o c sc me ps ((wAt B i : Nat) : Int) v [] :: fs)
def resM (B : Bk) (m : Mm) (a : Int32) (r : List Fr) (lv o c sc me ps nd fl : Int) : MS := match fB (bW B) (isF B 3 c.toNat me.toNat) ps.toNat with
  | none => mFail m a nd fl r
  | some i => wrapM B m a (Fcall3 lv o c sc me (i : Int) nd fl :: r) lv o c sc me 0 i (Int32.ofInt (fst1 nd fl))
def cloM (m : Mm) (a : Int32) (r : List Fr) (o : Int) : MS :=
  if m 0 6 = 2 then (mU (mNote m o (fst1 (m 0 8) (m 0 9))) 3 o.toNat 2, a, r)
  else if m 0 6 = 3 then (mU (mNote m o 18) 3 o.toNat 2, a, r)
  else mAns (mU (mNote m o 0) 3 o.toNat 2) 0 r
def pop1 (p : List Int32) : Int32 := p.headD 0
/-- one order of an E -/
def ordM (B : Bk) (m : Mm) (a : Int32) (r : List Fr) (lv o c sc me ps : Int) (i : Nat) (v : Int32) (p : List Int32) : MS :=
  if opf B.1 i = 0 then mAns m (pop1 p) r
  else if opf B.1 i = 1 then (if mCan m then (mSt m, a, Fwork lv o c sc me ps ((i + 1 : Nat) : Int) v p :: r) else mSpent m a r)
  else if opf B.1 i = 2 then (m, a, Fwork lv o c sc me ps ((i + 1 : Nat) : Int) v (((B.1.2.1 (2001 + 3 * i)).headD 0).toInt32 :: p) :: r)
  else if opf B.1 i = 3 then (m, a, Fwork lv o c sc me ps ((i + 1 : Nat) : Int) v (v :: p) :: r)
  else if opf B.1 i = 4 then (m, a, Fwork lv o c sc me ps ((i + 1 : Nat) : Int) v (-(pop1 p) :: p.tail) :: r)
  else if opf B.1 i = 5 then (m, a, Fwork lv o c sc me ps ((i + 1 : Nat) : Int) v (pop1 p.tail * pop1 p :: p.tail.tail) :: r)
  else if opf B.1 i = 6 then (m, a, Fwork lv o c sc me ps ((i + 1 : Nat) : Int) v ((pop1 p.tail + pop1 p) :: p.tail.tail) :: r)
  else if opf B.1 i = 7 then (m, a, Fwork lv o c sc me ps ((i + 1 : Nat) : Int) v ((pop1 p.tail - pop1 p) :: p.tail.tail) :: r)
  else if opf B.1 i = 8 then (m, a, Fwork lv o c sc me ps ((i + 1 : Nat) : Int) v ((if (pop1 p.tail).toInt < (pop1 p).toInt then 1 else 0) :: p.tail.tail) :: r)
  else if opf B.1 i = 9 then (m, a, Fwork lv o c sc me ps ((i + 1 : Nat) : Int) v ((if pop1 p.tail = pop1 p then 1 else 0) :: p.tail.tail) :: r)
  else if opf B.1 i = 10 then mFail m a 0 ((nL B.1 (2001 + 3 * i) : Nat) : Int) r
  else if opf B.1 i = 11 then (m, a, Fwork lv o c sc me ps ((i + 1 : Nat) : Int) v (B.2 (nL B.1 (2001 + 3 * i)) :: p) :: r)
  else if opf B.1 i = 12 then (m, a, Fwork lv o c sc me ps (if pop1 p = 0 then ((nL B.1 (2001 + 3 * i) : Nat) : Int) else ((i + 1 : Nat) : Int)) v p.tail :: r)
  else if opf B.1 i = 13 then (m, a, Fwork lv o c sc me ps ((nL B.1 (2001 + 3 * i) : Nat) : Int) v p :: r)
  else if opf B.1 i = 14 then (m, a, Fask lv o c sc ((i + 1 : Nat) : Int) ((nL B.1 (2001 + 3 * i) : Nat) : Int) ((nL B.1 (2002 + 3 * i) : Nat) : Int) v (pop1 p) p.tail :: r)
  else mGo m a (Fin0 lv o c sc me ps (pop1 p) :: Fwait lv o c sc me ps ((i + 1 : Nat) : Int) v p.tail :: r)
def stpF (B : Bk) (m : Mm) (a : Int32) (r : List Fr) (f : Fr) : MS := match f with
  | (0, [lv, c, sc, mk9], _, _) => seekM B m a (Froot1 lv c sc mk9 :: r) c sc lv
  | (1, [lv, _, _, mk9], _, _) => if m 0 6 ≠ 2 then (mU m 0 4 mk9, a, r) else undoM m a r lv mk9 (m 0 8) (m 0 9) 0
  | (2, [lv, mk9, nd, fl, sp], _, _) => undoM m a r lv mk9 nd fl (if m 0 6 = 3 then 1 else sp)
  | (3, [lv, o, c, pl, ps, it], _, _) =>
    if m 0 6 = 2 ∨ m 0 6 = 3 then (mAb B (mU m 0 8 (m 0 8 + 1)) o c pl, a, r)
    else match nxC B c.toNat 9 ps.toNat it.toNat with
    | some x => seekM B (if m 0 6 = 1 then mJoin m o.toNat ps.toNat a.toInt else m) a (Fmake lv o c pl (x.1 : Int) ((x.2 + 1 : Nat) : Int) :: r) (x.2 : Int) pl lv
    | none => if bE B c.toNat 30 ≠ 0 then mGo (if m 0 6 = 1 then mJoin m o.toNat ps.toNat a.toInt else m) a (Fwork lv o c pl 0 0 ((bE B c.toNat 30 - 1 : Nat) : Int) 0 [] :: Fopen lv o c pl :: r)
      else mAns (mDone (if m 0 6 = 1 then mJoin m o.toNat ps.toNat a.toInt else m) o.toNat) (nI o.toNat) r
  | (4, [_, o, c, pl], _, _) => if m 0 6 = 2 ∨ m 0 6 = 3 then (mAb B m o c pl, a, r) else mAns (mDone m o.toNat) (nI o.toNat) r
  | (5, [lv, o, c, sc, me], [v], _) =>
    if ¬ mCan m then mSpent m a r else if 10 < lv then mFail (mSt m) a 0 13 r
    else if ¬ (0 ≤ o ∧ o < m 0 2 ∧ m 3 o.toNat = 1) then mFail (mSt m) a 0 17 r else mGo (mSt m) a (Fin0 lv o c sc me 0 v :: Fcall1 lv o c sc me :: r)
  | (6, [lv, o, c, sc, me], _, _) => if m 0 6 ≠ 2 then (m, a, r) else resM B m a r lv o c sc me ((wN B : Nat) : Int) (m 0 8) (m 0 9)
  | (7, [lv, o, c, sc, me, ps, nd, fl], _, _) => if m 0 6 ≠ 2 then (m, a, r) else resM B m a r lv o c sc me ps nd fl
  | (8, [lv, o, c, sc, me, ps], [v], _) => (match fF (bW B) (isF B 1 c.toNat me.toNat) ps.toNat with
    | some i => wrapM B m a (Fin1 lv o c sc me :: r) lv o c sc me ((i + 1 : Nat) : Int) i v
    | none => mAns m v (Fin4 lv o c sc me 0 :: r))
  | (9, _, _, _) => (m, a, r)
  | (10, [lv, o, c, sc, me, ps], _, _) => if m 0 6 ≠ 1 then (m, a, r) else (match fF (bW B) (isF B 0 c.toNat me.toNat) ps.toNat with
    | some i => wrapM B m a (Fin4 lv o c sc me ((i + 1 : Nat) : Int) :: r) lv o c sc me 0 i a
    | none => if bE B c.toNat me.toNat = 0 then mFail m a 0 11 r else mGo m a (Fwork lv o c sc me 0 ((bE B c.toNat me.toNat - 1 : Nat) : Int) a [] :: Fin5 lv o c sc me ((wN B : Nat) : Int) :: r))
  | (11, [lv, o, c, sc, me, ps], _, _) => if m 0 6 ≠ 1 then (m, a, r) else (match fB (bW B) (isF B 2 c.toNat me.toNat) ps.toNat with
    | some i => wrapM B m a (Fin5 lv o c sc me (i : Int) :: r) lv o c sc me 0 i a
    | none => mAns m a r)
  | (12, [lv, o, c, sc, me, ps, at9], [v], p) => ordM B m a r lv o c sc me ps at9.toNat v p
  | (13, [lv, o, c, sc, me, ps, at9], [v], p) => if m 0 6 ≠ 1 then (m, a, r) else (m, a, Fwork lv o c sc me ps at9 v (a :: p) :: r)
  | (14, [lv, o, c, sc, at9, nd, tg], [v, g], p) =>
    if bK B c.toNat nd.toNat = 2 then mAns m 0 (Fsum lv o c sc at9 nd tg 0 v g 0 p :: r)
    else match jnd m o.toNat nd.toNat 0 with
    | none => if bK B c.toNat nd.toNat = 1 then (if 10 ≤ lv then mFail m a 0 13 (Fget lv o c sc at9 nd tg v g p :: r) else mGo m a (Froot0 (lv + 1) (((bC B c.toNat nd.toNat).headD 0 : Nat) : Int) sc (m 0 4) :: Fget lv o c sc at9 nd tg v g p :: r))
      else mGo m a (Fcall0 (lv + 1) (-1) 0 sc tg g :: Fwait lv o c sc 0 0 at9 v p :: r)
    | some x => mGo m a (Fcall0 (lv + 1) x (m 1 x.toNat) sc tg g :: Fwait lv o c sc 0 0 at9 v p :: r)
  | (15, [lv, o, c, sc, at9, nd, tg], [v, g], p) => if m 0 6 ≠ 1 then (m, a, r)
    else mGo (if bS B (m 1 a.toInt.toNat).toNat = 3 ∧ jnd m o.toNat nd.toNat 0 = none then mJoin m o.toNat nd.toNat a.toInt else m) a (Fcall0 (lv + 1) a.toInt (m 1 a.toInt.toNat) sc tg g :: Fwait lv o c sc 0 0 at9 v p :: r)
  | (16, [lv, o, c, sc, at9, nd, tg, it], [v, g, u], p) => if m 0 6 ≠ 1 then (m, a, r) else (match jnd m o.toNat nd.toNat it with
    | none => (m, a, Fwork lv o c sc 0 0 at9 v ((u + a) :: p) :: r)
    | some x => mGo m a (Fcall0 (lv + 1) x (m 1 x.toNat) sc tg g :: Fsum lv o c sc at9 nd tg (it + 1) v g (u + a) p :: r))
  | (17, [lv, o, c, sc], _, _) => if bE B c.toNat 31 ≠ 0 then mGo m a (Fwork lv o c sc 0 0 ((bE B c.toNat 31 - 1 : Nat) : Int) 0 [] :: Fclo1 lv o c sc :: r) else cloM m a r o
  | (18, [_, o, _, _], _, _) => cloM m a r o
  | _ => (m, a, r)
def stM (B : Bk) : MS → MS
  | (m, a, []) => (m, a, [])
  | (m, a, f :: r) => stpF B m a r f
def rnM (B : Bk) : Nat → MS → MS
  | 0, c => c
  | n + 1, c => rnM B n (stM B c)
theorem rnM_add (B : Bk) (n : Nat) : ∀ (k : Nat) (c : MS), rnM B (n + k) c = rnM B k (rnM B n c) := by
  induction n with
  | zero => intro k c; rw [Nat.zero_add]; rfl
  | succ n ih => intro k c; rw [Nat.succ_add]; exact ih k (stM B c)
/-- n steps lead from one to the other -/
def RM (B : Bk) (n : Nat) (x y : MS) : Prop := rnM B n x = y
theorem RM.rf {B : Bk} {x : MS} : RM B 0 x x := rfl
theorem RM.tr {B : Bk} {n k : Nat} {x y z : MS} (h : RM B n x y) (q : RM B k y z) : RM B (n + k) x z := by
  unfold RM at h q ⊢
  rw [rnM_add, h, q]
theorem RM.one {B : Bk} {x : MS} : RM B 1 x (stM B x) := rfl
/-! how long the machine can go on: orders pay with what STEPS give. From an order on, with k values on the pile (nd: how many needs; ar: within an around); by fuel -/
def OKq (B : Bk) (nd : Nat) (ar : Bool) : Nat → Nat → Nat → Nat → Prop
  | 0, _, _, _ => False
  | f + 1, i, k, q => i < cl B.1 ∧ k ≤ 28 ∧ ((opf B.1 i = 0 ∧ k = 1)
    ∨ (opf B.1 i = 1 ∧ OKq B nd ar f (i + 1) k (q + 140))
    ∨ ((opf B.1 i = 2 ∨ opf B.1 i = 3 ∨ (opf B.1 i = 11 ∧ nL B.1 (2001 + 3 * i) ≤ 11)) ∧ ∃ j, q = j + 1 ∧ OKq B nd ar f (i + 1) (k + 1) j)
    ∨ (opf B.1 i = 4 ∧ 1 ≤ k ∧ ∃ j, q = j + 1 ∧ OKq B nd ar f (i + 1) k j)
    ∨ ((5 ≤ opf B.1 i ∧ opf B.1 i ≤ 9) ∧ ∃ j t, q = j + 1 ∧ k = t + 2 ∧ OKq B nd ar f (i + 1) (t + 1) j)
    ∨ opf B.1 i = 10
    ∨ (opf B.1 i = 12 ∧ ∃ j t, q = j + 1 ∧ k = t + 1 ∧ OKq B nd ar f (i + 1) t j ∧ OKq B nd ar f (nL B.1 (2001 + 3 * i)) t j)
    ∨ (opf B.1 i = 13 ∧ ∃ j, q = j + 1 ∧ OKq B nd ar f (nL B.1 (2001 + 3 * i)) k j)
    ∨ (opf B.1 i = 14 ∧ (nL B.1 (2001 + 3 * i) < nd ∧ nL B.1 (2002 + 3 * i) ≤ 19) ∧ ∃ j t, q = j + 12 ∧ k = t + 1 ∧ OKq B nd ar f (i + 1) (t + 1) j)
    ∨ (opf B.1 i = 15 ∧ ar = true ∧ ∃ j t, q = j + 131 ∧ k = t + 1 ∧ OKq B nd ar f (i + 1) (t + 1) j))
theorem OKq_le {B : Bk} {nd nd2 : Nat} {ar : Bool} (hn : nd ≤ nd2) : ∀ (f f2 i k q q2 : Nat), OKq B nd ar f i k q → f ≤ f2 → q ≤ q2 → OKq B nd2 ar f2 i k q2
  | 0, _, _, _, _, _, w, _, _ => w.elim
  | f + 1, 0, _, _, _, _, _, h, _ => absurd h (by omega)
  | f + 1, f2 + 1, i, k, q, q2, w, h, hq => by
    have h : f ≤ f2 := by omega
    obtain ⟨a, c, w⟩ := w
    refine ⟨a, c, ?_⟩
    rcases w with w | ⟨w, r⟩ | ⟨w, j, e, r⟩ | ⟨w, w2, j, e, r⟩ | ⟨w, j, t, e, e2, r⟩ | w | ⟨w, j, t, e, e2, r, r2⟩ | ⟨w, j, e, r⟩ | ⟨w, w2, j, t, e, e2, r⟩ | ⟨w, w2, j, t, e, e2, r⟩
    · exact Or.inl w
    · exact Or.inr (Or.inl ⟨w, OKq_le hn f f2 _ _ _ _ r h (by omega)⟩)
    · exact Or.inr (Or.inr (Or.inl ⟨w, j + (q2 - q), by omega, OKq_le hn f f2 _ _ _ _ r h (by omega)⟩))
    · exact Or.inr (Or.inr (Or.inr (Or.inl ⟨w, w2, j + (q2 - q), by omega, OKq_le hn f f2 _ _ _ _ r h (by omega)⟩)))
    · exact Or.inr (Or.inr (Or.inr (Or.inr (Or.inl ⟨w, j + (q2 - q), t, by omega, e2, OKq_le hn f f2 _ _ _ _ r h (by omega)⟩))))
    · exact Or.inr (Or.inr (Or.inr (Or.inr (Or.inr (Or.inl w)))))
    · exact Or.inr (Or.inr (Or.inr (Or.inr (Or.inr (Or.inr (Or.inl ⟨w, j + (q2 - q), t, by omega, e2, OKq_le hn f f2 _ _ _ _ r h (by omega), OKq_le hn f f2 _ _ _ _ r2 h (by omega)⟩))))))
    · exact Or.inr (Or.inr (Or.inr (Or.inr (Or.inr (Or.inr (Or.inr (Or.inl ⟨w, j + (q2 - q), by omega, OKq_le hn f f2 _ _ _ _ r h (by omega)⟩)))))))
    · exact Or.inr (Or.inr (Or.inr (Or.inr (Or.inr (Or.inr (Or.inr (Or.inr (Or.inl ⟨w, ⟨by omega, w2.2⟩, j + (q2 - q), t, by omega, e2, OKq_le hn f f2 _ _ _ _ r h (by omega)⟩))))))))
    · exact Or.inr (Or.inr (Or.inr (Or.inr (Or.inr (Or.inr (Or.inr (Or.inr (Or.inr ⟨w, w2, j + (q2 - q), t, by omega, e2, OKq_le hn f f2 _ _ _ _ r h (by omega)⟩))))))))
def OQ (B : Bk) (nd : Nat) (ar : Bool) (i k q : Nat) : Prop := ∃ f, OKq B nd ar f i k q
section OQs
variable {B : Bk} {nd : Nat} {ar : Bool} {i k q : Nat}
theorem OQ.le {q2 : Nat} (h : OQ B nd ar i k q) (z : q ≤ q2) : OQ B nd ar i k q2 := by
  obtain ⟨f, h⟩ := h
  exact ⟨f, OKq_le (Nat.le_refl _) f f _ _ _ _ h (Nat.le_refl _) z⟩
theorem OQ.ndl {nd2 : Nat} (h : OQ B nd ar i k q) (z : nd ≤ nd2) : OQ B nd2 ar i k q := by
  obtain ⟨f, h⟩ := h
  exact ⟨f, OKq_le z f f _ _ _ _ h (Nat.le_refl _) (Nat.le_refl _)⟩
theorem OQ.k28 (h : OQ B nd ar i k q) : k ≤ 28 := by
  obtain ⟨f, h⟩ := h
  cases f with
  | zero => exact h.elim
  | succ f => exact h.2.1
theorem OQ.lt (h : OQ B nd ar i k q) : i < cl B.1 := by
  obtain ⟨f, h⟩ := h
  cases f with
  | zero => exact h.elim
  | succ f => exact h.1
theorem OQ.e0 (hi : i < cl B.1) (h : opf B.1 i = 0) : OQ B nd ar i 1 q := ⟨1, hi, by omega, Or.inl ⟨h, rfl⟩⟩
theorem OQ.e10 (hi : i < cl B.1) (hk : k ≤ 28) (h : opf B.1 i = 10) : OQ B nd ar i k q := ⟨1, hi, hk, Or.inr (Or.inr (Or.inr (Or.inr (Or.inr (Or.inl h)))))⟩
theorem OQ.e1 (hi : i < cl B.1) (hk : k ≤ 28) (h : opf B.1 i = 1) (r : OQ B nd ar (i + 1) k (q + 140)) : OQ B nd ar i k q := by
  obtain ⟨f, r⟩ := r
  exact ⟨f + 1, hi, hk, Or.inr (Or.inl ⟨h, r⟩)⟩
theorem OQ.e2 (hi : i < cl B.1) (hk : k ≤ 28) (h : opf B.1 i = 2 ∨ opf B.1 i = 3 ∨ (opf B.1 i = 11 ∧ nL B.1 (2001 + 3 * i) ≤ 11)) (r : OQ B nd ar (i + 1) (k + 1) q) : OQ B nd ar i k (q + 1) := by
  obtain ⟨f, r⟩ := r
  exact ⟨f + 1, hi, hk, Or.inr (Or.inr (Or.inl ⟨h, q, rfl, r⟩))⟩
theorem OQ.e4 (hi : i < cl B.1) (hk : k + 1 ≤ 28) (h : opf B.1 i = 4) (r : OQ B nd ar (i + 1) (k + 1) q) : OQ B nd ar i (k + 1) (q + 1) := by
  obtain ⟨f, r⟩ := r
  exact ⟨f + 1, hi, hk, Or.inr (Or.inr (Or.inr (Or.inl ⟨h, by omega, q, rfl, r⟩)))⟩
theorem OQ.e5 (hi : i < cl B.1) (hk : k + 2 ≤ 28) (h : 5 ≤ opf B.1 i ∧ opf B.1 i ≤ 9) (r : OQ B nd ar (i + 1) (k + 1) q) : OQ B nd ar i (k + 2) (q + 1) := by
  obtain ⟨f, r⟩ := r
  exact ⟨f + 1, hi, hk, Or.inr (Or.inr (Or.inr (Or.inr (Or.inl ⟨h, q, k, rfl, rfl, r⟩))))⟩
theorem OQ.e12 (hi : i < cl B.1) (hk : k + 1 ≤ 28) (h : opf B.1 i = 12) (r : OQ B nd ar (i + 1) k q) (r2 : OQ B nd ar (nL B.1 (2001 + 3 * i)) k q) : OQ B nd ar i (k + 1) (q + 1) := by
  obtain ⟨f, r⟩ := r
  obtain ⟨f2, r2⟩ := r2
  exact ⟨f + f2 + 1, hi, hk, Or.inr (Or.inr (Or.inr (Or.inr (Or.inr (Or.inr (Or.inl ⟨h, q, k, rfl, rfl, OKq_le (Nat.le_refl _) f (f + f2) _ _ _ _ r (by omega) (Nat.le_refl _), OKq_le (Nat.le_refl _) f2 (f + f2) _ _ _ _ r2 (by omega) (Nat.le_refl _)⟩))))))⟩
theorem OQ.e13 (hi : i < cl B.1) (hk : k ≤ 28) (h : opf B.1 i = 13) (r : OQ B nd ar (nL B.1 (2001 + 3 * i)) k q) : OQ B nd ar i k (q + 1) := by
  obtain ⟨f, r⟩ := r
  exact ⟨f + 1, hi, hk, Or.inr (Or.inr (Or.inr (Or.inr (Or.inr (Or.inr (Or.inr (Or.inl ⟨h, q, rfl, r⟩)))))))⟩
theorem OQ.e14 (hi : i < cl B.1) (hk : k + 1 ≤ 28) (h : opf B.1 i = 14) (w : nL B.1 (2001 + 3 * i) < nd ∧ nL B.1 (2002 + 3 * i) ≤ 19) (r : OQ B nd ar (i + 1) (k + 1) q) : OQ B nd ar i (k + 1) (q + 12) := by
  obtain ⟨f, r⟩ := r
  exact ⟨f + 1, hi, hk, Or.inr (Or.inr (Or.inr (Or.inr (Or.inr (Or.inr (Or.inr (Or.inr (Or.inl ⟨h, w, q, k, rfl, rfl, r⟩))))))))⟩
theorem OQ.e15 (hi : i < cl B.1) (hk : k + 1 ≤ 28) (h : opf B.1 i = 15) (w : ar = true) (r : OQ B nd ar (i + 1) (k + 1) q) : OQ B nd ar i (k + 1) (q + 131) := by
  obtain ⟨f, r⟩ := r
  exact ⟨f + 1, hi, hk, Or.inr (Or.inr (Or.inr (Or.inr (Or.inr (Or.inr (Or.inr (Or.inr (Or.inr ⟨h, w, q, k, rfl, rfl, r⟩))))))))⟩
end OQs
theorem CDm.ocT {V : Vf} {p i : Nat} {s : St} (h : CDm V p s) (hi : i < cl s) : oc V (p + i) = ((opf s i : Nat) : Int) := (h.2.2 i hi).1
theorem CDm.obT {V : Vf} {p i : Nat} {s : St} (h : CDm V p s) (hi : i < cl s) : ob V (p + i) = ((nL s (2002 + 3 * i) : Nat) : Int) := (h.2.2 i hi).2.2
theorem CDm.oaT {V : Vf} {p i : Nat} {s : St} (h : CDm V p s) (hi : i < cl s) (h2 : opf s i ≠ 2) (h3 : ¬ (opf s i = 12 ∨ opf s i = 13)) : oa V (p + i) = ((nL s (2001 + 3 * i) : Nat) : Int) := (h.2.2 i hi).2.1.2.2 h2 h3
theorem CDm.tg {V : Vf} {p i : Nat} {s : St} (h : CDm V p s) (hi : i < cl s) (ho : opf s i = 12 ∨ opf s i = 13) {t : Nat} (e : oa V (p + i) = ((p + t : Nat) : Int)) (ht : 0 < t) : nL s (2001 + 3 * i) = t := by
  have z := (h.2.2 i hi).2.1.2.1 ho
  unfold oa at e
  by_cases q : nL s (2001 + 3 * i) = 0
  · rw [if_pos q] at z
    omega
  · rw [if_neg q] at z
    omega
/-- an E's range pays for itself -/
theorem SEG {nd : Int} {n9 : Nat} {ar : Bool} {V : Vf} {p : Nat} {B : Bk} (hn : nd ≤ (n9 : Int)) (cd : CDm V p B.1) : ∀ (f h x y : Nat), wfE nd ar V f h x y → ∀ a b, x = p + a → y = p + b → b ≤ cl B.1 → ∀ k q, k + h ≤ 28 → OQ B n9 ar b (k + 1) (q + 4) → OQ B n9 ar a k q
  | 0, _, _, _, w => w.elim
  | f + 1, h, x, y, w => by
    intro a b ex ey hb k q hk o
    have lt := wfE_lt (f + 1) h x y w
    have f1 := (wfE_first (f + 1) h x y w).2
    have ha : a < cl B.1 := by omega
    have ca := cd.ocT ha
    have hk28 : k ≤ 28 := by omega
    rcases w with ⟨h0, w | w | ⟨m, w, e, u⟩ | ⟨m1, m2, w1, q1, q2, w2, q3, q4, w3⟩⟩ | ⟨m, m2, j, w1, w2, hj, e, u1, u2⟩
    · obtain ⟨e, _, l⟩ := w
      have ha1 : a + 1 < cl B.1 := by omega
      have cb := cd.ocT ha1
      rw [ex] at h0
      refine OQ.e1 ha hk28 (by omega) ?_
      unfold wfL at l
      rw [show x + 1 = p + (a + 1) from by omega] at l
      have eb : a + 1 + 1 = b := by omega
      by_cases l10 : opf B.1 (a + 1) = 10
      · exact OQ.e10 ha1 hk28 l10
      · refine OQ.le (OQ.e2 (q := q + 4) ha1 hk28 ?_ (by rw [eb]; exact o)) (by omega)
        rcases l with l | l | l | ⟨l, l2, l3⟩
        · exact Or.inl (by omega)
        · exact Or.inr (Or.inl (by omega))
        · exact absurd (show opf B.1 (a + 1) = 10 by omega) l10
        · have c2 := cd.oaT ha1 (by omega) (by omega)
          exact Or.inr (Or.inr ⟨by omega, by omega⟩)
    · rw [ex] at h0
      refine OQ.e1 ha hk28 (by omega) ?_
      exact SEG hn cd f h (x + 1) y w (a + 1) b (by omega) ey hb k (q + 140) hk (o.le (by omega))
    · have l1 := wfE_lt f h (x + 1) m w
      obtain ⟨m', em⟩ : ∃ m', m = p + m' := ⟨m - p, by omega⟩
      have hm : m' < cl B.1 := by omega
      have cm := cd.ocT hm
      rw [ex] at h0
      refine OQ.e1 ha hk28 (by omega) ?_
      refine SEG hn cd f h (x + 1) m w (a + 1) m' (by omega) em (by omega) k (q + 140) hk ?_
      have eb : m' + 1 = b := by omega
      unfold wfU at u
      rw [em] at u
      rcases u with u | ⟨u, u1, u2, u3, u4⟩ | ⟨u, u1⟩
      · exact OQ.le (OQ.e4 (q := q + 4) hm (by omega) (by omega) (by rw [eb]; exact o)) (by omega)
      · have c2 := cd.oaT hm (by omega) (by omega)
        have c3 := cd.obT hm
        exact OQ.le (OQ.e14 (q := q + 4) hm (by omega) (by omega) ⟨by omega, by omega⟩ (by rw [eb]; exact o)) (by omega)
      · exact OQ.le (OQ.e15 (q := q + 4) hm (by omega) (by omega) u1 (by rw [eb]; exact o)) (by omega)
    · have l1 := wfE_lt f h (x + 1) m1 w1
      have l2 := wfE_lt f h (m1 + 1) m2 w2
      have l3 := wfE_lt f h (m2 + 1) y w3
      obtain ⟨a1, e1⟩ : ∃ m', m1 = p + m' := ⟨m1 - p, by omega⟩
      obtain ⟨a2, e2⟩ : ∃ m', m2 = p + m' := ⟨m2 - p, by omega⟩
      have h1 : a1 < cl B.1 := by omega
      have h2 : a2 < cl B.1 := by omega
      have c1 := cd.ocT h1
      have c2 := cd.ocT h2
      rw [ex] at h0
      rw [e1] at q1 q2
      rw [e2] at q3 q4
      have t1 : nL B.1 (2001 + 3 * a1) = a2 + 1 := cd.tg h1 (Or.inl (by omega)) (by rw [q2]; omega) (by omega)
      have t2 : nL B.1 (2001 + 3 * a2) = b := cd.tg h2 (Or.inr (by omega)) (by rw [q4]; omega) (by omega)
      have s3 : OQ B n9 ar (a2 + 1) k q := SEG hn cd f h (m2 + 1) y w3 (a2 + 1) b (by omega) ey hb k q hk o
      have j2 : OQ B n9 ar a2 (k + 1) (q + 5) := OQ.e13 (q := q + 4) h2 (by omega) (by omega) (by rw [t2]; exact o)
      have s2 : OQ B n9 ar (a1 + 1) k (q + 1) := SEG hn cd f h (m1 + 1) m2 w2 (a1 + 1) a2 (by omega) e2 (by omega) k (q + 1) hk j2
      have j1 : OQ B n9 ar a1 (k + 1) (q + 2) := OQ.e12 (q := q + 1) h1 (by omega) (by omega) s2 (by rw [t1]; exact s3.le (by omega))
      refine OQ.e1 ha hk28 (by omega) ?_
      exact SEG hn cd f h (x + 1) m1 w1 (a + 1) a1 (by omega) e1 (by omega) k (q + 140) hk (j1.le (by omega))
    · have l1 := wfE_lt f h x m w1
      have l2 := wfE_lt f j m m2 w2
      have f2 := (wfE_first f j m m2 w2).2
      obtain ⟨a1, e1⟩ : ∃ m', m = p + m' := ⟨m - p, by omega⟩
      obtain ⟨a2, e2⟩ : ∃ m', m2 = p + m' := ⟨m2 - p, by omega⟩
      have h2 : a2 < cl B.1 := by omega
      have c2 := cd.ocT h2
      rw [e2] at u1 u2
      have o2 : OQ B n9 ar a2 (k + 1 + 1) (q + 5) := OQ.e5 (q := q + 4) h2 (by omega) ⟨by omega, by omega⟩ (by rw [show a2 + 1 = b from by omega]; exact o)
      have s2 : OQ B n9 ar a1 (k + 1) (q + 1) := SEG hn cd f j m m2 w2 a1 a2 e1 e2 (by omega) (k + 1) (q + 1) (by omega) o2
      exact SEG hn cd f h x m w1 a a1 ex e1 (by omega) k q hk (s2.le (by omega))
/-! what each thing under way may still cost -/
/-- how many needs an E may use: one of an around none -/
def ndW (B : Bk) (c ps : Int) : Nat := if 0 < ps then 0 else bN B c.toNat
def FW (B : Bk) (f : Fr) (w : Nat) : Prop := match f with
  | (0, [_, _, _, _], [], []) => 5 ≤ w
  | (1, [_, _, _, _], [], []) => 4 ≤ w
  | (2, [_, _, _, _, _], [], []) => 3 ≤ w
  | (3, [_, _, _, _, ps, it], [], []) => ps.toNat ≤ 8 ∧ it.toNat ≤ 24 ∧ 25 * (8 - ps.toNat) + (24 - it.toNat) + 18 ≤ w
  | (4, [_, _, _, _], [], []) => 13 ≤ w
  | (5, [_, _, _, _, _], [_], []) => 1 ≤ w
  | (6, [_, _, _, _, _], [], []) => 64 ≤ w
  | (7, [_, _, _, _, _, ps, _, _], [], []) => 5 * ps.toNat + 3 ≤ w
  | (8, [_, _, _, _, _, _], [_], []) => 129 ≤ w
  | (9, [_, _, _, _, _], [], []) => 3 ≤ w
  | (10, [_, _, _, _, _, ps], [], []) => ps.toNat ≤ 12 ∧ 5 * (12 - ps.toNat) + 68 ≤ w
  | (11, [_, _, _, _, _, ps], [], []) => 5 * ps.toNat + 3 ≤ w
  | (12, [_, _, c, _, _, ps, at9], [_], p) => ∃ q, OQ B (ndW B c ps) (decide (0 < ps)) at9.toNat p.length q ∧ q + 4 ≤ w
  | (13, [_, _, c, _, _, ps, at9], [_], p) => ∃ q, OQ B (ndW B c ps) (decide (0 < ps)) at9.toNat (p.length + 1) q ∧ q + 5 ≤ w
  | (14, [_, _, c, _, at9, _, _], [_, _], p) => ∃ q, OQ B (bN B c.toNat) false at9.toNat (p.length + 1) q ∧ q + 13 ≤ w
  | (15, [_, _, c, _, at9, _, _], [_, _], p) => ∃ q, OQ B (bN B c.toNat) false at9.toNat (p.length + 1) q ∧ q + 7 ≤ w
  | (16, [_, _, c, _, at9, _, _, _], [_, _, _], p) => ∃ q, OQ B (bN B c.toNat) false at9.toNat (p.length + 1) q ∧ q + 3 ≤ w
  | (17, [_, _, _, _], [], []) => 8 ≤ w
  | (18, [_, _, _, _], [], []) => 3 ≤ w
  | _ => False
theorem FW.le {B : Bk} {f : Fr} {w v : Nat} (h : FW B f w) (k : w ≤ v) : FW B f v := by
  unfold FW at h ⊢
  split at h
  all_goals first
    | (have h : _ ≤ w := h; show _ ≤ v; omega)
    | (obtain ⟨q, o, e⟩ := h; exact ⟨q, o, by omega⟩)
    | (obtain ⟨x, y⟩ := h; exact ⟨x, by omega⟩)
    | (obtain ⟨x, y, z⟩ := h; exact ⟨x, y, by omega⟩)
    | exact h.elim
/-- of what stands on top: a sum that has an answer goes on -/
def FT (B : Bk) (sg : Int) (f : Fr) (w : Nat) : Prop := match f with
  | (16, [_, _, c, _, at9, _, _, _], [_, _, _], p) => ∃ q, OQ B (bN B c.toNat) false at9.toNat (p.length + 1) q ∧ q + (if sg = 1 then 5 else 3) ≤ w
  | f => FW B f w
def WS (B : Bk) : List Fr → Nat → Prop
  | [], _ => True
  | f :: r, n => ∃ w, FW B f w ∧ w ≤ n ∧ WS B r (n - w)
theorem WS.le {B : Bk} : ∀ {r : List Fr} {n k : Nat}, WS B r n → n ≤ k → WS B r k
  | [], _, _, _, _ => trivial
  | f :: r, n, k, h, hk => by
    obtain ⟨w, a, b, c⟩ := h
    exact ⟨w, a, by omega, WS.le c (by omega)⟩
/-- those that were made ahead of what is got -/
def mkO (f : Fr) : Option Int := match f with
  | (0, [_, _, _, mk9], _, _) => some mk9
  | (1, [_, _, _, mk9], _, _) => some mk9
  | (2, [_, mk9, _, _, _], _, _) => some mk9
  | _ => none
def MKs : List Fr → Int → Prop
  | [], M => 0 ≤ M
  | f :: r, M => match mkO f with
    | some mk9 => mk9 ≤ M ∧ MKs r mk9
    | none => MKs r M
def WT (B : Bk) (sg : Int) : List Fr → Nat → Prop
  | [], _ => True
  | f :: r, n => ∃ w, FT B sg f w ∧ w ≤ n ∧ WS B r (n - w)
/-- all that the machine may still do -/
def PHI (B : Bk) (c : MS) (n : Nat) : Prop := 0 ≤ c.1 0 1 ∧ c.1 0 1 ≤ 3000 ∧ MKs c.2.2 (c.1 0 4) ∧ ∃ k : Nat, WT B (c.1 0 6) c.2.2 k ∧ 250 * (3000 - c.1 0 1) + 10 * c.1 0 4 + (k : Int) ≤ (n : Int)
theorem MKs.up : ∀ {r : List Fr} {M N : Int}, MKs r M → M ≤ N → MKs r N
  | [], _, _, h, k => Int.le_trans h k
  | f :: r, M, N, h, k => by
    unfold MKs at h ⊢
    cases e : mkO f with
    | some mk9 =>
      rw [e] at h
      exact ⟨Int.le_trans h.1 k, h.2⟩
    | none =>
      rw [e] at h
      exact MKs.up (r := r) h k
/-- .. and so at least nought -/
theorem MKs.nn : ∀ {r : List Fr} {M : Int}, MKs r M → 0 ≤ M
  | [], _, h => h
  | f :: r, M, h => by
    unfold MKs at h
    cases e : mkO f with
    | some mk9 =>
      rw [e] at h
      exact Int.le_trans (MKs.nn (r := r) h.2) h.1
    | none =>
      rw [e] at h
      exact MKs.nn (r := r) h
section PHs
variable {B : Bk} {m : Mm} {a : Int32} {r : List Fr} {n : Nat}
theorem mU_s (m : Mm) (c k : Nat) (v : Int) : mU m c k v c k = v := if_pos ⟨rfl, rfl⟩
theorem mU_o (m : Mm) {c k x j : Nat} (v : Int) (h : ¬ (x = c ∧ j = k)) : mU m c k v x j = m x j := if_neg h
/-- what a store must keep -/
def PN (m m' : Mm) (d e : Int) : Prop := m' 0 1 = m 0 1 + d ∧ m' 0 4 = m 0 4 + e
/-- the frames below stay, those on top are others: the numbers decide -/
theorem PHI.go {fs : List Fr} {m' : Mm} {a' : Int32} {k : Nat} (h1 : 0 ≤ m' 0 1) (h2 : m' 0 1 ≤ 3000) (h3 : MKs fs (m' 0 4)) (h4 : WT B (m' 0 6) fs k) (h5 : 250 * (3000 - m' 0 1) + 10 * m' 0 4 + (k : Int) + 1 ≤ (n : Int)) : 1 ≤ n ∧ PHI B (m', a', fs) (n - 1) :=
  ⟨by have := MKs.nn h3; omega, h1, h2, h3, k, h4, by have := MKs.nn h3; show 250 * (3000 - m' 0 1) + 10 * m' 0 4 + (k : Int) ≤ ((n - 1 : Nat) : Int); omega⟩
theorem WS.wt {sg : Int} {k : Nat} : ∀ {r : List Fr}, WS B r k → WT B sg r (k + 2)
  | [], _ => trivial
  | f :: r, h => by
    obtain ⟨w, x, y, z⟩ := h
    refine ⟨w + 2, ?_, by omega, z.le (by omega)⟩
    unfold FT
    split
    · obtain ⟨q, o, e⟩ := x
      refine ⟨q, o, ?_⟩
      split <;> omega
    · exact FW.le x (by omega)
theorem WS.wt3 {sg : Int} {k k2 : Nat} (hs : ¬ sg = 1) : ∀ {r : List Fr}, WS B r k → k ≤ k2 → WT B sg r k2
  | [], _, _ => trivial
  | f :: r, h, hk => by
    obtain ⟨w, x, y, z⟩ := h
    refine ⟨w, ?_, by omega, z.le (by omega)⟩
    unfold FT
    split
    · obtain ⟨q, o, e⟩ := x
      exact ⟨q, o, by rw [if_neg hs]; exact e⟩
    · exact x
theorem WS.wt2 {sg : Int} {k k2 : Nat} {r : List Fr} (h : WS B r k) (hk : k + 2 ≤ k2) : WT B sg r k2 := by
  have z := h.wt (sg := sg)
  cases r with
  | nil => exact trivial
  | cons f r =>
    obtain ⟨w, x, y, u⟩ := z
    exact ⟨w, x, by omega, u.le (by omega)⟩
end PHs
/-! each step costs -/
section PHt
variable {B : Bk} {m : Mm} {a : Int32} {r : List Fr} {n : Nat}
/-- what begins to be got costs no more than what asks for it, but one STEP -/
theorem PHI.sk {fs : List Fr} {c sc lv : Int} {k : Nat} (h1 : 0 ≤ m 0 1) (h2 : m 0 1 ≤ 3000) (h3 : MKs fs (m 0 4)) (h4 : ∀ sg, WT B sg fs k) (h6 : WS B fs k) (h5 : 250 * (3000 - m 0 1) + 10 * m 0 4 + (k : Int) + 1 ≤ (n : Int)) : 1 ≤ n ∧ PHI B (seekM B m a fs c sc lv) (n - 1) := by
  unfold seekM
  split
  · exact PHI.go h1 h2 h3 (h4 _) h5
  · split
    · exact PHI.go h1 h2 h3 (h4 _) h5
    · split
      · split
        · exact PHI.go h1 h2 h3 (h4 _) h5
        · exact PHI.go h1 h2 h3 (h4 _) h5
      · unfold makeM
        split
        · exact PHI.go h1 h2 h3 (h4 _) h5
        · rename_i hc
          have hc : m 0 1 < 3000 ∧ m 0 0 < 60000 := Decidable.of_not_not hc
          split
          · exact PHI.go (show 0 ≤ m 0 1 + 1 by omega) (show m 0 1 + 1 ≤ 3000 by omega) h3 (h4 _) (by show 250 * (3000 - (m 0 1 + 1)) + 10 * m 0 4 + (k : Int) + 1 ≤ (n : Int); omega)
          · refine PHI.go (k := k + 242) (show 0 ≤ m 0 1 + 1 by omega) (show m 0 1 + 1 ≤ 3000 by omega) h3 ⟨242, ⟨by decide, by decide, by decide⟩, by omega, ?_⟩ (by show 250 * (3000 - (m 0 1 + 1)) + 10 * m 0 4 + ((k + 242 : Nat) : Int) + 1 ≤ (n : Int); omega)
            rw [Nat.add_sub_cancel]
            exact h6
theorem PHI.un {lv mk nd fl sp : Int} {w k : Nat} (h1 : 0 ≤ m 0 1) (h2 : m 0 1 ≤ 3000) (hm : mk ≤ m 0 4) (h3 : MKs r mk) (x : 3 ≤ w) (y : w ≤ k) (z : WS B r (k - w)) (h5 : 250 * (3000 - m 0 1) + 10 * m 0 4 + (k : Int) ≤ (n : Int)) : 1 ≤ n ∧ PHI B (undoM m a r lv mk nd fl sp) (n - 1) := by
  unfold undoM
  split
  · refine PHI.go (k := k + 8) h1 h2 (show mk ≤ m 0 4 - 1 ∧ MKs r mk from ⟨by omega, h3⟩) ⟨8, (show 8 ≤ 8 by decide), by omega, w, (show 3 ≤ w from x), by omega, ?_⟩ (by show 250 * (3000 - m 0 1) + 10 * (m 0 4 - 1) + ((k + 8 : Nat) : Int) + 1 ≤ (n : Int); omega)
    exact z.le (by omega)
  · have up := MKs.up h3 hm
    split
    · exact PHI.go (k := k - 1) h1 h2 up (WS.wt2 z (by omega)) (by show 250 * (3000 - m 0 1) + 10 * m 0 4 + ((k - 1 : Nat) : Int) + 1 ≤ (n : Int); omega)
    · exact PHI.go (k := k - 1) h1 h2 up (WS.wt2 z (by omega)) (by show 250 * (3000 - m 0 1) + 10 * m 0 4 + ((k - 1 : Nat) : Int) + 1 ≤ (n : Int); omega)
theorem PHI.t0 {lv c sc mk : Int} (h : PHI B (m, a, Froot0 lv c sc mk :: r) n) : 1 ≤ n ∧ PHI B (stM B (m, a, Froot0 lv c sc mk :: r)) (n - 1) := by
  obtain ⟨h1, h2, h3, k, ⟨w, x, y, z⟩, h5⟩ := h
  have x : 5 ≤ w := x
  have h5 : 250 * (3000 - m 0 1) + 10 * m 0 4 + (k : Int) ≤ (n : Int) := h5
  exact PHI.sk (fs := Froot1 lv c sc mk :: r) (k := k - 1) h1 h2 h3 (fun _ => ⟨w - 1, (show 4 ≤ w - 1 by omega), by omega, z.le (by omega)⟩) ⟨w - 1, (show 4 ≤ w - 1 by omega), by omega, z.le (by omega)⟩ (by omega)
theorem PHI.t1 {lv c sc mk : Int} (h : PHI B (m, a, Froot1 lv c sc mk :: r) n) : 1 ≤ n ∧ PHI B (stM B (m, a, Froot1 lv c sc mk :: r)) (n - 1) := by
  obtain ⟨h1, h2, h3, k, ⟨w, x, y, z⟩, h5⟩ := h
  have x : 4 ≤ w := x
  have h3 : mk ≤ m 0 4 ∧ MKs r mk := h3
  have h5 : 250 * (3000 - m 0 1) + 10 * m 0 4 + (k : Int) ≤ (n : Int) := h5
  show 1 ≤ n ∧ PHI B (if m 0 6 ≠ 2 then (mU m 0 4 mk, a, r) else undoM m a r lv mk (m 0 8) (m 0 9) 0) (n - 1)
  split
  · exact PHI.go (k := k - 1) h1 h2 h3.2 (WS.wt2 z (by omega)) (by show 250 * (3000 - m 0 1) + 10 * mk + ((k - 1 : Nat) : Int) + 1 ≤ (n : Int); omega)
  · exact PHI.un h1 h2 h3.1 h3.2 (by omega) y z h5
theorem PHI.t2 {lv mk nd fl sp : Int} (h : PHI B (m, a, Froot2 lv mk nd fl sp :: r) n) : 1 ≤ n ∧ PHI B (stM B (m, a, Froot2 lv mk nd fl sp :: r)) (n - 1) := by
  obtain ⟨h1, h2, h3, k, ⟨w, x, y, z⟩, h5⟩ := h
  have x : 3 ≤ w := x
  have h3 : mk ≤ m 0 4 ∧ MKs r mk := h3
  exact PHI.un h1 h2 h3.1 h3.2 x y z h5
theorem nxC_b {c : Nat} : ∀ (f ps it ps' d : Nat), nxC B c f ps it = some (ps', d) → ps ≤ ps' ∧ ps' < 8 ∧ d < 24 ∧ (ps' = ps → it ≤ d)
  | 0, _, _, _, _, h => by cases h
  | f + 1, ps, it, ps', d, h => by
    unfold nxC at h
    split at h
    · cases h
    · rename_i hc
      split at h
      · rename_i d2 e2
        have p2 := List.find?_some e2
        have p3 := of_decide_eq_true p2
        cases h
        exact ⟨Nat.le_refl _, by omega, p3.2, fun _ => p3.1⟩
      · have z := nxC_b f (ps + 1) 0 ps' d h
        exact ⟨by omega, z.2.1, z.2.2.1, fun e => by omega⟩
theorem fFr_b {l : List Nat} {P : Nat → Bool} : ∀ (f p i : Nat), fFr l P f p = some i → p ≤ i ∧ i < p + f ∧ P (l.getD i 0) = true
  | 0, _, _, h => by cases h
  | f + 1, p, i, h => by
    unfold fFr at h
    split at h
    · rename_i q
      cases h
      exact ⟨Nat.le_refl _, by omega, q⟩
    · have z := fFr_b f (p + 1) i h
      exact ⟨by omega, by omega, z.2.2⟩
theorem fF_b {l : List Nat} {P : Nat → Bool} {p i : Nat} (h : fF l P p = some i) : p ≤ i ∧ i < 12 ∧ i < l.length ∧ P (l.getD i 0) = true := by
  have z := fFr_b _ _ _ h
  exact ⟨z.1, by omega, by omega, z.2.2⟩
theorem fBr_b {l : List Nat} {P : Nat → Bool} : ∀ (p i : Nat), fBr l P p = some i → i < p ∧ P (l.getD i 0) = true
  | 0, _, h => by cases h
  | p + 1, i, h => by
    unfold fBr at h
    split at h
    · rename_i q
      cases h
      exact ⟨by omega, q⟩
    · have z := fBr_b p i h
      exact ⟨by omega, z.2⟩
theorem fB_b {l : List Nat} {P : Nat → Bool} {p i : Nat} (h : fB l P p = some i) : i < p ∧ i < 12 ∧ i < l.length ∧ P (l.getD i 0) = true := by
  have z := fBr_b _ _ h
  exact ⟨by omega, by omega, by omega, z.2⟩
/-- an E that begins where the BOOK says -/
def WFB (B : Bk) : Prop := (∀ c k, bE B c k ≠ 0 → OQ B (bN B c) false (bE B c k - 1) 0 0) ∧ ∀ i, i < (bW B).length → OQ B 0 (decide (nL B.1 (903 + 8 * (bW B).getD i 0) = 1)) (wAt B i) 0 0
theorem ndW_0 {c : Int} : ndW B c 0 = bN B c.toNat := if_neg (by decide)
theorem wfS {c : Int} {i k q : Nat} (h : OQ B (bN B c.toNat) false i k q) : OQ B (ndW B c 0) (decide ((0 : Int) < 0)) i k q := by
  rw [ndW_0, show decide ((0 : Int) < 0) = false from by decide]
  exact h
theorem isF_ph {ph c me w : Nat} (h : isF B ph c me w = true) : nL B.1 (903 + 8 * w) = ph := by
  unfold isF at h
  rw [Bool.and_eq_true, Bool.and_eq_true] at h
  exact eq_of_beq h.1.1
theorem wfW0 (wf : WFB B) {c : Int} {ph c9 me i : Nat} (b : isF B ph c9 me ((bW B).getD i 0) = true) (hi : i < (bW B).length) (hp : ph ≠ 1) : OQ B (ndW B c 0) (decide ((0 : Int) < 0)) (wAt B i) 0 0 := by
  have w := wf.2 i hi
  rw [isF_ph b, decide_eq_false hp] at w
  exact wfS (w.ndl (Nat.zero_le _))
theorem wfW1 (wf : WFB B) {c : Int} {c9 me i : Nat} (b : isF B 1 c9 me ((bW B).getD i 0) = true) (hi : i < (bW B).length) : OQ B (ndW B c ((i + 1 : Nat) : Int)) (decide ((0 : Int) < ((i + 1 : Nat) : Int))) (wAt B i) 0 0 := by
  have w := wf.2 i hi
  rw [isF_ph b] at w
  have e : ndW B c ((i + 1 : Nat) : Int) = 0 := if_pos (by omega)
  rw [e, decide_eq_true (show (0 : Int) < ((i + 1 : Nat) : Int) by omega)]
  exact w
theorem mAb_0 {o c pl : Int} (j : Nat) : mAb B m o c pl 0 j = m 0 j := by
  unfold mAb
  split <;> rfl
theorem PHI.t3 (wf : WFB B) {lv o c pl ps it : Int} (h : PHI B (m, a, Fmake lv o c pl ps it :: r) n) : 1 ≤ n ∧ PHI B (stM B (m, a, Fmake lv o c pl ps it :: r)) (n - 1) := by
  obtain ⟨h1, h2, h3, k, ⟨w, x, y, z⟩, h5⟩ := h
  have x : ps.toNat ≤ 8 ∧ it.toNat ≤ 24 ∧ 25 * (8 - ps.toNat) + (24 - it.toNat) + 18 ≤ w := x
  have h3 : MKs r (m 0 4) := h3
  have h1 : 0 ≤ m 0 1 := h1
  have h2 : m 0 1 ≤ 3000 := h2
  have h5 : 250 * (3000 - m 0 1) + 10 * m 0 4 + (k : Int) ≤ (n : Int) := h5
  show 1 ≤ n ∧ PHI B (if m 0 6 = 2 ∨ m 0 6 = 3 then (mAb B (mU m 0 8 (m 0 8 + 1)) o c pl, a, r) else _) (n - 1)
  split
  · rename_i hs
    refine PHI.go (k := k - 1) (by rw [mAb_0]; exact h1) (by rw [mAb_0]; exact h2) (by rw [mAb_0]; exact h3) (WS.wt3 ?_ z (by omega)) (by rw [mAb_0, mAb_0]; show 250 * (3000 - m 0 1) + 10 * m 0 4 + ((k - 1 : Nat) : Int) + 1 ≤ (n : Int); omega)
    rw [mAb_0]
    show ¬ m 0 6 = 1
    omega
  · have j0 : ∀ j, (if m 0 6 = 1 then mJoin m o.toNat ps.toNat a.toInt else m) 0 j = m 0 j := fun j => by split <;> rfl
    split
    · rename_i x2 e2
      have b := nxC_b 9 ps.toNat it.toNat x2.1 x2.2 e2
      have nw : 25 * (8 - x2.1) + (24 - (x2.2 + 1)) + 18 ≤ w - 1 := by
        by_cases q : x2.1 = ps.toNat
        · have := b.2.2.2 q
          omega
        · omega
      have fm : FW B (Fmake lv o c pl (x2.1 : Int) ((x2.2 + 1 : Nat) : Int)) (w - 1) := ⟨by show x2.1 ≤ 8; omega, by show x2.2 + 1 ≤ 24; omega, nw⟩
      exact PHI.sk (k := k - 1) (by rw [j0]; exact h1) (by rw [j0]; exact h2) (by rw [j0]; exact h3) (fun _ => ⟨w - 1, fm, by omega, z.le (by omega)⟩) ⟨w - 1, fm, by omega, z.le (by omega)⟩ (by rw [j0, j0]; omega)
    · split
      · rename_i hb
        exact PHI.go (k := k - 1) (by show 0 ≤ (if m 0 6 = 1 then mJoin m o.toNat ps.toNat a.toInt else m) 0 1; rw [j0]; exact h1) (by show (if m 0 6 = 1 then mJoin m o.toNat ps.toNat a.toInt else m) 0 1 ≤ 3000; rw [j0]; exact h2) (by show MKs r ((if m 0 6 = 1 then mJoin m o.toNat ps.toNat a.toInt else m) 0 4); rw [j0]; exact h3) ⟨4, ⟨0, wfS (wf.1 _ _ hb), Nat.le_refl _⟩, by omega, 13, (show 13 ≤ 13 by decide), by omega, z.le (by omega)⟩ (by show 250 * (3000 - (if m 0 6 = 1 then mJoin m o.toNat ps.toNat a.toInt else m) 0 1) + 10 * (if m 0 6 = 1 then mJoin m o.toNat ps.toNat a.toInt else m) 0 4 + ((k - 1 : Nat) : Int) + 1 ≤ (n : Int); rw [j0, j0]; omega)
      · exact PHI.go (k := k - 11) (by show 0 ≤ (if m 0 6 = 1 then mJoin m o.toNat ps.toNat a.toInt else m) 0 1; rw [j0]; exact h1) (by show (if m 0 6 = 1 then mJoin m o.toNat ps.toNat a.toInt else m) 0 1 ≤ 3000; rw [j0]; exact h2) (by show MKs r ((if m 0 6 = 1 then mJoin m o.toNat ps.toNat a.toInt else m) 0 4 + 1); rw [j0]; exact MKs.up h3 (by omega)) (WS.wt2 z (by omega)) (by show 250 * (3000 - (if m 0 6 = 1 then mJoin m o.toNat ps.toNat a.toInt else m) 0 1) + 10 * ((if m 0 6 = 1 then mJoin m o.toNat ps.toNat a.toInt else m) 0 4 + 1) + ((k - 11 : Nat) : Int) + 1 ≤ (n : Int); rw [j0, j0]; omega)
theorem PHI.t4 {lv o c pl : Int} (h : PHI B (m, a, Fopen lv o c pl :: r) n) : 1 ≤ n ∧ PHI B (stM B (m, a, Fopen lv o c pl :: r)) (n - 1) := by
  obtain ⟨h1, h2, h3, k, ⟨w, x, y, z⟩, h5⟩ := h
  have x : 13 ≤ w := x
  have h3 : MKs r (m 0 4) := h3
  have h1 : 0 ≤ m 0 1 := h1
  have h2 : m 0 1 ≤ 3000 := h2
  have h5 : 250 * (3000 - m 0 1) + 10 * m 0 4 + (k : Int) ≤ (n : Int) := h5
  show 1 ≤ n ∧ PHI B (if m 0 6 = 2 ∨ m 0 6 = 3 then (mAb B m o c pl, a, r) else mAns (mDone m o.toNat) (nI o.toNat) r) (n - 1)
  split
  · rename_i hs
    refine PHI.go (k := k - 1) (by rw [mAb_0]; exact h1) (by rw [mAb_0]; exact h2) (by rw [mAb_0]; exact h3) (WS.wt3 ?_ z (by omega)) (by rw [mAb_0, mAb_0]; omega)
    rw [mAb_0]
    omega
  · exact PHI.go (k := k - 11) h1 h2 (show MKs r (m 0 4 + 1) from MKs.up h3 (by omega)) (WS.wt2 z (by omega)) (by show 250 * (3000 - m 0 1) + 10 * (m 0 4 + 1) + ((k - 11 : Nat) : Int) + 1 ≤ (n : Int); omega)
theorem PHI.t5 {lv o c sc me : Int} {v : Int32} (h : PHI B (m, a, Fcall0 lv o c sc me v :: r) n) : 1 ≤ n ∧ PHI B (stM B (m, a, Fcall0 lv o c sc me v :: r)) (n - 1) := by
  obtain ⟨h1, h2, h3, k, ⟨w, x, y, z⟩, h5⟩ := h
  have x : 1 ≤ w := x
  have h3 : MKs r (m 0 4) := h3
  have h1 : 0 ≤ m 0 1 := h1
  have h2 : m 0 1 ≤ 3000 := h2
  have h5 : 250 * (3000 - m 0 1) + 10 * m 0 4 + (k : Int) ≤ (n : Int) := h5
  show 1 ≤ n ∧ PHI B (if ¬ mCan m then mSpent m a r else if 10 < lv then mFail (mSt m) a 0 13 r else if ¬ (0 ≤ o ∧ o < m 0 2 ∧ m 3 o.toNat = 1) then mFail (mSt m) a 0 17 r else mGo (mSt m) a (Fin0 lv o c sc me 0 v :: Fcall1 lv o c sc me :: r)) (n - 1)
  split
  · exact PHI.go (k := k - 1) h1 h2 h3 (WS.wt3 (show ¬ (3 : Int) = 1 by decide) z (by omega)) (by show 250 * (3000 - m 0 1) + 10 * m 0 4 + ((k - 1 : Nat) : Int) + 1 ≤ (n : Int); omega)
  · rename_i hc
    have hc : m 0 1 < 3000 ∧ m 0 0 < 60000 := Decidable.of_not_not hc
    split
    · exact PHI.go (k := k - 1) (show 0 ≤ m 0 1 + 1 by omega) (show m 0 1 + 1 ≤ 3000 by omega) h3 (WS.wt3 (show ¬ (2 : Int) = 1 by decide) z (by omega)) (by show 250 * (3000 - (m 0 1 + 1)) + 10 * m 0 4 + ((k - 1 : Nat) : Int) + 1 ≤ (n : Int); omega)
    · split
      · exact PHI.go (k := k - 1) (show 0 ≤ m 0 1 + 1 by omega) (show m 0 1 + 1 ≤ 3000 by omega) h3 (WS.wt3 (show ¬ (2 : Int) = 1 by decide) z (by omega)) (by show 250 * (3000 - (m 0 1 + 1)) + 10 * m 0 4 + ((k - 1 : Nat) : Int) + 1 ≤ (n : Int); omega)
      · exact PHI.go (k := k + 193) (show 0 ≤ m 0 1 + 1 by omega) (show m 0 1 + 1 ≤ 3000 by omega) h3 ⟨129, (show 129 ≤ 129 by decide), by omega, 64, (show 64 ≤ 64 by decide), by omega, z.le (by omega)⟩ (by show 250 * (3000 - (m 0 1 + 1)) + 10 * m 0 4 + ((k + 193 : Nat) : Int) + 1 ≤ (n : Int); omega)
theorem PHI.rs (wf : WFB B) {lv o c sc me ps nd fl : Int} {w k : Nat} (h1 : 0 ≤ m 0 1) (h2 : m 0 1 ≤ 3000) (h3 : MKs r (m 0 4)) (x : 5 * (min 12 ps.toNat) + 3 ≤ w) (y : w ≤ k) (z : WS B r (k - w)) (h5 : 250 * (3000 - m 0 1) + 10 * m 0 4 + (k : Int) ≤ (n : Int)) : 1 ≤ n ∧ PHI B (resM B m a r lv o c sc me ps nd fl) (n - 1) := by
  unfold resM
  split
  · exact PHI.go (k := k - 1) h1 h2 h3 (WS.wt3 (show ¬ (2 : Int) = 1 by decide) z (by omega)) (by show 250 * (3000 - m 0 1) + 10 * m 0 4 + ((k - 1 : Nat) : Int) + 1 ≤ (n : Int); omega)
  · rename_i i e
    have b := fB_b e
    exact PHI.go (k := k - 1) h1 h2 h3 ⟨4, ⟨0, wfW0 wf b.2.2.2 b.2.2.1 (by decide), Nat.le_refl _⟩, by omega, 5 * i + 3, (show 5 * i + 3 ≤ 5 * i + 3 from Nat.le_refl _), by omega, z.le (by omega)⟩ (by show 250 * (3000 - m 0 1) + 10 * m 0 4 + ((k - 1 : Nat) : Int) + 1 ≤ (n : Int); omega)
theorem PHI.t6 (wf : WFB B) {lv o c sc me : Int} (h : PHI B (m, a, Fcall1 lv o c sc me :: r) n) : 1 ≤ n ∧ PHI B (stM B (m, a, Fcall1 lv o c sc me :: r)) (n - 1) := by
  obtain ⟨h1, h2, h3, k, ⟨w, x, y, z⟩, h5⟩ := h
  have x : 64 ≤ w := x
  have h5 : 250 * (3000 - m 0 1) + 10 * m 0 4 + (k : Int) ≤ (n : Int) := h5
  show 1 ≤ n ∧ PHI B (if m 0 6 ≠ 2 then (m, a, r) else resM B m a r lv o c sc me ((wN B : Nat) : Int) (m 0 8) (m 0 9)) (n - 1)
  split
  · exact PHI.go (k := k - 1) h1 h2 h3 (WS.wt2 z (by omega)) (by omega)
  · exact PHI.rs wf (w := w) h1 h2 h3 (by omega) y z h5
theorem PHI.t7 (wf : WFB B) {lv o c sc me ps nd fl : Int} (h : PHI B (m, a, Fcall3 lv o c sc me ps nd fl :: r) n) : 1 ≤ n ∧ PHI B (stM B (m, a, Fcall3 lv o c sc me ps nd fl :: r)) (n - 1) := by
  obtain ⟨h1, h2, h3, k, ⟨w, x, y, z⟩, h5⟩ := h
  have x : 5 * ps.toNat + 3 ≤ w := x
  have h5 : 250 * (3000 - m 0 1) + 10 * m 0 4 + (k : Int) ≤ (n : Int) := h5
  show 1 ≤ n ∧ PHI B (if m 0 6 ≠ 2 then (m, a, r) else resM B m a r lv o c sc me ps nd fl) (n - 1)
  split
  · exact PHI.go (k := k - 1) h1 h2 h3 (WS.wt2 z (by omega)) (by omega)
  · exact PHI.rs wf (w := w) h1 h2 h3 (by omega) y z h5
theorem PHI.t8 (wf : WFB B) {lv o c sc me ps : Int} {v : Int32} (h : PHI B (m, a, Fin0 lv o c sc me ps v :: r) n) : 1 ≤ n ∧ PHI B (stM B (m, a, Fin0 lv o c sc me ps v :: r)) (n - 1) := by
  obtain ⟨h1, h2, h3, k, ⟨w, x, y, z⟩, h5⟩ := h
  have x : 129 ≤ w := x
  have h5 : 250 * (3000 - m 0 1) + 10 * m 0 4 + (k : Int) ≤ (n : Int) := h5
  show 1 ≤ n ∧ PHI B (match fF (bW B) (isF B 1 c.toNat me.toNat) ps.toNat with
    | some i => wrapM B m a (Fin1 lv o c sc me :: r) lv o c sc me ((i + 1 : Nat) : Int) i v
    | none => mAns m v (Fin4 lv o c sc me 0 :: r)) (n - 1)
  split
  · rename_i i e
    have b := fF_b e
    exact PHI.go (k := k - 1) h1 h2 h3 ⟨4, ⟨0, wfW1 wf b.2.2.2 b.2.2.1, Nat.le_refl _⟩, by omega, 3, (show 3 ≤ 3 by decide), by omega, z.le (by omega)⟩ (by show 250 * (3000 - m 0 1) + 10 * m 0 4 + ((k - 1 : Nat) : Int) + 1 ≤ (n : Int); omega)
  · exact PHI.go (k := k - 1) h1 h2 h3 ⟨128, ⟨by decide, by decide⟩, by omega, z.le (by omega)⟩ (by show 250 * (3000 - m 0 1) + 10 * m 0 4 + ((k - 1 : Nat) : Int) + 1 ≤ (n : Int); omega)
theorem PHI.t9 {lv o c sc me : Int} (h : PHI B (m, a, Fin1 lv o c sc me :: r) n) : 1 ≤ n ∧ PHI B (stM B (m, a, Fin1 lv o c sc me :: r)) (n - 1) := by
  obtain ⟨h1, h2, h3, k, ⟨w, x, y, z⟩, h5⟩ := h
  have x : 3 ≤ w := x
  have h5 : 250 * (3000 - m 0 1) + 10 * m 0 4 + (k : Int) ≤ (n : Int) := h5
  exact PHI.go (k := k - 1) h1 h2 h3 (WS.wt2 z (by omega)) (by omega)
theorem PHI.t10 (wf : WFB B) {lv o c sc me ps : Int} (h : PHI B (m, a, Fin4 lv o c sc me ps :: r) n) : 1 ≤ n ∧ PHI B (stM B (m, a, Fin4 lv o c sc me ps :: r)) (n - 1) := by
  obtain ⟨h1, h2, h3, k, ⟨w, x, y, z⟩, h5⟩ := h
  have x : ps.toNat ≤ 12 ∧ 5 * (12 - ps.toNat) + 68 ≤ w := x
  have h5 : 250 * (3000 - m 0 1) + 10 * m 0 4 + (k : Int) ≤ (n : Int) := h5
  show 1 ≤ n ∧ PHI B (if m 0 6 ≠ 1 then (m, a, r) else (match fF (bW B) (isF B 0 c.toNat me.toNat) ps.toNat with
    | some i => wrapM B m a (Fin4 lv o c sc me ((i + 1 : Nat) : Int) :: r) lv o c sc me 0 i a
    | none => if bE B c.toNat me.toNat = 0 then mFail m a 0 11 r else mGo m a (Fwork lv o c sc me 0 ((bE B c.toNat me.toNat - 1 : Nat) : Int) a [] :: Fin5 lv o c sc me ((wN B : Nat) : Int) :: r))) (n - 1)
  split
  · exact PHI.go (k := k - 1) h1 h2 h3 (WS.wt2 z (by omega)) (by omega)
  · split
    · rename_i i e
      have b := fF_b e
      exact PHI.go (k := k - 1) h1 h2 h3 ⟨4, ⟨0, wfW0 wf b.2.2.2 b.2.2.1 (by decide), Nat.le_refl _⟩, by omega, 5 * (12 - (i + 1)) + 68, ⟨by show i + 1 ≤ 12; omega, Nat.le_refl _⟩, by omega, z.le (by omega)⟩ (by show 250 * (3000 - m 0 1) + 10 * m 0 4 + ((k - 1 : Nat) : Int) + 1 ≤ (n : Int); omega)
    · split
      · exact PHI.go (k := k - 1) h1 h2 h3 (WS.wt3 (show ¬ (2 : Int) = 1 by decide) z (by omega)) (by show 250 * (3000 - m 0 1) + 10 * m 0 4 + ((k - 1 : Nat) : Int) + 1 ≤ (n : Int); omega)
      · rename_i hb
        have hw : wN B ≤ 12 := Nat.min_le_left _ _
        exact PHI.go (k := k - 1) h1 h2 h3 ⟨4, ⟨0, wfS (wf.1 _ _ hb), Nat.le_refl _⟩, by omega, 63, (show 5 * wN B + 3 ≤ 63 by omega), by omega, z.le (by omega)⟩ (by show 250 * (3000 - m 0 1) + 10 * m 0 4 + ((k - 1 : Nat) : Int) + 1 ≤ (n : Int); omega)
theorem PHI.t11 (wf : WFB B) {lv o c sc me ps : Int} (h : PHI B (m, a, Fin5 lv o c sc me ps :: r) n) : 1 ≤ n ∧ PHI B (stM B (m, a, Fin5 lv o c sc me ps :: r)) (n - 1) := by
  obtain ⟨h1, h2, h3, k, ⟨w, x, y, z⟩, h5⟩ := h
  have x : 5 * ps.toNat + 3 ≤ w := x
  have h5 : 250 * (3000 - m 0 1) + 10 * m 0 4 + (k : Int) ≤ (n : Int) := h5
  show 1 ≤ n ∧ PHI B (if m 0 6 ≠ 1 then (m, a, r) else (match fB (bW B) (isF B 2 c.toNat me.toNat) ps.toNat with
    | some i => wrapM B m a (Fin5 lv o c sc me (i : Int) :: r) lv o c sc me 0 i a
    | none => mAns m a r)) (n - 1)
  split
  · exact PHI.go (k := k - 1) h1 h2 h3 (WS.wt2 z (by omega)) (by omega)
  · split
    · rename_i i e
      have b := fB_b e
      exact PHI.go (k := k - 1) h1 h2 h3 ⟨4, ⟨0, wfW0 wf b.2.2.2 b.2.2.1 (by decide), Nat.le_refl _⟩, by omega, 5 * i + 3, (show 5 * i + 3 ≤ 5 * i + 3 from Nat.le_refl _), by omega, z.le (by omega)⟩ (by show 250 * (3000 - m 0 1) + 10 * m 0 4 + ((k - 1 : Nat) : Int) + 1 ≤ (n : Int); omega)
    · exact PHI.go (k := k - 1) h1 h2 h3 (WS.wt2 z (by omega)) (by show 250 * (3000 - m 0 1) + 10 * m 0 4 + ((k - 1 : Nat) : Int) + 1 ≤ (n : Int); omega)
theorem tl1 {p : List Int32} (h : 1 ≤ p.length) : p.tail.length + 1 = p.length := by
  rw [List.length_tail]
  omega
theorem tl2 {p : List Int32} {t : Nat} (h : p.length = t + 2) : p.tail.tail.length = t := by
  rw [List.length_tail, List.length_tail]
  omega
theorem PHI.od {lv o c sc me ps : Int} {i : Nat} {v : Int32} {p : List Int32} {w k q : Nat} (h1 : 0 ≤ m 0 1) (h2 : m 0 1 ≤ 3000) (h3 : MKs r (m 0 4)) (oq : OQ B (ndW B c ps) (decide (0 < ps)) i p.length q) (x : q + 4 ≤ w) (y : w ≤ k) (z : WS B r (k - w)) (h5 : 250 * (3000 - m 0 1) + 10 * m 0 4 + (k : Int) ≤ (n : Int)) : 1 ≤ n ∧ PHI B (ordM B m a r lv o c sc me ps i v p) (n - 1) := by
  obtain ⟨f, oq⟩ := oq
  cases f with
  | zero => exact oq.elim
  | succ f =>
  obtain ⟨hi, hk, oq⟩ := oq
  have nx9 : ∀ (j k2 q2 : Nat) (v2 : Int32) (p2 : List Int32), OKq B (ndW B c ps) (decide (0 < ps)) f j k2 q2 → p2.length = k2 → q2 + 5 ≤ w → 1 ≤ n ∧ PHI B (m, a, Fwork lv o c sc me ps (j : Int) v2 p2 :: r) (n - 1) := fun j k2 q2 v2 p2 oj el hj =>
    PHI.go (k := k - 1) h1 h2 h3 ⟨w - 1, ⟨q2, ⟨f, by rw [el]; exact oj⟩, by omega⟩, by omega, z.le (by omega)⟩ (by omega)
  unfold ordM
  rcases oq with ⟨e, _⟩ | ⟨e, oj⟩ | ⟨e, j, eq, oj⟩ | ⟨e, e1, j, eq, oj⟩ | ⟨e, j, t, eq, ek, oj⟩ | e | ⟨e, j, t, eq, ek, oj, oj2⟩ | ⟨e, j, eq, oj⟩ | ⟨e, e1, j, t, eq, ek, oj⟩ | ⟨e, e1, j, t, eq, ek, oj⟩
  · rw [if_pos e]
    exact PHI.go (k := k - 1) h1 h2 h3 (WS.wt2 z (by omega)) (by show 250 * (3000 - m 0 1) + 10 * m 0 4 + ((k - 1 : Nat) : Int) + 1 ≤ (n : Int); omega)
  · rw [if_neg (show ¬ opf B.1 i = 0 by omega), if_pos (show opf B.1 i = 1 by omega)]
    split
    · rename_i hc
      have hc : m 0 1 < 3000 ∧ m 0 0 < 60000 := hc
      exact PHI.go (k := k + 140) (show 0 ≤ m 0 1 + 1 by omega) (show m 0 1 + 1 ≤ 3000 by omega) h3 ⟨w + 140, ⟨q + 140, ⟨f, oj⟩, by omega⟩, by omega, z.le (by omega)⟩ (by show 250 * (3000 - (m 0 1 + 1)) + 10 * m 0 4 + ((k + 140 : Nat) : Int) + 1 ≤ (n : Int); omega)
    · exact PHI.go (k := k - 1) h1 h2 h3 (WS.wt3 (show ¬ (3 : Int) = 1 by decide) z (by omega)) (by show 250 * (3000 - m 0 1) + 10 * m 0 4 + ((k - 1 : Nat) : Int) + 1 ≤ (n : Int); omega)
  · rcases e with g | g | ⟨g, _⟩
    · rw [if_neg (show ¬ opf B.1 i = 0 by omega), if_neg (show ¬ opf B.1 i = 1 by omega), if_pos (show opf B.1 i = 2 by omega)]
      exact nx9 (i + 1) _ j _ _ oj rfl (by omega)
    · rw [if_neg (show ¬ opf B.1 i = 0 by omega), if_neg (show ¬ opf B.1 i = 1 by omega), if_neg (show ¬ opf B.1 i = 2 by omega), if_pos (show opf B.1 i = 3 by omega)]
      exact nx9 (i + 1) _ j _ _ oj rfl (by omega)
    · rw [if_neg (show ¬ opf B.1 i = 0 by omega), if_neg (show ¬ opf B.1 i = 1 by omega), if_neg (show ¬ opf B.1 i = 2 by omega), if_neg (show ¬ opf B.1 i = 3 by omega), if_neg (show ¬ opf B.1 i = 4 by omega), if_neg (show ¬ opf B.1 i = 5 by omega), if_neg (show ¬ opf B.1 i = 6 by omega), if_neg (show ¬ opf B.1 i = 7 by omega), if_neg (show ¬ opf B.1 i = 8 by omega), if_neg (show ¬ opf B.1 i = 9 by omega), if_neg (show ¬ opf B.1 i = 10 by omega), if_pos (show opf B.1 i = 11 by omega)]
      exact nx9 (i + 1) _ j _ _ oj rfl (by omega)
  · rw [if_neg (show ¬ opf B.1 i = 0 by omega), if_neg (show ¬ opf B.1 i = 1 by omega), if_neg (show ¬ opf B.1 i = 2 by omega), if_neg (show ¬ opf B.1 i = 3 by omega), if_pos (show opf B.1 i = 4 by omega)]
    exact nx9 (i + 1) _ j _ _ oj (tl1 e1) (by omega)
  · have e2 := tl2 ek
    rcases (show opf B.1 i = 5 ∨ opf B.1 i = 6 ∨ opf B.1 i = 7 ∨ opf B.1 i = 8 ∨ opf B.1 i = 9 from by omega) with g | g | g | g | g
    · rw [if_neg (show ¬ opf B.1 i = 0 by omega), if_neg (show ¬ opf B.1 i = 1 by omega), if_neg (show ¬ opf B.1 i = 2 by omega), if_neg (show ¬ opf B.1 i = 3 by omega), if_neg (show ¬ opf B.1 i = 4 by omega), if_pos (show opf B.1 i = 5 by omega)]
      exact nx9 (i + 1) _ j _ _ oj (congrArg Nat.succ e2) (by omega)
    · rw [if_neg (show ¬ opf B.1 i = 0 by omega), if_neg (show ¬ opf B.1 i = 1 by omega), if_neg (show ¬ opf B.1 i = 2 by omega), if_neg (show ¬ opf B.1 i = 3 by omega), if_neg (show ¬ opf B.1 i = 4 by omega), if_neg (show ¬ opf B.1 i = 5 by omega), if_pos (show opf B.1 i = 6 by omega)]
      exact nx9 (i + 1) _ j _ _ oj (congrArg Nat.succ e2) (by omega)
    · rw [if_neg (show ¬ opf B.1 i = 0 by omega), if_neg (show ¬ opf B.1 i = 1 by omega), if_neg (show ¬ opf B.1 i = 2 by omega), if_neg (show ¬ opf B.1 i = 3 by omega), if_neg (show ¬ opf B.1 i = 4 by omega), if_neg (show ¬ opf B.1 i = 5 by omega), if_neg (show ¬ opf B.1 i = 6 by omega), if_pos (show opf B.1 i = 7 by omega)]
      exact nx9 (i + 1) _ j _ _ oj (congrArg Nat.succ e2) (by omega)
    · rw [if_neg (show ¬ opf B.1 i = 0 by omega), if_neg (show ¬ opf B.1 i = 1 by omega), if_neg (show ¬ opf B.1 i = 2 by omega), if_neg (show ¬ opf B.1 i = 3 by omega), if_neg (show ¬ opf B.1 i = 4 by omega), if_neg (show ¬ opf B.1 i = 5 by omega), if_neg (show ¬ opf B.1 i = 6 by omega), if_neg (show ¬ opf B.1 i = 7 by omega), if_pos (show opf B.1 i = 8 by omega)]
      exact nx9 (i + 1) _ j _ _ oj (congrArg Nat.succ e2) (by omega)
    · rw [if_neg (show ¬ opf B.1 i = 0 by omega), if_neg (show ¬ opf B.1 i = 1 by omega), if_neg (show ¬ opf B.1 i = 2 by omega), if_neg (show ¬ opf B.1 i = 3 by omega), if_neg (show ¬ opf B.1 i = 4 by omega), if_neg (show ¬ opf B.1 i = 5 by omega), if_neg (show ¬ opf B.1 i = 6 by omega), if_neg (show ¬ opf B.1 i = 7 by omega), if_neg (show ¬ opf B.1 i = 8 by omega), if_pos (show opf B.1 i = 9 by omega)]
      exact nx9 (i + 1) _ j _ _ oj (congrArg Nat.succ e2) (by omega)
  · rw [if_neg (show ¬ opf B.1 i = 0 by omega), if_neg (show ¬ opf B.1 i = 1 by omega), if_neg (show ¬ opf B.1 i = 2 by omega), if_neg (show ¬ opf B.1 i = 3 by omega), if_neg (show ¬ opf B.1 i = 4 by omega), if_neg (show ¬ opf B.1 i = 5 by omega), if_neg (show ¬ opf B.1 i = 6 by omega), if_neg (show ¬ opf B.1 i = 7 by omega), if_neg (show ¬ opf B.1 i = 8 by omega), if_neg (show ¬ opf B.1 i = 9 by omega), if_pos (show opf B.1 i = 10 by omega)]
    exact PHI.go (k := k - 1) h1 h2 h3 (WS.wt3 (show ¬ (2 : Int) = 1 by decide) z (by omega)) (by show 250 * (3000 - m 0 1) + 10 * m 0 4 + ((k - 1 : Nat) : Int) + 1 ≤ (n : Int); omega)
  · have e2 : p.tail.length = t := by have := tl1 (p := p) (by omega); omega
    rw [if_neg (show ¬ opf B.1 i = 0 by omega), if_neg (show ¬ opf B.1 i = 1 by omega), if_neg (show ¬ opf B.1 i = 2 by omega), if_neg (show ¬ opf B.1 i = 3 by omega), if_neg (show ¬ opf B.1 i = 4 by omega), if_neg (show ¬ opf B.1 i = 5 by omega), if_neg (show ¬ opf B.1 i = 6 by omega), if_neg (show ¬ opf B.1 i = 7 by omega), if_neg (show ¬ opf B.1 i = 8 by omega), if_neg (show ¬ opf B.1 i = 9 by omega), if_neg (show ¬ opf B.1 i = 10 by omega), if_neg (show ¬ opf B.1 i = 11 by omega), if_pos (show opf B.1 i = 12 by omega)]
    split
    · exact nx9 _ _ j _ _ oj2 e2 (by omega)
    · exact nx9 (i + 1) _ j _ _ oj e2 (by omega)
  · rw [if_neg (show ¬ opf B.1 i = 0 by omega), if_neg (show ¬ opf B.1 i = 1 by omega), if_neg (show ¬ opf B.1 i = 2 by omega), if_neg (show ¬ opf B.1 i = 3 by omega), if_neg (show ¬ opf B.1 i = 4 by omega), if_neg (show ¬ opf B.1 i = 5 by omega), if_neg (show ¬ opf B.1 i = 6 by omega), if_neg (show ¬ opf B.1 i = 7 by omega), if_neg (show ¬ opf B.1 i = 8 by omega), if_neg (show ¬ opf B.1 i = 9 by omega), if_neg (show ¬ opf B.1 i = 10 by omega), if_neg (show ¬ opf B.1 i = 11 by omega), if_neg (show ¬ opf B.1 i = 12 by omega), if_pos (show opf B.1 i = 13 by omega)]
    exact nx9 _ _ j _ _ oj rfl (by omega)
  · have e2 : p.tail.length = t := by have := tl1 (p := p) (by omega); omega
    have hp : ¬ 0 < ps := fun hp => by
      have e3 : ndW B c ps = 0 := if_pos hp
      omega
    have e3 : ndW B c ps = bN B c.toNat := if_neg hp
    rw [e3, decide_eq_false hp] at oj
    rw [if_neg (show ¬ opf B.1 i = 0 by omega), if_neg (show ¬ opf B.1 i = 1 by omega), if_neg (show ¬ opf B.1 i = 2 by omega), if_neg (show ¬ opf B.1 i = 3 by omega), if_neg (show ¬ opf B.1 i = 4 by omega), if_neg (show ¬ opf B.1 i = 5 by omega), if_neg (show ¬ opf B.1 i = 6 by omega), if_neg (show ¬ opf B.1 i = 7 by omega), if_neg (show ¬ opf B.1 i = 8 by omega), if_neg (show ¬ opf B.1 i = 9 by omega), if_neg (show ¬ opf B.1 i = 10 by omega), if_neg (show ¬ opf B.1 i = 11 by omega), if_neg (show ¬ opf B.1 i = 12 by omega), if_neg (show ¬ opf B.1 i = 13 by omega), if_pos (show opf B.1 i = 14 by omega)]
    exact PHI.go (k := k - 1) h1 h2 h3 ⟨w - 1, ⟨j, ⟨f, by rw [e2]; exact oj⟩, by omega⟩, by omega, z.le (by omega)⟩ (by omega)
  · have e2 : p.tail.length = t := by have := tl1 (p := p) (by omega); omega
    rw [if_neg (show ¬ opf B.1 i = 0 by omega), if_neg (show ¬ opf B.1 i = 1 by omega), if_neg (show ¬ opf B.1 i = 2 by omega), if_neg (show ¬ opf B.1 i = 3 by omega), if_neg (show ¬ opf B.1 i = 4 by omega), if_neg (show ¬ opf B.1 i = 5 by omega), if_neg (show ¬ opf B.1 i = 6 by omega), if_neg (show ¬ opf B.1 i = 7 by omega), if_neg (show ¬ opf B.1 i = 8 by omega), if_neg (show ¬ opf B.1 i = 9 by omega), if_neg (show ¬ opf B.1 i = 10 by omega), if_neg (show ¬ opf B.1 i = 11 by omega), if_neg (show ¬ opf B.1 i = 12 by omega), if_neg (show ¬ opf B.1 i = 13 by omega), if_neg (show ¬ opf B.1 i = 14 by omega)]
    exact PHI.go (k := k - 1) h1 h2 h3 ⟨129, (show 129 ≤ 129 by decide), by omega, j + 5, ⟨j, ⟨f, by rw [e2]; exact oj⟩, by omega⟩, by omega, z.le (by omega)⟩ (by show 250 * (3000 - m 0 1) + 10 * m 0 4 + ((k - 1 : Nat) : Int) + 1 ≤ (n : Int); omega)
theorem PHI.t12 {lv o c sc me ps at9 : Int} {v : Int32} {p : List Int32} (h : PHI B (m, a, Fwork lv o c sc me ps at9 v p :: r) n) : 1 ≤ n ∧ PHI B (stM B (m, a, Fwork lv o c sc me ps at9 v p :: r)) (n - 1) := by
  obtain ⟨h1, h2, h3, k, ⟨w, x, y, z⟩, h5⟩ := h
  have h3 : MKs r (m 0 4) := h3
  have h1 : 0 ≤ m 0 1 := h1
  have h2 : m 0 1 ≤ 3000 := h2
  have h5 : 250 * (3000 - m 0 1) + 10 * m 0 4 + (k : Int) ≤ (n : Int) := h5
  obtain ⟨q, oq, x⟩ := x
  exact PHI.od h1 h2 h3 oq x y z h5
theorem PHI.t13 {lv o c sc me ps at9 : Int} {v : Int32} {p : List Int32} (h : PHI B (m, a, Fwait lv o c sc me ps at9 v p :: r) n) : 1 ≤ n ∧ PHI B (stM B (m, a, Fwait lv o c sc me ps at9 v p :: r)) (n - 1) := by
  obtain ⟨h1, h2, h3, k, ⟨w, x, y, z⟩, h5⟩ := h
  have h3 : MKs r (m 0 4) := h3
  have h1 : 0 ≤ m 0 1 := h1
  have h2 : m 0 1 ≤ 3000 := h2
  have h5 : 250 * (3000 - m 0 1) + 10 * m 0 4 + (k : Int) ≤ (n : Int) := h5
  obtain ⟨q, oq, x⟩ := x
  show 1 ≤ n ∧ PHI B (if m 0 6 ≠ 1 then (m, a, r) else (m, a, Fwork lv o c sc me ps at9 v (a :: p) :: r)) (n - 1)
  split
  · exact PHI.go (k := k - 1) h1 h2 h3 (WS.wt2 z (by omega)) (by omega)
  · exact PHI.go (k := k - 1) h1 h2 h3 ⟨w - 1, ⟨q, oq, by omega⟩, by omega, z.le (by omega)⟩ (by omega)
theorem PHI.t14 {lv o c sc at9 nd tg : Int} {v g : Int32} {p : List Int32} (h : PHI B (m, a, Fask lv o c sc at9 nd tg v g p :: r) n) : 1 ≤ n ∧ PHI B (stM B (m, a, Fask lv o c sc at9 nd tg v g p :: r)) (n - 1) := by
  obtain ⟨h1, h2, h3, k, ⟨w, x, y, z⟩, h5⟩ := h
  have h3 : MKs r (m 0 4) := h3
  have h1 : 0 ≤ m 0 1 := h1
  have h2 : m 0 1 ≤ 3000 := h2
  have h5 : 250 * (3000 - m 0 1) + 10 * m 0 4 + (k : Int) ≤ (n : Int) := h5
  obtain ⟨q, oq, x⟩ := x
  have cw : ∀ (x9 c9 : Int), 1 ≤ n ∧ PHI B (mGo m a (Fcall0 (lv + 1) x9 c9 sc tg g :: Fwait lv o c sc 0 0 at9 v p :: r)) (n - 1) := fun x9 c9 => PHI.go (k := k - 1) h1 h2 h3 ⟨1, (show 1 ≤ 1 by decide), by omega, q + 5, ⟨q, wfS oq, Nat.le_refl _⟩, by omega, z.le (by omega)⟩ (by show 250 * (3000 - m 0 1) + 10 * m 0 4 + ((k - 1 : Nat) : Int) + 1 ≤ (n : Int); omega)
  show 1 ≤ n ∧ PHI B (if bK B c.toNat nd.toNat = 2 then mAns m 0 (Fsum lv o c sc at9 nd tg 0 v g 0 p :: r)
    else match jnd m o.toNat nd.toNat 0 with
    | none => if bK B c.toNat nd.toNat = 1 then (if 10 ≤ lv then mFail m a 0 13 (Fget lv o c sc at9 nd tg v g p :: r) else mGo m a (Froot0 (lv + 1) (((bC B c.toNat nd.toNat).headD 0 : Nat) : Int) sc (m 0 4) :: Fget lv o c sc at9 nd tg v g p :: r))
      else mGo m a (Fcall0 (lv + 1) (-1) 0 sc tg g :: Fwait lv o c sc 0 0 at9 v p :: r)
    | some x => mGo m a (Fcall0 (lv + 1) x (m 1 x.toNat) sc tg g :: Fwait lv o c sc 0 0 at9 v p :: r)) (n - 1)
  split
  · exact PHI.go (k := k - 1) h1 h2 h3 ⟨w - 1, ⟨q, oq, by show q + 5 ≤ w - 1; omega⟩, by omega, z.le (by omega)⟩ (by show 250 * (3000 - m 0 1) + 10 * m 0 4 + ((k - 1 : Nat) : Int) + 1 ≤ (n : Int); omega)
  · split
    · split
      · split
        · exact PHI.go (k := k - 1) h1 h2 h3 ⟨w - 1, ⟨q, oq, by omega⟩, by omega, z.le (by omega)⟩ (by show 250 * (3000 - m 0 1) + 10 * m 0 4 + ((k - 1 : Nat) : Int) + 1 ≤ (n : Int); omega)
        · exact PHI.go (k := k - 1) h1 h2 (show m 0 4 ≤ m 0 4 ∧ MKs r (m 0 4) from ⟨Int.le_refl _, h3⟩) ⟨5, (show 5 ≤ 5 by decide), by omega, q + 7, ⟨q, oq, Nat.le_refl _⟩, by omega, z.le (by omega)⟩ (by show 250 * (3000 - m 0 1) + 10 * m 0 4 + ((k - 1 : Nat) : Int) + 1 ≤ (n : Int); omega)
      · exact cw _ _
    · exact cw _ _
theorem PHI.t15 {lv o c sc at9 nd tg : Int} {v g : Int32} {p : List Int32} (h : PHI B (m, a, Fget lv o c sc at9 nd tg v g p :: r) n) : 1 ≤ n ∧ PHI B (stM B (m, a, Fget lv o c sc at9 nd tg v g p :: r)) (n - 1) := by
  obtain ⟨h1, h2, h3, k, ⟨w, x, y, z⟩, h5⟩ := h
  have h3 : MKs r (m 0 4) := h3
  have h1 : 0 ≤ m 0 1 := h1
  have h2 : m 0 1 ≤ 3000 := h2
  have h5 : 250 * (3000 - m 0 1) + 10 * m 0 4 + (k : Int) ≤ (n : Int) := h5
  obtain ⟨q, oq, x⟩ := x
  show 1 ≤ n ∧ PHI B (if m 0 6 ≠ 1 then (m, a, r) else mGo (if bS B (m 1 a.toInt.toNat).toNat = 3 ∧ jnd m o.toNat nd.toNat 0 = none then mJoin m o.toNat nd.toNat a.toInt else m) a (Fcall0 (lv + 1) a.toInt (m 1 a.toInt.toNat) sc tg g :: Fwait lv o c sc 0 0 at9 v p :: r)) (n - 1)
  split
  · exact PHI.go (k := k - 1) h1 h2 h3 (WS.wt2 z (by omega)) (by omega)
  · have wt : ∀ sg, WT B sg (Fcall0 (lv + 1) a.toInt (m 1 a.toInt.toNat) sc tg g :: Fwait lv o c sc 0 0 at9 v p :: r) (k - 1) := fun _ => ⟨1, (show 1 ≤ 1 by decide), by omega, q + 5, ⟨q, wfS oq, Nat.le_refl _⟩, by omega, z.le (by omega)⟩
    by_cases hj : bS B (m 1 a.toInt.toNat).toNat = 3 ∧ jnd m o.toNat nd.toNat 0 = none
    · rw [if_pos hj]
      exact PHI.go h1 h2 h3 (wt _) (by show 250 * (3000 - m 0 1) + 10 * m 0 4 + ((k - 1 : Nat) : Int) + 1 ≤ (n : Int); omega)
    · rw [if_neg hj]
      exact PHI.go h1 h2 h3 (wt _) (by show 250 * (3000 - m 0 1) + 10 * m 0 4 + ((k - 1 : Nat) : Int) + 1 ≤ (n : Int); omega)
theorem PHI.t16 {lv o c sc at9 nd tg it : Int} {v g u : Int32} {p : List Int32} (h : PHI B (m, a, Fsum lv o c sc at9 nd tg it v g u p :: r) n) : 1 ≤ n ∧ PHI B (stM B (m, a, Fsum lv o c sc at9 nd tg it v g u p :: r)) (n - 1) := by
  obtain ⟨h1, h2, h3, k, ⟨w, x, y, z⟩, h5⟩ := h
  have h3 : MKs r (m 0 4) := h3
  have h1 : 0 ≤ m 0 1 := h1
  have h2 : m 0 1 ≤ 3000 := h2
  have h5 : 250 * (3000 - m 0 1) + 10 * m 0 4 + (k : Int) ≤ (n : Int) := h5
  obtain ⟨q, oq, x⟩ := x
  have x : q + (if m 0 6 = 1 then 5 else 3) ≤ w := x
  show 1 ≤ n ∧ PHI B (if m 0 6 ≠ 1 then (m, a, r) else (match jnd m o.toNat nd.toNat it with
    | none => (m, a, Fwork lv o c sc 0 0 at9 v ((u + a) :: p) :: r)
    | some x => mGo m a (Fcall0 (lv + 1) x (m 1 x.toNat) sc tg g :: Fsum lv o c sc at9 nd tg (it + 1) v g (u + a) p :: r))) (n - 1)
  split
  · rename_i hs
    rw [if_neg hs] at x
    exact PHI.go (k := k - 1) h1 h2 h3 (WS.wt3 hs z (by omega)) (by omega)
  · rename_i hs
    rw [if_pos (Decidable.of_not_not hs)] at x
    split
    · exact PHI.go (k := k - 1) h1 h2 h3 ⟨w - 1, ⟨q, wfS oq, by omega⟩, by omega, z.le (by omega)⟩ (by omega)
    · exact PHI.go (k := k - 1) h1 h2 h3 ⟨1, (show 1 ≤ 1 by decide), by omega, q + 3, ⟨q, oq, Nat.le_refl _⟩, by omega, z.le (by omega)⟩ (by show 250 * (3000 - m 0 1) + 10 * m 0 4 + ((k - 1 : Nat) : Int) + 1 ≤ (n : Int); omega)
theorem mNote_0 {o kd : Int} {j : Nat} (hj : j ≠ 5) : mNote m o kd 0 j = m 0 j := by
  unfold mNote
  split
  · rw [mU_o _ _ (by omega), mU_o _ _ (by omega), mU_o _ _ (by omega)]
  · rw [mU_o _ _ (by omega)]
theorem PHI.cl {o : Int} {w k : Nat} (h1 : 0 ≤ m 0 1) (h2 : m 0 1 ≤ 3000) (h3 : MKs r (m 0 4)) (x : 3 ≤ w) (y : w ≤ k) (z : WS B r (k - w)) (h5 : 250 * (3000 - m 0 1) + 10 * m 0 4 + (k : Int) ≤ (n : Int)) : 1 ≤ n ∧ PHI B (cloM m a r o) (n - 1) := by
  have e1 : ∀ kd, mNote m o kd 0 1 = m 0 1 := fun kd => mNote_0 (by decide)
  have e4 : ∀ kd, mNote m o kd 0 4 = m 0 4 := fun kd => mNote_0 (by decide)
  unfold cloM
  split
  · refine PHI.go (k := k - 1) (show 0 ≤ mNote m o _ 0 1 from ?_) (show mNote m o _ 0 1 ≤ 3000 from ?_) (show MKs r (mNote m o _ 0 4) from ?_) (WS.wt2 z (by omega)) (show 250 * (3000 - mNote m o _ 0 1) + 10 * mNote m o _ 0 4 + ((k - 1 : Nat) : Int) + 1 ≤ (n : Int) from ?_)
    all_goals (first | (rw [e1, e4]; omega) | (rw [e1]; assumption) | (rw [e4]; assumption))
  · split
    · refine PHI.go (k := k - 1) (show 0 ≤ mNote m o _ 0 1 from ?_) (show mNote m o _ 0 1 ≤ 3000 from ?_) (show MKs r (mNote m o _ 0 4) from ?_) (WS.wt2 z (by omega)) (show 250 * (3000 - mNote m o _ 0 1) + 10 * mNote m o _ 0 4 + ((k - 1 : Nat) : Int) + 1 ≤ (n : Int) from ?_)
      all_goals (first | (rw [e1, e4]; omega) | (rw [e1]; assumption) | (rw [e4]; assumption))
    · refine PHI.go (k := k - 1) (show 0 ≤ mNote m o _ 0 1 from ?_) (show mNote m o _ 0 1 ≤ 3000 from ?_) (show MKs r (mNote m o _ 0 4) from ?_) (WS.wt2 z (by omega)) (show 250 * (3000 - mNote m o _ 0 1) + 10 * mNote m o _ 0 4 + ((k - 1 : Nat) : Int) + 1 ≤ (n : Int) from ?_)
      all_goals (first | (rw [e1, e4]; omega) | (rw [e1]; assumption) | (rw [e4]; assumption))
theorem PHI.t17 (wf : WFB B) {lv o c sc : Int} (h : PHI B (m, a, Fclo0 lv o c sc :: r) n) : 1 ≤ n ∧ PHI B (stM B (m, a, Fclo0 lv o c sc :: r)) (n - 1) := by
  obtain ⟨h1, h2, h3, k, ⟨w, x, y, z⟩, h5⟩ := h
  have h3 : MKs r (m 0 4) := h3
  have h1 : 0 ≤ m 0 1 := h1
  have h2 : m 0 1 ≤ 3000 := h2
  have h5 : 250 * (3000 - m 0 1) + 10 * m 0 4 + (k : Int) ≤ (n : Int) := h5
  have x : 8 ≤ w := x
  show 1 ≤ n ∧ PHI B (if bE B c.toNat 31 ≠ 0 then mGo m a (Fwork lv o c sc 0 0 ((bE B c.toNat 31 - 1 : Nat) : Int) 0 [] :: Fclo1 lv o c sc :: r) else cloM m a r o) (n - 1)
  split
  · rename_i hb
    exact PHI.go (k := k - 1) h1 h2 h3 ⟨4, ⟨0, wfS (wf.1 _ _ hb), Nat.le_refl _⟩, by omega, 3, (show 3 ≤ 3 by decide), by omega, z.le (by omega)⟩ (by show 250 * (3000 - m 0 1) + 10 * m 0 4 + ((k - 1 : Nat) : Int) + 1 ≤ (n : Int); omega)
  · exact PHI.cl h1 h2 h3 (by omega) y z h5
theorem PHI.t18 {lv o c sc : Int} (h : PHI B (m, a, Fclo1 lv o c sc :: r) n) : 1 ≤ n ∧ PHI B (stM B (m, a, Fclo1 lv o c sc :: r)) (n - 1) := by
  obtain ⟨h1, h2, h3, k, ⟨w, x, y, z⟩, h5⟩ := h
  have h3 : MKs r (m 0 4) := h3
  have h1 : 0 ≤ m 0 1 := h1
  have h2 : m 0 1 ≤ 3000 := h2
  have h5 : 250 * (3000 - m 0 1) + 10 * m 0 4 + (k : Int) ≤ (n : Int) := h5
  have x : 3 ≤ w := x
  exact PHI.cl h1 h2 h3 x y z h5
end PHt
/-- each step of the machine costs -/
theorem PHI.st {B : Bk} (wf : WFB B) {m : Mm} {a : Int32} {f : Fr} {r : List Fr} {n : Nat} (h : PHI B (m, a, f :: r) n) : 1 ≤ n ∧ PHI B (stM B (m, a, f :: r)) (n - 1) := by
  have fw : ∃ w, FT B (m 0 6) f w := by
    obtain ⟨_, _, _, k, ⟨w, x, _⟩, _⟩ := h
    exact ⟨w, x⟩
  obtain ⟨w, x⟩ := fw
  unfold FT at x
  split at x
  · exact h.t16
  · unfold FW at x
    split at x
    · exact h.t0
    · exact h.t1
    · exact h.t2
    · exact h.t3 wf
    · exact h.t4
    · exact h.t5
    · exact h.t6 wf
    · exact h.t7 wf
    · exact h.t8 wf
    · exact h.t9
    · exact h.t10 wf
    · exact h.t11 wf
    · exact h.t12
    · exact h.t13
    · exact h.t14
    · exact h.t15
    · exact h.t16
    · exact h.t17 wf
    · exact h.t18
    · exact x.elim
/-! runs of the machine that keep to what the class has room for -/
def totP (fs : List Fr) : Nat := (fs.map (fun f => f.2.2.2.length)).sum
/-- what the one on top wants -/
def SFt (B : Bk) (m : Mm) (a : Int32) (f : Fr) : Prop := match f with
  | (3, [_, o, _, _, ps, _], _, _) => m 0 4 ≤ 299 ∧ (m 0 6 = 1 → (0 ≤ ps ∧ ps ≤ 7) ∧ 0 ≤ m 6 (8 * o.toNat + ps.toNat) ∧ m 6 (8 * o.toNat + ps.toNat) ≤ 23) ∧ m 3 o.toNat = 0
  | (4, [_, o, _, _], _, _) => m 0 4 ≤ 299 ∧ m 3 o.toNat = 0
  | (5, [_, o, _, _, _], _, _) => 0 ≤ o → o < m 0 2
  | (12, [_, _, c, _, _, ps, at9], [_], p) => ∃ q, OQ B (ndW B c ps) (decide (0 < ps)) at9.toNat p.length q
  | (14, [lv, o, c, _, _, nd, tg], _, _) => (0 ≤ lv ∧ lv ≤ 10) ∧ (0 ≤ nd ∧ nd ≤ 7) ∧ (0 ≤ tg ∧ tg ≤ 19) ∧ (bK B c.toNat nd.toNat = 1 → bC B c.toNat nd.toNat ≠ []) ∧ 0 ≤ m 6 (8 * o.toNat + nd.toNat) ∧ m 6 (8 * o.toNat + nd.toNat) ≤ 24 ∧ (∀ j : Nat, 0 ≤ m 7 j) ∧ nd.toNat < bN B c.toNat
  | (15, [lv, o, _, _, _, nd, _], _, _) => (0 ≤ lv ∧ lv ≤ 10) ∧ (∀ j : Nat, 0 ≤ m 7 j) ∧ (m 0 6 = 1 → (0 ≤ nd ∧ nd ≤ 7) ∧ (0 ≤ a.toInt ∧ a.toInt < m 0 2) ∧ 0 ≤ m 6 (8 * o.toNat + nd.toNat) ∧ m 6 (8 * o.toNat + nd.toNat) ≤ 24)
  | (16, [lv, o, _, _, _, nd, _, it], _, _) => (0 ≤ lv ∧ lv ≤ 10) ∧ (0 ≤ nd ∧ nd ≤ 7) ∧ (0 ≤ it ∧ it ≤ 24) ∧ 0 ≤ m 6 (8 * o.toNat + nd.toNat) ∧ m 6 (8 * o.toNat + nd.toNat) ≤ 24 ∧ ∀ j : Nat, 0 ≤ m 7 j
  | _ => True
def SF (B : Bk) (c : MS) : Prop := c.2.2.length ≤ 395 ∧ totP c.2.2 ≤ 2000 ∧ (0 ≤ c.1 0 3 ∧ c.1 0 3 ≤ 300) ∧ (c.1 0 6 = 2 → 0 ≤ c.1 0 8 ∧ c.1 0 8 ≤ 10000) ∧ ∀ f r, c.2.2 = f :: r → SFt B c.1 c.2.1 f
/-- steps that keep to it lead from one to the other -/
def TRs (B : Bk) (x y : MS) : Prop := ∃ n, rnM B n x = y ∧ ∀ j, j < n → SF B (rnM B j x) ∧ (rnM B j x).2.2 ≠ []
theorem TRs.rf {B : Bk} {x : MS} : TRs B x x := ⟨0, rfl, fun j h => absurd h (Nat.not_lt_zero _)⟩
theorem TRs.tr {B : Bk} {x y z : MS} (h : TRs B x y) (k : TRs B y z) : TRs B x z := by
  obtain ⟨n, e, s⟩ := h
  obtain ⟨n2, e2, s2⟩ := k
  refine ⟨n + n2, by rw [rnM_add, e, e2], fun j hj => ?_⟩
  by_cases q : j < n
  · exact s j q
  · have ej : j = n + (j - n) := by omega
    rw [ej, rnM_add, e]
    exact s2 (j - n) (by omega)
/-- one step -/
theorem TRs.one {B : Bk} {m : Mm} {a : Int32} {f : Fr} {r : List Fr} {y : MS} (s : SF B (m, a, f :: r)) (e : stM B (m, a, f :: r) = y) : TRs B (m, a, f :: r) y :=
  ⟨1, e, fun j hj => by
    have : j = 0 := by omega
    subst this
    exact ⟨s, fun h => by cases h⟩⟩
theorem TRs.st {B : Bk} {x : MS} {m : Mm} {a : Int32} {f : Fr} {r : List Fr} {y : MS} (h : TRs B x (m, a, f :: r)) (s : SF B (m, a, f :: r)) (e : stM B (m, a, f :: r) = y) : TRs B x y := h.tr (TRs.one s e)
/-- from here on all goes well -/
def GOs (B : Bk) (x : MS) : Prop := ∃ y, TRs B x y ∧ y.2.2 = []
theorem rnM_nil {B : Bk} {m : Mm} {a : Int32} : ∀ n, rnM B n (m, a, []) = (m, a, [])
  | 0 => rfl
  | n + 1 => rnM_nil n
theorem GOs.sf {B : Bk} {m : Mm} {a : Int32} {f : Fr} {r : List Fr} (h : GOs B (m, a, f :: r)) : SF B (m, a, f :: r) := by
  obtain ⟨y, ⟨n, e, s⟩, h2⟩ := h
  cases n with
  | zero =>
    have e : (m, a, f :: r) = y := e
    rw [← e] at h2
    cases h2
  | succ n => exact (s 0 (by omega)).1
theorem GOs.nx {B : Bk} {m : Mm} {a : Int32} {f : Fr} {r : List Fr} (h : GOs B (m, a, f :: r)) : GOs B (stM B (m, a, f :: r)) := by
  obtain ⟨y, ⟨n, e, s⟩, h2⟩ := h
  cases n with
  | zero =>
    have e : (m, a, f :: r) = y := e
    rw [← e] at h2
    cases h2
  | succ n => exact ⟨y, ⟨n, e, fun j hj => s (j + 1) (by omega)⟩, h2⟩
/-- two ends are the same -/
theorem rn_end {B : Bk} {x : MS} {n k : Nat} (h : (rnM B n x).2.2 = []) (q : (rnM B k x).2.2 = []) : rnM B n x = rnM B k x := by
  have z : ∀ (i j : Nat), i ≤ j → (rnM B i x).2.2 = [] → rnM B j x = rnM B i x := by
    intro i j hij hi
    have e : j = i + (j - i) := by omega
    rw [e, rnM_add]
    generalize rnM B i x = y at hi
    obtain ⟨m, a, fs⟩ := y
    have hi : fs = [] := hi
    subst hi
    exact rnM_nil _
  by_cases c : n ≤ k
  · exact (z n k c h).symm
  · exact z k n (by omega) q
theorem TRs.same {B : Bk} {x y z : MS} (h : TRs B x y) (k : TRs B x z) (hy : y.2.2 = []) (hz : z.2.2 = []) : y = z := by
  obtain ⟨n, e, _⟩ := h
  obtain ⟨n2, e2, _⟩ := k
  rw [← e] at hy ⊢
  rw [← e2] at hz ⊢
  exact rn_end hy hz
/-- how long it can be -/
theorem PHI.lim {B : Bk} (wf : WFB B) : ∀ (n k : Nat) (x : MS), PHI B x n → (∀ j, j < k → (rnM B j x).2.2 ≠ []) → k ≤ n
  | _, 0, _, _, _ => Nat.zero_le _
  | n, k + 1, x, h, s => by
    obtain ⟨m, a, fs⟩ := x
    cases fs with
    | nil => exact absurd rfl (s 0 (by omega))
    | cons f r =>
      have z := h.st wf
      have y := PHI.lim wf (n - 1) k (stM B (m, a, f :: r)) z.2 (fun j hj => s (j + 1) (by omega))
      omega
/-! its steps, case by case -/
section MSt
variable {B : Bk} {m : Mm} {a v g u : Int32} {r : List Fr} {lv o c sc me mk nd fl sp ps it at9 tg pl : Int} {p : List Int32}
theorem st_00 : stM B (m, a, Froot0 lv c sc mk :: r) = seekM B m a (Froot1 lv c sc mk :: r) c sc lv := rfl
theorem st_1n (h : m 0 6 ≠ 2) : stM B (m, a, Froot1 lv c sc mk :: r) = (mU m 0 4 mk, a, r) := if_pos h
theorem st_1y (h : m 0 6 = 2) : stM B (m, a, Froot1 lv c sc mk :: r) = undoM m a r lv mk (m 0 8) (m 0 9) 0 := if_neg (not_not_intro h)
theorem st_2 : stM B (m, a, Froot2 lv mk nd fl sp :: r) = undoM m a r lv mk nd fl (if m 0 6 = 3 then 1 else sp) := rfl
theorem st_3f (h : m 0 6 = 2 ∨ m 0 6 = 3) : stM B (m, a, Fmake lv o c pl ps it :: r) = (mAb B (mU m 0 8 (m 0 8 + 1)) o c pl, a, r) := if_pos h
theorem st_3s {x : Nat × Nat} (h : ¬ (m 0 6 = 2 ∨ m 0 6 = 3)) (e : nxC B c.toNat 9 ps.toNat it.toNat = some x) : stM B (m, a, Fmake lv o c pl ps it :: r) = seekM B (if m 0 6 = 1 then mJoin m o.toNat ps.toNat a.toInt else m) a (Fmake lv o c pl (x.1 : Int) ((x.2 + 1 : Nat) : Int) :: r) (x.2 : Int) pl lv := by
  refine (if_neg h).trans ?_
  first | (rw [e]; done) | (rw [e]; rfl)
theorem st_3w (h : ¬ (m 0 6 = 2 ∨ m 0 6 = 3)) (e : nxC B c.toNat 9 ps.toNat it.toNat = none) (q : bE B c.toNat 30 ≠ 0) : stM B (m, a, Fmake lv o c pl ps it :: r) = mGo (if m 0 6 = 1 then mJoin m o.toNat ps.toNat a.toInt else m) a (Fwork lv o c pl 0 0 ((bE B c.toNat 30 - 1 : Nat) : Int) 0 [] :: Fopen lv o c pl :: r) := by
  refine (if_neg h).trans ?_
  rw [e]
  exact if_pos q
theorem st_3d (h : ¬ (m 0 6 = 2 ∨ m 0 6 = 3)) (e : nxC B c.toNat 9 ps.toNat it.toNat = none) (q : bE B c.toNat 30 = 0) : stM B (m, a, Fmake lv o c pl ps it :: r) = mAns (mDone (if m 0 6 = 1 then mJoin m o.toNat ps.toNat a.toInt else m) o.toNat) (nI o.toNat) r := by
  refine (if_neg h).trans ?_
  rw [e]
  exact if_neg (not_not_intro q)
theorem st_4f (h : m 0 6 = 2 ∨ m 0 6 = 3) : stM B (m, a, Fopen lv o c pl :: r) = (mAb B m o c pl, a, r) := if_pos h
theorem st_4d (h : ¬ (m 0 6 = 2 ∨ m 0 6 = 3)) : stM B (m, a, Fopen lv o c pl :: r) = mAns (mDone m o.toNat) (nI o.toNat) r := if_neg h
theorem st_5p (h : ¬ mCan m) : stM B (m, a, Fcall0 lv o c sc me v :: r) = mSpent m a r := if_pos h
theorem st_5d (h : mCan m) (q : 10 < lv) : stM B (m, a, Fcall0 lv o c sc me v :: r) = mFail (mSt m) a 0 13 r := (if_neg (not_not_intro h)).trans (if_pos q)
theorem st_5w (h : mCan m) (q : ¬ 10 < lv) (z : ¬ (0 ≤ o ∧ o < m 0 2 ∧ m 3 o.toNat = 1)) : stM B (m, a, Fcall0 lv o c sc me v :: r) = mFail (mSt m) a 0 17 r := (if_neg (not_not_intro h)).trans ((if_neg q).trans (if_pos z))
theorem st_5g (h : mCan m) (q : ¬ 10 < lv) (z : 0 ≤ o ∧ o < m 0 2 ∧ m 3 o.toNat = 1) : stM B (m, a, Fcall0 lv o c sc me v :: r) = mGo (mSt m) a (Fin0 lv o c sc me 0 v :: Fcall1 lv o c sc me :: r) := (if_neg (not_not_intro h)).trans ((if_neg q).trans (if_neg (not_not_intro z)))
theorem st_6n (h : m 0 6 ≠ 2) : stM B (m, a, Fcall1 lv o c sc me :: r) = (m, a, r) := if_pos h
theorem st_6y (h : m 0 6 = 2) : stM B (m, a, Fcall1 lv o c sc me :: r) = resM B m a r lv o c sc me ((wN B : Nat) : Int) (m 0 8) (m 0 9) := if_neg (not_not_intro h)
theorem st_7n (h : m 0 6 ≠ 2) : stM B (m, a, Fcall3 lv o c sc me ps nd fl :: r) = (m, a, r) := if_pos h
theorem st_7y (h : m 0 6 = 2) : stM B (m, a, Fcall3 lv o c sc me ps nd fl :: r) = resM B m a r lv o c sc me ps nd fl := if_neg (not_not_intro h)
theorem rs_n (e : fB (bW B) (isF B 3 c.toNat me.toNat) ps.toNat = none) : resM B m a r lv o c sc me ps nd fl = mFail m a nd fl r := by
  unfold resM
  first | (rw [e]; done) | (rw [e]; rfl)
theorem rs_y {i : Nat} (e : fB (bW B) (isF B 3 c.toNat me.toNat) ps.toNat = some i) : resM B m a r lv o c sc me ps nd fl = wrapM B m a (Fcall3 lv o c sc me (i : Int) nd fl :: r) lv o c sc me 0 i (Int32.ofInt (fst1 nd fl)) := by
  unfold resM
  first | (rw [e]; done) | (rw [e]; rfl)
theorem st_8y {i : Nat} (e : fF (bW B) (isF B 1 c.toNat me.toNat) ps.toNat = some i) : stM B (m, a, Fin0 lv o c sc me ps v :: r) = wrapM B m a (Fin1 lv o c sc me :: r) lv o c sc me ((i + 1 : Nat) : Int) i v := by
  show (match fF (bW B) (isF B 1 c.toNat me.toNat) ps.toNat with
    | some i => wrapM B m a (Fin1 lv o c sc me :: r) lv o c sc me ((i + 1 : Nat) : Int) i v
    | none => mAns m v (Fin4 lv o c sc me 0 :: r)) = _
  first | (rw [e]; done) | (rw [e]; rfl)
theorem st_8n (e : fF (bW B) (isF B 1 c.toNat me.toNat) ps.toNat = none) : stM B (m, a, Fin0 lv o c sc me ps v :: r) = mAns m v (Fin4 lv o c sc me 0 :: r) := by
  show (match fF (bW B) (isF B 1 c.toNat me.toNat) ps.toNat with
    | some i => wrapM B m a (Fin1 lv o c sc me :: r) lv o c sc me ((i + 1 : Nat) : Int) i v
    | none => mAns m v (Fin4 lv o c sc me 0 :: r)) = _
  first | (rw [e]; done) | (rw [e]; rfl)
theorem st_9 : stM B (m, a, Fin1 lv o c sc me :: r) = (m, a, r) := rfl
theorem st_10n (h : m 0 6 ≠ 1) : stM B (m, a, Fin4 lv o c sc me ps :: r) = (m, a, r) := if_pos h
theorem st_10y {i : Nat} (h : m 0 6 = 1) (e : fF (bW B) (isF B 0 c.toNat me.toNat) ps.toNat = some i) : stM B (m, a, Fin4 lv o c sc me ps :: r) = wrapM B m a (Fin4 lv o c sc me ((i + 1 : Nat) : Int) :: r) lv o c sc me 0 i a := by
  refine (if_neg (not_not_intro h)).trans ?_
  first | (rw [e]; done) | (rw [e]; rfl)
theorem st_10f (h : m 0 6 = 1) (e : fF (bW B) (isF B 0 c.toNat me.toNat) ps.toNat = none) (q : bE B c.toNat me.toNat = 0) : stM B (m, a, Fin4 lv o c sc me ps :: r) = mFail m a 0 11 r := by
  refine (if_neg (not_not_intro h)).trans ?_
  rw [e]
  exact if_pos q
theorem st_10w (h : m 0 6 = 1) (e : fF (bW B) (isF B 0 c.toNat me.toNat) ps.toNat = none) (q : ¬ bE B c.toNat me.toNat = 0) : stM B (m, a, Fin4 lv o c sc me ps :: r) = mGo m a (Fwork lv o c sc me 0 ((bE B c.toNat me.toNat - 1 : Nat) : Int) a [] :: Fin5 lv o c sc me ((wN B : Nat) : Int) :: r) := by
  refine (if_neg (not_not_intro h)).trans ?_
  rw [e]
  exact if_neg q
theorem st_11n (h : m 0 6 ≠ 1) : stM B (m, a, Fin5 lv o c sc me ps :: r) = (m, a, r) := if_pos h
theorem st_11y {i : Nat} (h : m 0 6 = 1) (e : fB (bW B) (isF B 2 c.toNat me.toNat) ps.toNat = some i) : stM B (m, a, Fin5 lv o c sc me ps :: r) = wrapM B m a (Fin5 lv o c sc me (i : Int) :: r) lv o c sc me 0 i a := by
  refine (if_neg (not_not_intro h)).trans ?_
  first | (rw [e]; done) | (rw [e]; rfl)
theorem st_11e (h : m 0 6 = 1) (e : fB (bW B) (isF B 2 c.toNat me.toNat) ps.toNat = none) : stM B (m, a, Fin5 lv o c sc me ps :: r) = mAns m a r := by
  refine (if_neg (not_not_intro h)).trans ?_
  first | (rw [e]; done) | (rw [e]; rfl)
theorem st_12 : stM B (m, a, Fwork lv o c sc me ps at9 v p :: r) = ordM B m a r lv o c sc me ps at9.toNat v p := rfl
theorem st_13n (h : m 0 6 ≠ 1) : stM B (m, a, Fwait lv o c sc me ps at9 v p :: r) = (m, a, r) := if_pos h
theorem st_13y (h : m 0 6 = 1) : stM B (m, a, Fwait lv o c sc me ps at9 v p :: r) = (m, a, Fwork lv o c sc me ps at9 v (a :: p) :: r) := if_neg (not_not_intro h)
theorem st_14a (h : bK B c.toNat nd.toNat = 2) : stM B (m, a, Fask lv o c sc at9 nd tg v g p :: r) = mAns m 0 (Fsum lv o c sc at9 nd tg 0 v g 0 p :: r) := if_pos h
theorem st_14j {x : Int} (h : ¬ bK B c.toNat nd.toNat = 2) (e : jnd m o.toNat nd.toNat 0 = some x) : stM B (m, a, Fask lv o c sc at9 nd tg v g p :: r) = mGo m a (Fcall0 (lv + 1) x (m 1 x.toNat) sc tg g :: Fwait lv o c sc 0 0 at9 v p :: r) := by
  refine (if_neg h).trans ?_
  first | (rw [e]; done) | (rw [e]; rfl)
theorem st_14d (h : bK B c.toNat nd.toNat = 1) (e : jnd m o.toNat nd.toNat 0 = none) (q : 10 ≤ lv) : stM B (m, a, Fask lv o c sc at9 nd tg v g p :: r) = mFail m a 0 13 (Fget lv o c sc at9 nd tg v g p :: r) := by
  refine (if_neg (by omega)).trans ?_
  rw [e]
  exact (if_pos h).trans (if_pos q)
theorem st_14g (h : bK B c.toNat nd.toNat = 1) (e : jnd m o.toNat nd.toNat 0 = none) (q : ¬ 10 ≤ lv) : stM B (m, a, Fask lv o c sc at9 nd tg v g p :: r) = mGo m a (Froot0 (lv + 1) (((bC B c.toNat nd.toNat).headD 0 : Nat) : Int) sc (m 0 4) :: Fget lv o c sc at9 nd tg v g p :: r) := by
  refine (if_neg (by omega)).trans ?_
  rw [e]
  exact (if_pos h).trans (if_neg q)
theorem st_14n (h2 : ¬ bK B c.toNat nd.toNat = 2) (e : jnd m o.toNat nd.toNat 0 = none) (h : ¬ bK B c.toNat nd.toNat = 1) : stM B (m, a, Fask lv o c sc at9 nd tg v g p :: r) = mGo m a (Fcall0 (lv + 1) (-1) 0 sc tg g :: Fwait lv o c sc 0 0 at9 v p :: r) := by
  refine (if_neg h2).trans ?_
  rw [e]
  exact if_neg h
theorem st_15n (h : m 0 6 ≠ 1) : stM B (m, a, Fget lv o c sc at9 nd tg v g p :: r) = (m, a, r) := if_pos h
theorem st_15y (h : m 0 6 = 1) : stM B (m, a, Fget lv o c sc at9 nd tg v g p :: r) = mGo (if bS B (m 1 a.toInt.toNat).toNat = 3 ∧ jnd m o.toNat nd.toNat 0 = none then mJoin m o.toNat nd.toNat a.toInt else m) a (Fcall0 (lv + 1) a.toInt (m 1 a.toInt.toNat) sc tg g :: Fwait lv o c sc 0 0 at9 v p :: r) := if_neg (not_not_intro h)
theorem st_16n (h : m 0 6 ≠ 1) : stM B (m, a, Fsum lv o c sc at9 nd tg it v g u p :: r) = (m, a, r) := if_pos h
theorem st_16e (h : m 0 6 = 1) (e : jnd m o.toNat nd.toNat it = none) : stM B (m, a, Fsum lv o c sc at9 nd tg it v g u p :: r) = (m, a, Fwork lv o c sc 0 0 at9 v ((u + a) :: p) :: r) := by
  refine (if_neg (not_not_intro h)).trans ?_
  first | (rw [e]; done) | (rw [e]; rfl)
theorem st_16j {x : Int} (h : m 0 6 = 1) (e : jnd m o.toNat nd.toNat it = some x) : stM B (m, a, Fsum lv o c sc at9 nd tg it v g u p :: r) = mGo m a (Fcall0 (lv + 1) x (m 1 x.toNat) sc tg g :: Fsum lv o c sc at9 nd tg (it + 1) v g (u + a) p :: r) := by
  refine (if_neg (not_not_intro h)).trans ?_
  first | (rw [e]; done) | (rw [e]; rfl)
theorem st_17w (h : bE B c.toNat 31 ≠ 0) : stM B (m, a, Fclo0 lv o c sc :: r) = mGo m a (Fwork lv o c sc 0 0 ((bE B c.toNat 31 - 1 : Nat) : Int) 0 [] :: Fclo1 lv o c sc :: r) := if_pos h
theorem st_17e (h : bE B c.toNat 31 = 0) : stM B (m, a, Fclo0 lv o c sc :: r) = cloM m a r o := if_neg (not_not_intro h)
theorem st_18 : stM B (m, a, Fclo1 lv o c sc :: r) = cloM m a r o := rfl
theorem cl_f (h : m 0 6 = 2) : cloM m a r o = (mU (mNote m o (fst1 (m 0 8) (m 0 9))) 3 o.toNat 2, a, r) := if_pos h
theorem cl_s (h : m 0 6 = 3) : cloM m a r o = (mU (mNote m o 18) 3 o.toNat 2, a, r) := (if_neg (by omega)).trans (if_pos h)
theorem cl_w (h : ¬ m 0 6 = 2) (q : ¬ m 0 6 = 3) : cloM m a r o = mAns (mU (mNote m o 0) 3 o.toNat 2) 0 r := (if_neg h).trans (if_neg q)
theorem un_c (h : mk < m 0 4) : undoM m a r lv mk nd fl sp = mGo (mU m 0 4 (m 0 4 - 1)) a (Fclo0 lv (m 5 (m 0 4 - 1).toNat) (m 1 (m 5 (m 0 4 - 1).toNat).toNat) (m 2 (m 5 (m 0 4 - 1).toNat).toNat) :: Froot2 lv mk nd fl sp :: r) := if_pos h
theorem un_s (h : ¬ mk < m 0 4) (q : sp ≠ 0) : undoM m a r lv mk nd fl sp = mSpent (mU (mU m 0 8 nd) 0 9 fl) a r := (if_neg h).trans (if_pos q)
theorem un_f (h : ¬ mk < m 0 4) (q : sp = 0) : undoM m a r lv mk nd fl sp = mFail m a nd fl r := (if_neg h).trans (if_neg (not_not_intro q))
end MSt
section MOr
variable {B : Bk} {m : Mm} {a v : Int32} {r : List Fr} {lv o c sc me ps : Int} {i : Nat} {p : List Int32}
theorem or_0 (h : opf B.1 i = 0) : ordM B m a r lv o c sc me ps i v p = mAns m (pop1 p) r := by
  unfold ordM
  rw [if_pos h]
theorem or_1y (h : opf B.1 i = 1) (q : mCan m) : ordM B m a r lv o c sc me ps i v p = (mSt m, a, Fwork lv o c sc me ps ((i + 1 : Nat) : Int) v p :: r) := by
  unfold ordM
  rw [if_neg (show ¬ opf B.1 i = 0 by omega), if_pos h]
  exact if_pos q
theorem or_1n (h : opf B.1 i = 1) (q : ¬ mCan m) : ordM B m a r lv o c sc me ps i v p = mSpent m a r := by
  unfold ordM
  rw [if_neg (show ¬ opf B.1 i = 0 by omega), if_pos h]
  exact if_neg q
theorem or_2 (h : opf B.1 i = 2) : ordM B m a r lv o c sc me ps i v p = (m, a, Fwork lv o c sc me ps ((i + 1 : Nat) : Int) v (((B.1.2.1 (2001 + 3 * i)).headD 0).toInt32 :: p) :: r) := by
  unfold ordM
  rw [if_neg (show ¬ opf B.1 i = 0 by omega), if_neg (show ¬ opf B.1 i = 1 by omega), if_pos h]
theorem or_3 (h : opf B.1 i = 3) : ordM B m a r lv o c sc me ps i v p = (m, a, Fwork lv o c sc me ps ((i + 1 : Nat) : Int) v (v :: p) :: r) := by
  unfold ordM
  rw [if_neg (show ¬ opf B.1 i = 0 by omega), if_neg (show ¬ opf B.1 i = 1 by omega), if_neg (show ¬ opf B.1 i = 2 by omega), if_pos h]
theorem or_4 (h : opf B.1 i = 4) : ordM B m a r lv o c sc me ps i v p = (m, a, Fwork lv o c sc me ps ((i + 1 : Nat) : Int) v (-(pop1 p) :: p.tail) :: r) := by
  unfold ordM
  rw [if_neg (show ¬ opf B.1 i = 0 by omega), if_neg (show ¬ opf B.1 i = 1 by omega), if_neg (show ¬ opf B.1 i = 2 by omega), if_neg (show ¬ opf B.1 i = 3 by omega), if_pos h]
theorem or_5 (h : opf B.1 i = 5) : ordM B m a r lv o c sc me ps i v p = (m, a, Fwork lv o c sc me ps ((i + 1 : Nat) : Int) v (pop1 p.tail * pop1 p :: p.tail.tail) :: r) := by
  unfold ordM
  rw [if_neg (show ¬ opf B.1 i = 0 by omega), if_neg (show ¬ opf B.1 i = 1 by omega), if_neg (show ¬ opf B.1 i = 2 by omega), if_neg (show ¬ opf B.1 i = 3 by omega), if_neg (show ¬ opf B.1 i = 4 by omega), if_pos h]
theorem or_6 (h : opf B.1 i = 6) : ordM B m a r lv o c sc me ps i v p = (m, a, Fwork lv o c sc me ps ((i + 1 : Nat) : Int) v ((pop1 p.tail + pop1 p) :: p.tail.tail) :: r) := by
  unfold ordM
  rw [if_neg (show ¬ opf B.1 i = 0 by omega), if_neg (show ¬ opf B.1 i = 1 by omega), if_neg (show ¬ opf B.1 i = 2 by omega), if_neg (show ¬ opf B.1 i = 3 by omega), if_neg (show ¬ opf B.1 i = 4 by omega), if_neg (show ¬ opf B.1 i = 5 by omega), if_pos h]
theorem or_7 (h : opf B.1 i = 7) : ordM B m a r lv o c sc me ps i v p = (m, a, Fwork lv o c sc me ps ((i + 1 : Nat) : Int) v ((pop1 p.tail - pop1 p) :: p.tail.tail) :: r) := by
  unfold ordM
  rw [if_neg (show ¬ opf B.1 i = 0 by omega), if_neg (show ¬ opf B.1 i = 1 by omega), if_neg (show ¬ opf B.1 i = 2 by omega), if_neg (show ¬ opf B.1 i = 3 by omega), if_neg (show ¬ opf B.1 i = 4 by omega), if_neg (show ¬ opf B.1 i = 5 by omega), if_neg (show ¬ opf B.1 i = 6 by omega), if_pos h]
theorem or_8 (h : opf B.1 i = 8) : ordM B m a r lv o c sc me ps i v p = (m, a, Fwork lv o c sc me ps ((i + 1 : Nat) : Int) v ((if (pop1 p.tail).toInt < (pop1 p).toInt then 1 else 0) :: p.tail.tail) :: r) := by
  unfold ordM
  rw [if_neg (show ¬ opf B.1 i = 0 by omega), if_neg (show ¬ opf B.1 i = 1 by omega), if_neg (show ¬ opf B.1 i = 2 by omega), if_neg (show ¬ opf B.1 i = 3 by omega), if_neg (show ¬ opf B.1 i = 4 by omega), if_neg (show ¬ opf B.1 i = 5 by omega), if_neg (show ¬ opf B.1 i = 6 by omega), if_neg (show ¬ opf B.1 i = 7 by omega), if_pos h]
theorem or_9 (h : opf B.1 i = 9) : ordM B m a r lv o c sc me ps i v p = (m, a, Fwork lv o c sc me ps ((i + 1 : Nat) : Int) v ((if pop1 p.tail = pop1 p then 1 else 0) :: p.tail.tail) :: r) := by
  unfold ordM
  rw [if_neg (show ¬ opf B.1 i = 0 by omega), if_neg (show ¬ opf B.1 i = 1 by omega), if_neg (show ¬ opf B.1 i = 2 by omega), if_neg (show ¬ opf B.1 i = 3 by omega), if_neg (show ¬ opf B.1 i = 4 by omega), if_neg (show ¬ opf B.1 i = 5 by omega), if_neg (show ¬ opf B.1 i = 6 by omega), if_neg (show ¬ opf B.1 i = 7 by omega), if_neg (show ¬ opf B.1 i = 8 by omega), if_pos h]
theorem or_10 (h : opf B.1 i = 10) : ordM B m a r lv o c sc me ps i v p = mFail m a 0 ((nL B.1 (2001 + 3 * i) : Nat) : Int) r := by
  unfold ordM
  rw [if_neg (show ¬ opf B.1 i = 0 by omega), if_neg (show ¬ opf B.1 i = 1 by omega), if_neg (show ¬ opf B.1 i = 2 by omega), if_neg (show ¬ opf B.1 i = 3 by omega), if_neg (show ¬ opf B.1 i = 4 by omega), if_neg (show ¬ opf B.1 i = 5 by omega), if_neg (show ¬ opf B.1 i = 6 by omega), if_neg (show ¬ opf B.1 i = 7 by omega), if_neg (show ¬ opf B.1 i = 8 by omega), if_neg (show ¬ opf B.1 i = 9 by omega), if_pos h]
theorem or_11 (h : opf B.1 i = 11) : ordM B m a r lv o c sc me ps i v p = (m, a, Fwork lv o c sc me ps ((i + 1 : Nat) : Int) v (B.2 (nL B.1 (2001 + 3 * i)) :: p) :: r) := by
  unfold ordM
  rw [if_neg (show ¬ opf B.1 i = 0 by omega), if_neg (show ¬ opf B.1 i = 1 by omega), if_neg (show ¬ opf B.1 i = 2 by omega), if_neg (show ¬ opf B.1 i = 3 by omega), if_neg (show ¬ opf B.1 i = 4 by omega), if_neg (show ¬ opf B.1 i = 5 by omega), if_neg (show ¬ opf B.1 i = 6 by omega), if_neg (show ¬ opf B.1 i = 7 by omega), if_neg (show ¬ opf B.1 i = 8 by omega), if_neg (show ¬ opf B.1 i = 9 by omega), if_neg (show ¬ opf B.1 i = 10 by omega), if_pos h]
theorem or_12 (h : opf B.1 i = 12) : ordM B m a r lv o c sc me ps i v p = (m, a, Fwork lv o c sc me ps (if pop1 p = 0 then ((nL B.1 (2001 + 3 * i) : Nat) : Int) else ((i + 1 : Nat) : Int)) v p.tail :: r) := by
  unfold ordM
  rw [if_neg (show ¬ opf B.1 i = 0 by omega), if_neg (show ¬ opf B.1 i = 1 by omega), if_neg (show ¬ opf B.1 i = 2 by omega), if_neg (show ¬ opf B.1 i = 3 by omega), if_neg (show ¬ opf B.1 i = 4 by omega), if_neg (show ¬ opf B.1 i = 5 by omega), if_neg (show ¬ opf B.1 i = 6 by omega), if_neg (show ¬ opf B.1 i = 7 by omega), if_neg (show ¬ opf B.1 i = 8 by omega), if_neg (show ¬ opf B.1 i = 9 by omega), if_neg (show ¬ opf B.1 i = 10 by omega), if_neg (show ¬ opf B.1 i = 11 by omega), if_pos h]
theorem or_13 (h : opf B.1 i = 13) : ordM B m a r lv o c sc me ps i v p = (m, a, Fwork lv o c sc me ps ((nL B.1 (2001 + 3 * i) : Nat) : Int) v p :: r) := by
  unfold ordM
  rw [if_neg (show ¬ opf B.1 i = 0 by omega), if_neg (show ¬ opf B.1 i = 1 by omega), if_neg (show ¬ opf B.1 i = 2 by omega), if_neg (show ¬ opf B.1 i = 3 by omega), if_neg (show ¬ opf B.1 i = 4 by omega), if_neg (show ¬ opf B.1 i = 5 by omega), if_neg (show ¬ opf B.1 i = 6 by omega), if_neg (show ¬ opf B.1 i = 7 by omega), if_neg (show ¬ opf B.1 i = 8 by omega), if_neg (show ¬ opf B.1 i = 9 by omega), if_neg (show ¬ opf B.1 i = 10 by omega), if_neg (show ¬ opf B.1 i = 11 by omega), if_neg (show ¬ opf B.1 i = 12 by omega), if_pos h]
theorem or_14 (h : opf B.1 i = 14) : ordM B m a r lv o c sc me ps i v p = (m, a, Fask lv o c sc ((i + 1 : Nat) : Int) ((nL B.1 (2001 + 3 * i) : Nat) : Int) ((nL B.1 (2002 + 3 * i) : Nat) : Int) v (pop1 p) p.tail :: r) := by
  unfold ordM
  rw [if_neg (show ¬ opf B.1 i = 0 by omega), if_neg (show ¬ opf B.1 i = 1 by omega), if_neg (show ¬ opf B.1 i = 2 by omega), if_neg (show ¬ opf B.1 i = 3 by omega), if_neg (show ¬ opf B.1 i = 4 by omega), if_neg (show ¬ opf B.1 i = 5 by omega), if_neg (show ¬ opf B.1 i = 6 by omega), if_neg (show ¬ opf B.1 i = 7 by omega), if_neg (show ¬ opf B.1 i = 8 by omega), if_neg (show ¬ opf B.1 i = 9 by omega), if_neg (show ¬ opf B.1 i = 10 by omega), if_neg (show ¬ opf B.1 i = 11 by omega), if_neg (show ¬ opf B.1 i = 12 by omega), if_neg (show ¬ opf B.1 i = 13 by omega), if_pos h]
theorem or_15 (h : opf B.1 i = 15) : ordM B m a r lv o c sc me ps i v p = mGo m a (Fin0 lv o c sc me ps (pop1 p) :: Fwait lv o c sc me ps ((i + 1 : Nat) : Int) v p.tail :: r) := by
  unfold ordM
  rw [if_neg (show ¬ opf B.1 i = 0 by omega), if_neg (show ¬ opf B.1 i = 1 by omega), if_neg (show ¬ opf B.1 i = 2 by omega), if_neg (show ¬ opf B.1 i = 3 by omega), if_neg (show ¬ opf B.1 i = 4 by omega), if_neg (show ¬ opf B.1 i = 5 by omega), if_neg (show ¬ opf B.1 i = 6 by omega), if_neg (show ¬ opf B.1 i = 7 by omega), if_neg (show ¬ opf B.1 i = 8 by omega), if_neg (show ¬ opf B.1 i = 9 by omega), if_neg (show ¬ opf B.1 i = 10 by omega), if_neg (show ¬ opf B.1 i = 11 by omega), if_neg (show ¬ opf B.1 i = 12 by omega), if_neg (show ¬ opf B.1 i = 13 by omega), if_neg (show ¬ opf B.1 i = 14 by omega)]
end MOr
/-! the reference's numbers are the machine's -/
def mV (V : Vf) (sg t k : Int) : Mm := fun x j => match x with
  | 0 => (match j with
    | 0 => (V 0 68).toInt
    | 1 => (V 0 69).toInt
    | 2 => (V 0 60).toInt
    | 3 => (V 0 65).toInt
    | 4 => (V 0 95).toInt
    | 5 => (V 0 73).toInt
    | 6 => sg
    | 8 => t
    | 9 => k
    | _ => 0)
  | 1 => (V 61 j).toInt
  | 2 => (V 62 j).toInt
  | 3 => (V 63 j).toInt
  | 4 => (V 64 j).toInt
  | 5 => (V 94 j).toInt
  | 6 => (V 66 j).toInt
  | 7 => (V 67 j).toInt
  | 8 => (V 59 j).toInt
  | 9 => (V 74 j).toInt
  | 10 => (V 75 j).toInt
  | 11 => (V 56 j).toInt
  | 12 => (V 57 j).toInt
  | 13 => (V 58 j).toInt
  | _ => 0
theorem mV_00 {V : Vf} {sg t k : Int} : mV V sg t k 0 0 = (V 0 68).toInt := rfl
theorem mV_01 {V : Vf} {sg t k : Int} : mV V sg t k 0 1 = (V 0 69).toInt := rfl
theorem mV_02 {V : Vf} {sg t k : Int} : mV V sg t k 0 2 = (V 0 60).toInt := rfl
theorem mV_03 {V : Vf} {sg t k : Int} : mV V sg t k 0 3 = (V 0 65).toInt := rfl
theorem mV_04 {V : Vf} {sg t k : Int} : mV V sg t k 0 4 = (V 0 95).toInt := rfl
theorem mV_05 {V : Vf} {sg t k : Int} : mV V sg t k 0 5 = (V 0 73).toInt := rfl
theorem mV_06 {V : Vf} {sg t k : Int} : mV V sg t k 0 6 = sg := rfl
theorem mV_07 {V : Vf} {sg t k : Int} : mV V sg t k 0 7 = 0 := rfl
theorem mV_08 {V : Vf} {sg t k : Int} : mV V sg t k 0 8 = t := rfl
theorem mV_09 {V : Vf} {sg t k : Int} : mV V sg t k 0 9 = k := rfl
theorem mV_0x {V : Vf} {sg t k : Int} {y : Nat} : mV V sg t k 0 (y + 10) = 0 := rfl
/-- one number or row at a time: what is to be shown of two such -/
theorem mm_ext {f g : Mm} (h0 : ∀ j, f 0 j = g 0 j) (h1 : ∀ x j, f (x + 1) j = g (x + 1) j) : f = g := by
  funext x j
  cases x with
  | zero => exact h0 j
  | succ x => exact h1 x j
def mvC : Nat → Nat
  | 0 => 61
  | 1 => 62
  | 2 => 63
  | 3 => 64
  | 4 => 94
  | 5 => 66
  | 6 => 67
  | 7 => 59
  | 8 => 74
  | 9 => 75
  | 10 => 56
  | 11 => 57
  | 12 => 58
  | _ => 0
theorem mV_row {V : Vf} {sg t k : Int} {x j : Nat} (h : x < 13) : mV V sg t k (x + 1) j = (V (mvC x) j).toInt := by
  rcases (show x = 0 ∨ x = 1 ∨ x = 2 ∨ x = 3 ∨ x = 4 ∨ x = 5 ∨ x = 6 ∨ x = 7 ∨ x = 8 ∨ x = 9 ∨ x = 10 ∨ x = 11 ∨ x = 12 from by (first | exact om_9ec2153d38d0 h | omega)) with e | e | e | e | e | e | e | e | e | e | e | e | e <;> (subst e; rfl)
theorem mV_big {V : Vf} {sg t k : Int} {x j : Nat} (h : 13 ≤ x) : mV V sg t k (x + 1) j = 0 := by
  obtain ⟨y, rfl⟩ : ∃ y, x = y + 13 := ⟨x - 13, by omega⟩
  rfl
/-- the numbers: two such worlds -/
theorem mV_num {V W : Vf} {sg t k : Int} (e0 : (W 0 68).toInt = (V 0 68).toInt) (e1 : (W 0 69).toInt = (V 0 69).toInt) (e2 : (W 0 60).toInt = (V 0 60).toInt) (e3 : (W 0 65).toInt = (V 0 65).toInt) (e4 : (W 0 95).toInt = (V 0 95).toInt) (e5 : (W 0 73).toInt = (V 0 73).toInt) (er : ∀ x, x < 13 → ∀ j, W (mvC x) j = V (mvC x) j) : mV W sg t k = mV V sg t k := by
  refine mm_ext (fun j => ?_) (fun x j => ?_)
  · rcases (show j = 0 ∨ j = 1 ∨ j = 2 ∨ j = 3 ∨ j = 4 ∨ j = 5 ∨ j = 6 ∨ j = 7 ∨ j = 8 ∨ j = 9 ∨ 10 ≤ j from by omega) with e10 | e10 | e10 | e10 | e10 | e10 | e10 | e10 | e10 | e10 | e10
    · subst e10
      rw [mV_00, mV_00]
      exact e0
    · subst e10
      rw [mV_01, mV_01]
      exact e1
    · subst e10
      rw [mV_02, mV_02]
      exact e2
    · subst e10
      rw [mV_03, mV_03]
      exact e3
    · subst e10
      rw [mV_04, mV_04]
      exact e4
    · subst e10
      rw [mV_05, mV_05]
      exact e5
    · subst e10
      rw [mV_06, mV_06]
    · subst e10
      rw [mV_07, mV_07]
    · subst e10
      rw [mV_08, mV_08]
    · subst e10
      rw [mV_09, mV_09]
    · obtain ⟨y10, rfl⟩ : ∃ y, j = y + 10 := ⟨j - 10, by omega⟩
      rw [mV_0x, mV_0x]
  · by_cases h : x < 13
    · rw [mV_row h, mV_row h, er x h j]
    · rw [mV_big (by omega), mV_big (by omega)]
/-- which cells matter -/
def mvF : List (Nat × Nat) := [(0, 68), (0, 69), (0, 60), (0, 65), (0, 95), (0, 73)]
def mvK : List Nat := [61, 62, 63, 64, 94, 66, 67, 59, 74, 75, 56, 57, 58]
def mvQ (fs : List (Nat × Nat)) (cs : List Nat) : Bool := fs.all (fun y => y.1 == 0 && !(mvF.contains y)) && cs.all (fun c => c != 0 && !(mvK.contains c))
theorem mvQ_f {fs : List (Nat × Nat)} {cs : List Nat} (q : mvQ fs cs = true) {k : Nat} (h : mvF.contains (0, k) = true) : wrL fs cs 0 k = false := by
  unfold mvQ at q
  rw [Bool.and_eq_true, List.all_eq_true, List.all_eq_true] at q
  unfold wrL
  rw [Bool.or_eq_false_iff]
  refine ⟨?_, ?_⟩
  · rw [← Bool.not_eq_true]
    intro z
    have y := q.1 _ (List.contains_iff_mem.mp z)
    rw [Bool.and_eq_true, h] at y
    exact absurd y.2 (by decide)
  · rw [← Bool.not_eq_true]
    intro z
    have y := q.2 _ (List.contains_iff_mem.mp z)
    rw [Bool.and_eq_true] at y
    exact absurd y.1 (by decide)
theorem mvQ_k {fs : List (Nat × Nat)} {cs : List Nat} (q : mvQ fs cs = true) {c k : Nat} (h0 : c ≠ 0) (h : mvK.contains c = true) : wrL fs cs c k = false := by
  unfold mvQ at q
  rw [Bool.and_eq_true, List.all_eq_true, List.all_eq_true] at q
  unfold wrL
  rw [Bool.or_eq_false_iff]
  refine ⟨?_, ?_⟩
  · rw [← Bool.not_eq_true]
    intro z
    have y := q.1 _ (List.contains_iff_mem.mp z)
    rw [Bool.and_eq_true] at y
    exact h0 (eq_of_beq y.1)
  · rw [← Bool.not_eq_true]
    intro z
    have y := q.2 _ (List.contains_iff_mem.mp z)
    rw [Bool.and_eq_true, h] at y
    exact absurd y.2 (by decide)
theorem mvC_k {x : Nat} (h : x < 13) : mvC x ≠ 0 ∧ mvK.contains (mvC x) = true := by
  rcases (show x = 0 ∨ x = 1 ∨ x = 2 ∨ x = 3 ∨ x = 4 ∨ x = 5 ∨ x = 6 ∨ x = 7 ∨ x = 8 ∨ x = 9 ∨ x = 10 ∨ x = 11 ∨ x = 12 from by (first | exact om_9ec2153d38d0 h | omega)) with e | e | e | e | e | e | e | e | e | e | e | e | e <;> (subst e; decide)
theorem mV_ag {fs : List (Nat × Nat)} {cs : List Nat} {V W : Vf} {sg t k : Int} (a : agr fs cs V W) (q : mvQ fs cs = true) : mV W sg t k = mV V sg t k :=
  mV_num (congrArg Int32.toInt (a _ _ (mvQ_f q rfl))) (congrArg Int32.toInt (a _ _ (mvQ_f q rfl))) (congrArg Int32.toInt (a _ _ (mvQ_f q rfl))) (congrArg Int32.toInt (a _ _ (mvQ_f q rfl))) (congrArg Int32.toInt (a _ _ (mvQ_f q rfl))) (congrArg Int32.toInt (a _ _ (mvQ_f q rfl))) (fun x hx j => a _ _ (mvQ_k q (mvC_k hx).1 (mvC_k hx).2))
/-- a row's entry -/
theorem mV_up {V W : Vf} {sg t k : Int} {x i c : Nat} {v : Int32} (hx : x < 13) (hc : mvC x = c) (e : W = up2 V c i v) : mV W sg t k = mU (mV V sg t k) (x + 1) i v.toInt := by
  have ck := mvC_k hx
  rw [hc] at ck
  have o : ∀ c' k', c' ≠ c → W c' k' = V c' k' := fun c' k' hn => by rw [e]; exact up2_pl (fun h => hn h.1)
  refine mm_ext (fun j => ?_) (fun y j => ?_)
  · rw [mU_o _ _ (by omega)]
    rcases (show j = 0 ∨ j = 1 ∨ j = 2 ∨ j = 3 ∨ j = 4 ∨ j = 5 ∨ j = 6 ∨ j = 7 ∨ j = 8 ∨ j = 9 ∨ 10 ≤ j from by omega) with e10 | e10 | e10 | e10 | e10 | e10 | e10 | e10 | e10 | e10 | e10
    · subst e10
      rw [mV_00, mV_00]
      exact congrArg Int32.toInt (o 0 68 (fun h => ck.1 h.symm))
    · subst e10
      rw [mV_01, mV_01]
      exact congrArg Int32.toInt (o 0 69 (fun h => ck.1 h.symm))
    · subst e10
      rw [mV_02, mV_02]
      exact congrArg Int32.toInt (o 0 60 (fun h => ck.1 h.symm))
    · subst e10
      rw [mV_03, mV_03]
      exact congrArg Int32.toInt (o 0 65 (fun h => ck.1 h.symm))
    · subst e10
      rw [mV_04, mV_04]
      exact congrArg Int32.toInt (o 0 95 (fun h => ck.1 h.symm))
    · subst e10
      rw [mV_05, mV_05]
      exact congrArg Int32.toInt (o 0 73 (fun h => ck.1 h.symm))
    · subst e10
      rw [mV_06, mV_06]
    · subst e10
      rw [mV_07, mV_07]
    · subst e10
      rw [mV_08, mV_08]
    · subst e10
      rw [mV_09, mV_09]
    · obtain ⟨y10, rfl⟩ : ∃ y, j = y + 10 := ⟨j - 10, by omega⟩
      rw [mV_0x, mV_0x]
  · by_cases hy : y < 13
    · by_cases q : y = x
      · subst q
        by_cases qi : j = i
        · subst qi
          rw [mU_s, mV_row hy, hc, e, up2_ss]
        · rw [mU_o _ _ (by omega), mV_row hy, mV_row hy, hc, e, up2_pl (fun h => qi h.2)]
      · have n : mvC y ≠ c := by
          rw [← hc]
          intro h
          have inj : ∀ a, a < 13 → ∀ b, b < 13 → mvC a = mvC b → a = b := by decide
          exact q (inj y hy x hx h)
        rw [mU_o _ _ (by omega), mV_row hy, mV_row hy, o _ _ n]
    · rw [mU_o _ _ (by omega), mV_big (by omega), mV_big (by omega)]
/-- one of the numbers -/
def mvN : Nat → Nat
  | 0 => 68
  | 1 => 69
  | 2 => 60
  | 3 => 65
  | 4 => 95
  | 5 => 73
  | _ => 0
theorem mV_n {V W : Vf} {sg t k : Int} {x f : Nat} {v : Int32} (hx : x < 6) (hf : mvN x = f) (e : W = up2 V 0 f v) : mV W sg t k = mU (mV V sg t k) 0 x v.toInt := by
  have o : ∀ c' k', ¬ (c' = 0 ∧ k' = f) → W c' k' = V c' k' := fun c' k' hn => by rw [e]; exact up2_pl hn
  have s : W 0 f = v := by rw [e, up2_ss]
  have nm : ∀ y, y < 6 → mV W sg t k 0 y = (W 0 (mvN y)).toInt := fun y hy => by
    rcases (show y = 0 ∨ y = 1 ∨ y = 2 ∨ y = 3 ∨ y = 4 ∨ y = 5 from by omega) with h | h | h | h | h | h <;> (subst h; rfl)
  have nv : ∀ y, y < 6 → mV V sg t k 0 y = (V 0 (mvN y)).toInt := fun y hy => by
    rcases (show y = 0 ∨ y = 1 ∨ y = 2 ∨ y = 3 ∨ y = 4 ∨ y = 5 from by omega) with h | h | h | h | h | h <;> (subst h; rfl)
  refine mm_ext (fun j => ?_) (fun y j => ?_)
  · by_cases q : j = x
    · subst q
      rw [mU_s, nm j hx, hf, s]
    · rw [mU_o _ _ (by omega)]
      by_cases hj : j < 6
      · rw [nm j hj, nv j hj]
        refine congrArg Int32.toInt (o _ _ (fun h => q ?_))
        have inj : ∀ a, a < 6 → ∀ b, b < 6 → mvN a = mvN b → a = b := by decide
        exact inj j hj x hx (h.2.trans hf.symm)
      · rcases (show j = 6 ∨ j = 7 ∨ j = 8 ∨ j = 9 ∨ 10 ≤ j from by omega) with h | h | h | h | h
        · rw [h, mV_06, mV_06]
        · rw [h, mV_07, mV_07]
        · rw [h, mV_08, mV_08]
        · rw [h, mV_09, mV_09]
        · obtain ⟨y, rfl⟩ : ∃ y, j = y + 10 := ⟨j - 10, by omega⟩
          rw [mV_0x, mV_0x]
  · rw [mU_o _ _ (by omega)]
    by_cases hy : y < 13
    · rw [mV_row hy, mV_row hy, o _ _ (fun h => (mvC_k hy).1 h.1)]
    · rw [mV_big (by omega), mV_big (by omega)]
theorem mV_sg {V : Vf} {sg t k s : Int} : mU (mV V sg t k) 0 6 s = mV V s t k := by
  refine mm_ext (fun j => ?_) (fun y j => ?_)
  · rcases (show j = 0 ∨ j = 1 ∨ j = 2 ∨ j = 3 ∨ j = 4 ∨ j = 5 ∨ j = 6 ∨ j = 7 ∨ j = 8 ∨ j = 9 ∨ 10 ≤ j from by omega) with e10 | e10 | e10 | e10 | e10 | e10 | e10 | e10 | e10 | e10 | e10
    · subst e10
      rw [mU_o _ _ (by omega), mV_00, mV_00]
    · subst e10
      rw [mU_o _ _ (by omega), mV_01, mV_01]
    · subst e10
      rw [mU_o _ _ (by omega), mV_02, mV_02]
    · subst e10
      rw [mU_o _ _ (by omega), mV_03, mV_03]
    · subst e10
      rw [mU_o _ _ (by omega), mV_04, mV_04]
    · subst e10
      rw [mU_o _ _ (by omega), mV_05, mV_05]
    · subst e10
      rw [mU_s, mV_06]
    · subst e10
      rw [mU_o _ _ (by omega), mV_07, mV_07]
    · subst e10
      rw [mU_o _ _ (by omega), mV_08, mV_08]
    · subst e10
      rw [mU_o _ _ (by omega), mV_09, mV_09]
    · obtain ⟨y10, rfl⟩ : ∃ y, j = y + 10 := ⟨j - 10, by omega⟩
      rw [mU_o _ _ (by omega), mV_0x, mV_0x]
  · rw [mU_o _ _ (by omega)]
    by_cases hy : y < 13
    · rw [mV_row hy, mV_row hy]
    · rw [mV_big (by omega), mV_big (by omega)]
theorem mV_t {V : Vf} {sg t k s : Int} : mU (mV V sg t k) 0 8 s = mV V sg s k := by
  refine mm_ext (fun j => ?_) (fun y j => ?_)
  · rcases (show j = 0 ∨ j = 1 ∨ j = 2 ∨ j = 3 ∨ j = 4 ∨ j = 5 ∨ j = 6 ∨ j = 7 ∨ j = 8 ∨ j = 9 ∨ 10 ≤ j from by omega) with e10 | e10 | e10 | e10 | e10 | e10 | e10 | e10 | e10 | e10 | e10
    · subst e10
      rw [mU_o _ _ (by omega), mV_00, mV_00]
    · subst e10
      rw [mU_o _ _ (by omega), mV_01, mV_01]
    · subst e10
      rw [mU_o _ _ (by omega), mV_02, mV_02]
    · subst e10
      rw [mU_o _ _ (by omega), mV_03, mV_03]
    · subst e10
      rw [mU_o _ _ (by omega), mV_04, mV_04]
    · subst e10
      rw [mU_o _ _ (by omega), mV_05, mV_05]
    · subst e10
      rw [mU_o _ _ (by omega), mV_06, mV_06]
    · subst e10
      rw [mU_o _ _ (by omega), mV_07, mV_07]
    · subst e10
      rw [mU_s, mV_08]
    · subst e10
      rw [mU_o _ _ (by omega), mV_09, mV_09]
    · obtain ⟨y10, rfl⟩ : ∃ y, j = y + 10 := ⟨j - 10, by omega⟩
      rw [mU_o _ _ (by omega), mV_0x, mV_0x]
  · rw [mU_o _ _ (by omega)]
    by_cases hy : y < 13
    · rw [mV_row hy, mV_row hy]
    · rw [mV_big (by omega), mV_big (by omega)]
theorem mV_k {V : Vf} {sg t k s : Int} : mU (mV V sg t k) 0 9 s = mV V sg t s := by
  refine mm_ext (fun j => ?_) (fun y j => ?_)
  · rcases (show j = 0 ∨ j = 1 ∨ j = 2 ∨ j = 3 ∨ j = 4 ∨ j = 5 ∨ j = 6 ∨ j = 7 ∨ j = 8 ∨ j = 9 ∨ 10 ≤ j from by omega) with e10 | e10 | e10 | e10 | e10 | e10 | e10 | e10 | e10 | e10 | e10
    · subst e10
      rw [mU_o _ _ (by omega), mV_00, mV_00]
    · subst e10
      rw [mU_o _ _ (by omega), mV_01, mV_01]
    · subst e10
      rw [mU_o _ _ (by omega), mV_02, mV_02]
    · subst e10
      rw [mU_o _ _ (by omega), mV_03, mV_03]
    · subst e10
      rw [mU_o _ _ (by omega), mV_04, mV_04]
    · subst e10
      rw [mU_o _ _ (by omega), mV_05, mV_05]
    · subst e10
      rw [mU_o _ _ (by omega), mV_06, mV_06]
    · subst e10
      rw [mU_o _ _ (by omega), mV_07, mV_07]
    · subst e10
      rw [mU_o _ _ (by omega), mV_08, mV_08]
    · subst e10
      rw [mU_s, mV_09]
    · obtain ⟨y10, rfl⟩ : ∃ y, j = y + 10 := ⟨j - 10, by omega⟩
      rw [mU_o _ _ (by omega), mV_0x, mV_0x]
  · rw [mU_o _ _ (by omega)]
    by_cases hy : y < 13
    · rw [mV_row hy, mV_row hy]
    · rw [mV_big (by omega), mV_big (by omega)]
section MVe
variable {V W : Vf} {sg t k : Int} {a : Int32} {fs : List Fr}
theorem mV_ans {v : Int32} : mAns (mV V sg t k) v fs = (mV V 1 t k, v, fs) := by
  unfold mAns
  rw [mV_sg]
theorem mV_go : mGo (mV V sg t k) a fs = (mV V 0 t k, a, fs) := by
  unfold mGo
  rw [mV_sg]
theorem mV_spent : mSpent (mV V sg t k) a fs = (mV V 3 t k, a, fs) := by
  unfold mSpent
  rw [mV_sg]
theorem mV_fail {nd kd : Int} : mFail (mV V sg t k) a nd kd fs = (mV V 2 nd kd, a, fs) := by
  unfold mFail
  rw [mV_sg, mV_t, mV_k]
/-- all but the STEPS stay -/
def mvS (fs : List (Nat × Nat)) (cs : List Nat) : Bool := fs.all (fun y => y.1 == 0 && !(([(0, 60), (0, 65), (0, 95), (0, 73)] : List (Nat × Nat)).contains y)) && cs.all (fun c => c != 0 && !(mvK.contains c))
theorem mvS_f {L : List (Nat × Nat)} {cs : List Nat} (q : mvS L cs = true) {k : Nat} (h : ([(0, 60), (0, 65), (0, 95), (0, 73)] : List (Nat × Nat)).contains (0, k) = true) : wrL L cs 0 k = false := by
  unfold mvS at q
  rw [Bool.and_eq_true, List.all_eq_true, List.all_eq_true] at q
  unfold wrL
  rw [Bool.or_eq_false_iff]
  refine ⟨?_, ?_⟩
  · rw [← Bool.not_eq_true]
    intro z
    have y := q.1 _ (List.contains_iff_mem.mp z)
    rw [Bool.and_eq_true, h] at y
    exact absurd y.2 (by decide)
  · rw [← Bool.not_eq_true]
    intro z
    have y := q.2 _ (List.contains_iff_mem.mp z)
    rw [Bool.and_eq_true] at y
    exact absurd y.1 (by decide)
theorem mvS_k {L : List (Nat × Nat)} {cs : List Nat} (q : mvS L cs = true) {c k : Nat} (h0 : c ≠ 0) (h : mvK.contains c = true) : wrL L cs c k = false := by
  unfold mvS at q
  rw [Bool.and_eq_true, List.all_eq_true, List.all_eq_true] at q
  unfold wrL
  rw [Bool.or_eq_false_iff]
  refine ⟨?_, ?_⟩
  · rw [← Bool.not_eq_true]
    intro z
    have y := q.1 _ (List.contains_iff_mem.mp z)
    rw [Bool.and_eq_true] at y
    exact h0 (eq_of_beq y.1)
  · rw [← Bool.not_eq_true]
    intro z
    have y := q.2 _ (List.contains_iff_mem.mp z)
    rw [Bool.and_eq_true, h] at y
    exact absurd y.2 (by decide)
theorem mV_st {L : List (Nat × Nat)} {cs : List Nat} (g : agr L cs V W) (q : mvS L cs = true) (e0 : (W 0 68).toInt = (V 0 68).toInt + 1) (e1 : (W 0 69).toInt = (V 0 69).toInt + 1) : mV W sg t k = mSt (mV V sg t k) := by
  unfold mSt
  refine mm_ext (fun j => ?_) (fun y j => ?_)
  · rcases (show j = 0 ∨ j = 1 ∨ j = 2 ∨ j = 3 ∨ j = 4 ∨ j = 5 ∨ j = 6 ∨ j = 7 ∨ j = 8 ∨ j = 9 ∨ 10 ≤ j from by omega) with e10 | e10 | e10 | e10 | e10 | e10 | e10 | e10 | e10 | e10 | e10
    · subst e10
      rw [mU_s, mV_00, mV_00]
      exact e0
    · subst e10
      rw [mU_o _ _ (by omega), mU_s, mV_01, mV_01]
      exact e1
    · subst e10
      rw [mU_o _ _ (by omega), mU_o _ _ (by omega), mV_02, mV_02]
      exact congrArg Int32.toInt (g 0 60 (mvS_f q rfl))
    · subst e10
      rw [mU_o _ _ (by omega), mU_o _ _ (by omega), mV_03, mV_03]
      exact congrArg Int32.toInt (g 0 65 (mvS_f q rfl))
    · subst e10
      rw [mU_o _ _ (by omega), mU_o _ _ (by omega), mV_04, mV_04]
      exact congrArg Int32.toInt (g 0 95 (mvS_f q rfl))
    · subst e10
      rw [mU_o _ _ (by omega), mU_o _ _ (by omega), mV_05, mV_05]
      exact congrArg Int32.toInt (g 0 73 (mvS_f q rfl))
    · subst e10
      rw [mU_o _ _ (by omega), mU_o _ _ (by omega), mV_06, mV_06]
    · subst e10
      rw [mU_o _ _ (by omega), mU_o _ _ (by omega), mV_07, mV_07]
    · subst e10
      rw [mU_o _ _ (by omega), mU_o _ _ (by omega), mV_08, mV_08]
    · subst e10
      rw [mU_o _ _ (by omega), mU_o _ _ (by omega), mV_09, mV_09]
    · obtain ⟨y10, rfl⟩ : ∃ y, j = y + 10 := ⟨j - 10, by omega⟩
      rw [mU_o _ _ (by omega), mU_o _ _ (by omega), mV_0x, mV_0x]
  · rw [mU_o _ _ (by omega), mU_o _ _ (by omega)]
    by_cases hy : y < 13
    · rw [mV_row hy, mV_row hy]
      exact congrArg Int32.toInt (g _ _ (mvS_k q (mvC_k hy).1 (mvC_k hy).2))
    · rw [mV_big (by omega), mV_big (by omega)]
theorem mV_st0 {L : List (Nat × Nat)} {cs : List Nat} (g : agr L cs V W) (q : mvS L cs = true) (e0 : (W 0 68).toInt = (V 0 68).toInt) (e1 : (W 0 69).toInt = (V 0 69).toInt) : mV W sg t k = mV V sg t k :=
  mV_num e0 e1 (congrArg Int32.toInt (g 0 60 (mvS_f q rfl))) (congrArg Int32.toInt (g 0 65 (mvS_f q rfl))) (congrArg Int32.toInt (g 0 95 (mvS_f q rfl))) (congrArg Int32.toInt (g 0 73 (mvS_f q rfl))) (fun x hx j => g _ _ (mvS_k q (mvC_k hx).1 (mvC_k hx).2))
end MVe
/-! the wraps in their order, counted -/
theorem gd_el {l : List Nat} {i : Nat} (h : i < l.length) : l.getD i 0 = l[i] := by
  rw [List.getD_eq_getElem?_getD, List.getElem?_eq_getElem h]
  rfl
def cnP (P : Nat → Bool) (l : List Nat) : Nat := (l.filter P).length
theorem cnP_app {P : Nat → Bool} {l k : List Nat} : cnP P (l ++ k) = cnP P l + cnP P k := by
  unfold cnP
  rw [List.filter_append, List.length_append]
theorem cnP_one {P : Nat → Bool} {x : Nat} : cnP P [x] = if P x = true then 1 else 0 := by
  unfold cnP
  by_cases h : P x = true
  · rw [if_pos h, List.filter_cons_of_pos h]
    rfl
  · rw [if_neg h, List.filter_cons_of_neg h]
    rfl
theorem tk_s {l : List Nat} {p : Nat} (h : p < l.length) : l.take (p + 1) = l.take p ++ [l.getD p 0] := by
  rw [List.take_succ, List.getD_eq_getElem?_getD, List.getElem?_eq_getElem h]
  rfl
theorem cnP_s {P : Nat → Bool} {l : List Nat} {p : Nat} (h : p < l.length) : cnP P (l.take (p + 1)) = cnP P (l.take p) + (if P (l.getD p 0) = true then 1 else 0) := by
  rw [tk_s h, cnP_app, cnP_one]
theorem cnP_le {P : Nat → Bool} {l : List Nat} {p : Nat} : ∀ {q : Nat}, p ≤ q → cnP P (l.take p) ≤ cnP P (l.take q)
  | 0, h => by
    have : p = 0 := by omega
    subst this
    exact Nat.le_refl _
  | q + 1, h => by
    by_cases e : p = q + 1
    · rw [e]
      exact Nat.le_refl _
    · have z := cnP_le (P := P) (l := l) (p := p) (q := q) (by omega)
      by_cases hq : q < l.length
      · rw [cnP_s hq]
        omega
      · rw [List.take_of_length_le (show l.length ≤ q + 1 by omega)]
        rw [List.take_of_length_le (show l.length ≤ q by omega)] at z
        exact z
/-- the k-th of those that suit stands at i -/
def KPo (l : List Nat) (P : Nat → Bool) (k i : Nat) : Prop := i < l.length ∧ P (l.getD i 0) = true ∧ cnP P (l.take i) = k
theorem KPo.s {l : List Nat} {P : Nat → Bool} {k i : Nat} (h : KPo l P k i) : cnP P (l.take (i + 1)) = k + 1 := by
  rw [cnP_s h.1, if_pos h.2.1, h.2.2]
theorem KPo.eq {l : List Nat} {P : Nat → Bool} {k i j : Nat} (h : KPo l P k i) (q : KPo l P k j) : i = j := by
  rcases Nat.lt_trichotomy i j with c | c | c
  · have z := cnP_le (P := P) (l := l) (p := i + 1) (q := j) (by omega)
    rw [h.s, q.2.2] at z
    omega
  · exact c
  · have z := cnP_le (P := P) (l := l) (p := j + 1) (q := i) (by omega)
    rw [q.s, h.2.2] at z
    omega
theorem fFr_k {l : List Nat} {P : Nat → Bool} {k i : Nat} (h : KPo l P k i) : ∀ (f p : Nat), cnP P (l.take p) = k → f = l.length - p → fFr l P f p = some i
  | 0, p, e, ef => by
    have z := cnP_le (P := P) (l := l) (p := i + 1) (q := p) (by have := h.1; omega)
    rw [h.s, e] at z
    omega
  | f + 1, p, e, ef => by
    have hp : p < l.length := by omega
    unfold fFr
    by_cases c : P (l.getD p 0) = true
    · rw [if_pos c, KPo.eq h ⟨hp, c, e⟩]
    · rw [if_neg c]
      exact fFr_k h f (p + 1) (by rw [cnP_s hp, if_neg c]; omega) (by omega)
theorem fF_k {l : List Nat} {P : Nat → Bool} {k i p : Nat} (h : KPo l P k i) (hl : l.length ≤ 12) (e : cnP P (l.take p) = k) : fF l P p = some i := fFr_k h _ p e (by omega)
theorem fFr_n {l : List Nat} {P : Nat → Bool} {k : Nat} (h : cnP P l = k) : ∀ (f p : Nat), cnP P (l.take p) = k → f = l.length - p → fFr l P f p = none
  | 0, _, _, _ => rfl
  | f + 1, p, e, ef => by
    have hp : p < l.length := by omega
    unfold fFr
    by_cases c : P (l.getD p 0) = true
    · have z := cnP_le (P := P) (l := l) (p := p + 1) (q := l.length) (by omega)
      rw [cnP_s hp, if_pos c, List.take_length, h, e] at z
      omega
    · rw [if_neg c]
      exact fFr_n h f (p + 1) (by rw [cnP_s hp, if_neg c]; omega) (by omega)
theorem fF_n {l : List Nat} {P : Nat → Bool} {p : Nat} (hl : l.length ≤ 12) (e : cnP P (l.take p) = cnP P l) : fF l P p = none := fFr_n rfl _ p e (by omega)
theorem fBr_k {l : List Nat} {P : Nat → Bool} {k i : Nat} (h : KPo l P k i) : ∀ (p : Nat), p ≤ l.length → cnP P (l.take p) = k + 1 → fBr l P p = some i
  | 0, _, e => by
    rw [List.take_zero] at e
    cases e
  | p + 1, hp, e => by
    have hp1 : p < l.length := by omega
    rw [cnP_s hp1] at e
    unfold fBr
    by_cases c : P (l.getD p 0) = true
    · rw [if_pos c] at e
      rw [if_pos c, KPo.eq h ⟨hp1, c, by omega⟩]
    · rw [if_neg c] at e
      rw [if_neg c]
      exact fBr_k h p (by omega) e
theorem fB_k {l : List Nat} {P : Nat → Bool} {k i p : Nat} (h : KPo l P k i) (hl : l.length ≤ 12) (hp : p ≤ l.length) (e : cnP P (l.take p) = k + 1) : fB l P p = some i := by
  have q : min p (min 12 l.length) = p := by omega
  unfold fB
  rw [q]
  exact fBr_k h p hp e
theorem fBr_n {l : List Nat} {P : Nat → Bool} : ∀ (p : Nat), p ≤ l.length → cnP P (l.take p) = 0 → fBr l P p = none
  | 0, _, _ => rfl
  | p + 1, hp, e => by
    have hp1 : p < l.length := by omega
    rw [cnP_s hp1] at e
    unfold fBr
    by_cases c : P (l.getD p 0) = true
    · rw [if_pos c] at e
      omega
    · rw [if_neg c] at e
      rw [if_neg c]
      exact fBr_n p (by omega) (by omega)
theorem fB_n {l : List Nat} {P : Nat → Bool} {p : Nat} (hl : l.length ≤ 12) (hp : p ≤ l.length) (e : cnP P (l.take p) = 0) : fB l P p = none := by
  have q : min p (min 12 l.length) = p := by omega
  unfold fB
  rw [q]
  exact fBr_n p hp e
/-! how far the order goes -/
def wF (B : Bk) (n : Nat) : List Nat := (List.range (wN B)).filter (fun w => nL B.1 (902 + 8 * w) == n)
def preL (B : Bk) (n w : Nat) : List Nat := (List.range n).flatMap (wF B) ++ (List.range w).filter (fun w' => nL B.1 (902 + 8 * w') == n)
theorem rg_split {P : Nat → Bool} {w : Nat} (h : P w = true) : ∀ {k : Nat}, w < k → ∃ l, (List.range k).filter P = (List.range w).filter P ++ w :: l
  | 0, q => absurd q (Nat.not_lt_zero _)
  | k + 1, q => by
    rw [List.range_succ, List.filter_append]
    by_cases e : w = k
    · subst e
      exact ⟨[], by rw [List.filter_cons_of_pos h]; rfl⟩
    · obtain ⟨l, z⟩ := rg_split h (show w < k by omega)
      exact ⟨l ++ [k].filter P, by rw [z, List.append_assoc]; rfl⟩
theorem fm_split {F : Nat → List Nat} {n : Nat} : ∀ {k : Nat}, n < k → ∃ l, (List.range k).flatMap F = (List.range n).flatMap F ++ (F n ++ l)
  | 0, q => absurd q (Nat.not_lt_zero _)
  | k + 1, q => by
    rw [List.range_succ, List.flatMap_append]
    by_cases e : n = k
    · subst e
      exact ⟨[], by rw [List.flatMap_cons, List.flatMap_nil]⟩
    · obtain ⟨l, z⟩ := fm_split (F := F) (show n < k by omega)
      exact ⟨l ++ [k].flatMap F, by rw [z, List.append_assoc, List.append_assoc]⟩
theorem bW_split {B : Bk} {n w : Nat} (hn : n < 100) (hw : w < wN B) (e : nL B.1 (902 + 8 * w) = n) : ∃ l, bW B = preL B n w ++ w :: l := by
  obtain ⟨l1, z1⟩ := fm_split (F := wF B) hn
  obtain ⟨l2, z2⟩ := rg_split (P := fun w' => nL B.1 (902 + 8 * w') == n) (w := w) (beq_iff_eq.mpr e) hw
  refine ⟨l2 ++ l1, ?_⟩
  show (List.range 100).flatMap (wF B) = _
  rw [z1, show wF B n = _ from z2]
  unfold preL
  rw [List.append_assoc, List.append_assoc]
  rfl
theorem KPo.of {B : Bk} {P : Nat → Bool} {n w : Nat} (hn : n < 100) (hw : w < wN B) (e : nL B.1 (902 + 8 * w) = n) (hP : P w = true) : KPo (bW B) P (cnP P (preL B n w)) (preL B n w).length ∧ (bW B).getD (preL B n w).length 0 = w := by
  obtain ⟨l, z⟩ := bW_split hn hw e
  have g : (bW B).getD (preL B n w).length 0 = w := by
    rw [z, List.getD_eq_getElem?_getD, List.getElem?_append_right (Nat.le_refl _), Nat.sub_self]
    rfl
  refine ⟨⟨?_, by rw [g]; exact hP, ?_⟩, g⟩
  · rw [z, List.length_append, List.length_cons]
    omega
  · rw [z, List.take_left]
theorem preL_s {B : Bk} {P : Nat → Bool} {n w : Nat} : cnP P (preL B n (w + 1)) = cnP P (preL B n w) + (if nL B.1 (902 + 8 * w) = n ∧ P w = true then 1 else 0) := by
  unfold preL
  rw [List.range_succ, List.filter_append, cnP_app, cnP_app, cnP_app, Nat.add_assoc]
  congr 2
  by_cases c : nL B.1 (902 + 8 * w) = n
  · rw [List.filter_cons_of_pos (by exact beq_iff_eq.mpr c), List.filter_nil, cnP_one]
    by_cases d : P w = true
    · rw [if_pos d, if_pos ⟨c, d⟩]
    · rw [if_neg d, if_neg (fun q => d q.2)]
  · rw [List.filter_cons_of_neg (by rw [beq_iff_eq]; exact c), List.filter_nil, if_neg (fun q => c q.1)]
    rfl
theorem preL_n {B : Bk} {n : Nat} : preL B n (wN B) = preL B (n + 1) 0 := by
  unfold preL
  rw [List.range_succ, List.flatMap_append, List.flatMap_cons, List.flatMap_nil, List.append_nil, List.range_zero, List.filter_nil, List.append_nil]
  rfl
theorem preL_all {B : Bk} : preL B 100 0 = bW B := by
  unfold preL
  rw [List.range_zero, List.filter_nil, List.append_nil]
  rfl
/-- those of lower numbers, and all of them -/
theorem cn_lt {g : Nat → Nat} {P : Nat → Bool} {l : List Nat} : ∀ N, cnP P ((List.range N).flatMap (fun n => l.filter (fun w => g w == n))) = (l.filter (fun w => decide (g w < N) && P w)).length
  | 0 => by
    rw [List.range_zero, List.flatMap_nil]
    have z : (l.filter (fun w => decide (g w < 0) && P w)) = [] := List.filter_eq_nil_iff.mpr (fun a _ q => by
      rw [Bool.and_eq_true] at q
      exact absurd (of_decide_eq_true q.1) (Nat.not_lt_zero _))
    rw [z]
    rfl
  | N + 1 => by
    rw [List.range_succ, List.flatMap_append, cnP_app, cn_lt N, List.flatMap_cons, List.flatMap_nil, List.append_nil]
    clear cn_lt
    induction l with
    | nil => rfl
    | cons x l ih =>
      unfold cnP at ih ⊢
      by_cases p : P x = true
      · rcases Nat.lt_trichotomy (g x) N with c | c | c
        · rw [List.filter_cons_of_pos (by rw [Bool.and_eq_true]; exact ⟨decide_eq_true c, p⟩), List.filter_cons_of_neg (a := x) (p := fun w => g w == N) (by rw [beq_iff_eq]; omega), List.filter_cons_of_pos (a := x) (p := fun w => decide (g w < N + 1) && P w) (by rw [Bool.and_eq_true]; exact ⟨decide_eq_true (by omega), p⟩), List.length_cons, List.length_cons, ← ih]
          omega
        · rw [List.filter_cons_of_neg (by rw [Bool.and_eq_true]; exact fun q => absurd (of_decide_eq_true q.1) (by omega)), List.filter_cons_of_pos (a := x) (p := fun w => g w == N) (by exact beq_iff_eq.mpr c), List.filter_cons_of_pos (a := x) (p := P) p, List.filter_cons_of_pos (a := x) (p := fun w => decide (g w < N + 1) && P w) (by rw [Bool.and_eq_true]; exact ⟨decide_eq_true (by omega), p⟩), List.length_cons, List.length_cons, ← ih]
          omega
        · rw [List.filter_cons_of_neg (by rw [Bool.and_eq_true]; exact fun q => absurd (of_decide_eq_true q.1) (by omega)), List.filter_cons_of_neg (a := x) (p := fun w => g w == N) (by rw [beq_iff_eq]; omega), List.filter_cons_of_neg (a := x) (p := fun w => decide (g w < N + 1) && P w) (by rw [Bool.and_eq_true]; exact fun q => absurd (of_decide_eq_true q.1) (by omega)), ← ih]
      · have n1 : ∀ M, List.filter (fun w => decide (g w < M) && P w) (x :: l) = List.filter (fun w => decide (g w < M) && P w) l := fun M => List.filter_cons_of_neg (by rw [Bool.and_eq_true]; exact fun q => p q.2)
        rw [n1, n1, ← ih]
        by_cases c : g x = N
        · rw [List.filter_cons_of_pos (a := x) (p := fun w => g w == N) (by exact beq_iff_eq.mpr c), List.filter_cons_of_neg (a := x) (p := P) p]
        · rw [List.filter_cons_of_neg (a := x) (p := fun w => g w == N) (by rw [beq_iff_eq]; exact c)]
theorem cnP_bW {B : Bk} {P : Nat → Bool} (h : ∀ w, w < wN B → nL B.1 (902 + 8 * w) < 100) : cnP P (bW B) = ((List.range (wN B)).filter P).length := by
  show cnP P ((List.range 100).flatMap (fun n => (List.range (wN B)).filter (fun w => nL B.1 (902 + 8 * w) == n))) = _
  rw [cn_lt (g := fun w => nL B.1 (902 + 8 * w)) 100]
  refine congrArg List.length (List.filter_congr (fun w hw => ?_))
  rw [decide_eq_true (h w (List.mem_range.mp hw)), Bool.true_and]
theorem bW_len {B : Bk} (h : ∀ w, w < wN B → nL B.1 (902 + 8 * w) < 100) : (bW B).length = wN B := by
  have z := cnP_bW (P := fun _ => true) h
  unfold cnP at z
  have f9 : ∀ l : List Nat, l.filter (fun _ => true) = l := fun l => List.filter_eq_self.mpr (fun _ _ => rfl)
  rw [f9, f9, List.length_range] at z
  exact z
/-! a BOOK that is READY: its needs that are not late form no ring -/
section RHO
variable {f : Nat → Nat} {sv : Nat → Int} {m : Nat}
def nmC (M : Nat → Nat) : Nat → Nat
  | 0 => 0
  | d + 1 => nmC M d + (if M d = 0 then 1 else 0)
theorem nmC_le {M M' : Nat → Nat} (h : ∀ d, M' d = 0 → M d = 0) : ∀ n, nmC M' n ≤ nmC M n
  | 0 => Nat.le_refl _
  | n + 1 => by
    have z := nmC_le h n
    show nmC M' n + _ ≤ nmC M n + _
    by_cases q : M' n = 0
    · rw [if_pos q, if_pos (h n q)]
      omega
    · rw [if_neg q]
      omega
theorem nmC_up {M M' : Nat → Nat} {c : Nat} (h0 : M c = 0) (h1 : M' c ≠ 0) (h : ∀ d, M' d = 0 → M d = 0) : ∀ n, c < n → nmC M' n + 1 ≤ nmC M n
  | 0, q => absurd q (Nat.not_lt_zero _)
  | n + 1, q => by
    show nmC M' n + _ + 1 ≤ nmC M n + _
    by_cases e : c = n
    · subst e
      have z := nmC_le h c
      rw [if_neg h1, if_pos h0]
      omega
    · have z := nmC_up h0 h1 h n (by omega)
      by_cases q2 : M' n = 0
      · rw [if_pos q2, if_pos (h n q2)]
        omega
      · rw [if_neg q2]
        omega
theorem nmC_n {M : Nat → Nat} : ∀ n, nmC M n ≤ n
  | 0 => Nat.le_refl _
  | n + 1 => by
    have z := nmC_n (M := M) n
    show nmC M n + _ ≤ n + 1
    by_cases q : M n = 0
    · rw [if_pos q]
      omega
    · rw [if_neg q]
      omega
theorem fold_mono {K : Nat → MSt → MSt} {p : Nat} {P : Nat → Nat} (hK : ∀ d s, s.2.1 ≤ (K d s).2.1) : ∀ (l : List Nat) (s : MSt), s.2.1 ≤ (List.foldl (stE K p P) s l).2.1
  | [], _ => Nat.le_refl _
  | d :: l, s => by
    have z := fold_mono (p := p) (P := P) hK l (stE K p P s d)
    have y : s.2.1 ≤ (stE K p P s d).2.1 := by
      by_cases q : s.1 d = 0
      · rw [stE_0 q]
        exact hK d s
      · by_cases q1 : s.1 d = 1
        · rw [stE_1 q1]
          exact Nat.le_refl _
        · rw [stE_2 (by omega)]
          show s.2.1 ≤ s.2.1 + 1
          omega
    exact Nat.le_trans y z
theorem VIS_mono : ∀ (h p : Nat) (P : Nat → Nat) (c : Nat) (s : MSt), s.2.1 ≤ (VIS f sv m h p P c s).2.1
  | 0, _, _, _, _ => Nat.le_refl _
  | h + 1, p, P, c, s => by
    rw [VIS_e]
    exact fold_mono (fun d s => VIS_mono h (p + 1) (upn P p c) d s) (edJ f sv m c (f (66 + 8 * c))) (upn s.1 c (2 + p), s.2)
/-- those that were left have a rank -/
def LRK (f : Nat → Nat) (sv : Nat → Int) (m : Nat) (g : Nat → Nat) (k : Nat) (M : Nat → Nat) : Prop := ∀ d, M d = 1 → g d < k ∧ ∀ e, e ∈ edJ f sv m d (f (66 + 8 * d)) → M e = 1 ∧ g e < g d
/-- what a search leaves -/
def RVS (f : Nat → Nat) (sv : Nat → Int) (m : Nat) (g : Nat → Nat) (k : Nat) (M M' : Nat → Nat) : Prop := ∃ g' k', k ≤ k' ∧ LRK f sv m g' k' M' ∧ (∀ d, M d ≠ 0 → M' d = M d) ∧ (∀ d, M d = 0 → M' d ≤ 1) ∧ ∀ d, M d = 1 → g' d = g d
theorem RVS.rf {g : Nat → Nat} {k : Nat} {M : Nat → Nat} (h : LRK f sv m g k M) : RVS f sv m g k M M := ⟨g, k, Nat.le_refl _, h, fun _ _ => rfl, fun d q => by omega, fun _ _ => rfl⟩
theorem edJ_lt {c d : Nat} : ∀ {j : Nat}, d ∈ edJ f sv m c j → d < m
  | 0, h => by cases h
  | j + 1, h => by
    rcases List.mem_append.mp h with q | q
    · exact edJ_lt q
    · unfold edC at q
      split at q
      · cases q
      · unfold CLP at q
        exact List.mem_range.mp (List.mem_filter.mp q).1
theorem fold_rk {h p : Nat} {P : Nat → Nat} (ih : ∀ (c : Nat) (s : MSt) (g : Nat → Nat) (k : Nat), c < m → s.1 c = 0 → LRK f sv m g k s.1 → nmC s.1 m ≤ h → (VIS f sv m h p P c s).2.1 = s.2.1 → RVS f sv m g k s.1 (VIS f sv m h p P c s).1 ∧ (VIS f sv m h p P c s).1 c = 1) : ∀ (l : List Nat) (t : MSt) (g : Nat → Nat) (k : Nat), (∀ e, e ∈ l → e < m) → LRK f sv m g k t.1 → nmC t.1 m ≤ h → (List.foldl (stE (VIS f sv m h p P) p P) t l).2.1 = t.2.1 → RVS f sv m g k t.1 (List.foldl (stE (VIS f sv m h p P) p P) t l).1 ∧ ∀ e, e ∈ l → (List.foldl (stE (VIS f sv m h p P) p P) t l).1 e = 1
  | [], t, g, k, _, hl, _, _ => ⟨RVS.rf hl, fun e q => by cases q⟩
  | d :: l, t, g, k, hlt, hl, hn, hc => by
    have hd : d < m := hlt d (List.mem_cons_self ..)
    have hlt2 : ∀ e, e ∈ l → e < m := fun e q => hlt e (List.mem_cons_of_mem _ q)
    have mo := fold_mono (p := p) (P := P) (fun d s => VIS_mono (f := f) (sv := sv) (m := m) h p P d s) l (stE (VIS f sv m h p P) p P t d)
    have hc : (List.foldl (stE (VIS f sv m h p P) p P) (stE (VIS f sv m h p P) p P t d) l).2.1 = t.2.1 := hc
    show RVS f sv m g k t.1 (List.foldl (stE (VIS f sv m h p P) p P) (stE (VIS f sv m h p P) p P t d) l).1 ∧ ∀ e, e ∈ d :: l → (List.foldl (stE (VIS f sv m h p P) p P) (stE (VIS f sv m h p P) p P t d) l).1 e = 1
    by_cases q : t.1 d = 0
    · rw [stE_0 q] at mo hc ⊢
      have mv := VIS_mono (f := f) (sv := sv) (m := m) h p P d t
      have e1 : (VIS f sv m h p P d t).2.1 = t.2.1 := by omega
      obtain ⟨⟨g1, k1, a1, a2, a3, a4, a5⟩, b1⟩ := ih d t g k hd q hl hn e1
      have nn : nmC (VIS f sv m h p P d t).1 m ≤ h := Nat.le_trans (nmC_le (fun x hx => by
        by_cases w : t.1 x = 0
        · exact w
        · rw [a3 x w] at hx
          exact absurd hx w) m) hn
      obtain ⟨⟨g2, k2, c1, c2, c3, c4, c5⟩, d1⟩ := fold_rk ih l (VIS f sv m h p P d t) g1 k1 hlt2 a2 nn (by omega)
      refine ⟨⟨g2, k2, by omega, c2, fun x hx => ?_, fun x hx => ?_, fun x hx => ?_⟩, fun e he => ?_⟩
      · rw [c3 x (by rw [a3 x hx]; exact hx), a3 x hx]
      · by_cases w : (VIS f sv m h p P d t).1 x = 0
        · exact c4 x w
        · rw [c3 x w]
          exact a4 x hx
      · rw [c5 x (by rw [a3 x (by omega)]; exact hx), a5 x hx]
      · rcases List.mem_cons.mp he with w | w
        · subst w
          rw [c3 e (by omega), b1]
        · exact d1 e w
    · by_cases q1 : t.1 d = 1
      · rw [stE_1 q1] at hc ⊢
        obtain ⟨r1, r2⟩ := fold_rk ih l t g k hlt2 hl hn hc
        refine ⟨r1, fun e he => ?_⟩
        rcases List.mem_cons.mp he with w | w
        · subst w
          obtain ⟨g2, k2, c1, c2, c3, c4, c5⟩ := r1
          rw [c3 e (by omega), q1]
        · exact r2 e w
      · rw [stE_2 (by omega)] at mo hc
        have mo : t.2.1 + 1 ≤ _ := mo
        exfalso
        omega
theorem VIS_rk : ∀ (h p : Nat) (P : Nat → Nat) (c : Nat) (s : MSt) (g : Nat → Nat) (k : Nat), c < m → s.1 c = 0 → LRK f sv m g k s.1 → nmC s.1 m ≤ h → (VIS f sv m h p P c s).2.1 = s.2.1 → RVS f sv m g k s.1 (VIS f sv m h p P c s).1 ∧ (VIS f sv m h p P c s).1 c = 1
  | 0, p, P, c, s, g, k, hm, h0, hl, hn, _ => by
    have z := nmC_up (M := s.1) (M' := upn s.1 c 1) (c := c) h0 (by rw [upn_s]; decide) (fun d q => by
      by_cases w : d = c
      · rw [w]; exact h0
      · rw [upn_o w] at q; exact q) m hm
    omega
  | h + 1, p, P, c, s, g, k, hm, h0, hl, hn, hc => by
    have z := nmC_up (M := s.1) (M' := upn s.1 c (2 + p)) (c := c) h0 (by rw [upn_s]; omega) (fun d q => by
      by_cases w : d = c
      · rw [w]; exact h0
      · rw [upn_o w] at q; exact q) m hm
    have hl0 : LRK f sv m g k (upn s.1 c (2 + p)) := fun d hd => by
      by_cases w : d = c
      · rw [w, upn_s] at hd
        omega
      · rw [upn_o w] at hd
        refine ⟨(hl d hd).1, fun e he => ?_⟩
        have y := (hl d hd).2 e he
        have w2 : e ≠ c := fun q => by rw [q, h0] at y; omega
        rw [upn_o w2]
        exact y
    rw [VIS_e] at hc ⊢
    unfold VFO at hc ⊢
    obtain ⟨⟨g1, k1, a1, a2, a3, a4, a5⟩, b1⟩ := fold_rk (fun c9 s9 g9 k9 => VIS_rk h (p + 1) (upn P p c) c9 s9 g9 k9) (edJ f sv m c (f (66 + 8 * c))) (upn s.1 c (2 + p), s.2) g k (fun e he => edJ_lt he) hl0 (by show nmC (upn s.1 c (2 + p)) m ≤ h; omega) hc
    generalize hu : List.foldl (stE (VIS f sv m h (p + 1) (upn P p c)) (p + 1) (upn P p c)) (upn s.1 c (2 + p), s.2) (edJ f sv m c (f (66 + 8 * c))) = u at a2 a3 a4 b1 ⊢
    have uc : u.1 c = 2 + p := by
      have y := a3 c (by show upn s.1 c (2 + p) c ≠ 0; rw [upn_s]; omega)
      rw [show (upn s.1 c (2 + p), s.2).1 c = 2 + p from upn_s] at y
      exact y
    refine ⟨⟨upn g1 c k1, k1 + 1, by omega, fun d hd => ?_, fun d hd => ?_, fun d hd => ?_, fun d hd => ?_⟩, upn_s⟩
    · have ne : ∀ e, u.1 e = 1 → e ≠ c := fun e he q => by rw [q, uc] at he; omega
      by_cases w : d = c
      · subst w
        rw [upn_s]
        refine ⟨by omega, fun e he => ?_⟩
        have y := b1 e he
        show upn u.1 d 1 e = 1 ∧ upn g1 d k1 e < k1
        rw [upn_o (ne e y), upn_o (ne e y)]
        exact ⟨y, (a2 e y).1⟩
      · have hd : u.1 d = 1 := by
          have q : upn u.1 c 1 d = 1 := hd
          rw [upn_o w] at q
          exact q
        rw [upn_o w]
        refine ⟨by have := (a2 d hd).1; omega, fun e he => ?_⟩
        have y := (a2 d hd).2 e he
        show upn u.1 c 1 e = 1 ∧ upn g1 c k1 e < g1 d
        rw [upn_o (ne e y.1), upn_o (ne e y.1)]
        exact y
    · have w : d ≠ c := fun q => by rw [q] at hd; exact hd h0
      show upn u.1 c 1 d = s.1 d
      rw [upn_o w, a3 d (by show upn s.1 c (2 + p) d ≠ 0; rw [upn_o w]; exact hd)]
      exact upn_o w
    · show upn u.1 c 1 d ≤ 1
      by_cases w : d = c
      · rw [w, upn_s]
        exact Nat.le_refl _
      · rw [upn_o w]
        exact a4 d (by show upn s.1 c (2 + p) d = 0; rw [upn_o w]; exact hd)
    · have w : d ≠ c := fun q => by rw [q, h0] at hd; omega
      rw [upn_o w]
      exact a5 d (by show upn s.1 c (2 + p) d = 1; rw [upn_o w]; exact hd)
theorem tpV_mono {s : MSt} : ∀ c, s.2.1 ≤ (tpV f sv m c s).2.1
  | 0 => Nat.le_refl _
  | c + 1 => by
    have z := tpV_mono (s := s) c
    by_cases q : thP f sv c = true ∧ (tpV f sv m c s).1 c = 0
    · rw [tpV_y q.1 q.2]
      exact Nat.le_trans z (VIS_mono ..)
    · have e : tpV f sv m (c + 1) s = tpV f sv m c s := if_neg q
      rw [e]
      exact z
theorem tpV_rk {s : MSt} (hm : m ≤ 24) (h0 : ∀ d, s.1 d = 0) : ∀ c, c ≤ m → (tpV f sv m c s).2.1 = s.2.1 → (∃ g k, LRK f sv m g k (tpV f sv m c s).1) ∧ (∀ d, (tpV f sv m c s).1 d ≤ 1) ∧ ∀ d, d < c → thP f sv d = true → (tpV f sv m c s).1 d = 1
  | 0, _, _ => ⟨⟨fun _ => 0, 0, fun d hd => by have := h0 d; have hd : s.1 d = 1 := hd; omega⟩, fun d => by have := h0 d; show s.1 d ≤ 1; omega, fun d hd => absurd hd (Nat.not_lt_zero _)⟩
  | c + 1, hc, e => by
    have mo := tpV_mono (f := f) (sv := sv) (m := m) (s := s) c
    by_cases q : thP f sv c = true ∧ (tpV f sv m c s).1 c = 0
    · rw [tpV_y q.1 q.2] at e ⊢
      have mv := VIS_mono (f := f) (sv := sv) (m := m) 24 0 (fun _ => 0) c (tpV f sv m c s)
      obtain ⟨⟨g, k, a1⟩, a2, a3⟩ := tpV_rk hm h0 c (by omega) (by omega)
      obtain ⟨⟨g1, k1, b1, b2, b3, b4, b5⟩, b6⟩ := VIS_rk 24 0 (fun _ => 0) c (tpV f sv m c s) g k (by omega) q.2 a1 (Nat.le_trans (nmC_n m) hm) (by omega)
      refine ⟨⟨g1, k1, b2⟩, fun d => ?_, fun d hd ht => ?_⟩
      · by_cases w : (tpV f sv m c s).1 d = 0
        · exact b4 d w
        · rw [b3 d w]
          exact a2 d
      · by_cases w : d = c
        · rw [w]
          exact b6
        · have y := a3 d (by omega) ht
          rw [b3 d (by omega)]
          exact y
    · have e2 : tpV f sv m (c + 1) s = tpV f sv m c s := if_neg q
      rw [e2] at e ⊢
      obtain ⟨a1, a2, a3⟩ := tpV_rk hm h0 c (by omega) e
      refine ⟨a1, a2, fun d hd ht => ?_⟩
      by_cases w : d = c
      · subst w
        have y := a2 d
        have y2 : (tpV f sv m d s).1 d ≠ 0 := fun z => q ⟨ht, z⟩
        omega
      · exact a3 d (by omega) ht
theorem ndF_mono {c : Nat} {F : FSt} : ∀ j, F.1 ≤ (ndF f sv m c j F).1
  | 0 => Nat.le_refl _
  | j + 1 => by
    have z := ndF_mono (c := c) (F := F) j
    by_cases q : ftP f sv m c j = 0
    · rw [ndF_0 q]
      exact z
    · rw [ndF_1 q]
      show F.1 ≤ (ndF f sv m c j F).1 + 1
      omega
theorem ndF_no {c : Nat} {F : FSt} : ∀ j, (ndF f sv m c j F).1 = F.1 → ∀ i, i < j → ftP f sv m c i = 0
  | 0, _, i, h => absurd h (Nat.not_lt_zero _)
  | j + 1, e, i, h => by
    have z := ndF_mono (f := f) (sv := sv) (m := m) (c := c) (F := F) j
    by_cases q : ftP f sv m c j = 0
    · rw [ndF_0 q] at e
      by_cases w : i = j
      · rw [w]
        exact q
      · exact ndF_no j e i (by omega)
    · rw [ndF_1 q] at e
      have e : (ndF f sv m c j F).1 + 1 = F.1 := e
      omega
theorem alF_mono {F : FSt} : ∀ c, F.1 ≤ (alF f sv m c F).1
  | 0 => Nat.le_refl _
  | c + 1 => by
    have z := alF_mono (F := F) c
    by_cases q : thP f sv c = true
    · rw [alF_y q]
      exact Nat.le_trans z (ndF_mono _)
    · rw [alF_n (by cases e : thP f sv c; rfl; exact absurd e q)]
      exact z
theorem alF_no {F : FSt} : ∀ c, (alF f sv m c F).1 = F.1 → ∀ d, d < c → thP f sv d = true → ∀ i, i < f (66 + 8 * d) → ftP f sv m d i = 0
  | 0, _, d, h, _, _, _ => absurd h (Nat.not_lt_zero _)
  | c + 1, e, d, h, ht, i, hi => by
    have z := alF_mono (f := f) (sv := sv) (m := m) (F := F) c
    by_cases q : thP f sv c = true
    · rw [alF_y q] at e
      have y := ndF_mono (f := f) (sv := sv) (m := m) (c := c) (F := alF f sv m c F) (f (66 + 8 * c))
      by_cases w : d = c
      · subst w
        exact ndF_no (F := alF f sv m d F) _ (show (ndF f sv m d (f (66 + 8 * d)) (alF f sv m d F)).1 = (alF f sv m d F).1 by omega) i hi
      · exact alF_no c (show (alF f sv m c F).1 = F.1 by omega) d (by omega) ht i hi
    · rw [alF_n (by cases e : thP f sv c; rfl; exact absurd e q)] at e
      by_cases w : d = c
      · subst w
        exact absurd ht q
      · exact alF_no c e d (by omega) ht i hi
/-- a rank below 24 -/
def lwC (g : Nat → Nat) (x : Nat) : Nat → Nat
  | 0 => 0
  | d + 1 => lwC g x d + (if g d < x then 1 else 0)
theorem lwC_le {g : Nat → Nat} {x y : Nat} (h : x ≤ y) : ∀ n, lwC g x n ≤ lwC g y n
  | 0 => Nat.le_refl _
  | n + 1 => by
    have z := lwC_le (g := g) h n
    show lwC g x n + _ ≤ lwC g y n + _
    by_cases q : g n < x
    · rw [if_pos q, if_pos (by omega)]
      omega
    · rw [if_neg q]
      omega
theorem lwC_lt {g : Nat → Nat} {x d : Nat} (h : g d < x) : ∀ n, d < n → lwC g (g d) n < lwC g x n
  | 0, q => absurd q (Nat.not_lt_zero _)
  | n + 1, q => by
    show lwC g (g d) n + _ < lwC g x n + _
    by_cases e : d = n
    · subst e
      have z := lwC_le (g := g) (Nat.le_of_lt h) d
      rw [if_neg (Nat.lt_irrefl _), if_pos h]
      omega
    · have z := lwC_lt h n (by omega)
      by_cases q2 : g n < g d
      · rw [if_pos q2, if_pos (by omega)]
        omega
      · rw [if_neg q2]
        omega
theorem lwC_n {g : Nat → Nat} {x : Nat} : ∀ n, lwC g x n ≤ n
  | 0 => Nat.le_refl _
  | n + 1 => by
    have z := lwC_n (g := g) (x := x) n
    show lwC g x n + _ ≤ n + 1
    by_cases q : g n < x
    · rw [if_pos q]
      omega
    · rw [if_neg q]
      omega
theorem lwC_b {g : Nat → Nat} {c : Nat} : ∀ n, c < n → lwC g (g c) n + 1 ≤ n
  | 0, q => absurd q (Nat.not_lt_zero _)
  | n + 1, q => by
    show lwC g (g c) n + _ + 1 ≤ n + 1
    by_cases e : c = n
    · subst e
      rw [if_neg (Nat.lt_irrefl _)]
      have := lwC_n (g := g) (x := g c) c
      omega
    · have z := lwC_b (g := g) n (show c < n by omega)
      by_cases q2 : g n < g c
      · rw [if_pos q2]
        omega
      · rw [if_neg q2]
        omega
/-- no FAULT is told: no need lacks, there is no ring -/
theorem CHK_ok (h : (CHK f sv m).1 = 0) (hm : m ≤ 24) : ∃ g : Nat → Nat, ∀ c, c < m → thP f sv c = true → g c ≤ 23 ∧ (∀ j, j < f (66 + 8 * c) → ftP f sv m c j = 0) ∧ ∀ d, d ∈ edJ f sv m c (f (66 + 8 * c)) → g d < g c := by
  unfold CHK at h
  have m1 := tpV_mono (f := f) (sv := sv) (m := m) (s := (fun _ => 0, alF f sv m m (0, fun _ _ => 0))) m
  have m2 := alF_mono (f := f) (sv := sv) (m := m) (F := (0, fun _ _ => 0)) m
  have m1 : (alF f sv m m (0, fun _ _ => 0)).1 ≤ _ := m1
  have m2 : 0 ≤ (alF f sv m m (0, fun _ _ => 0)).1 := m2
  have a0 : (alF f sv m m (0, fun _ _ => 0)).1 = 0 := by omega
  obtain ⟨⟨g, k, r1⟩, r2, r3⟩ := tpV_rk (f := f) (sv := sv) (m := m) (s := (fun _ => 0, alF f sv m m (0, fun _ _ => 0))) hm (fun _ => rfl) m (Nat.le_refl _) (by rw [h]; exact a0.symm)
  refine ⟨fun c => lwC g (g c) m, fun c hc ht => ⟨?_, fun j hj => alF_no m a0 c hc ht j hj, fun d hd => ?_⟩⟩
  · have z := lwC_b (g := g) m hc
    show lwC g (g c) m ≤ 23
    omega
  · have z := (r1 c (r3 c hc ht)).2 d hd
    exact lwC_lt z.2 m (edJ_lt hd)
end RHO
/-! the BOOK, as the reference holds it while it works -/
def nC (B : Bk) : Nat := (B.1.2.1 2).length
def BKm (V : Vf) (B : Bk) : Prop :=
  (∀ i, i < cl B.1 → CDmr V (10000 * nwh V) B.1 i) ∧
  (∀ c, c < nC B → ∀ k, okR k → cM V (24 * nwh V + c) k = rgm (10000 * nwh V) B.1 (100 + 32 * c + k)) ∧
  ((V 39 (nwh V)).toInt = ((B.1.2.2.1.length : Nat) : Int) ∧ B.1.2.2.1.length ≤ 12 ∧ ∀ w, w < B.1.2.2.1.length → WMr V (nwh V) B.1 w) ∧
  ((V 19 (nwh V)).toInt = ((nC B : Nat) : Int) ∧ nC B ≤ 24 ∧ ∀ c, c < nC B → COm V (24 * nwh V + c) B.1.1 c) ∧
  (∀ i, i < (B.1.2.1 1).length → V 18 (12 * nwh V + i) = B.2 i)
/-- none of its cells was written -/
def bkQ (fs : List (Nat × Nat)) (cs : List Nat) : Bool := fs.all (fun y => y.1 == 0 && y.2 != 11) && cs.all (fun c => c != 0 && !([18, 19, 21, 22, 23, 24, 25, 26, 27, 28, 29, 30, 31, 32, 33, 34, 39, 40, 41, 42, 43, 44, 45, 46, 47] : List Nat).contains c)
theorem bkQ_k {fs : List (Nat × Nat)} {cs : List Nat} (q : bkQ fs cs = true) {c k : Nat} (h : (c = 0 ∧ k = 11) ∨ ([18, 19, 21, 22, 23, 24, 25, 26, 27, 28, 29, 30, 31, 32, 33, 34, 39, 40, 41, 42, 43, 44, 45, 46, 47] : List Nat).contains c = true) : wrL fs cs c k = false := by
  unfold bkQ at q
  rw [Bool.and_eq_true, List.all_eq_true, List.all_eq_true] at q
  unfold wrL
  rw [Bool.or_eq_false_iff]
  refine ⟨?_, ?_⟩
  · rw [← Bool.not_eq_true]
    intro z
    have y := q.1 _ (List.contains_iff_mem.mp z)
    rw [Bool.and_eq_true] at y
    have y1 : c = 0 := eq_of_beq y.1
    rcases h with h | h
    · have y2 := y.2
      rw [h.2] at y2
      have y2 : ((11 : Nat) != 11) = true := y2
      exact absurd y2 (by decide)
    · rw [y1] at h
      exact absurd h (by decide)
  · rw [← Bool.not_eq_true]
    intro z
    have y := q.2 _ (List.contains_iff_mem.mp z)
    rw [Bool.and_eq_true] at y
    rcases h with h | h
    · have y1 := y.1
      rw [h.1] at y1
      exact absurd y1 (by decide)
    · have y2 := y.2
      rw [h] at y2
      exact absurd y2 (by decide)
theorem BKm.ag {fs : List (Nat × Nat)} {cs : List Nat} {V W : Vf} {B : Bk} (h : BKm V B) (a : agr fs cs V W) (q : bkQ fs cs = true) : BKm W B := by
  have en : nwh W = nwh V := by unfold nwh; rw [a 0 11 (bkQ_k q (Or.inl ⟨rfl, rfl⟩))]
  have e : ∀ c k, ([18, 19, 21, 22, 23, 24, 25, 26, 27, 28, 29, 30, 31, 32, 33, 34, 39, 40, 41, 42, 43, 44, 45, 46, 47] : List Nat).contains c = true → W c k = V c k := fun c k hc => a c k (bkQ_k q (Or.inr hc))
  unfold BKm
  rw [en]
  refine ⟨fun i hi => ?_, fun c hc k hk => ?_, ⟨by rw [e 39 _ rfl]; exact h.2.2.1.1, h.2.2.1.2.1, fun w hw => ?_⟩, ⟨by rw [e 19 _ rfl]; exact h.2.2.2.1.1, h.2.2.2.1.2.1, fun c hc => ?_⟩, fun i hi => ?_⟩
  · have z := h.1 i hi
    unfold CDmr at z ⊢
    rw [e 45 _ rfl, e 46 _ rfl, e 47 _ rfl]
    exact z
  · have z := h.2.1 c hc k hk
    unfold cM at z ⊢
    rw [e 34 _ rfl, e 32 _ rfl, e 33 _ rfl]
    exact z
  · have z := h.2.2.1.2.2 w hw
    unfold WMr at z ⊢
    rw [e 40 _ rfl, e 41 _ rfl, e 42 _ rfl, e 43 _ rfl, e 44 _ rfl]
    exact z
  · have z := h.2.2.2.1.2.2 c hc
    unfold COm HDn BTm at z ⊢
    rw [e 22 _ rfl, e 23 _ rfl, e 24 _ rfl, e 25 _ rfl, e 26 _ rfl, e 27 _ rfl]
    refine ⟨⟨fun g hg => ?_, z.1.2⟩, z.2.1, z.2.2.1, fun j hj => ?_⟩
    · rw [e 21 _ rfl]
      exact z.1.1 g hg
    · have y := z.2.2.2 j hj
      unfold NEm at y ⊢
      rw [e 28 _ rfl, e 29 _ rfl, e 30 _ rfl, e 31 _ rfl]
      exact y
  · rw [e 18 _ rfl]
    exact h.2.2.2.2 i hi
/-- an E names settings that are there -/
def SEs (s : St) : Prop := ∀ i, i < cl s → opf s i = 11 → nL s (2001 + 3 * i) < (s.2.1 1).length
/-- what is sure of a BOOK that is READY (g: a rank) -/
def BKr (B : Bk) (g : Nat → Nat) : Prop := WFB B ∧ (∀ w, w < wN B → nL B.1 (902 + 8 * w) < 100) ∧ (∀ c j, c < nC B → thP B.1.1 (svB B) c = true → j < bN B c → (bK B c j ≠ 2 → (bC B c j).length = 1) ∧ ∀ d, d ∈ bC B c j → d < nC B ∧ thP B.1.1 (svB B) d = true ∧ (bK B c j ≠ 1 → g d < g c)) ∧ (∀ c, c < nC B → thP B.1.1 (svB B) c = true → g c ≤ 23) ∧ (∀ c me i, cnP (isF B 1 c me) ((bW B).take i) ≤ 2) ∧ WHs B.1 ∧ (T24 B.1 ∧ SEs B.1) ∧ LNb B.1
/-! small words for the reference beside the machine -/
section PLs
variable {m : Mm} {sk : Nat} {sc : Int}
theorem plc_0 (h : sk = 0) : plc m sk sc = 0 := if_pos h
theorem plc_3 (h : sk = 3) : plc m sk sc = sc := (if_neg (by omega)).trans (if_pos h)
theorem plc_2y (h : sk = 2) (q : m 12 sc.toNat = 2) : plc m sk sc = sc := (if_neg (by omega)).trans ((if_neg (by omega)).trans ((if_pos h).trans (if_pos q)))
theorem plc_2n (h : sk = 2) (q : ¬ m 12 sc.toNat = 2) : plc m sk sc = -1 := (if_neg (by omega)).trans ((if_neg (by omega)).trans ((if_pos h).trans (if_neg q)))
theorem plc_1d (h0 : sk ≠ 0) (h3 : sk ≠ 3) (h2 : sk ≠ 2) (q : m 12 sc.toNat = 1) : plc m sk sc = sc := (if_neg h0).trans ((if_neg h3).trans ((if_neg h2).trans (if_pos q)))
theorem plc_1m (h0 : sk ≠ 0) (h3 : sk ≠ 3) (h2 : sk ≠ 2) (q : m 12 sc.toNat = 2) : plc m sk sc = m 13 sc.toNat := (if_neg h0).trans ((if_neg h3).trans ((if_neg h2).trans ((if_neg (by omega)).trans (if_pos q))))
theorem plc_1n (h0 : sk ≠ 0) (h3 : sk ≠ 3) (h2 : sk ≠ 2) (q : ¬ m 12 sc.toNat = 1) (q2 : ¬ m 12 sc.toNat = 2) : plc m sk sc = -1 := (if_neg h0).trans ((if_neg h3).trans ((if_neg h2).trans ((if_neg q).trans (if_neg q2))))
theorem prs_y {pl c : Int} {o : Nat} (h1 : m 1 o = c) (h2 : m 2 o = pl) (h3 : m 3 o < 2) : prs m pl c (o + 1) = (o : Int) := if_pos ⟨h1, h2, h3⟩
theorem prs_n {pl c : Int} {o : Nat} (h : ¬ (m 1 o = c ∧ m 2 o = pl ∧ m 3 o < 2)) : prs m pl c (o + 1) = prs m pl c o := if_neg h
end PLs
theorem BKm.wn {V : Vf} {B : Bk} (h : BKm V B) : (V 39 (nwh V)).toInt = ((wN B : Nat) : Int) := by
  have z := h.2.2.1
  unfold wN
  rw [z.1]
  have := z.2.1
  omega
theorem BKm.wr {V : Vf} {B : Bk} (h : BKm V B) {w : Nat} (hw : w < wN B) : WMr V (nwh V) B.1 w := h.2.2.1.2.2 w (by unfold wN at hw; omega)
def sgE (e : Int) : Int := if e = 0 then 1 else if e = 1 then 2 else 3
/-- what the reference answers, the machine does (y: the value; bd: how many twenties there may be) -/
def DPc (B : Bk) (x : MS) (W : Vf) (r : List Fr) (e : Int) (y : Int32) (bd : Int) : Prop := ∃ a t k, TRs B x (mV W (sgE e) t k, a, r) ∧ (e = 0 → a = y) ∧ (e = 1 → t = (W 0 90).toInt ∧ k = (W 0 91).toInt ∧ 0 ≤ t ∧ t ≤ bd)
section DPs
variable {B : Bk} {x x0 : MS} {V W : Vf} {r : List Fr} {e bd t k : Int} {y a : Int32}
theorem DPc.e0 (h : DPc B x W r e y bd) (q : e = 0) : ∃ t k, TRs B x (mV W 1 t k, y, r) := by
  obtain ⟨a, t, k, h1, h2, _⟩ := h
  rw [show sgE e = 1 from if_pos q, h2 q] at h1
  exact ⟨t, k, h1⟩
theorem DPc.e1 (h : DPc B x W r e y bd) (q : e = 1) : (0 ≤ (W 0 90).toInt ∧ (W 0 90).toInt ≤ bd) ∧ ∃ a, TRs B x (mV W 2 (W 0 90).toInt (W 0 91).toInt, a, r) := by
  obtain ⟨a, t, k, h1, _, h2⟩ := h
  obtain ⟨e1, e2, e3, e4⟩ := h2 q
  rw [show sgE e = 2 from (if_neg (by omega)).trans (if_pos q), e1, e2] at h1
  rw [e1] at e3 e4
  exact ⟨⟨e3, e4⟩, a, h1⟩
theorem DPc.e2 (h : DPc B x W r e y bd) (q : e = 2) : ∃ a t k, TRs B x (mV W 3 t k, a, r) := by
  obtain ⟨a, t, k, h1, _, _⟩ := h
  rw [show sgE e = 3 from (if_neg (by omega)).trans (if_neg (by omega))] at h1
  exact ⟨a, t, k, h1⟩
theorem DPc.m0 (h : TRs B x (mV W 1 t k, y, r)) (q : e = 0) : DPc B x W r e y bd := ⟨y, t, k, by rw [show sgE e = 1 from if_pos q]; exact h, fun _ => rfl, fun h9 => by omega⟩
theorem DPc.m1 (h : TRs B x (mV W 2 t k, a, r)) (q : e = 1) (h1 : t = (W 0 90).toInt) (h2 : k = (W 0 91).toInt) (h3 : 0 ≤ t) (h4 : t ≤ bd) : DPc B x W r e y bd := ⟨a, t, k, by rw [show sgE e = 2 from (if_neg (by omega)).trans (if_pos q)]; exact h, fun h9 => by omega, fun _ => ⟨h1, h2, h3, h4⟩⟩
theorem DPc.m2 (h : TRs B x (mV W 3 t k, a, r)) (q : e = 2) : DPc B x W r e y bd := ⟨a, t, k, by rw [show sgE e = 3 from (if_neg (by omega)).trans (if_neg (by omega))]; exact h, fun h9 => by omega, fun h9 => by omega⟩
theorem DPc.tr (h0 : TRs B x0 x) (h : DPc B x W r e y bd) : DPc B x0 W r e y bd := by
  obtain ⟨a, t, k, h1, h2⟩ := h
  exact ⟨a, t, k, h0.tr h1, h2⟩
theorem SF.mk {m : Mm} {f : Fr} (h1 : r.length ≤ 394) (h2 : f.2.2.2.length + totP r ≤ 2000) (h3 : 0 ≤ m 0 3 ∧ m 0 3 ≤ 300) (h4 : m 0 6 = 2 → 0 ≤ m 0 8 ∧ m 0 8 ≤ 10000) (h5 : SFt B m a f) : SF B (m, a, f :: r) :=
  ⟨Nat.succ_le_succ h1, h2, h3, h4, fun f9 r9 e9 => by
    have e9 : f :: r = f9 :: r9 := e9
    cases e9
    exact h5⟩
/-- .. at a later version -/
theorem DPc.mv {y2 : Int32} (h : DPc B x V r e y bd) (h0 : e ≠ 0) (hm : ∀ sg t k, mV W sg t k = mV V sg t k) (e1 : W 0 90 = V 0 90) (e2 : W 0 91 = V 0 91) : DPc B x W r e y2 bd := by
  obtain ⟨a, t, k, h1, _, h2⟩ := h
  exact ⟨a, t, k, by rw [hm]; exact h1, fun h9 => absurd h9 h0, by rw [e1, e2]; exact h2⟩
/-- one step more, whatever came -/
theorem DPc.pop {f : Fr} (h : DPc B x W (f :: r) e y bd) (h1 : r.length ≤ 394) (h2 : f.2.2.2.length + totP r ≤ 2000) (h3 : 0 ≤ (W 0 65).toInt ∧ (W 0 65).toInt ≤ 300) (h4 : bd ≤ 10000) (h5 : ∀ m a, SFt B m a f) (h6 : ∀ m a, stM B (m, a, f :: r) = (m, a, r)) : DPc B x W r e y bd := by
  obtain ⟨a, t, k, q1, q2, q3⟩ := h
  refine ⟨a, t, k, q1.st (SF.mk h1 h2 h3 (fun h9 => ?_) (h5 _ _)) (h6 _ _), q2, q3⟩
  have h8 : sgE e = 2 := h9
  have he : e = 1 := by
    by_cases c : e = 0
    · rw [show sgE e = 1 from if_pos c] at h8
      omega
    · by_cases d : e = 1
      · exact d
      · rw [show sgE e = 3 from (if_neg c).trans (if_neg d)] at h8
        omega
  have z := q3 he
  exact ⟨z.2.2.1, by have := z.2.2.2; show t ≤ 10000; omega⟩
end DPs
/-- the pile below t stays -/
def PLK (V W : Vf) (t : Nat) : Prop := ∀ j, j < t → W 97 j = V 97 j
theorem PLK.rf {V : Vf} {t : Nat} : PLK V V t := fun _ _ => rfl
theorem PLK.tr {V W X : Vf} {t t2 : Nat} (h : PLK V W t) (k : PLK W X t2) (q : t ≤ t2) : PLK V X t := fun j hj => (k j (by omega)).trans (h j hj)
theorem PLK.ag {fs : List (Nat × Nat)} {cs : List Nat} {V W : Vf} {t : Nat} (a : agr fs cs V W) (q : ∀ k, wrL fs cs 97 k = false) : PLK V W t := fun j _ => a _ _ (q j)
/-- all that an object needs was joined to it -/
def CMPo (V : Vf) (B : Bk) (o : Nat) : Prop := ∀ k, k < bN B (Int32.toNatClampNeg (V 61 o)) → bK B (Int32.toNatClampNeg (V 61 o)) k ≠ 1 → (V 66 (8 * o + k)).toInt = (((bC B (Int32.toNatClampNeg (V 61 o)) k).length : Nat) : Int)
/-- what the objects that are there keep -/
def RJm (V : Vf) (B : Bk) : Prop := (∀ o k : Nat, (o : Int) < (V 0 60).toInt → k < bN B (Int32.toNatClampNeg (V 61 o)) → bK B (Int32.toNatClampNeg (V 61 o)) k = 1 → (V 66 (8 * o + k)).toInt ≤ 1 ∧ ((V 66 (8 * o + k)).toInt = 1 → bS B ((bC B (Int32.toNatClampNeg (V 61 o)) k).headD 0) = 3)) ∧ (∀ o k i : Nat, (o : Int) < (V 0 60).toInt → k < 8 → (i : Int) < (V 66 (8 * o + k)).toInt → 1 ≤ (V 63 (Int32.toNatClampNeg (V 67 (24 * (8 * o + k) + i)))).toInt) ∧ (∀ o : Nat, (o : Int) < (V 0 60).toInt → (V 63 o).toInt = 1 → CMPo V B o) ∧ ∀ i : Nat, (i : Int) < (V 0 95).toInt → CMPo V B (Int32.toNatClampNeg (V 94 i))
def rjQ (fs : List (Nat × Nat)) (cs : List Nat) : Bool := fs.all (fun y => y.1 == 0 && y.2 != 60 && y.2 != 95) && cs.all (fun c => c != 0 && !([61, 63, 66, 67, 94] : List Nat).contains c)
theorem rjQ_k {fs : List (Nat × Nat)} {cs : List Nat} (q : rjQ fs cs = true) {c k : Nat} (h : (c = 0 ∧ (k = 60 ∨ k = 95)) ∨ ([61, 63, 66, 67, 94] : List Nat).contains c = true) : wrL fs cs c k = false := by
  unfold rjQ at q
  rw [Bool.and_eq_true, List.all_eq_true, List.all_eq_true] at q
  unfold wrL
  rw [Bool.or_eq_false_iff]
  refine ⟨?_, ?_⟩
  · rw [← Bool.not_eq_true]
    intro z
    have y := q.1 _ (List.contains_iff_mem.mp z)
    rw [Bool.and_eq_true, Bool.and_eq_true] at y
    have y1 : c = 0 := eq_of_beq y.1.1
    rcases h with h | h
    · rcases h.2 with h2 | h2
      · have y2 := y.1.2
        rw [h2] at y2
        have y2 : ((60 : Nat) != 60) = true := y2
        exact absurd y2 (by decide)
      · have y2 := y.2
        rw [h2] at y2
        have y2 : ((95 : Nat) != 95) = true := y2
        exact absurd y2 (by decide)
    · rw [y1] at h
      exact absurd h (by decide)
  · rw [← Bool.not_eq_true]
    intro z
    have y := q.2 _ (List.contains_iff_mem.mp z)
    rw [Bool.and_eq_true] at y
    rcases h with h | h
    · have y1 := y.1
      rw [h.1] at y1
      exact absurd y1 (by decide)
    · have y2 := y.2
      rw [h] at y2
      exact absurd y2 (by decide)
theorem RJm.ag {fs : List (Nat × Nat)} {cs : List Nat} {V W : Vf} {B : Bk} (h : RJm V B) (a : agr fs cs V W) (q : rjQ fs cs = true) : RJm W B := by
  have e60 : W 0 60 = V 0 60 := a _ _ (rjQ_k q (Or.inl ⟨rfl, Or.inl rfl⟩))
  have e95 : W 0 95 = V 0 95 := a _ _ (rjQ_k q (Or.inl ⟨rfl, Or.inr rfl⟩))
  have e61 : ∀ k, W 61 k = V 61 k := fun k => a _ _ (rjQ_k q (Or.inr rfl))
  have e63 : ∀ k, W 63 k = V 63 k := fun k => a _ _ (rjQ_k q (Or.inr rfl))
  have e66 : ∀ k, W 66 k = V 66 k := fun k => a _ _ (rjQ_k q (Or.inr rfl))
  have e67 : ∀ k, W 67 k = V 67 k := fun k => a _ _ (rjQ_k q (Or.inr rfl))
  have e94 : ∀ k, W 94 k = V 94 k := fun k => a _ _ (rjQ_k q (Or.inr rfl))
  unfold RJm CMPo
  simp only [e60, e61, e63, e66, e67, e95, e94]
  exact h
theorem CMPo.ag {fs : List (Nat × Nat)} {cs : List Nat} {V W : Vf} {B : Bk} {o : Nat} (h : CMPo V B o) (a : agr fs cs V W) (q : rjQ fs cs = true) : CMPo W B o := by
  have e61 : W 61 o = V 61 o := a _ _ (rjQ_k q (Or.inr rfl))
  have e66 : ∀ k, W 66 k = V 66 k := fun k => a _ _ (rjQ_k q (Or.inr rfl))
  unfold CMPo
  simp only [e61, e66]
  exact h
/-- .. and what a call leaves -/
theorem CMPo.fr {V W : Vf} {B : Bk} {o : Nat} (h : CMPo V B o) (bk : BKm V B) (f : FRM V W (-1)) (ho : (o : Int) < (V 0 60).toInt) (hc : Int32.toNatClampNeg (V 61 o) < nC B) : CMPo W B o := by
  have b := f.2.1 o ho
  unfold CMPo
  rw [b.1]
  intro k hk hl
  have c := bk.2.2.2.1.2.2 _ hc
  have n8 := c.2.2.1
  have ne := c.2.2.2 k hk
  rw [f.2.2.1 o k ho (by omega) (by unfold bN at hk; omega) (fun q => hl (ne.2.1.mp q))]
  exact h k hk hl
/-- the pile from t down -/
def plR (V : Vf) : Nat → List Int32 → Prop
  | _, [] => True
  | t, x :: p => ∃ t2, t = t2 + 1 ∧ V 97 t2 = x ∧ plR V t2 p
theorem plR.mv {V W : Vf} : ∀ {p : List Int32} {t : Nat}, plR V t p → (∀ j, j < t → W 97 j = V 97 j) → plR W t p
  | [], _, _, _ => trivial
  | x :: p, t, h, e => by
    obtain ⟨t2, h1, h2, h3⟩ := h
    exact ⟨t2, h1, by rw [e t2 (by omega)]; exact h2, plR.mv h3 (fun j hj => e j (by omega))⟩
/-- one more -/
theorem plR.pu {V W : Vf} {p : List Int32} {t : Nat} {x : Int32} (h : plR V t p) (hx : W 97 t = x) (e : ∀ j, j < t → W 97 j = V 97 j) : plR W (t + 1) (x :: p) := ⟨t, rfl, hx, h.mv e⟩
theorem plR.hd {V : Vf} {p : List Int32} {t : Nat} (h : plR V (t + 1) p) (hp : 1 ≤ p.length) : V 97 t = pop1 p ∧ plR V t p.tail := by
  cases p with
  | nil => cases hp
  | cons x p =>
    obtain ⟨t2, h1, h2, h3⟩ := h
    have e : t2 = t := by omega
    subst e
    exact ⟨h2, h3⟩
/-- an E goes on -/
def WLo (B : Bk) (x : MS) (V : Vf) (r : List Fr) (lv o c sc me ps : Int) (v : Int32) (i : Nat) (p : List Int32) : Prop := ∃ sg t k a, (sg = 0 ∨ sg = 1) ∧ TRs B x (mV V sg t k, a, Fwork lv o c sc me ps (i : Int) v p :: r)
section OQi
variable {B : Bk} {nd : Nat} {ar : Bool} {i k q : Nat}
theorem OQ.i1 (h : OQ B nd ar i k q) (e : opf B.1 i = 1) : ∃ q9, OQ B nd ar (i + 1) k q9 := by
  obtain ⟨f, h⟩ := h
  cases f with
  | zero => exact h.elim
  | succ f =>
    rcases h.2.2 with w | ⟨_, r⟩ | ⟨w, _⟩ | ⟨w, _⟩ | ⟨w, _⟩ | w | ⟨w, _⟩ | ⟨w, _⟩ | ⟨w, _⟩ | ⟨w, _⟩
    · omega
    · exact ⟨_, f, r⟩
    all_goals omega
theorem OQ.i2 (h : OQ B nd ar i k q) (e : opf B.1 i = 2 ∨ opf B.1 i = 3 ∨ opf B.1 i = 11) : ∃ q9, OQ B nd ar (i + 1) (k + 1) q9 := by
  obtain ⟨f, h⟩ := h
  cases f with
  | zero => exact h.elim
  | succ f =>
    rcases h.2.2 with w | ⟨w, _⟩ | ⟨_, j, _, r⟩ | ⟨w, _⟩ | ⟨w, _⟩ | w | ⟨w, _⟩ | ⟨w, _⟩ | ⟨w, _⟩ | ⟨w, _⟩
    · omega
    · omega
    · exact ⟨_, f, r⟩
    all_goals omega
theorem OQ.i4 (h : OQ B nd ar i k q) (e : opf B.1 i = 4) : 1 ≤ k ∧ ∃ q9, OQ B nd ar (i + 1) k q9 := by
  obtain ⟨f, h⟩ := h
  cases f with
  | zero => exact h.elim
  | succ f =>
    rcases h.2.2 with w | ⟨w, _⟩ | ⟨w, _⟩ | ⟨_, z, j, _, r⟩ | ⟨w, _⟩ | w | ⟨w, _⟩ | ⟨w, _⟩ | ⟨w, _⟩ | ⟨w, _⟩
    · omega
    · omega
    · omega
    · exact ⟨z, _, f, r⟩
    all_goals omega
theorem OQ.i5 (h : OQ B nd ar i k q) (e : 5 ≤ opf B.1 i ∧ opf B.1 i ≤ 9) : ∃ t, k = t + 2 ∧ ∃ q9, OQ B nd ar (i + 1) (t + 1) q9 := by
  obtain ⟨f, h⟩ := h
  cases f with
  | zero => exact h.elim
  | succ f =>
    rcases h.2.2 with w | ⟨w, _⟩ | ⟨w, _⟩ | ⟨w, _⟩ | ⟨_, j, t, _, z, r⟩ | w | ⟨w, _⟩ | ⟨w, _⟩ | ⟨w, _⟩ | ⟨w, _⟩
    · omega
    · omega
    · omega
    · omega
    · exact ⟨t, z, _, f, r⟩
    all_goals omega
theorem OQ.i12 (h : OQ B nd ar i k q) (e : opf B.1 i = 12) : ∃ t, k = t + 1 ∧ (∃ q9, OQ B nd ar (i + 1) t q9) ∧ ∃ q9, OQ B nd ar (nL B.1 (2001 + 3 * i)) t q9 := by
  obtain ⟨f, h⟩ := h
  cases f with
  | zero => exact h.elim
  | succ f =>
    rcases h.2.2 with w | ⟨w, _⟩ | ⟨w, _⟩ | ⟨w, _⟩ | ⟨w, _⟩ | w | ⟨_, j, t, _, z, r, r2⟩ | ⟨w, _⟩ | ⟨w, _⟩ | ⟨w, _⟩
    · omega
    · omega
    · omega
    · omega
    · omega
    · omega
    · exact ⟨t, z, ⟨_, f, r⟩, _, f, r2⟩
    all_goals omega
theorem OQ.i13 (h : OQ B nd ar i k q) (e : opf B.1 i = 13) : ∃ q9, OQ B nd ar (nL B.1 (2001 + 3 * i)) k q9 := by
  obtain ⟨f, h⟩ := h
  cases f with
  | zero => exact h.elim
  | succ f =>
    rcases h.2.2 with w | ⟨w, _⟩ | ⟨w, _⟩ | ⟨w, _⟩ | ⟨w, _⟩ | w | ⟨w, _⟩ | ⟨_, j, _, r⟩ | ⟨w, _⟩ | ⟨w, _⟩
    · omega
    · omega
    · omega
    · omega
    · omega
    · omega
    · omega
    · exact ⟨_, f, r⟩
    all_goals omega
theorem OQ.i14 (h : OQ B nd ar i k q) (e : opf B.1 i = 14) : nL B.1 (2001 + 3 * i) < nd ∧ ∃ t, k = t + 1 ∧ ∃ q9, OQ B nd ar (i + 1) (t + 1) q9 := by
  obtain ⟨f, h⟩ := h
  cases f with
  | zero => exact h.elim
  | succ f =>
    rcases h.2.2 with w | ⟨w, _⟩ | ⟨w, _⟩ | ⟨w, _⟩ | ⟨w, _⟩ | w | ⟨w, _⟩ | ⟨w, _⟩ | ⟨_, z0, j, t, _, z, r⟩ | ⟨w, _⟩
    · omega
    · omega
    · omega
    · omega
    · omega
    · omega
    · omega
    · omega
    · exact ⟨z0.1, t, z, _, f, r⟩
    · omega
theorem OQ.i15 (h : OQ B nd ar i k q) (e : opf B.1 i = 15) : ar = true ∧ ∃ t, k = t + 1 ∧ ∃ q9, OQ B nd ar (i + 1) (t + 1) q9 := by
  obtain ⟨f, h⟩ := h
  cases f with
  | zero => exact h.elim
  | succ f =>
    rcases h.2.2 with w | ⟨w, _⟩ | ⟨w, _⟩ | ⟨w, _⟩ | ⟨w, _⟩ | w | ⟨w, _⟩ | ⟨w, _⟩ | ⟨w, _⟩ | ⟨_, z0, j, t, _, z, r⟩
    · omega
    · omega
    · omega
    · omega
    · omega
    · omega
    · omega
    · omega
    · omega
    · exact ⟨z0, t, z, _, f, r⟩
theorem OQ.i0 (h : OQ B nd ar i k q) (e : opf B.1 i = 0) : k = 1 := by
  obtain ⟨f, h⟩ := h
  cases f with
  | zero => exact h.elim
  | succ f =>
    rcases h.2.2 with w | ⟨w, _⟩ | ⟨w, _⟩ | ⟨w, _⟩ | ⟨w, _⟩ | w | ⟨w, _⟩ | ⟨w, _⟩ | ⟨w, _⟩ | ⟨w, _⟩
    · exact w.2
    all_goals omega
end OQi
/-- of a need that an E uses: r0 where it goes on -/
def DPo (B : Bk) (x : MS) (W : Vf) (r0 r : List Fr) (e bd : Int) : Prop := ∃ a t k, (e = 0 → TRs B x (mV W 1 t k, a, r0)) ∧ (e ≠ 0 → TRs B x (mV W (sgE e) t k, a, r)) ∧ (e = 1 → t = (W 0 90).toInt ∧ k = (W 0 91).toInt ∧ 0 ≤ t ∧ t ≤ bd)
section DPq
variable {B : Bk} {x x0 : MS} {V W : Vf} {r0 r : List Fr} {e bd t k : Int} {y a : Int32}
theorem DPo.e0 (h : DPo B x W r0 r e bd) (q : e = 0) : ∃ a t k, TRs B x (mV W 1 t k, a, r0) := by
  obtain ⟨a, t, k, h1, _⟩ := h
  exact ⟨a, t, k, h1 q⟩
theorem DPo.e1 (h : DPo B x W r0 r e bd) (q : e = 1) : (0 ≤ (W 0 90).toInt ∧ (W 0 90).toInt ≤ bd) ∧ ∃ a, TRs B x (mV W 2 (W 0 90).toInt (W 0 91).toInt, a, r) := by
  obtain ⟨a, t, k, _, h1, h2⟩ := h
  obtain ⟨e1, e2, e3, e4⟩ := h2 q
  have h1 := h1 (by omega)
  rw [show sgE e = 2 from (if_neg (by omega)).trans (if_pos q), e1, e2] at h1
  rw [e1] at e3 e4
  exact ⟨⟨e3, e4⟩, a, h1⟩
theorem DPo.e2 (h : DPo B x W r0 r e bd) (q : e = 2) : ∃ a t k, TRs B x (mV W 3 t k, a, r) := by
  obtain ⟨a, t, k, _, h1, _⟩ := h
  have h1 := h1 (by omega)
  rw [show sgE e = 3 from (if_neg (by omega)).trans (if_neg (by omega))] at h1
  exact ⟨a, t, k, h1⟩
theorem DPo.m0 (h : TRs B x (mV W 1 t k, a, r0)) (q : e = 0) : DPo B x W r0 r e bd := ⟨a, t, k, fun _ => h, fun h9 => absurd q h9, fun h9 => by omega⟩
theorem DPo.m1 (h : TRs B x (mV W 2 t k, a, r)) (q : e = 1) (h1 : t = (W 0 90).toInt) (h2 : k = (W 0 91).toInt) (h3 : 0 ≤ t) (h4 : t ≤ bd) : DPo B x W r0 r e bd := ⟨a, t, k, fun h9 => by omega, fun _ => by rw [show sgE e = 2 from (if_neg (by omega)).trans (if_pos q)]; exact h, fun _ => ⟨h1, h2, h3, h4⟩⟩
theorem DPo.m2 (h : TRs B x (mV W 3 t k, a, r)) (q : e = 2) : DPo B x W r0 r e bd := ⟨a, t, k, fun h9 => by omega, fun _ => by rw [show sgE e = 3 from (if_neg (by omega)).trans (if_neg (by omega))]; exact h, fun h9 => by omega⟩
theorem DPo.tr (h0 : TRs B x0 x) (h : DPo B x W r0 r e bd) : DPo B x0 W r0 r e bd := by
  obtain ⟨a, t, k, h1, h2, h3⟩ := h
  exact ⟨a, t, k, fun q => h0.tr (h1 q), fun q => h0.tr (h2 q), h3⟩
end DPq
/-- a jump's target, as the reference holds it -/
theorem CDmr.tg {V : Vf} {p i t : Nat} {s : St} (h : CDmr V p s i) (ho : opf s i = 12 ∨ opf s i = 13) (e : (V 46 (p + i)).toInt = (t : Int)) (hl : p ≤ t) : t = p + nL s (2001 + 3 * i) := by
  have z := h.2.1.2.1 ho
  by_cases q : nL s (2001 + 3 * i) = 0
  · rw [if_pos q] at z
    omega
  · rw [if_neg q] at z
    omega
theorem cnP_len {P : Nat → Bool} {l : List Nat} : cnP P l ≤ l.length := List.length_filter_le _ _
theorem cnP_cg {P Q : Nat → Bool} {l : List Nat} (h : ∀ x, x ∈ l → P x = Q x) : cnP P l = cnP Q l := congrArg List.length (List.filter_congr h)
theorem getD_mem {l : List Nat} {i : Nat} (h : i < l.length) : l.getD i 0 ∈ l := by
  rw [List.getD_eq_getElem?_getD, List.getElem?_eq_getElem h]
  exact List.getElem_mem h
theorem KPo.cg {P Q : Nat → Bool} {l : List Nat} {k i : Nat} (h : KPo l P k i) (e : ∀ x, x ∈ l → P x = Q x) : KPo l Q k i :=
  ⟨h.1, by rw [← e _ (getD_mem h.1)]; exact h.2.1, by rw [← cnP_cg (fun x hx => e x (List.mem_of_mem_take hx))]; exact h.2.2⟩
theorem bW_mem {B : Bk} {x : Nat} (h : x ∈ bW B) : x < wN B := by
  unfold bW at h
  obtain ⟨n, _, h2⟩ := List.mem_flatMap.mp h
  exact List.mem_range.mp (List.mem_filter.mp h2).1
theorem wcn_f {f : Nat → Bool} : ∀ n, wcn f n = ((List.range n).filter f).length
  | 0 => rfl
  | n + 1 => by
    rw [List.range_succ, List.filter_append, List.length_append, ← wcn_f n]
    show wcn f n + _ = wcn f n + _
    by_cases h : f n = true
    · rw [if_pos h, List.filter_cons_of_pos h]
      rfl
    · rw [if_neg h, List.filter_cons_of_neg h]
      rfl
/-- a wrap suits: both ways to say so -/
theorem isWb_F {V : Vf} {B : Bk} {o m ph : Int32} {c me p w : Nat} (hM : rgd bM V) (bk : BKm V B) (hw : w < wN B) (hc : c < nC B) (e1 : Int32.toNatClampNeg (V 61 (Int32.toNatClampNeg o)) = c) (e2 : m.toInt = (me : Int)) (e3 : ph.toInt = (p : Int)) : isWb V o m ph w = isF B p c me w := by
  have wr := bk.wr hw
  have r40 : (-1) ≤ (V 40 (12 * nwh V + w)).toInt ∧ (V 40 (12 * nwh V + w)).toInt ≤ 23 := hM 40 _
  have bt := (bk.2.2.2.1.2.2 c hc).1.1 (nL B.1 (900 + 8 * w)) (by have := wr.1; omega)
  have r21 : 0 ≤ (V 21 (24 * (24 * nwh V + c) + nL B.1 (900 + 8 * w))).toInt ∧ (V 21 (24 * (24 * nwh V + c) + nL B.1 (900 + 8 * w))).toInt ≤ 1 := hM 21 _
  have ec : (V 61 (Int32.toNatClampNeg o)).toInt.toNat = c := e1
  have et : (V 40 (12 * nwh V + w)).toInt.toNat = nL B.1 (900 + 8 * w) := by have := wr.1; omega
  unfold isWb isF
  rw [ec, et]
  have b1 : (V 41 (12 * nwh V + w) = m) ↔ nL B.1 (901 + 8 * w) = me := ⟨fun h => by have := wr.2.1; rw [h] at this; omega, fun h => Int32.toInt_inj.mp (by have := wr.2.1; omega)⟩
  have b2 : (V 43 (12 * nwh V + w) = ph) ↔ nL B.1 (903 + 8 * w) = p := ⟨fun h => by have := wr.2.2.2.1; rw [h] at this; omega, fun h => Int32.toInt_inj.mp (by have := wr.2.2.2.1; omega)⟩
  rw [Bool.eq_iff_iff, decide_eq_true_iff, Bool.and_eq_true, Bool.and_eq_true, beq_iff_eq, beq_iff_eq, b1, b2, ← bt]
  constructor
  · intro h
    exact ⟨⟨h.2.1, h.1⟩, by have := h.2.2; omega⟩
  · intro h
    exact ⟨h.1.2, h.1.1, by have := h.2; omega⟩
theorem BKr.len {B : Bk} {g : Nat → Nat} (h : BKr B g) : (bW B).length = wN B ∧ (bW B).length ≤ 12 := by
  have z := bW_len h.2.1
  exact ⟨z, by rw [z]; exact Nat.min_le_left _ _⟩
/-- where a wrap's E begins -/
theorem BKm.wst {V : Vf} {B : Bk} (h : BKm V B) {w : Nat} (hw : w < wN B) : (V 44 (12 * nwh V + w)).toInt = ((10000 * nwh V + nL B.1 (904 + 8 * w) : Nat) : Int) := by
  have z := (h.wr hw).2.2.2.2
  first | (rw [z]; omega) | (rw [z.1]; omega)
theorem jnd_s {m : Mm} {o k : Nat} {i : Int} (h : i < m 6 (8 * o + k)) : jnd m o k i = some (m 7 (24 * (8 * o + k) + i.toNat)) := if_pos h
theorem jnd_n {m : Mm} {o k : Nat} {i : Int} (h : ¬ i < m 6 (8 * o + k)) : jnd m o k i = none := if_neg h
theorem BKm.sv {V : Vf} {B : Bk} (h : BKm V B) (hn : (B.1.2.1 1).length ≤ 12) : svm V (nwh V) (B.1.2.1 1).length = svB B := by
  funext i
  unfold svm svB
  by_cases q : i < (B.1.2.1 1).length
  · rw [if_pos q, if_pos q, h.2.2.2.2 i q]
  · rw [if_neg q, if_neg q]
theorem BKm.co {V : Vf} {B : Bk} (h : BKm V B) : COM V (nwh V) B.1 := h.2.2.2.1.2.2
/-- a component that is there -/
theorem BKm.thI {V : Vf} {B : Bk} {c : Nat} (h : BKm V B) (wh : WHs B.1) (hn : (B.1.2.1 1).length ≤ 12) (t : th V c) : c < nC B ∧ thP B.1.1 (svB B) c = true := by
  have hc : c < nC B := by
    have z := t.1
    rw [h.2.2.2.1.1] at z
    omega
  refine ⟨hc, ?_⟩
  have k := h.2.2.2.1.2.2 c hc
  have e1 := k.1.2.2.2.2.1
  have e2 := k.1.2.2.2.2.2
  unfold thP
  rw [Bool.or_eq_true]
  by_cases q : B.1.1 (64 + 8 * c) = 0
  · exact Or.inl (beq_iff_eq.mpr q)
  · right
    rw [beq_iff_eq]
    have w := wh c hc
    have lt : B.1.1 (64 + 8 * c) - 1 < (B.1.2.1 1).length := by omega
    rcases t.2 with u | u
    · omega
    · have u2 := congrArg Int32.toInt u
      rw [e2 q] at u2
      rw [← u2]
      unfold svB
      rw [if_pos lt, ← h.2.2.2.2 _ (by omega), show (V 25 (24 * nwh V + c)).toInt.toNat = B.1.1 (64 + 8 * c) - 1 from by omega]


abbrev r_s_step3 : Room := { frames := 0, cells := 0, slots := 0, locals := 0 }
abbrev q_s_step3 (D : va_G) (ks : KS) (ad : Nat → Nat) (kk : Nat → ClassId) (V : Vf) (L : Lf) (A : Nat → Prop) : Array Value → State → Outcome → State → Prop := va_Qi (fun (r : Int32) (u : Vf × Lf) => rgd bM u.1 ∧ agr [(0, 68), (0, 69)] [] V u.1 ∧ u.2 = L ∧ (0 ≤ r.toInt ∧ r.toInt ≤ 1) ∧ (Imp (r.toInt = 1) ((u.1 0 69).toInt = (V 0 69).toInt + 1 ∧ (u.1 0 68).toInt = (V 0 68).toInt + 1 ∧ (V 0 69).toInt < 3000 ∧ (V 0 68).toInt < 60000)) ∧ (Imp (r.toInt = 0) ((u.1 0 69).toInt = (V 0 69).toInt ∧ (u.1 0 68).toInt = (V 0 68).toInt ∧ ((V 0 69).toInt = 3000 ∨ (V 0 68).toInt = 60000)))) (fun u t => gq D A (mw ad kk ks.1 u.1 u.2) (mty kk) t) A
set_option maxHeartbeats 4000000 in
set_option maxRecDepth 100000 in
theorem s_step3 (l : Launch) (D : va_G) (ks : KS) (sz : Nat) (ad : Nat → Nat) (kk : Nat → ClassId) (V : Vf) (L : Lf)  (hMV : rgd bM V)  : Met l yX12_step (Cond.code yX12_step cX12_step 1 (some .boolean) :: GW) r_s_step3 (va_Pc [.ref (ad 0)] (gp D ks (mw ad kk ks.1 V L) (mty kk) sz)) (q_s_step3 D ks ad kk V L  (va_A (mw ad kk ks.1 V L) sz)) 0 0 (va_A (mw ad kk ks.1 V L) sz) := by
  refine g_met (q_s_step3 D ks ad kk V L) (by decide) (Nat.le_of_ble_eq_true rfl) ?_
  intro p e s m below meth c A ls H locs hx hb hr hml hown hg hlocks hin hnw hgk hP hK hD hS hA hl
  have hown : s.vm.findClass RX12 = some m.cls := hown
  have hl : lv_has ls 1 [(0, .ref (ad 0))] := hl
  have hP : va_P D vwCl (mw ad kk ks.1 V L) H := hP
  have hD : va_D A (mw ad kk ks.1 V L) := hD
  have hK : va_K D vwCl (mty kk) s := hK
  have agV : agr [(0, 68), (0, 69)] [] V V := agr.rf
  refine lv_aload_n hx hb dX12_step_0 rfl (lv_at hl 0 rfl) ?_
  refine va_get (D := D) (ci := 12) (v := .int (V 0 69)) (C := RX12) (T := TX12) (N := 100) hx hb hg inX12 hown hK hP 0 rfl rfl 69 (by decide) (hg _ w1775) (fun _ h9 => h9) rfl dX12_step_1 ?_
  have r1 : 0 ≤ ((V 0 69)).toInt ∧ ((V 0 69)).toInt ≤ 3000 := hMV 0 69
  refine lv_sipush (v := 3000) hx hb dX12_step_4 (by decide) ?_
  refine lv_icmp_eq (tgt := 20) hx hb dX12_step_7 (by decide) (fun c2 => ?_) (fun c2 => ?_)
  · skip
    have f3 : ((V 0 69)).toInt = 3000 := b_eq rfl (by decide) c2
    refine lv_iconst (v := 0) hx hb dX12_step_20 (by decide) ?_
    have r4 : 0 ≤ ((V 0 68)).toInt ∧ ((V 0 68)).toInt ≤ 60000 := hMV 0 68
    exact W.zret (v := 0) hx hb hr rfl (fun t ht hW => ⟨⟨0, (V, L), rfl, ⟨hMV, agV, rfl, (by decide), (Imp.mk (fun hp => absurd hp (by decide))), (Imp.mk (fun _ => (show (V 0 69).toInt = (V 0 69).toInt ∧ (V 0 68).toInt = (V 0 68).toInt ∧ ((V 0 69).toInt = 3000 ∨ (V 0 68).toInt = 60000) from by (first | exact om_189af7533740 r1.2 f3 | omega))))⟩, by rw [ht]; exact hP, va_K.moved hW.alike hK, hD⟩, hS.F ht⟩) hS.2.2 dX12_step_21
  · skip
    have f5 : ((V 0 69)).toInt ≠ 3000 := b_neq rfl (by decide) c2
    refine lv_aload_n hx hb dX12_step_10 rfl (lv_at hl 0 rfl) ?_
    refine va_get (D := D) (ci := 12) (v := .int (V 0 68)) (C := RX12) (T := TX12) (N := 100) hx hb hg inX12 hown hK hP 0 rfl rfl 68 (by decide) (hg _ w1774) (fun _ h9 => h9) rfl dX12_step_11 ?_
    have r6 : 0 ≤ ((V 0 68)).toInt ∧ ((V 0 68)).toInt ≤ 60000 := hMV 0 68
    refine lv_ldcw (v := 60000) hx hb hown (hg _ w2263) dX12_step_14 ?_
    refine lv_icmp_ne (tgt := 22) hx hb dX12_step_17 (by decide) (fun c7 => ?_) (fun c7 => ?_)
    · skip
      have f8 : ((V 0 68)).toInt ≠ 60000 := b_neq rfl (by decide) c7
      refine lv_aload_n hx hb dX12_step_22 rfl (lv_at hl 0 rfl) ?_
      refine lv_dup hx hb dX12_step_23 rfl ?_
      refine va_get (D := D) (ci := 12) (v := .int (V 0 69)) (C := RX12) (T := TX12) (N := 100) hx hb hg inX12 hown hK hP 0 rfl rfl 69 (by decide) (hg _ w1775) (fun _ h9 => h9) rfl dX12_step_24 ?_
      refine lv_iconst (v := 1) hx hb dX12_step_27 (by decide) ?_
      refine lv_iadd hx hb dX12_step_28 ?_
      refine lv_topi (fun z9 ez9 => ?_)
      have hz9 : z9.toInt = ((V 0 69)).toInt + 1 := i_add ez9 rfl (by decide) (by (first | exact om_31284b87f362 r1.1 r1.2 f5 | omega))
      refine va_put (D := D) (ci := 12) (v := .int z9) (ty := tyX12 69) (C := RX12) (T := TX12) (N := 100) hx hb hg inX12 tyX12 tyX12_ok nmX12 hown hK hP hD hS 0 rfl rfl 69 (by decide) (hg _ w1775) (fun _ h9 => h9) rfl (tyX12_ok 69 (by decide)) rfl rfl (Nat.le_of_ble_eq_true rfl) dX12_step_29 (fun H locs hP hD hS => ?_)
      obtain ⟨V10, hV10⟩ : ∃ z, z = up2 V 0 69 z9 := ⟨_, rfl⟩
      have hP : va_P D vwCl (mw ad kk ks.1 V10 L) H := by rw [hV10]; exact hP
      have hD : va_D A (mw ad kk ks.1 V10 L) := by rw [hV10]; exact hD
      have hMV10 : rgd bM V10 := hMV.put hV10 (show 0 ≤ z9.toInt ∧ z9.toInt ≤ 3000 from by (first | exact om_5d996cd43f79 r1.1 r1.2 f5 hz9 | omega))
      have agV10 : agr [(0, 68), (0, 69)] [] V V10 := agV.up hV10 rfl
      refine lv_aload_n hx hb dX12_step_32 rfl (lv_at hl 0 rfl) ?_
      refine lv_dup hx hb dX12_step_33 rfl ?_
      refine va_get (D := D) (ci := 12) (v := .int (V10 0 68)) (C := RX12) (T := TX12) (N := 100) hx hb hg inX12 hown hK hP 0 rfl rfl 68 (by decide) (hg _ w1774) (fun _ h9 => h9) rfl dX12_step_34 ?_
      refine g_top (v := (V 0 68)) (up2_k hV10 (by decide)) ?_
      refine lv_iconst (v := 1) hx hb dX12_step_37 (by decide) ?_
      refine lv_iadd hx hb dX12_step_38 ?_
      refine lv_topi (fun z11 ez11 => ?_)
      have hz11 : z11.toInt = ((V 0 68)).toInt + 1 := i_add ez11 rfl (by decide) (by (first | exact om_c0c2ba813b07 r6.1 r6.2 f8 | omega))
      refine va_put (D := D) (ci := 12) (v := .int z11) (ty := tyX12 68) (C := RX12) (T := TX12) (N := 100) hx hb hg inX12 tyX12 tyX12_ok nmX12 hown hK hP hD hS 0 rfl rfl 68 (by decide) (hg _ w1774) (fun _ h9 => h9) rfl (tyX12_ok 68 (by decide)) rfl rfl (Nat.le_of_ble_eq_true rfl) dX12_step_39 (fun H locs hP hD hS => ?_)
      obtain ⟨V12, hV12⟩ : ∃ z, z = up2 V10 0 68 z11 := ⟨_, rfl⟩
      have hP : va_P D vwCl (mw ad kk ks.1 V12 L) H := by rw [hV12]; exact hP
      have hD : va_D A (mw ad kk ks.1 V12 L) := by rw [hV12]; exact hD
      have hMV12 : rgd bM V12 := hMV10.put hV12 (show 0 ≤ z11.toInt ∧ z11.toInt ≤ 60000 from by (first | exact om_40300ceaa76f r6.1 r6.2 f8 hz11 | omega))
      have agV12 : agr [(0, 68), (0, 69)] [] V V12 := agV10.up hV12 rfl
      refine lv_iconst (v := 1) hx hb dX12_step_42 (by decide) ?_
      have pq13 : (V12 0 69).toInt = z9.toInt := congrArg Int32.toInt ((up2_k hV12 (by decide)).trans (up2_s hV10))
      have pq14 : (V12 0 68).toInt = z11.toInt := congrArg Int32.toInt (up2_s hV12)
      exact W.zret (v := 1) hx hb hr rfl (fun t ht hW => ⟨⟨1, (V12, L), rfl, ⟨hMV12, agV12, rfl, (by decide), (Imp.mk (fun _ => (show (V12 0 69).toInt = (V 0 69).toInt + 1 ∧ (V12 0 68).toInt = (V 0 68).toInt + 1 ∧ (V 0 69).toInt < 3000 ∧ (V 0 68).toInt < 60000 from by (first | exact om_7a1d7d6ebade r1.2 f5 r6.2 f8 hz9 hz11 pq13 pq14 | omega)))), (Imp.mk (fun hp => absurd hp (by decide)))⟩, by rw [ht]; exact hP, va_K.moved hW.alike hK, hD⟩, hS.F ht⟩) hS.2.2 dX12_step_43
    · skip
      have f15 : ((V 0 68)).toInt = 60000 := b_eq rfl (by decide) c7
      refine lv_iconst (v := 0) hx hb dX12_step_20 (by decide) ?_
      exact W.zret (v := 0) hx hb hr rfl (fun t ht hW => ⟨⟨0, (V, L), rfl, ⟨hMV, agV, rfl, (by decide), (Imp.mk (fun hp => absurd hp (by decide))), (Imp.mk (fun _ => (show (V 0 69).toInt = (V 0 69).toInt ∧ (V 0 68).toInt = (V 0 68).toInt ∧ ((V 0 69).toInt = 3000 ∨ (V 0 68).toInt = 60000) from by (first | exact om_c18766a26349 r6.2 f15 | omega))))⟩, by rw [ht]; exact hP, va_K.moved hW.alike hK, hD⟩, hS.F ht⟩) hS.2.2 dX12_step_21
abbrev r_s_fails3 : Room := { frames := 0, cells := 0, slots := 0, locals := 0 }
abbrev q_s_fails3 (D : va_G) (ks : KS) (ad : Nat → Nat) (kk : Nat → ClassId) (V : Vf) (L : Lf) (p0 : Int32) (A : Nat → Prop) : Array Value → State → Outcome → State → Prop := va_Qi (fun (r : Int32) (u : Vf × Lf) => rgd bM u.1 ∧ agr [(0, 90), (0, 91)] [] V u.1 ∧ u.2 = L ∧ (1 ≤ r.toInt ∧ r.toInt ≤ 1) ∧ ((u.1 0 90).toInt = 0) ∧ ((u.1 0 91).toInt = p0.toInt)) (fun u t => gq D A (mw ad kk ks.1 u.1 u.2) (mty kk) t) A
set_option maxHeartbeats 4000000 in
set_option maxRecDepth 100000 in
theorem s_fails3 (l : Launch) (D : va_G) (ks : KS) (sz : Nat) (ad : Nat → Nat) (kk : Nat → ClassId) (V : Vf) (L : Lf) (p0 : Int32) (hMV : rgd bM V)  : Met l yX12_fails (Cond.code yX12_fails cX12_fails 2 (some .int) :: GW) r_s_fails3 (va_Pc [.ref (ad 0), .int p0] (gp D ks (mw ad kk ks.1 V L) (mty kk) sz)) (q_s_fails3 D ks ad kk V L p0 (va_A (mw ad kk ks.1 V L) sz)) 0 0 (va_A (mw ad kk ks.1 V L) sz) := by
  refine g_met (q_s_fails3 D ks ad kk V L p0) (by decide) (Nat.le_of_ble_eq_true rfl) ?_
  intro p e s m below meth c A ls H locs hx hb hr hml hown hg hlocks hin hnw hgk hP hK hD hS hA hl
  have hown : s.vm.findClass RX12 = some m.cls := hown
  have hl : lv_has ls 2 [(0, .ref (ad 0)), (1, .int p0)] := hl
  have hP : va_P D vwCl (mw ad kk ks.1 V L) H := hP
  have hD : va_D A (mw ad kk ks.1 V L) := hD
  have hK : va_K D vwCl (mty kk) s := hK
  have agV : agr [(0, 90), (0, 91)] [] V V := agr.rf
  refine lv_aload_n hx hb dX12_fails_0 rfl (lv_at hl 0 rfl) ?_
  refine lv_iconst (v := 0) hx hb dX12_fails_1 (by decide) ?_
  refine va_put (D := D) (ci := 12) (v := .int 0) (ty := tyX12 90) (C := RX12) (T := TX12) (N := 100) hx hb hg inX12 tyX12 tyX12_ok nmX12 hown hK hP hD hS 0 rfl rfl 90 (by decide) (hg _ w1796) (fun _ h9 => h9) rfl (tyX12_ok 90 (by decide)) rfl rfl (Nat.le_of_ble_eq_true rfl) dX12_fails_2 (fun H locs hP hD hS => ?_)
  obtain ⟨V1, hV1⟩ : ∃ z, z = up2 V 0 90 0 := ⟨_, rfl⟩
  have hP : va_P D vwCl (mw ad kk ks.1 V1 L) H := by rw [hV1]; exact hP
  have hD : va_D A (mw ad kk ks.1 V1 L) := by rw [hV1]; exact hD
  have hMV1 : rgd bM V1 := hMV.put hV1 (i_full _)
  have agV1 : agr [(0, 90), (0, 91)] [] V V1 := agV.up hV1 rfl
  refine lv_aload_n hx hb dX12_fails_5 rfl (lv_at hl 0 rfl) ?_
  refine lv_iload_n hx hb dX12_fails_6 rfl (lv_at hl 1 rfl) ?_
  refine va_put (D := D) (ci := 12) (v := .int p0) (ty := tyX12 91) (C := RX12) (T := TX12) (N := 100) hx hb hg inX12 tyX12 tyX12_ok nmX12 hown hK hP hD hS 0 rfl rfl 91 (by decide) (hg _ w1797) (fun _ h9 => h9) rfl (tyX12_ok 91 (by decide)) rfl rfl (Nat.le_of_ble_eq_true rfl) dX12_fails_7 (fun H locs hP hD hS => ?_)
  obtain ⟨V2, hV2⟩ : ∃ z, z = up2 V1 0 91 p0 := ⟨_, rfl⟩
  have hP : va_P D vwCl (mw ad kk ks.1 V2 L) H := by rw [hV2]; exact hP
  have hD : va_D A (mw ad kk ks.1 V2 L) := by rw [hV2]; exact hD
  have hMV2 : rgd bM V2 := hMV1.put hV2 (i_full _)
  have agV2 : agr [(0, 90), (0, 91)] [] V V2 := agV1.up hV2 rfl
  refine lv_iconst (v := 1) hx hb dX12_fails_10 (by decide) ?_
  have pq3 : (V2 0 90).toInt = 0 := (congrArg Int32.toInt ((up2_k hV2 (by decide)).trans (up2_s hV1))).trans (by decide)
  have pq4 : (V2 0 91).toInt = p0.toInt := congrArg Int32.toInt (up2_s hV2)
  exact W.iret (v := 1) hx hb hr (fun t ht hW => ⟨⟨1, (V2, L), rfl, ⟨hMV2, agV2, rfl, (by decide), (show (V2 0 90).toInt = 0 from by (first | exact om_b66ba74381d5 pq3 | omega)), (show (V2 0 91).toInt = p0.toInt from by (first | exact om_570b691c1130 pq4 | omega))⟩, by rw [ht]; exact hP, va_K.moved hW.alike hK, hD⟩, hS.F ht⟩) hS.2.2 dX12_fails_11
abbrev r_s_push3 : Room := { frames := 0, cells := 0, slots := 0, locals := 0 }
abbrev q_s_push3 (D : va_G) (ks : KS) (ad : Nat → Nat) (kk : Nat → ClassId) (V : Vf) (L : Lf) (p0 : Int32) (A : Nat → Prop) : Array Value → State → Outcome → State → Prop := va_Qv (fun (u : Vf × Lf) => rgd bM u.1 ∧ agr [(0, 98)] [97] V u.1 ∧ u.2 = L ∧ ((u.1 0 98).toInt = (V 0 98).toInt + 1) ∧ (u.1 97 (Int32.toNatClampNeg (V 0 98)) = p0 ∧ ∀ j9, j9 ≠ Int32.toNatClampNeg (V 0 98) → u.1 97 j9 = V 97 j9)) (fun u t => gq D A (mw ad kk ks.1 u.1 u.2) (mty kk) t) A
set_option maxHeartbeats 4000000 in
set_option maxRecDepth 100000 in
theorem s_push3 (l : Launch) (D : va_G) (ks : KS) (sz : Nat) (ad : Nat → Nat) (kk : Nat → ClassId) (V : Vf) (L : Lf) (p0 : Int32) (hMV : rgd bM V) (y1 : (V 0 98).toInt ≤ 19999)  : Met l yX12_push (Cond.code yX12_push cX12_push 2 none :: GW) r_s_push3 (va_Pc [.ref (ad 0), .int p0] (gp D ks (mw ad kk ks.1 V L) (mty kk) sz)) (q_s_push3 D ks ad kk V L p0 (va_A (mw ad kk ks.1 V L) sz)) 0 0 (va_A (mw ad kk ks.1 V L) sz) := by
  refine g_met (q_s_push3 D ks ad kk V L p0) (by decide) (Nat.le_of_ble_eq_true rfl) ?_
  intro p e s m below meth c A ls H locs hx hb hr hml hown hg hlocks hin hnw hgk hP hK hD hS hA hl
  have hown : s.vm.findClass RX12 = some m.cls := hown
  have hl : lv_has ls 2 [(0, .ref (ad 0)), (1, .int p0)] := hl
  have hP : va_P D vwCl (mw ad kk ks.1 V L) H := hP
  have hD : va_D A (mw ad kk ks.1 V L) := hD
  have hK : va_K D vwCl (mty kk) s := hK
  have agV : agr [(0, 98)] [97] V V := agr.rf
  have r1 : 0 ≤ ((V 0 98)).toInt ∧ ((V 0 98)).toInt ≤ 20000 := hMV 0 98
  refine lv_aload_n hx hb dX12_push_0 rfl (lv_at hl 0 rfl) ?_
  refine va_get (D := D) (ci := 12) (v := .ref (ad 97)) (C := RX12) (T := TX12) (N := 100) hx hb hg inX12 hown hK hP 0 rfl rfl 97 (by decide) (hg _ w1803) (fun _ h9 => h9) rfl dX12_push_1 ?_
  refine lv_aload_n hx hb dX12_push_4 rfl (lv_at hl 0 rfl) ?_
  refine va_get (D := D) (ci := 12) (v := .int (V 0 98)) (C := RX12) (T := TX12) (N := 100) hx hb hg inX12 hown hK hP 0 rfl rfl 98 (by decide) (hg _ w1804) (fun _ h9 => h9) rfl dX12_push_5 ?_
  refine lv_iload_n hx hb dX12_push_8 rfl (lv_at hl 1 rfl) ?_
  refine va_iast (D := D) (i := (V 0 98)) (x := p0) hx hb hK hP hD hS 66 65 rfl rfl (i_in (a := ((V 0 98)).toInt) rfl (by (first | exact om_b2900b249a07 y1 r1.1 | omega))) dX12_push_9 (fun H locs hP hD hS => ?_)
  obtain ⟨V2, hV2⟩ : ∃ z, z = up2 V 97 (Int32.toNatClampNeg (V 0 98)) p0 := ⟨_, rfl⟩
  have hP : va_P D vwCl (mw ad kk ks.1 V2 L) H := by rw [hV2]; exact hP
  have hD : va_D A (mw ad kk ks.1 V2 L) := by rw [hV2]; exact hD
  have hMV2 : rgd bM V2 := hMV.put hV2 (i_full _)
  have agV2 : agr [(0, 98)] [97] V V2 := agV.up hV2 rfl
  refine lv_aload_n hx hb dX12_push_10 rfl (lv_at hl 0 rfl) ?_
  refine lv_dup hx hb dX12_push_11 rfl ?_
  refine va_get (D := D) (ci := 12) (v := .int (V2 0 98)) (C := RX12) (T := TX12) (N := 100) hx hb hg inX12 hown hK hP 0 rfl rfl 98 (by decide) (hg _ w1804) (fun _ h9 => h9) rfl dX12_push_12 ?_
  refine g_top (v := (V 0 98)) (up2_o hV2 (by decide)) ?_
  refine lv_iconst (v := 1) hx hb dX12_push_15 (by decide) ?_
  refine lv_iadd hx hb dX12_push_16 ?_
  refine lv_topi (fun z3 ez3 => ?_)
  have hz3 : z3.toInt = ((V 0 98)).toInt + 1 := i_add ez3 rfl (by decide) (by (first | exact om_a6df43a99748 y1 r1.1 | omega))
  refine va_put (D := D) (ci := 12) (v := .int z3) (ty := tyX12 98) (C := RX12) (T := TX12) (N := 100) hx hb hg inX12 tyX12 tyX12_ok nmX12 hown hK hP hD hS 0 rfl rfl 98 (by decide) (hg _ w1804) (fun _ h9 => h9) rfl (tyX12_ok 98 (by decide)) rfl rfl (Nat.le_of_ble_eq_true rfl) dX12_push_17 (fun H locs hP hD hS => ?_)
  obtain ⟨V4, hV4⟩ : ∃ z, z = up2 V2 0 98 z3 := ⟨_, rfl⟩
  have hP : va_P D vwCl (mw ad kk ks.1 V4 L) H := by rw [hV4]; exact hP
  have hD : va_D A (mw ad kk ks.1 V4 L) := by rw [hV4]; exact hD
  have hMV4 : rgd bM V4 := hMV2.put hV4 (show 0 ≤ z3.toInt ∧ z3.toInt ≤ 20000 from by (first | exact om_39b3ecab270b y1 r1.1 hz3 | omega))
  have agV4 : agr [(0, 98)] [97] V V4 := agV2.up hV4 rfl
  have pq5 : (V4 0 98).toInt = z3.toInt := congrArg Int32.toInt (up2_s hV4)
  exact W.vret hx hb hr (fun t ht hW => ⟨⟨(V4, L), rfl, ⟨hMV4, agV4, rfl, (show (V4 0 98).toInt = (V 0 98).toInt + 1 from by (first | exact om_689eeacb6d53 hz3 pq5 | omega)), ⟨(up2_o hV4 (by decide)).trans (up2_s hV2), fun j9 hj9 => (up2_o hV4 (by decide)).trans (up2_k hV2 hj9)⟩⟩, by rw [ht]; exact hP, va_K.moved hW.alike hK, hD⟩, hS.F ht⟩) hS.2.2 dX12_push_20
abbrev r_s_pop3 : Room := { frames := 0, cells := 0, slots := 0, locals := 0 }
abbrev q_s_pop3 (D : va_G) (ks : KS) (ad : Nat → Nat) (kk : Nat → ClassId) (V : Vf) (L : Lf) (A : Nat → Prop) : Array Value → State → Outcome → State → Prop := va_Qi (fun (r : Int32) (u : Vf × Lf) => rgd bM u.1 ∧ agr [(0, 98)] [] V u.1 ∧ u.2 = L ∧ ((u.1 0 98).toInt = (V 0 98).toInt - 1) ∧ (r = V 97 (Int32.toNatClampNeg (u.1 0 98)))) (fun u t => gq D A (mw ad kk ks.1 u.1 u.2) (mty kk) t) A
set_option maxHeartbeats 4000000 in
set_option maxRecDepth 100000 in
theorem s_pop3 (l : Launch) (D : va_G) (ks : KS) (sz : Nat) (ad : Nat → Nat) (kk : Nat → ClassId) (V : Vf) (L : Lf)  (hMV : rgd bM V) (y1 : 1 ≤ (V 0 98).toInt)  : Met l yX12_pop (Cond.code yX12_pop cX12_pop 1 (some .int) :: GW) r_s_pop3 (va_Pc [.ref (ad 0)] (gp D ks (mw ad kk ks.1 V L) (mty kk) sz)) (q_s_pop3 D ks ad kk V L  (va_A (mw ad kk ks.1 V L) sz)) 0 0 (va_A (mw ad kk ks.1 V L) sz) := by
  refine g_met (q_s_pop3 D ks ad kk V L) (by decide) (Nat.le_of_ble_eq_true rfl) ?_
  intro p e s m below meth c A ls H locs hx hb hr hml hown hg hlocks hin hnw hgk hP hK hD hS hA hl
  have hown : s.vm.findClass RX12 = some m.cls := hown
  have hl : lv_has ls 1 [(0, .ref (ad 0))] := hl
  have hP : va_P D vwCl (mw ad kk ks.1 V L) H := hP
  have hD : va_D A (mw ad kk ks.1 V L) := hD
  have hK : va_K D vwCl (mty kk) s := hK
  have agV : agr [(0, 98)] [] V V := agr.rf
  have r1 : 0 ≤ ((V 0 98)).toInt ∧ ((V 0 98)).toInt ≤ 20000 := hMV 0 98
  refine lv_aload_n hx hb dX12_pop_0 rfl (lv_at hl 0 rfl) ?_
  refine lv_dup hx hb dX12_pop_1 rfl ?_
  refine va_get (D := D) (ci := 12) (v := .int (V 0 98)) (C := RX12) (T := TX12) (N := 100) hx hb hg inX12 hown hK hP 0 rfl rfl 98 (by decide) (hg _ w1804) (fun _ h9 => h9) rfl dX12_pop_2 ?_
  refine lv_iconst (v := 1) hx hb dX12_pop_5 (by decide) ?_
  refine lv_isub hx hb dX12_pop_6 ?_
  refine lv_topi (fun z2 ez2 => ?_)
  have hz2 : z2.toInt = ((V 0 98)).toInt - 1 := i_sub ez2 rfl (by decide) (by (first | exact om_18088623a468 y1 r1.2 | omega))
  refine va_put (D := D) (ci := 12) (v := .int z2) (ty := tyX12 98) (C := RX12) (T := TX12) (N := 100) hx hb hg inX12 tyX12 tyX12_ok nmX12 hown hK hP hD hS 0 rfl rfl 98 (by decide) (hg _ w1804) (fun _ h9 => h9) rfl (tyX12_ok 98 (by decide)) rfl rfl (Nat.le_of_ble_eq_true rfl) dX12_pop_7 (fun H locs hP hD hS => ?_)
  obtain ⟨V3, hV3⟩ : ∃ z, z = up2 V 0 98 z2 := ⟨_, rfl⟩
  have hP : va_P D vwCl (mw ad kk ks.1 V3 L) H := by rw [hV3]; exact hP
  have hD : va_D A (mw ad kk ks.1 V3 L) := by rw [hV3]; exact hD
  have hMV3 : rgd bM V3 := hMV.put hV3 (show 0 ≤ z2.toInt ∧ z2.toInt ≤ 20000 from by (first | exact om_90acea3ffa63 y1 r1.2 hz2 | omega))
  have agV3 : agr [(0, 98)] [] V V3 := agV.up hV3 rfl
  refine lv_aload_n hx hb dX12_pop_10 rfl (lv_at hl 0 rfl) ?_
  refine va_get (D := D) (ci := 12) (v := .ref (ad 97)) (C := RX12) (T := TX12) (N := 100) hx hb hg inX12 hown hK hP 0 rfl rfl 97 (by decide) (hg _ w1803) (fun _ h9 => h9) rfl dX12_pop_11 ?_
  refine lv_aload_n hx hb dX12_pop_14 rfl (lv_at hl 0 rfl) ?_
  refine va_get (D := D) (ci := 12) (v := .int (V3 0 98)) (C := RX12) (T := TX12) (N := 100) hx hb hg inX12 hown hK hP 0 rfl rfl 98 (by decide) (hg _ w1804) (fun _ h9 => h9) rfl dX12_pop_15 ?_
  refine g_top (v := z2) (up2_s hV3) ?_
  refine va_iald (D := D) (i := z2) hx hb hK hP 66 65 rfl rfl (i_in (a := z2.toInt) rfl (by (first | exact om_01832824cb3c y1 r1.2 hz2 | omega))) dX12_pop_18 ?_
  refine g_top (v := (V 97 (Int32.toNatClampNeg z2))) (up2_o hV3 (by decide)) ?_
  have pq4 : (V3 0 98).toInt = z2.toInt := congrArg Int32.toInt (up2_s hV3)
  have rp5 : (V 97 (Int32.toNatClampNeg z2)) = V 97 (Int32.toNatClampNeg (V3 0 98)) := by rw [hV3, up2_ss]
  exact W.iret (v := (V 97 (Int32.toNatClampNeg z2))) hx hb hr (fun t ht hW => ⟨⟨(V 97 (Int32.toNatClampNeg z2)), (V3, L), rfl, ⟨hMV3, agV3, rfl, (show (V3 0 98).toInt = (V 0 98).toInt - 1 from by (first | exact om_bb80f9d36154 hz2 pq4 | omega)), rp5⟩, by rw [ht]; exact hP, va_K.moved hW.alike hK, hD⟩, hS.F ht⟩) hS.2.2 dX12_pop_19
abbrev r_s_reckons3 : Room := { frames := 1, cells := 0, slots := 0, locals := 21 }
abbrev q_s_reckons3 (D : va_G) (ks : KS) (ad : Nat → Nat) (kk : Nat → ClassId) (V : Vf) (L : Lf) (p0 : Int32) (p1 : Int32) (A : Nat → Prop) : Array Value → State → Outcome → State → Prop := va_Qi (fun (r : Int32) (u : Vf × Lf) => rgd bM u.1 ∧ agr [(0, 68), (0, 69), (0, 90), (0, 91), (0, 98)] [97] V u.1 ∧ u.2 = L ∧ (0 ≤ r.toInt ∧ r.toInt ≤ 2) ∧ (Imp (p0.toInt = 1) ((u.1 0 98).toInt = (V 0 98).toInt ∧ ((r.toInt = 0 ∧ (u.1 0 69).toInt = (V 0 69).toInt + 1 ∧ (u.1 0 68).toInt = (V 0 68).toInt + 1 ∧ (V 0 69).toInt < 3000 ∧ (V 0 68).toInt < 60000) ∨ (r.toInt = 2 ∧ (u.1 0 69).toInt = (V 0 69).toInt ∧ (u.1 0 68).toInt = (V 0 68).toInt ∧ ((V 0 69).toInt = 3000 ∨ (V 0 68).toInt = 60000))))) ∧ (Imp (p0.toInt = 10) (r.toInt = 1 ∧ (u.1 0 98).toInt = (V 0 98).toInt ∧ (u.1 0 90).toInt = 0 ∧ (u.1 0 91).toInt = p1.toInt)) ∧ (Imp (p0.toInt = 2 ∨ p0.toInt = 11) (r.toInt = 0 ∧ (u.1 0 98).toInt = (V 0 98).toInt + 1)) ∧ (Imp (p0.toInt = 4) (r.toInt = 0 ∧ (u.1 0 98).toInt = (V 0 98).toInt)) ∧ (Imp (5 ≤ p0.toInt ∧ p0.toInt ≤ 9) (r.toInt = 0 ∧ (u.1 0 98).toInt = (V 0 98).toInt - 1)) ∧ (Imp (p0.toInt ≠ 1) ((u.1 0 69).toInt = (V 0 69).toInt ∧ (u.1 0 68).toInt = (V 0 68).toInt)) ∧ (Imp (p0.toInt ≠ 10) ((u.1 0 90).toInt = (V 0 90).toInt ∧ (u.1 0 91).toInt = (V 0 91).toInt)) ∧ (Imp (p0.toInt = 2) (u.1 97 (Int32.toNatClampNeg (V 0 98)) = p1 ∧ ∀ j9, j9 ≠ Int32.toNatClampNeg (V 0 98) → u.1 97 j9 = V 97 j9)) ∧ (Imp (p0.toInt = 11) (u.1 97 (Int32.toNatClampNeg (V 0 98)) = V 18 (12 * nwh V + Int32.toNatClampNeg p1) ∧ ∀ j9, j9 ≠ Int32.toNatClampNeg (V 0 98) → u.1 97 j9 = V 97 j9)) ∧ (Imp (p0.toInt = 4) (∀ t9 : Nat, (V 0 98).toInt = (t9 : Int) + 1 → u.1 97 t9 = -(V 97 t9) ∧ ∀ j9, j9 < t9 → u.1 97 j9 = V 97 j9)) ∧ (Imp (p0.toInt = 5) (∀ t9 : Nat, (V 0 98).toInt = (t9 : Int) + 2 → u.1 97 t9 = V 97 t9 * V 97 (t9 + 1) ∧ ∀ j9, j9 < t9 → u.1 97 j9 = V 97 j9)) ∧ (Imp (p0.toInt = 6) (∀ t9 : Nat, (V 0 98).toInt = (t9 : Int) + 2 → u.1 97 t9 = V 97 t9 + V 97 (t9 + 1) ∧ ∀ j9, j9 < t9 → u.1 97 j9 = V 97 j9)) ∧ (Imp (p0.toInt = 7) (∀ t9 : Nat, (V 0 98).toInt = (t9 : Int) + 2 → u.1 97 t9 = V 97 t9 - V 97 (t9 + 1) ∧ ∀ j9, j9 < t9 → u.1 97 j9 = V 97 j9)) ∧ (Imp (p0.toInt = 8) (∀ t9 : Nat, (V 0 98).toInt = (t9 : Int) + 2 → u.1 97 t9 = (if (V 97 t9).toInt < (V 97 (t9 + 1)).toInt then 1 else 0) ∧ ∀ j9, j9 < t9 → u.1 97 j9 = V 97 j9)) ∧ (Imp (p0.toInt = 9) (∀ t9 : Nat, (V 0 98).toInt = (t9 : Int) + 2 → u.1 97 t9 = (if V 97 t9 = V 97 (t9 + 1) then 1 else 0) ∧ ∀ j9, j9 < t9 → u.1 97 j9 = V 97 j9)) ∧ (Imp (p0.toInt = 1 ∨ p0.toInt = 10) (∀ j9, u.1 97 j9 = V 97 j9))) (fun u t => gq D A (mw ad kk ks.1 u.1 u.2) (mty kk) t) A
set_option maxHeartbeats 4000000 in
set_option maxRecDepth 100000 in
theorem s_reckons3 (l : Launch) (D : va_G) (ks : KS) (sz : Nat) (ad : Nat → Nat) (kk : Nat → ClassId) (V : Vf) (L : Lf) (p0 : Int32) (p1 : Int32) (hMV : rgd bM V) (rg_p0 : 1 ≤ p0.toInt ∧ p0.toInt ≤ 11) (y1 : Imp (p0.toInt = 11) (0 ≤ p1.toInt ∧ p1.toInt ≤ 11)) (y2 : Imp (p0.toInt = 2 ∨ p0.toInt = 11) ((V 0 98).toInt ≤ 19999)) (y3 : Imp (p0.toInt = 4) (1 ≤ (V 0 98).toInt)) (y4 : Imp (5 ≤ p0.toInt ∧ p0.toInt ≤ 9) (2 ≤ (V 0 98).toInt)) (y5 : p0.toInt ≠ 3)  : Met l yX12_reckons (Cond.code yX12_reckons cX12_reckons 5 (some .int) :: GW) r_s_reckons3 (va_Pc [.ref (ad 0), .int p0, .int p1] (gp D ks (mw ad kk ks.1 V L) (mty kk) sz)) (q_s_reckons3 D ks ad kk V L p0 p1 (va_A (mw ad kk ks.1 V L) sz)) 0 0 (va_A (mw ad kk ks.1 V L) sz) := by
  refine g_met (q_s_reckons3 D ks ad kk V L p0 p1) (by decide) (Nat.le_of_ble_eq_true rfl) ?_
  intro p e s m below meth c A ls H locs hx hb hr hml hown hg hlocks hin hnw hgk hP hK hD hS hA hl
  have hown : s.vm.findClass RX12 = some m.cls := hown
  have hl : lv_has ls 5 [(0, .ref (ad 0)), (1, .int p0), (2, .int p1)] := hl
  have hP : va_P D vwCl (mw ad kk ks.1 V L) H := hP
  have hD : va_D A (mw ad kk ks.1 V L) := hD
  have hK : va_K D vwCl (mty kk) s := hK
  have agV : agr [(0, 68), (0, 69), (0, 90), (0, 91), (0, 98)] [97] V V := agr.rf
  have r1 : 0 ≤ ((V 0 98)).toInt ∧ ((V 0 98)).toInt ≤ 20000 := hMV 0 98
  refine lv_iload_n hx hb dX12_reckons_0 rfl (lv_at hl 1 rfl) ?_
  refine lv_iconst (v := 1) hx hb dX12_reckons_1 (by decide) ?_
  refine lv_icmp_ne (tgt := 18) hx hb dX12_reckons_2 (by decide) (fun c2 => ?_) (fun c2 => ?_)
  · skip
    have f3 : p0.toInt ≠ 1 := b_neq rfl (by decide) c2
    refine lv_iload_n hx hb dX12_reckons_18 rfl (lv_at hl 1 rfl) ?_
    refine lv_bipush (v := 10) hx hb dX12_reckons_19 (by decide) ?_
    refine lv_icmp_ne (tgt := 30) hx hb dX12_reckons_21 (by decide) (fun c4 => ?_) (fun c4 => ?_)
    · skip
      have f5 : p0.toInt ≠ 10 := b_neq rfl (by decide) c4
      refine lv_iload_n hx hb dX12_reckons_30 rfl (lv_at hl 1 rfl) ?_
      refine lv_iconst (v := 2) hx hb dX12_reckons_31 (by decide) ?_
      refine lv_icmp_eq (tgt := 41) hx hb dX12_reckons_32 (by decide) (fun c6 => ?_) (fun c6 => ?_)
      · skip
        have f7 : p0.toInt = 2 := b_eq rfl (by decide) c6
        refine lv_aload_n hx hb dX12_reckons_41 rfl (lv_at hl 0 rfl) ?_
        refine lv_iload_n hx hb dX12_reckons_42 rfl (lv_at hl 1 rfl) ?_
        refine lv_iconst (v := 2) hx hb dX12_reckons_43 (by decide) ?_
        refine lv_icmp_ne (tgt := 51) hx hb dX12_reckons_44 (by decide) (fun c8 => ?_) (fun c8 => ?_)
        · skip
          have f9 : p0.toInt ≠ 2 := b_neq rfl (by decide) c8
          exfalso; first | exact om_da4eef675bfb f7 f9 | first | omega | ((try (have i_y4 := Imp.go y4 (by omega))); (try (have i_y3 := Imp.go y3 (by omega))); (try (have i_y2 := Imp.go y2 (by omega))); (try (have i_y1 := Imp.go y1 (by omega))); first | omega | ((try (have i_y1 := Imp.go y1 (by omega))); (try (have i_y2 := Imp.go y2 (by omega))); (try (have i_y3 := Imp.go y3 (by omega))); (try (have i_y4 := Imp.go y4 (by omega))); omega))
        · skip
          have f10 : p0.toInt = 2 := b_eq rfl (by decide) c8
          refine lv_iload_n hx hb dX12_reckons_47 rfl (lv_at hl 2 rfl) ?_
          refine lv_goto (tgt := 65) hx hb dX12_reckons_48 (by decide) ?_
          refine gA_void (gA_runV (As := [.int p1]) (rest := []) (ci := 12) (q0 := 0) hx hb hml hown hg hP hD hK hS hA hnw hgk (s_push3 l D ks H.size ad kk V L p1 hMV (show (V 0 98).toInt ≤ 19999 from by first | exact om_30759f379686 ((Imp.go y2 (om_856a8051ea83 f7))) | first | omega | ((try (have i_y4 := Imp.go y4 (by omega))); (try (have i_y3 := Imp.go y3 (by omega))); (try (have i_y2 := Imp.go y2 (by omega))); (try (have i_y1 := Imp.go y1 (by omega))); first | omega | ((try (have i_y1 := Imp.go y1 (by omega))); (try (have i_y2 := Imp.go y2 (by omega))); (try (have i_y3 := Imp.go y3 (by omega))); (try (have i_y4 := Imp.go y4 (by omega))); omega)))) w2304 w2306 w145 w172 w2307 rfl rfl hdV_yX12_push ⟨Nat.le_of_ble_eq_true rfl, Nat.le_of_ble_eq_true rfl⟩ rfl hl.1 rfl (Nat.le_of_ble_eq_true rfl) dX12_reckons_65 ⟨Nat.le_of_ble_eq_true rfl, Nat.le_of_ble_eq_true rfl⟩) hP hD hK hS hA (fun u12 H locs w13 hP hD hK hS => ?_)
          obtain ⟨V16, L17⟩ := u12
          obtain ⟨hMV16, ajV16, axL17, t14, t15⟩ := w13
          have axL17 : L = L17 := Eq.symm axL17
          subst axL17
          have hP : va_P D vwCl (mw ad kk ks.1 V16 L) H := hP
          have hD : va_D A (mw ad kk ks.1 V16 L) := hD
          have hMV16 : rgd bM V16 := hMV16
          have ajV16 : agr [(0, 98)] [97] V V16 := ajV16
          have agV16 : agr [(0, 68), (0, 69), (0, 90), (0, 91), (0, 98)] [97] V V16 := agV.tr ajV16 (by decide) (by decide)
          have t14 : (V16 0 98).toInt = (V 0 98).toInt + 1 := t14
          have t15 : V16 97 (Int32.toNatClampNeg (V 0 98)) = p1 ∧ ∀ j9, j9 ≠ Int32.toNatClampNeg (V 0 98) → V16 97 j9 = V 97 j9 := t15
          have r18 : 0 ≤ ((V16 0 98)).toInt ∧ ((V16 0 98)).toInt ≤ 20000 := hMV16 0 98
          refine lv_goto (tgt := 172) hx hb dX12_reckons_68 (by decide) ?_
          refine lv_iconst (v := 0) hx hb dX12_reckons_172 (by decide) ?_
          have pq19 : (V16 0 69).toInt = ((V 0 69)).toInt := congrArg Int32.toInt (ajV16 0 69 rfl)
          have r20 : 0 ≤ ((V 0 69)).toInt ∧ ((V 0 69)).toInt ≤ 3000 := hMV 0 69
          have pq21 : (V16 0 68).toInt = ((V 0 68)).toInt := congrArg Int32.toInt (ajV16 0 68 rfl)
          have r22 : 0 ≤ ((V 0 68)).toInt ∧ ((V 0 68)).toInt ≤ 60000 := hMV 0 68
          have pq23 : (V16 0 91).toInt = ((V 0 91)).toInt := congrArg Int32.toInt (ajV16 0 91 rfl)
          have pq24 : (V16 0 90).toInt = ((V 0 90)).toInt := congrArg Int32.toInt (ajV16 0 90 rfl)
          exact W.iret (v := 0) hx hb hr (fun t ht hW => ⟨⟨0, (V16, L), rfl, ⟨hMV16, agV16, rfl, (by decide), (Imp.mk (fun hp => have hp : p0.toInt = 1 := hp; (show (V16 0 98).toInt = (V 0 98).toInt ∧ ((0 = 0 ∧ (V16 0 69).toInt = (V 0 69).toInt + 1 ∧ (V16 0 68).toInt = (V 0 68).toInt + 1 ∧ (V 0 69).toInt < 3000 ∧ (V 0 68).toInt < 60000) ∨ (0 = 2 ∧ (V16 0 69).toInt = (V 0 69).toInt ∧ (V16 0 68).toInt = (V 0 68).toInt ∧ ((V 0 69).toInt = 3000 ∨ (V 0 68).toInt = 60000))) from by first | omega | ((try (have i_y4 := Imp.go y4 (by omega))); (try (have i_y3 := Imp.go y3 (by omega))); (try (have i_y2 := Imp.go y2 (by omega))); (try (have i_y1 := Imp.go y1 (by omega))); first | omega | ((try (have i_y1 := Imp.go y1 (by omega))); (try (have i_y2 := Imp.go y2 (by omega))); (try (have i_y3 := Imp.go y3 (by omega))); (try (have i_y4 := Imp.go y4 (by omega))); omega))))), (Imp.mk (fun hp => have hp : p0.toInt = 10 := hp; (show 0 = 1 ∧ (V16 0 98).toInt = (V 0 98).toInt ∧ (V16 0 90).toInt = 0 ∧ (V16 0 91).toInt = p1.toInt from by first | omega | ((try (have i_y4 := Imp.go y4 (by omega))); (try (have i_y3 := Imp.go y3 (by omega))); (try (have i_y2 := Imp.go y2 (by omega))); (try (have i_y1 := Imp.go y1 (by omega))); first | omega | ((try (have i_y1 := Imp.go y1 (by omega))); (try (have i_y2 := Imp.go y2 (by omega))); (try (have i_y3 := Imp.go y3 (by omega))); (try (have i_y4 := Imp.go y4 (by omega))); omega))))), (Imp.mk (fun hp => have hp : p0.toInt = 2 ∨ p0.toInt = 11 := hp; (show 0 = 0 ∧ (V16 0 98).toInt = (V 0 98).toInt + 1 from by first | omega | ((try (have i_y2 := Imp.go y2 (hp))); omega) | ((try (have i_y4 := Imp.go y4 (by omega))); (try (have i_y3 := Imp.go y3 (by omega))); (try (have i_y2 := Imp.go y2 (by omega))); (try (have i_y1 := Imp.go y1 (by omega))); first | omega | ((try (have i_y1 := Imp.go y1 (by omega))); (try (have i_y2 := Imp.go y2 (by omega))); (try (have i_y3 := Imp.go y3 (by omega))); (try (have i_y4 := Imp.go y4 (by omega))); omega))))), (Imp.mk (fun hp => have hp : p0.toInt = 4 := hp; (show 0 = 0 ∧ (V16 0 98).toInt = (V 0 98).toInt from by first | omega | ((try (have i_y3 := Imp.go y3 (hp))); omega) | ((try (have i_y4 := Imp.go y4 (by omega))); (try (have i_y3 := Imp.go y3 (by omega))); (try (have i_y2 := Imp.go y2 (by omega))); (try (have i_y1 := Imp.go y1 (by omega))); first | omega | ((try (have i_y1 := Imp.go y1 (by omega))); (try (have i_y2 := Imp.go y2 (by omega))); (try (have i_y3 := Imp.go y3 (by omega))); (try (have i_y4 := Imp.go y4 (by omega))); omega))))), (Imp.mk (fun hp => have hp : 5 ≤ p0.toInt ∧ p0.toInt ≤ 9 := hp; (show 0 = 0 ∧ (V16 0 98).toInt = (V 0 98).toInt - 1 from by first | omega | ((try (have i_y4 := Imp.go y4 (by omega))); (try (have i_y3 := Imp.go y3 (by omega))); (try (have i_y2 := Imp.go y2 (by omega))); (try (have i_y1 := Imp.go y1 (by omega))); first | omega | ((try (have i_y1 := Imp.go y1 (by omega))); (try (have i_y2 := Imp.go y2 (by omega))); (try (have i_y3 := Imp.go y3 (by omega))); (try (have i_y4 := Imp.go y4 (by omega))); omega))))), (Imp.mk (fun hp => have hp : p0.toInt ≠ 1 := hp; (show (V16 0 69).toInt = (V 0 69).toInt ∧ (V16 0 68).toInt = (V 0 68).toInt from by first | exact om_67673d8f6684 pq19 pq21 | first | omega | ((try (have i_y4 := Imp.go y4 (by omega))); (try (have i_y3 := Imp.go y3 (by omega))); (try (have i_y2 := Imp.go y2 (by omega))); (try (have i_y1 := Imp.go y1 (by omega))); first | omega | ((try (have i_y1 := Imp.go y1 (by omega))); (try (have i_y2 := Imp.go y2 (by omega))); (try (have i_y3 := Imp.go y3 (by omega))); (try (have i_y4 := Imp.go y4 (by omega))); omega))))), (Imp.mk (fun hp => have hp : p0.toInt ≠ 10 := hp; (show (V16 0 90).toInt = (V 0 90).toInt ∧ (V16 0 91).toInt = (V 0 91).toInt from by first | exact om_4c4f47d165b0 pq23 pq24 | first | omega | ((try (have i_y4 := Imp.go y4 (by omega))); (try (have i_y3 := Imp.go y3 (by omega))); (try (have i_y2 := Imp.go y2 (by omega))); (try (have i_y1 := Imp.go y1 (by omega))); first | omega | ((try (have i_y1 := Imp.go y1 (by omega))); (try (have i_y2 := Imp.go y2 (by omega))); (try (have i_y3 := Imp.go y3 (by omega))); (try (have i_y4 := Imp.go y4 (by omega))); omega))))), (Imp.mk (fun _ => t15)), (Imp.mk (fun hp => by exfalso; omega)), (Imp.mk (fun hp => by exfalso; omega)), (Imp.mk (fun hp => by exfalso; omega)), (Imp.mk (fun hp => by exfalso; omega)), (Imp.mk (fun hp => by exfalso; omega)), (Imp.mk (fun hp => by exfalso; omega)), (Imp.mk (fun hp => by exfalso; omega)), (Imp.mk (fun hp => by exfalso; omega))⟩, by rw [ht]; exact hP, va_K.moved hW.alike hK, hD⟩, hS.F ht⟩) hS.2.2 dX12_reckons_173
      · skip
        have f25 : p0.toInt ≠ 2 := b_neq rfl (by decide) c6
        refine lv_iload_n hx hb dX12_reckons_35 rfl (lv_at hl 1 rfl) ?_
        refine lv_bipush (v := 11) hx hb dX12_reckons_36 (by decide) ?_
        refine lv_icmp_ne (tgt := 71) hx hb dX12_reckons_38 (by decide) (fun c26 => ?_) (fun c26 => ?_)
        · skip
          have f27 : p0.toInt ≠ 11 := b_neq rfl (by decide) c26
          refine lv_iload_n hx hb dX12_reckons_71 rfl (lv_at hl 1 rfl) ?_
          refine lv_iconst (v := 4) hx hb dX12_reckons_72 (by decide) ?_
          refine lv_icmp_ne (tgt := 88) hx hb dX12_reckons_73 (by decide) (fun c28 => ?_) (fun c28 => ?_)
          · skip
            have f29 : p0.toInt ≠ 4 := b_neq rfl (by decide) c28
            refine lv_aload_n hx hb dX12_reckons_88 rfl (lv_at hl 0 rfl) ?_
            refine gA_int (gA_runV (As := []) (rest := []) (ci := 12) (q0 := 0) hx hb hml hown hg hP hD hK hS hA hnw hgk (s_pop3 l D ks H.size ad kk V L  hMV (show 1 ≤ (V 0 98).toInt from by first | omega | ((try (have i_y4 := Imp.go y4 (by omega))); (try (have i_y3 := Imp.go y3 (by omega))); (try (have i_y2 := Imp.go y2 (by omega))); (try (have i_y1 := Imp.go y1 (by omega))); first | omega | ((try (have i_y1 := Imp.go y1 (by omega))); (try (have i_y2 := Imp.go y2 (by omega))); (try (have i_y3 := Imp.go y3 (by omega))); (try (have i_y4 := Imp.go y4 (by omega))); omega)))) w2276 w2278 w138 w172 w2279 rfl rfl hdV_yX12_pop ⟨Nat.le_of_ble_eq_true rfl, Nat.le_of_ble_eq_true rfl⟩ rfl hl.1 rfl (Nat.le_of_ble_eq_true rfl) dX12_reckons_89 ⟨Nat.le_of_ble_eq_true rfl, Nat.le_of_ble_eq_true rfl⟩) hP hD hK hS hA (fun z30 u31 H locs w32 hP hD hK hS => ?_)
            obtain ⟨V35, L36⟩ := u31
            obtain ⟨hMV35, ajV35, axL36, t33, t34⟩ := w32
            have axL36 : L = L36 := Eq.symm axL36
            subst axL36
            have hP : va_P D vwCl (mw ad kk ks.1 V35 L) H := hP
            have hD : va_D A (mw ad kk ks.1 V35 L) := hD
            have hMV35 : rgd bM V35 := hMV35
            have ajV35 : agr [(0, 98)] [] V V35 := ajV35
            have agV35 : agr [(0, 68), (0, 69), (0, 90), (0, 91), (0, 98)] [97] V V35 := agV.tr ajV35 (by decide) (by decide)
            have t33 : (V35 0 98).toInt = (V 0 98).toInt - 1 := t33
            have t34 : z30 = V 97 (Int32.toNatClampNeg (V35 0 98)) := t34
            have r37 : 0 ≤ ((V35 0 98)).toInt ∧ ((V35 0 98)).toInt ≤ 20000 := hMV35 0 98
            refine lv_istore_n (lv' := [(3, .int z30), (0, .ref (ad 0)), (1, .int p0), (2, .int p1)]) hx hb dX12_reckons_92 rfl hl (by decide) rfl (fun ls hl => ?_)
            refine lv_aload_n hx hb dX12_reckons_93 rfl (lv_at hl 1 rfl) ?_
            refine gA_int (gA_runV (As := []) (rest := []) (ci := 12) (q0 := 0) hx hb hml hown hg hP hD hK hS hA hnw hgk (s_pop3 l D ks H.size ad kk V35 L  hMV35 (show 1 ≤ (V35 0 98).toInt from by first | omega | ((try (have i_y4 := Imp.go y4 (by omega))); (try (have i_y3 := Imp.go y3 (by omega))); (try (have i_y2 := Imp.go y2 (by omega))); (try (have i_y1 := Imp.go y1 (by omega))); first | omega | ((try (have i_y1 := Imp.go y1 (by omega))); (try (have i_y2 := Imp.go y2 (by omega))); (try (have i_y3 := Imp.go y3 (by omega))); (try (have i_y4 := Imp.go y4 (by omega))); omega)))) w2276 w2278 w138 w172 w2279 rfl rfl hdV_yX12_pop ⟨Nat.le_of_ble_eq_true rfl, Nat.le_of_ble_eq_true rfl⟩ rfl hl.1 rfl (Nat.le_of_ble_eq_true rfl) dX12_reckons_94 ⟨Nat.le_of_ble_eq_true rfl, Nat.le_of_ble_eq_true rfl⟩) hP hD hK hS hA (fun z38 u39 H locs w40 hP hD hK hS => ?_)
            obtain ⟨V43, L44⟩ := u39
            obtain ⟨hMV43, ajV43, axL44, t41, t42⟩ := w40
            have axL44 : L = L44 := Eq.symm axL44
            subst axL44
            have hP : va_P D vwCl (mw ad kk ks.1 V43 L) H := hP
            have hD : va_D A (mw ad kk ks.1 V43 L) := hD
            have hMV43 : rgd bM V43 := hMV43
            have ajV43 : agr [(0, 98)] [] V35 V43 := ajV43
            have agV43 : agr [(0, 68), (0, 69), (0, 90), (0, 91), (0, 98)] [97] V V43 := agV35.tr ajV43 (by decide) (by decide)
            have t41 : (V43 0 98).toInt = (V35 0 98).toInt - 1 := t41
            have t42 : z38 = V35 97 (Int32.toNatClampNeg (V43 0 98)) := t42
            have r45 : 0 ≤ ((V43 0 98)).toInt ∧ ((V43 0 98)).toInt ≤ 20000 := hMV43 0 98
            refine lv_istore (lv' := [(4, .int z38), (3, .int z30), (0, .ref (ad 0)), (1, .int p0), (2, .int p1)]) hx hb dX12_reckons_97 hl (by decide) rfl (fun ls hl => ?_)
            refine lv_aload_n hx hb dX12_reckons_99 rfl (lv_at hl 2 rfl) ?_
            refine lv_iload_n hx hb dX12_reckons_100 rfl (lv_at hl 3 rfl) ?_
            refine lv_iconst (v := 5) hx hb dX12_reckons_101 (by decide) ?_
            refine lv_icmp_ne (tgt := 112) hx hb dX12_reckons_102 (by decide) (fun c46 => ?_) (fun c46 => ?_)
            · skip
              have f47 : p0.toInt ≠ 5 := b_neq rfl (by decide) c46
              refine lv_iload_n hx hb dX12_reckons_112 rfl (lv_at hl 3 rfl) ?_
              refine lv_bipush (v := 6) hx hb dX12_reckons_113 (by decide) ?_
              refine lv_icmp_ne (tgt := 125) hx hb dX12_reckons_115 (by decide) (fun c48 => ?_) (fun c48 => ?_)
              · skip
                have f49 : p0.toInt ≠ 6 := b_neq rfl (by decide) c48
                refine lv_iload_n hx hb dX12_reckons_125 rfl (lv_at hl 3 rfl) ?_
                refine lv_bipush (v := 7) hx hb dX12_reckons_126 (by decide) ?_
                refine lv_icmp_ne (tgt := 138) hx hb dX12_reckons_128 (by decide) (fun c50 => ?_) (fun c50 => ?_)
                · skip
                  have f51 : p0.toInt ≠ 7 := b_neq rfl (by decide) c50
                  refine lv_iload_n hx hb dX12_reckons_138 rfl (lv_at hl 3 rfl) ?_
                  refine lv_bipush (v := 8) hx hb dX12_reckons_139 (by decide) ?_
                  refine lv_icmp_ne (tgt := 158) hx hb dX12_reckons_141 (by decide) (fun c52 => ?_) (fun c52 => ?_)
                  · skip
                    have f53 : p0.toInt ≠ 8 := b_neq rfl (by decide) c52
                    refine lv_iload hx hb dX12_reckons_158 (lv_at hl 0 rfl) ?_
                    refine lv_iload_n hx hb dX12_reckons_160 rfl (lv_at hl 1 rfl) ?_
                    refine lv_icmp_ne (tgt := 168) hx hb dX12_reckons_161 (by decide) (fun c54 => ?_) (fun c54 => ?_)
                    · skip
                      have f55 : z38.toInt ≠ z30.toInt := b_neq rfl rfl c54
                      refine lv_iconst (v := 0) hx hb dX12_reckons_168 (by decide) ?_
                      have r56 : Int32.toInt 0 = 0 := by decide
                      refine gA_void (gA_runV (As := [.int 0]) (rest := []) (ci := 12) (q0 := 0) hx hb hml hown hg hP hD hK hS hA hnw hgk (s_push3 l D ks H.size ad kk V43 L 0 hMV43 (show (V43 0 98).toInt ≤ 19999 from by first | exact om_55730f2b1f23 r1.2 t33 t41 | first | omega | ((try (have i_y4 := Imp.go y4 (by omega))); (try (have i_y3 := Imp.go y3 (by omega))); (try (have i_y2 := Imp.go y2 (by omega))); (try (have i_y1 := Imp.go y1 (by omega))); first | omega | ((try (have i_y1 := Imp.go y1 (by omega))); (try (have i_y2 := Imp.go y2 (by omega))); (try (have i_y3 := Imp.go y3 (by omega))); (try (have i_y4 := Imp.go y4 (by omega))); omega)))) w2304 w2306 w145 w172 w2307 rfl rfl hdV_yX12_push ⟨Nat.le_of_ble_eq_true rfl, Nat.le_of_ble_eq_true rfl⟩ rfl hl.1 rfl (Nat.le_of_ble_eq_true rfl) dX12_reckons_169 ⟨Nat.le_of_ble_eq_true rfl, Nat.le_of_ble_eq_true rfl⟩) hP hD hK hS hA (fun u58 H locs w59 hP hD hK hS => ?_)
                      obtain ⟨V62, L63⟩ := u58
                      obtain ⟨hMV62, ajV62, axL63, t60, t61⟩ := w59
                      have axL63 : L = L63 := Eq.symm axL63
                      subst axL63
                      have hP : va_P D vwCl (mw ad kk ks.1 V62 L) H := hP
                      have hD : va_D A (mw ad kk ks.1 V62 L) := hD
                      have hMV62 : rgd bM V62 := hMV62
                      have ajV62 : agr [(0, 98)] [97] V43 V62 := ajV62
                      have agV62 : agr [(0, 68), (0, 69), (0, 90), (0, 91), (0, 98)] [97] V V62 := agV43.tr ajV62 (by decide) (by decide)
                      have t60 : (V62 0 98).toInt = (V43 0 98).toInt + 1 := t60
                      have t61 : V62 97 (Int32.toNatClampNeg (V43 0 98)) = 0 ∧ ∀ j9, j9 ≠ Int32.toNatClampNeg (V43 0 98) → V62 97 j9 = V43 97 j9 := t61
                      have r64 : 0 ≤ ((V62 0 98)).toInt ∧ ((V62 0 98)).toInt ≤ 20000 := hMV62 0 98
                      refine lv_iconst (v := 0) hx hb dX12_reckons_172 (by decide) ?_
                      have pq65 : (V62 0 69).toInt = ((V 0 69)).toInt := congrArg Int32.toInt ((ajV62 0 69 rfl).trans ((ajV43 0 69 rfl).trans (ajV35 0 69 rfl)))
                      have r66 : 0 ≤ ((V 0 69)).toInt ∧ ((V 0 69)).toInt ≤ 3000 := hMV 0 69
                      have pq67 : (V62 0 68).toInt = ((V 0 68)).toInt := congrArg Int32.toInt ((ajV62 0 68 rfl).trans ((ajV43 0 68 rfl).trans (ajV35 0 68 rfl)))
                      have r68 : 0 ≤ ((V 0 68)).toInt ∧ ((V 0 68)).toInt ≤ 60000 := hMV 0 68
                      have pq69 : (V62 0 91).toInt = ((V 0 91)).toInt := congrArg Int32.toInt ((ajV62 0 91 rfl).trans ((ajV43 0 91 rfl).trans (ajV35 0 91 rfl)))
                      have pq70 : (V62 0 90).toInt = ((V 0 90)).toInt := congrArg Int32.toInt ((ajV62 0 90 rfl).trans ((ajV43 0 90 rfl).trans (ajV35 0 90 rfl)))
                      exact W.iret (v := 0) hx hb hr (fun t ht hW => ⟨⟨0, (V62, L), rfl, ⟨hMV62, agV62, rfl, (by decide), (Imp.mk (fun hp => have hp : p0.toInt = 1 := hp; (show (V62 0 98).toInt = (V 0 98).toInt ∧ ((0 = 0 ∧ (V62 0 69).toInt = (V 0 69).toInt + 1 ∧ (V62 0 68).toInt = (V 0 68).toInt + 1 ∧ (V 0 69).toInt < 3000 ∧ (V 0 68).toInt < 60000) ∨ (0 = 2 ∧ (V62 0 69).toInt = (V 0 69).toInt ∧ (V62 0 68).toInt = (V 0 68).toInt ∧ ((V 0 69).toInt = 3000 ∨ (V 0 68).toInt = 60000))) from by first | omega | ((try (have i_y4 := Imp.go y4 (by omega))); (try (have i_y3 := Imp.go y3 (by omega))); (try (have i_y2 := Imp.go y2 (by omega))); (try (have i_y1 := Imp.go y1 (by omega))); first | omega | ((try (have i_y1 := Imp.go y1 (by omega))); (try (have i_y2 := Imp.go y2 (by omega))); (try (have i_y3 := Imp.go y3 (by omega))); (try (have i_y4 := Imp.go y4 (by omega))); omega))))), (Imp.mk (fun hp => have hp : p0.toInt = 10 := hp; (show 0 = 1 ∧ (V62 0 98).toInt = (V 0 98).toInt ∧ (V62 0 90).toInt = 0 ∧ (V62 0 91).toInt = p1.toInt from by first | omega | ((try (have i_y4 := Imp.go y4 (by omega))); (try (have i_y3 := Imp.go y3 (by omega))); (try (have i_y2 := Imp.go y2 (by omega))); (try (have i_y1 := Imp.go y1 (by omega))); first | omega | ((try (have i_y1 := Imp.go y1 (by omega))); (try (have i_y2 := Imp.go y2 (by omega))); (try (have i_y3 := Imp.go y3 (by omega))); (try (have i_y4 := Imp.go y4 (by omega))); omega))))), (Imp.mk (fun hp => have hp : p0.toInt = 2 ∨ p0.toInt = 11 := hp; (show 0 = 0 ∧ (V62 0 98).toInt = (V 0 98).toInt + 1 from by first | omega | ((try (have i_y2 := Imp.go y2 (hp))); omega) | ((try (have i_y4 := Imp.go y4 (by omega))); (try (have i_y3 := Imp.go y3 (by omega))); (try (have i_y2 := Imp.go y2 (by omega))); (try (have i_y1 := Imp.go y1 (by omega))); first | omega | ((try (have i_y1 := Imp.go y1 (by omega))); (try (have i_y2 := Imp.go y2 (by omega))); (try (have i_y3 := Imp.go y3 (by omega))); (try (have i_y4 := Imp.go y4 (by omega))); omega))))), (Imp.mk (fun hp => have hp : p0.toInt = 4 := hp; (show 0 = 0 ∧ (V62 0 98).toInt = (V 0 98).toInt from by first | omega | ((try (have i_y3 := Imp.go y3 (hp))); omega) | ((try (have i_y4 := Imp.go y4 (by omega))); (try (have i_y3 := Imp.go y3 (by omega))); (try (have i_y2 := Imp.go y2 (by omega))); (try (have i_y1 := Imp.go y1 (by omega))); first | omega | ((try (have i_y1 := Imp.go y1 (by omega))); (try (have i_y2 := Imp.go y2 (by omega))); (try (have i_y3 := Imp.go y3 (by omega))); (try (have i_y4 := Imp.go y4 (by omega))); omega))))), (Imp.mk (fun hp => have hp : 5 ≤ p0.toInt ∧ p0.toInt ≤ 9 := hp; (show 0 = 0 ∧ (V62 0 98).toInt = (V 0 98).toInt - 1 from by first | omega | ((try (have i_y4 := Imp.go y4 (by omega))); (try (have i_y3 := Imp.go y3 (by omega))); (try (have i_y2 := Imp.go y2 (by omega))); (try (have i_y1 := Imp.go y1 (by omega))); first | omega | ((try (have i_y1 := Imp.go y1 (by omega))); (try (have i_y2 := Imp.go y2 (by omega))); (try (have i_y3 := Imp.go y3 (by omega))); (try (have i_y4 := Imp.go y4 (by omega))); omega))))), (Imp.mk (fun hp => have hp : p0.toInt ≠ 1 := hp; (show (V62 0 69).toInt = (V 0 69).toInt ∧ (V62 0 68).toInt = (V 0 68).toInt from by first | exact om_67673d8f6684 pq65 pq67 | first | omega | ((try (have i_y4 := Imp.go y4 (by omega))); (try (have i_y3 := Imp.go y3 (by omega))); (try (have i_y2 := Imp.go y2 (by omega))); (try (have i_y1 := Imp.go y1 (by omega))); first | omega | ((try (have i_y1 := Imp.go y1 (by omega))); (try (have i_y2 := Imp.go y2 (by omega))); (try (have i_y3 := Imp.go y3 (by omega))); (try (have i_y4 := Imp.go y4 (by omega))); omega))))), (Imp.mk (fun hp => have hp : p0.toInt ≠ 10 := hp; (show (V62 0 90).toInt = (V 0 90).toInt ∧ (V62 0 91).toInt = (V 0 91).toInt from by first | exact om_4c4f47d165b0 pq69 pq70 | first | omega | ((try (have i_y4 := Imp.go y4 (by omega))); (try (have i_y3 := Imp.go y3 (by omega))); (try (have i_y2 := Imp.go y2 (by omega))); (try (have i_y1 := Imp.go y1 (by omega))); first | omega | ((try (have i_y1 := Imp.go y1 (by omega))); (try (have i_y2 := Imp.go y2 (by omega))); (try (have i_y3 := Imp.go y3 (by omega))); (try (have i_y4 := Imp.go y4 (by omega))); omega))))), (Imp.mk (fun hp => by exfalso; omega)), (Imp.mk (fun hp => by exfalso; omega)), (Imp.mk (fun hp => by exfalso; omega)), (Imp.mk (fun hp => by exfalso; omega)), (Imp.mk (fun hp => by exfalso; omega)), (Imp.mk (fun hp => by exfalso; omega)), (Imp.mk (fun hp => by exfalso; omega)), (Imp.mk (fun _ t9 ht9 => by have k9 : Int32.toNatClampNeg (V35 0 98) = t9 + 1 := (by have h9 := i_clamp (x := V35 0 98) rfl (by (first | exact om_4313120d86f8 t41 r45.1 | omega)); omega); have k8 : Int32.toNatClampNeg (V43 0 98) = t9 := (by have h9 := i_clamp (x := V43 0 98) rfl (by (first | exact om_eafa9039069c r45.1 | omega)); omega); have a9 := t34; have a8 := t42; have b9 := t61; rw [k9] at a9; rw [k8] at a8 b9; rw [show V35 97 t9 = V 97 t9 from ajV35 97 _ rfl] at a8; exact ⟨b9.1.trans (by rw [← a9, ← a8]; exact (if_neg (fun h9 => by have h8 := congrArg Int32.toInt h9; omega)).symm), fun j9 hj9 => (b9.2 j9 (by omega)).trans ((ajV43 97 _ rfl).trans (ajV35 97 _ rfl))⟩)), (Imp.mk (fun hp => by exfalso; omega))⟩, by rw [ht]; exact hP, va_K.moved hW.alike hK, hD⟩, hS.F ht⟩) hS.2.2 dX12_reckons_173
                    · skip
                      have f71 : z38.toInt = z30.toInt := b_eq rfl rfl c54
                      refine lv_iconst (v := 1) hx hb dX12_reckons_164 (by decide) ?_
                      refine lv_goto (tgt := 169) hx hb dX12_reckons_165 (by decide) ?_
                      have r72 : Int32.toInt 1 = 1 := by decide
                      refine gA_void (gA_runV (As := [.int 1]) (rest := []) (ci := 12) (q0 := 0) hx hb hml hown hg hP hD hK hS hA hnw hgk (s_push3 l D ks H.size ad kk V43 L 1 hMV43 (show (V43 0 98).toInt ≤ 19999 from by first | exact om_55730f2b1f23 r1.2 t33 t41 | first | omega | ((try (have i_y4 := Imp.go y4 (by omega))); (try (have i_y3 := Imp.go y3 (by omega))); (try (have i_y2 := Imp.go y2 (by omega))); (try (have i_y1 := Imp.go y1 (by omega))); first | omega | ((try (have i_y1 := Imp.go y1 (by omega))); (try (have i_y2 := Imp.go y2 (by omega))); (try (have i_y3 := Imp.go y3 (by omega))); (try (have i_y4 := Imp.go y4 (by omega))); omega)))) w2304 w2306 w145 w172 w2307 rfl rfl hdV_yX12_push ⟨Nat.le_of_ble_eq_true rfl, Nat.le_of_ble_eq_true rfl⟩ rfl hl.1 rfl (Nat.le_of_ble_eq_true rfl) dX12_reckons_169 ⟨Nat.le_of_ble_eq_true rfl, Nat.le_of_ble_eq_true rfl⟩) hP hD hK hS hA (fun u74 H locs w75 hP hD hK hS => ?_)
                      obtain ⟨V78, L79⟩ := u74
                      obtain ⟨hMV78, ajV78, axL79, t76, t77⟩ := w75
                      have axL79 : L = L79 := Eq.symm axL79
                      subst axL79
                      have hP : va_P D vwCl (mw ad kk ks.1 V78 L) H := hP
                      have hD : va_D A (mw ad kk ks.1 V78 L) := hD
                      have hMV78 : rgd bM V78 := hMV78
                      have ajV78 : agr [(0, 98)] [97] V43 V78 := ajV78
                      have agV78 : agr [(0, 68), (0, 69), (0, 90), (0, 91), (0, 98)] [97] V V78 := agV43.tr ajV78 (by decide) (by decide)
                      have t76 : (V78 0 98).toInt = (V43 0 98).toInt + 1 := t76
                      have t77 : V78 97 (Int32.toNatClampNeg (V43 0 98)) = 1 ∧ ∀ j9, j9 ≠ Int32.toNatClampNeg (V43 0 98) → V78 97 j9 = V43 97 j9 := t77
                      have r80 : 0 ≤ ((V78 0 98)).toInt ∧ ((V78 0 98)).toInt ≤ 20000 := hMV78 0 98
                      refine lv_iconst (v := 0) hx hb dX12_reckons_172 (by decide) ?_
                      have pq81 : (V78 0 69).toInt = ((V 0 69)).toInt := congrArg Int32.toInt ((ajV78 0 69 rfl).trans ((ajV43 0 69 rfl).trans (ajV35 0 69 rfl)))
                      have r82 : 0 ≤ ((V 0 69)).toInt ∧ ((V 0 69)).toInt ≤ 3000 := hMV 0 69
                      have pq83 : (V78 0 68).toInt = ((V 0 68)).toInt := congrArg Int32.toInt ((ajV78 0 68 rfl).trans ((ajV43 0 68 rfl).trans (ajV35 0 68 rfl)))
                      have r84 : 0 ≤ ((V 0 68)).toInt ∧ ((V 0 68)).toInt ≤ 60000 := hMV 0 68
                      have pq85 : (V78 0 91).toInt = ((V 0 91)).toInt := congrArg Int32.toInt ((ajV78 0 91 rfl).trans ((ajV43 0 91 rfl).trans (ajV35 0 91 rfl)))
                      have pq86 : (V78 0 90).toInt = ((V 0 90)).toInt := congrArg Int32.toInt ((ajV78 0 90 rfl).trans ((ajV43 0 90 rfl).trans (ajV35 0 90 rfl)))
                      exact W.iret (v := 0) hx hb hr (fun t ht hW => ⟨⟨0, (V78, L), rfl, ⟨hMV78, agV78, rfl, (by decide), (Imp.mk (fun hp => have hp : p0.toInt = 1 := hp; (show (V78 0 98).toInt = (V 0 98).toInt ∧ ((0 = 0 ∧ (V78 0 69).toInt = (V 0 69).toInt + 1 ∧ (V78 0 68).toInt = (V 0 68).toInt + 1 ∧ (V 0 69).toInt < 3000 ∧ (V 0 68).toInt < 60000) ∨ (0 = 2 ∧ (V78 0 69).toInt = (V 0 69).toInt ∧ (V78 0 68).toInt = (V 0 68).toInt ∧ ((V 0 69).toInt = 3000 ∨ (V 0 68).toInt = 60000))) from by first | omega | ((try (have i_y4 := Imp.go y4 (by omega))); (try (have i_y3 := Imp.go y3 (by omega))); (try (have i_y2 := Imp.go y2 (by omega))); (try (have i_y1 := Imp.go y1 (by omega))); first | omega | ((try (have i_y1 := Imp.go y1 (by omega))); (try (have i_y2 := Imp.go y2 (by omega))); (try (have i_y3 := Imp.go y3 (by omega))); (try (have i_y4 := Imp.go y4 (by omega))); omega))))), (Imp.mk (fun hp => have hp : p0.toInt = 10 := hp; (show 0 = 1 ∧ (V78 0 98).toInt = (V 0 98).toInt ∧ (V78 0 90).toInt = 0 ∧ (V78 0 91).toInt = p1.toInt from by first | omega | ((try (have i_y4 := Imp.go y4 (by omega))); (try (have i_y3 := Imp.go y3 (by omega))); (try (have i_y2 := Imp.go y2 (by omega))); (try (have i_y1 := Imp.go y1 (by omega))); first | omega | ((try (have i_y1 := Imp.go y1 (by omega))); (try (have i_y2 := Imp.go y2 (by omega))); (try (have i_y3 := Imp.go y3 (by omega))); (try (have i_y4 := Imp.go y4 (by omega))); omega))))), (Imp.mk (fun hp => have hp : p0.toInt = 2 ∨ p0.toInt = 11 := hp; (show 0 = 0 ∧ (V78 0 98).toInt = (V 0 98).toInt + 1 from by first | omega | ((try (have i_y2 := Imp.go y2 (hp))); omega) | ((try (have i_y4 := Imp.go y4 (by omega))); (try (have i_y3 := Imp.go y3 (by omega))); (try (have i_y2 := Imp.go y2 (by omega))); (try (have i_y1 := Imp.go y1 (by omega))); first | omega | ((try (have i_y1 := Imp.go y1 (by omega))); (try (have i_y2 := Imp.go y2 (by omega))); (try (have i_y3 := Imp.go y3 (by omega))); (try (have i_y4 := Imp.go y4 (by omega))); omega))))), (Imp.mk (fun hp => have hp : p0.toInt = 4 := hp; (show 0 = 0 ∧ (V78 0 98).toInt = (V 0 98).toInt from by first | omega | ((try (have i_y3 := Imp.go y3 (hp))); omega) | ((try (have i_y4 := Imp.go y4 (by omega))); (try (have i_y3 := Imp.go y3 (by omega))); (try (have i_y2 := Imp.go y2 (by omega))); (try (have i_y1 := Imp.go y1 (by omega))); first | omega | ((try (have i_y1 := Imp.go y1 (by omega))); (try (have i_y2 := Imp.go y2 (by omega))); (try (have i_y3 := Imp.go y3 (by omega))); (try (have i_y4 := Imp.go y4 (by omega))); omega))))), (Imp.mk (fun hp => have hp : 5 ≤ p0.toInt ∧ p0.toInt ≤ 9 := hp; (show 0 = 0 ∧ (V78 0 98).toInt = (V 0 98).toInt - 1 from by first | omega | ((try (have i_y4 := Imp.go y4 (by omega))); (try (have i_y3 := Imp.go y3 (by omega))); (try (have i_y2 := Imp.go y2 (by omega))); (try (have i_y1 := Imp.go y1 (by omega))); first | omega | ((try (have i_y1 := Imp.go y1 (by omega))); (try (have i_y2 := Imp.go y2 (by omega))); (try (have i_y3 := Imp.go y3 (by omega))); (try (have i_y4 := Imp.go y4 (by omega))); omega))))), (Imp.mk (fun hp => have hp : p0.toInt ≠ 1 := hp; (show (V78 0 69).toInt = (V 0 69).toInt ∧ (V78 0 68).toInt = (V 0 68).toInt from by first | exact om_67673d8f6684 pq81 pq83 | first | omega | ((try (have i_y4 := Imp.go y4 (by omega))); (try (have i_y3 := Imp.go y3 (by omega))); (try (have i_y2 := Imp.go y2 (by omega))); (try (have i_y1 := Imp.go y1 (by omega))); first | omega | ((try (have i_y1 := Imp.go y1 (by omega))); (try (have i_y2 := Imp.go y2 (by omega))); (try (have i_y3 := Imp.go y3 (by omega))); (try (have i_y4 := Imp.go y4 (by omega))); omega))))), (Imp.mk (fun hp => have hp : p0.toInt ≠ 10 := hp; (show (V78 0 90).toInt = (V 0 90).toInt ∧ (V78 0 91).toInt = (V 0 91).toInt from by first | exact om_4c4f47d165b0 pq85 pq86 | first | omega | ((try (have i_y4 := Imp.go y4 (by omega))); (try (have i_y3 := Imp.go y3 (by omega))); (try (have i_y2 := Imp.go y2 (by omega))); (try (have i_y1 := Imp.go y1 (by omega))); first | omega | ((try (have i_y1 := Imp.go y1 (by omega))); (try (have i_y2 := Imp.go y2 (by omega))); (try (have i_y3 := Imp.go y3 (by omega))); (try (have i_y4 := Imp.go y4 (by omega))); omega))))), (Imp.mk (fun hp => by exfalso; omega)), (Imp.mk (fun hp => by exfalso; omega)), (Imp.mk (fun hp => by exfalso; omega)), (Imp.mk (fun hp => by exfalso; omega)), (Imp.mk (fun hp => by exfalso; omega)), (Imp.mk (fun hp => by exfalso; omega)), (Imp.mk (fun hp => by exfalso; omega)), (Imp.mk (fun _ t9 ht9 => by have k9 : Int32.toNatClampNeg (V35 0 98) = t9 + 1 := (by have h9 := i_clamp (x := V35 0 98) rfl (by (first | exact om_4313120d86f8 t41 r45.1 | omega)); omega); have k8 : Int32.toNatClampNeg (V43 0 98) = t9 := (by have h9 := i_clamp (x := V43 0 98) rfl (by (first | exact om_eafa9039069c r45.1 | omega)); omega); have a9 := t34; have a8 := t42; have b9 := t77; rw [k9] at a9; rw [k8] at a8 b9; rw [show V35 97 t9 = V 97 t9 from ajV35 97 _ rfl] at a8; exact ⟨b9.1.trans (by rw [← a9, ← a8]; exact (if_pos (Int32.toInt_inj.mp (by omega))).symm), fun j9 hj9 => (b9.2 j9 (by omega)).trans ((ajV43 97 _ rfl).trans (ajV35 97 _ rfl))⟩)), (Imp.mk (fun hp => by exfalso; omega))⟩, by rw [ht]; exact hP, va_K.moved hW.alike hK, hD⟩, hS.F ht⟩) hS.2.2 dX12_reckons_173
                  · skip
                    have f87 : p0.toInt = 8 := b_eq rfl (by decide) c52
                    refine lv_iload hx hb dX12_reckons_144 (lv_at hl 0 rfl) ?_
                    refine lv_iload_n hx hb dX12_reckons_146 rfl (lv_at hl 1 rfl) ?_
                    refine lv_icmp_ge (tgt := 154) hx hb dX12_reckons_147 (by decide) (fun c88 => ?_) (fun c88 => ?_)
                    · skip
                      have f89 : z30.toInt ≤ z38.toInt := b_le rfl rfl c88
                      refine lv_iconst (v := 0) hx hb dX12_reckons_154 (by decide) ?_
                      refine lv_goto (tgt := 169) hx hb dX12_reckons_155 (by decide) ?_
                      have r90 : Int32.toInt 0 = 0 := by decide
                      refine gA_void (gA_runV (As := [.int 0]) (rest := []) (ci := 12) (q0 := 0) hx hb hml hown hg hP hD hK hS hA hnw hgk (s_push3 l D ks H.size ad kk V43 L 0 hMV43 (show (V43 0 98).toInt ≤ 19999 from by first | exact om_55730f2b1f23 r1.2 t33 t41 | first | omega | ((try (have i_y4 := Imp.go y4 (by omega))); (try (have i_y3 := Imp.go y3 (by omega))); (try (have i_y2 := Imp.go y2 (by omega))); (try (have i_y1 := Imp.go y1 (by omega))); first | omega | ((try (have i_y1 := Imp.go y1 (by omega))); (try (have i_y2 := Imp.go y2 (by omega))); (try (have i_y3 := Imp.go y3 (by omega))); (try (have i_y4 := Imp.go y4 (by omega))); omega)))) w2304 w2306 w145 w172 w2307 rfl rfl hdV_yX12_push ⟨Nat.le_of_ble_eq_true rfl, Nat.le_of_ble_eq_true rfl⟩ rfl hl.1 rfl (Nat.le_of_ble_eq_true rfl) dX12_reckons_169 ⟨Nat.le_of_ble_eq_true rfl, Nat.le_of_ble_eq_true rfl⟩) hP hD hK hS hA (fun u92 H locs w93 hP hD hK hS => ?_)
                      obtain ⟨V96, L97⟩ := u92
                      obtain ⟨hMV96, ajV96, axL97, t94, t95⟩ := w93
                      have axL97 : L = L97 := Eq.symm axL97
                      subst axL97
                      have hP : va_P D vwCl (mw ad kk ks.1 V96 L) H := hP
                      have hD : va_D A (mw ad kk ks.1 V96 L) := hD
                      have hMV96 : rgd bM V96 := hMV96
                      have ajV96 : agr [(0, 98)] [97] V43 V96 := ajV96
                      have agV96 : agr [(0, 68), (0, 69), (0, 90), (0, 91), (0, 98)] [97] V V96 := agV43.tr ajV96 (by decide) (by decide)
                      have t94 : (V96 0 98).toInt = (V43 0 98).toInt + 1 := t94
                      have t95 : V96 97 (Int32.toNatClampNeg (V43 0 98)) = 0 ∧ ∀ j9, j9 ≠ Int32.toNatClampNeg (V43 0 98) → V96 97 j9 = V43 97 j9 := t95
                      have r98 : 0 ≤ ((V96 0 98)).toInt ∧ ((V96 0 98)).toInt ≤ 20000 := hMV96 0 98
                      refine lv_iconst (v := 0) hx hb dX12_reckons_172 (by decide) ?_
                      have pq99 : (V96 0 69).toInt = ((V 0 69)).toInt := congrArg Int32.toInt ((ajV96 0 69 rfl).trans ((ajV43 0 69 rfl).trans (ajV35 0 69 rfl)))
                      have r100 : 0 ≤ ((V 0 69)).toInt ∧ ((V 0 69)).toInt ≤ 3000 := hMV 0 69
                      have pq101 : (V96 0 68).toInt = ((V 0 68)).toInt := congrArg Int32.toInt ((ajV96 0 68 rfl).trans ((ajV43 0 68 rfl).trans (ajV35 0 68 rfl)))
                      have r102 : 0 ≤ ((V 0 68)).toInt ∧ ((V 0 68)).toInt ≤ 60000 := hMV 0 68
                      have pq103 : (V96 0 91).toInt = ((V 0 91)).toInt := congrArg Int32.toInt ((ajV96 0 91 rfl).trans ((ajV43 0 91 rfl).trans (ajV35 0 91 rfl)))
                      have pq104 : (V96 0 90).toInt = ((V 0 90)).toInt := congrArg Int32.toInt ((ajV96 0 90 rfl).trans ((ajV43 0 90 rfl).trans (ajV35 0 90 rfl)))
                      exact W.iret (v := 0) hx hb hr (fun t ht hW => ⟨⟨0, (V96, L), rfl, ⟨hMV96, agV96, rfl, (by decide), (Imp.mk (fun hp => have hp : p0.toInt = 1 := hp; (show (V96 0 98).toInt = (V 0 98).toInt ∧ ((0 = 0 ∧ (V96 0 69).toInt = (V 0 69).toInt + 1 ∧ (V96 0 68).toInt = (V 0 68).toInt + 1 ∧ (V 0 69).toInt < 3000 ∧ (V 0 68).toInt < 60000) ∨ (0 = 2 ∧ (V96 0 69).toInt = (V 0 69).toInt ∧ (V96 0 68).toInt = (V 0 68).toInt ∧ ((V 0 69).toInt = 3000 ∨ (V 0 68).toInt = 60000))) from by first | omega | ((try (have i_y4 := Imp.go y4 (by omega))); (try (have i_y3 := Imp.go y3 (by omega))); (try (have i_y2 := Imp.go y2 (by omega))); (try (have i_y1 := Imp.go y1 (by omega))); first | omega | ((try (have i_y1 := Imp.go y1 (by omega))); (try (have i_y2 := Imp.go y2 (by omega))); (try (have i_y3 := Imp.go y3 (by omega))); (try (have i_y4 := Imp.go y4 (by omega))); omega))))), (Imp.mk (fun hp => have hp : p0.toInt = 10 := hp; (show 0 = 1 ∧ (V96 0 98).toInt = (V 0 98).toInt ∧ (V96 0 90).toInt = 0 ∧ (V96 0 91).toInt = p1.toInt from by first | omega | ((try (have i_y4 := Imp.go y4 (by omega))); (try (have i_y3 := Imp.go y3 (by omega))); (try (have i_y2 := Imp.go y2 (by omega))); (try (have i_y1 := Imp.go y1 (by omega))); first | omega | ((try (have i_y1 := Imp.go y1 (by omega))); (try (have i_y2 := Imp.go y2 (by omega))); (try (have i_y3 := Imp.go y3 (by omega))); (try (have i_y4 := Imp.go y4 (by omega))); omega))))), (Imp.mk (fun hp => have hp : p0.toInt = 2 ∨ p0.toInt = 11 := hp; (show 0 = 0 ∧ (V96 0 98).toInt = (V 0 98).toInt + 1 from by first | omega | ((try (have i_y2 := Imp.go y2 (hp))); omega) | ((try (have i_y4 := Imp.go y4 (by omega))); (try (have i_y3 := Imp.go y3 (by omega))); (try (have i_y2 := Imp.go y2 (by omega))); (try (have i_y1 := Imp.go y1 (by omega))); first | omega | ((try (have i_y1 := Imp.go y1 (by omega))); (try (have i_y2 := Imp.go y2 (by omega))); (try (have i_y3 := Imp.go y3 (by omega))); (try (have i_y4 := Imp.go y4 (by omega))); omega))))), (Imp.mk (fun hp => have hp : p0.toInt = 4 := hp; (show 0 = 0 ∧ (V96 0 98).toInt = (V 0 98).toInt from by first | omega | ((try (have i_y3 := Imp.go y3 (hp))); omega) | ((try (have i_y4 := Imp.go y4 (by omega))); (try (have i_y3 := Imp.go y3 (by omega))); (try (have i_y2 := Imp.go y2 (by omega))); (try (have i_y1 := Imp.go y1 (by omega))); first | omega | ((try (have i_y1 := Imp.go y1 (by omega))); (try (have i_y2 := Imp.go y2 (by omega))); (try (have i_y3 := Imp.go y3 (by omega))); (try (have i_y4 := Imp.go y4 (by omega))); omega))))), (Imp.mk (fun hp => have hp : 5 ≤ p0.toInt ∧ p0.toInt ≤ 9 := hp; (show 0 = 0 ∧ (V96 0 98).toInt = (V 0 98).toInt - 1 from by first | omega | ((try (have i_y4 := Imp.go y4 (by omega))); (try (have i_y3 := Imp.go y3 (by omega))); (try (have i_y2 := Imp.go y2 (by omega))); (try (have i_y1 := Imp.go y1 (by omega))); first | omega | ((try (have i_y1 := Imp.go y1 (by omega))); (try (have i_y2 := Imp.go y2 (by omega))); (try (have i_y3 := Imp.go y3 (by omega))); (try (have i_y4 := Imp.go y4 (by omega))); omega))))), (Imp.mk (fun hp => have hp : p0.toInt ≠ 1 := hp; (show (V96 0 69).toInt = (V 0 69).toInt ∧ (V96 0 68).toInt = (V 0 68).toInt from by first | exact om_67673d8f6684 pq99 pq101 | first | omega | ((try (have i_y4 := Imp.go y4 (by omega))); (try (have i_y3 := Imp.go y3 (by omega))); (try (have i_y2 := Imp.go y2 (by omega))); (try (have i_y1 := Imp.go y1 (by omega))); first | omega | ((try (have i_y1 := Imp.go y1 (by omega))); (try (have i_y2 := Imp.go y2 (by omega))); (try (have i_y3 := Imp.go y3 (by omega))); (try (have i_y4 := Imp.go y4 (by omega))); omega))))), (Imp.mk (fun hp => have hp : p0.toInt ≠ 10 := hp; (show (V96 0 90).toInt = (V 0 90).toInt ∧ (V96 0 91).toInt = (V 0 91).toInt from by first | exact om_4c4f47d165b0 pq103 pq104 | first | omega | ((try (have i_y4 := Imp.go y4 (by omega))); (try (have i_y3 := Imp.go y3 (by omega))); (try (have i_y2 := Imp.go y2 (by omega))); (try (have i_y1 := Imp.go y1 (by omega))); first | omega | ((try (have i_y1 := Imp.go y1 (by omega))); (try (have i_y2 := Imp.go y2 (by omega))); (try (have i_y3 := Imp.go y3 (by omega))); (try (have i_y4 := Imp.go y4 (by omega))); omega))))), (Imp.mk (fun hp => by exfalso; omega)), (Imp.mk (fun hp => by exfalso; omega)), (Imp.mk (fun hp => by exfalso; omega)), (Imp.mk (fun hp => by exfalso; omega)), (Imp.mk (fun hp => by exfalso; omega)), (Imp.mk (fun hp => by exfalso; omega)), (Imp.mk (fun _ t9 ht9 => by have k9 : Int32.toNatClampNeg (V35 0 98) = t9 + 1 := (by have h9 := i_clamp (x := V35 0 98) rfl (by (first | exact om_4313120d86f8 t41 r45.1 | omega)); omega); have k8 : Int32.toNatClampNeg (V43 0 98) = t9 := (by have h9 := i_clamp (x := V43 0 98) rfl (by (first | exact om_eafa9039069c r45.1 | omega)); omega); have a9 := t34; have a8 := t42; have b9 := t95; rw [k9] at a9; rw [k8] at a8 b9; rw [show V35 97 t9 = V 97 t9 from ajV35 97 _ rfl] at a8; exact ⟨b9.1.trans (by rw [← a9, ← a8]; exact (if_neg (by omega)).symm), fun j9 hj9 => (b9.2 j9 (by omega)).trans ((ajV43 97 _ rfl).trans (ajV35 97 _ rfl))⟩)), (Imp.mk (fun hp => by exfalso; omega)), (Imp.mk (fun hp => by exfalso; omega))⟩, by rw [ht]; exact hP, va_K.moved hW.alike hK, hD⟩, hS.F ht⟩) hS.2.2 dX12_reckons_173
                    · skip
                      have f105 : z38.toInt < z30.toInt := b_nle rfl rfl c88
                      refine lv_iconst (v := 1) hx hb dX12_reckons_150 (by decide) ?_
                      refine lv_goto (tgt := 169) hx hb dX12_reckons_151 (by decide) ?_
                      have r106 : Int32.toInt 1 = 1 := by decide
                      refine gA_void (gA_runV (As := [.int 1]) (rest := []) (ci := 12) (q0 := 0) hx hb hml hown hg hP hD hK hS hA hnw hgk (s_push3 l D ks H.size ad kk V43 L 1 hMV43 (show (V43 0 98).toInt ≤ 19999 from by first | exact om_55730f2b1f23 r1.2 t33 t41 | first | omega | ((try (have i_y4 := Imp.go y4 (by omega))); (try (have i_y3 := Imp.go y3 (by omega))); (try (have i_y2 := Imp.go y2 (by omega))); (try (have i_y1 := Imp.go y1 (by omega))); first | omega | ((try (have i_y1 := Imp.go y1 (by omega))); (try (have i_y2 := Imp.go y2 (by omega))); (try (have i_y3 := Imp.go y3 (by omega))); (try (have i_y4 := Imp.go y4 (by omega))); omega)))) w2304 w2306 w145 w172 w2307 rfl rfl hdV_yX12_push ⟨Nat.le_of_ble_eq_true rfl, Nat.le_of_ble_eq_true rfl⟩ rfl hl.1 rfl (Nat.le_of_ble_eq_true rfl) dX12_reckons_169 ⟨Nat.le_of_ble_eq_true rfl, Nat.le_of_ble_eq_true rfl⟩) hP hD hK hS hA (fun u108 H locs w109 hP hD hK hS => ?_)
                      obtain ⟨V112, L113⟩ := u108
                      obtain ⟨hMV112, ajV112, axL113, t110, t111⟩ := w109
                      have axL113 : L = L113 := Eq.symm axL113
                      subst axL113
                      have hP : va_P D vwCl (mw ad kk ks.1 V112 L) H := hP
                      have hD : va_D A (mw ad kk ks.1 V112 L) := hD
                      have hMV112 : rgd bM V112 := hMV112
                      have ajV112 : agr [(0, 98)] [97] V43 V112 := ajV112
                      have agV112 : agr [(0, 68), (0, 69), (0, 90), (0, 91), (0, 98)] [97] V V112 := agV43.tr ajV112 (by decide) (by decide)
                      have t110 : (V112 0 98).toInt = (V43 0 98).toInt + 1 := t110
                      have t111 : V112 97 (Int32.toNatClampNeg (V43 0 98)) = 1 ∧ ∀ j9, j9 ≠ Int32.toNatClampNeg (V43 0 98) → V112 97 j9 = V43 97 j9 := t111
                      have r114 : 0 ≤ ((V112 0 98)).toInt ∧ ((V112 0 98)).toInt ≤ 20000 := hMV112 0 98
                      refine lv_iconst (v := 0) hx hb dX12_reckons_172 (by decide) ?_
                      have pq115 : (V112 0 69).toInt = ((V 0 69)).toInt := congrArg Int32.toInt ((ajV112 0 69 rfl).trans ((ajV43 0 69 rfl).trans (ajV35 0 69 rfl)))
                      have r116 : 0 ≤ ((V 0 69)).toInt ∧ ((V 0 69)).toInt ≤ 3000 := hMV 0 69
                      have pq117 : (V112 0 68).toInt = ((V 0 68)).toInt := congrArg Int32.toInt ((ajV112 0 68 rfl).trans ((ajV43 0 68 rfl).trans (ajV35 0 68 rfl)))
                      have r118 : 0 ≤ ((V 0 68)).toInt ∧ ((V 0 68)).toInt ≤ 60000 := hMV 0 68
                      have pq119 : (V112 0 91).toInt = ((V 0 91)).toInt := congrArg Int32.toInt ((ajV112 0 91 rfl).trans ((ajV43 0 91 rfl).trans (ajV35 0 91 rfl)))
                      have pq120 : (V112 0 90).toInt = ((V 0 90)).toInt := congrArg Int32.toInt ((ajV112 0 90 rfl).trans ((ajV43 0 90 rfl).trans (ajV35 0 90 rfl)))
                      exact W.iret (v := 0) hx hb hr (fun t ht hW => ⟨⟨0, (V112, L), rfl, ⟨hMV112, agV112, rfl, (by decide), (Imp.mk (fun hp => have hp : p0.toInt = 1 := hp; (show (V112 0 98).toInt = (V 0 98).toInt ∧ ((0 = 0 ∧ (V112 0 69).toInt = (V 0 69).toInt + 1 ∧ (V112 0 68).toInt = (V 0 68).toInt + 1 ∧ (V 0 69).toInt < 3000 ∧ (V 0 68).toInt < 60000) ∨ (0 = 2 ∧ (V112 0 69).toInt = (V 0 69).toInt ∧ (V112 0 68).toInt = (V 0 68).toInt ∧ ((V 0 69).toInt = 3000 ∨ (V 0 68).toInt = 60000))) from by first | omega | ((try (have i_y4 := Imp.go y4 (by omega))); (try (have i_y3 := Imp.go y3 (by omega))); (try (have i_y2 := Imp.go y2 (by omega))); (try (have i_y1 := Imp.go y1 (by omega))); first | omega | ((try (have i_y1 := Imp.go y1 (by omega))); (try (have i_y2 := Imp.go y2 (by omega))); (try (have i_y3 := Imp.go y3 (by omega))); (try (have i_y4 := Imp.go y4 (by omega))); omega))))), (Imp.mk (fun hp => have hp : p0.toInt = 10 := hp; (show 0 = 1 ∧ (V112 0 98).toInt = (V 0 98).toInt ∧ (V112 0 90).toInt = 0 ∧ (V112 0 91).toInt = p1.toInt from by first | omega | ((try (have i_y4 := Imp.go y4 (by omega))); (try (have i_y3 := Imp.go y3 (by omega))); (try (have i_y2 := Imp.go y2 (by omega))); (try (have i_y1 := Imp.go y1 (by omega))); first | omega | ((try (have i_y1 := Imp.go y1 (by omega))); (try (have i_y2 := Imp.go y2 (by omega))); (try (have i_y3 := Imp.go y3 (by omega))); (try (have i_y4 := Imp.go y4 (by omega))); omega))))), (Imp.mk (fun hp => have hp : p0.toInt = 2 ∨ p0.toInt = 11 := hp; (show 0 = 0 ∧ (V112 0 98).toInt = (V 0 98).toInt + 1 from by first | omega | ((try (have i_y2 := Imp.go y2 (hp))); omega) | ((try (have i_y4 := Imp.go y4 (by omega))); (try (have i_y3 := Imp.go y3 (by omega))); (try (have i_y2 := Imp.go y2 (by omega))); (try (have i_y1 := Imp.go y1 (by omega))); first | omega | ((try (have i_y1 := Imp.go y1 (by omega))); (try (have i_y2 := Imp.go y2 (by omega))); (try (have i_y3 := Imp.go y3 (by omega))); (try (have i_y4 := Imp.go y4 (by omega))); omega))))), (Imp.mk (fun hp => have hp : p0.toInt = 4 := hp; (show 0 = 0 ∧ (V112 0 98).toInt = (V 0 98).toInt from by first | omega | ((try (have i_y3 := Imp.go y3 (hp))); omega) | ((try (have i_y4 := Imp.go y4 (by omega))); (try (have i_y3 := Imp.go y3 (by omega))); (try (have i_y2 := Imp.go y2 (by omega))); (try (have i_y1 := Imp.go y1 (by omega))); first | omega | ((try (have i_y1 := Imp.go y1 (by omega))); (try (have i_y2 := Imp.go y2 (by omega))); (try (have i_y3 := Imp.go y3 (by omega))); (try (have i_y4 := Imp.go y4 (by omega))); omega))))), (Imp.mk (fun hp => have hp : 5 ≤ p0.toInt ∧ p0.toInt ≤ 9 := hp; (show 0 = 0 ∧ (V112 0 98).toInt = (V 0 98).toInt - 1 from by first | omega | ((try (have i_y4 := Imp.go y4 (by omega))); (try (have i_y3 := Imp.go y3 (by omega))); (try (have i_y2 := Imp.go y2 (by omega))); (try (have i_y1 := Imp.go y1 (by omega))); first | omega | ((try (have i_y1 := Imp.go y1 (by omega))); (try (have i_y2 := Imp.go y2 (by omega))); (try (have i_y3 := Imp.go y3 (by omega))); (try (have i_y4 := Imp.go y4 (by omega))); omega))))), (Imp.mk (fun hp => have hp : p0.toInt ≠ 1 := hp; (show (V112 0 69).toInt = (V 0 69).toInt ∧ (V112 0 68).toInt = (V 0 68).toInt from by first | exact om_67673d8f6684 pq115 pq117 | first | omega | ((try (have i_y4 := Imp.go y4 (by omega))); (try (have i_y3 := Imp.go y3 (by omega))); (try (have i_y2 := Imp.go y2 (by omega))); (try (have i_y1 := Imp.go y1 (by omega))); first | omega | ((try (have i_y1 := Imp.go y1 (by omega))); (try (have i_y2 := Imp.go y2 (by omega))); (try (have i_y3 := Imp.go y3 (by omega))); (try (have i_y4 := Imp.go y4 (by omega))); omega))))), (Imp.mk (fun hp => have hp : p0.toInt ≠ 10 := hp; (show (V112 0 90).toInt = (V 0 90).toInt ∧ (V112 0 91).toInt = (V 0 91).toInt from by first | exact om_4c4f47d165b0 pq119 pq120 | first | omega | ((try (have i_y4 := Imp.go y4 (by omega))); (try (have i_y3 := Imp.go y3 (by omega))); (try (have i_y2 := Imp.go y2 (by omega))); (try (have i_y1 := Imp.go y1 (by omega))); first | omega | ((try (have i_y1 := Imp.go y1 (by omega))); (try (have i_y2 := Imp.go y2 (by omega))); (try (have i_y3 := Imp.go y3 (by omega))); (try (have i_y4 := Imp.go y4 (by omega))); omega))))), (Imp.mk (fun hp => by exfalso; omega)), (Imp.mk (fun hp => by exfalso; omega)), (Imp.mk (fun hp => by exfalso; omega)), (Imp.mk (fun hp => by exfalso; omega)), (Imp.mk (fun hp => by exfalso; omega)), (Imp.mk (fun hp => by exfalso; omega)), (Imp.mk (fun _ t9 ht9 => by have k9 : Int32.toNatClampNeg (V35 0 98) = t9 + 1 := (by have h9 := i_clamp (x := V35 0 98) rfl (by (first | exact om_4313120d86f8 t41 r45.1 | omega)); omega); have k8 : Int32.toNatClampNeg (V43 0 98) = t9 := (by have h9 := i_clamp (x := V43 0 98) rfl (by (first | exact om_eafa9039069c r45.1 | omega)); omega); have a9 := t34; have a8 := t42; have b9 := t111; rw [k9] at a9; rw [k8] at a8 b9; rw [show V35 97 t9 = V 97 t9 from ajV35 97 _ rfl] at a8; exact ⟨b9.1.trans (by rw [← a9, ← a8]; exact (if_pos (by omega)).symm), fun j9 hj9 => (b9.2 j9 (by omega)).trans ((ajV43 97 _ rfl).trans (ajV35 97 _ rfl))⟩)), (Imp.mk (fun hp => by exfalso; omega)), (Imp.mk (fun hp => by exfalso; omega))⟩, by rw [ht]; exact hP, va_K.moved hW.alike hK, hD⟩, hS.F ht⟩) hS.2.2 dX12_reckons_173
                · skip
                  have f121 : p0.toInt = 7 := b_eq rfl (by decide) c50
                  refine lv_iload hx hb dX12_reckons_131 (lv_at hl 0 rfl) ?_
                  refine lv_iload_n hx hb dX12_reckons_133 rfl (lv_at hl 1 rfl) ?_
                  refine lv_isub hx hb dX12_reckons_134 ?_
                  have r122 := i_full z38
                  have r123 := i_full z30
                  refine lv_topi (fun z124 ez124 => ?_)
                  have hz124 : Imp (-2147483648 ≤ z38.toInt - z30.toInt ∧ z38.toInt - z30.toInt ≤ 2147483647) (z124.toInt = z38.toInt - z30.toInt) := Imp.mk (fun hp => i_sub ez124 rfl rfl hp)
                  refine lv_goto (tgt := 169) hx hb dX12_reckons_135 (by decide) ?_
                  refine gA_void (gA_runV (As := [.int z124]) (rest := []) (ci := 12) (q0 := 0) hx hb hml hown hg hP hD hK hS hA hnw hgk (s_push3 l D ks H.size ad kk V43 L z124 hMV43 (show (V43 0 98).toInt ≤ 19999 from by first | exact om_55730f2b1f23 r1.2 t33 t41 | first | omega | ((try (have i_hz124 := Imp.go hz124 (by omega))); (try (have i_y4 := Imp.go y4 (by omega))); (try (have i_y3 := Imp.go y3 (by omega))); (try (have i_y2 := Imp.go y2 (by omega))); first | omega | ((try (have i_y1 := Imp.go y1 (by omega))); (try (have i_y1 := Imp.go y1 (by omega))); (try (have i_y2 := Imp.go y2 (by omega))); (try (have i_y3 := Imp.go y3 (by omega))); (try (have i_y4 := Imp.go y4 (by omega))); (try (have i_hz124 := Imp.go hz124 (by omega))); omega)))) w2304 w2306 w145 w172 w2307 rfl rfl hdV_yX12_push ⟨Nat.le_of_ble_eq_true rfl, Nat.le_of_ble_eq_true rfl⟩ rfl hl.1 rfl (Nat.le_of_ble_eq_true rfl) dX12_reckons_169 ⟨Nat.le_of_ble_eq_true rfl, Nat.le_of_ble_eq_true rfl⟩) hP hD hK hS hA (fun u126 H locs w127 hP hD hK hS => ?_)
                  obtain ⟨V130, L131⟩ := u126
                  obtain ⟨hMV130, ajV130, axL131, t128, t129⟩ := w127
                  have axL131 : L = L131 := Eq.symm axL131
                  subst axL131
                  have hP : va_P D vwCl (mw ad kk ks.1 V130 L) H := hP
                  have hD : va_D A (mw ad kk ks.1 V130 L) := hD
                  have hMV130 : rgd bM V130 := hMV130
                  have ajV130 : agr [(0, 98)] [97] V43 V130 := ajV130
                  have agV130 : agr [(0, 68), (0, 69), (0, 90), (0, 91), (0, 98)] [97] V V130 := agV43.tr ajV130 (by decide) (by decide)
                  have t128 : (V130 0 98).toInt = (V43 0 98).toInt + 1 := t128
                  have t129 : V130 97 (Int32.toNatClampNeg (V43 0 98)) = z124 ∧ ∀ j9, j9 ≠ Int32.toNatClampNeg (V43 0 98) → V130 97 j9 = V43 97 j9 := t129
                  have r132 : 0 ≤ ((V130 0 98)).toInt ∧ ((V130 0 98)).toInt ≤ 20000 := hMV130 0 98
                  refine lv_iconst (v := 0) hx hb dX12_reckons_172 (by decide) ?_
                  have pq133 : (V130 0 69).toInt = ((V 0 69)).toInt := congrArg Int32.toInt ((ajV130 0 69 rfl).trans ((ajV43 0 69 rfl).trans (ajV35 0 69 rfl)))
                  have r134 : 0 ≤ ((V 0 69)).toInt ∧ ((V 0 69)).toInt ≤ 3000 := hMV 0 69
                  have pq135 : (V130 0 68).toInt = ((V 0 68)).toInt := congrArg Int32.toInt ((ajV130 0 68 rfl).trans ((ajV43 0 68 rfl).trans (ajV35 0 68 rfl)))
                  have r136 : 0 ≤ ((V 0 68)).toInt ∧ ((V 0 68)).toInt ≤ 60000 := hMV 0 68
                  have pq137 : (V130 0 91).toInt = ((V 0 91)).toInt := congrArg Int32.toInt ((ajV130 0 91 rfl).trans ((ajV43 0 91 rfl).trans (ajV35 0 91 rfl)))
                  have pq138 : (V130 0 90).toInt = ((V 0 90)).toInt := congrArg Int32.toInt ((ajV130 0 90 rfl).trans ((ajV43 0 90 rfl).trans (ajV35 0 90 rfl)))
                  exact W.iret (v := 0) hx hb hr (fun t ht hW => ⟨⟨0, (V130, L), rfl, ⟨hMV130, agV130, rfl, (by decide), (Imp.mk (fun hp => have hp : p0.toInt = 1 := hp; (show (V130 0 98).toInt = (V 0 98).toInt ∧ ((0 = 0 ∧ (V130 0 69).toInt = (V 0 69).toInt + 1 ∧ (V130 0 68).toInt = (V 0 68).toInt + 1 ∧ (V 0 69).toInt < 3000 ∧ (V 0 68).toInt < 60000) ∨ (0 = 2 ∧ (V130 0 69).toInt = (V 0 69).toInt ∧ (V130 0 68).toInt = (V 0 68).toInt ∧ ((V 0 69).toInt = 3000 ∨ (V 0 68).toInt = 60000))) from by first | omega | ((try (have i_hz124 := Imp.go hz124 (by omega))); (try (have i_y4 := Imp.go y4 (by omega))); (try (have i_y3 := Imp.go y3 (by omega))); (try (have i_y2 := Imp.go y2 (by omega))); first | omega | ((try (have i_y1 := Imp.go y1 (by omega))); (try (have i_y1 := Imp.go y1 (by omega))); (try (have i_y2 := Imp.go y2 (by omega))); (try (have i_y3 := Imp.go y3 (by omega))); (try (have i_y4 := Imp.go y4 (by omega))); (try (have i_hz124 := Imp.go hz124 (by omega))); omega))))), (Imp.mk (fun hp => have hp : p0.toInt = 10 := hp; (show 0 = 1 ∧ (V130 0 98).toInt = (V 0 98).toInt ∧ (V130 0 90).toInt = 0 ∧ (V130 0 91).toInt = p1.toInt from by first | omega | ((try (have i_hz124 := Imp.go hz124 (by omega))); (try (have i_y4 := Imp.go y4 (by omega))); (try (have i_y3 := Imp.go y3 (by omega))); (try (have i_y2 := Imp.go y2 (by omega))); first | omega | ((try (have i_y1 := Imp.go y1 (by omega))); (try (have i_y1 := Imp.go y1 (by omega))); (try (have i_y2 := Imp.go y2 (by omega))); (try (have i_y3 := Imp.go y3 (by omega))); (try (have i_y4 := Imp.go y4 (by omega))); (try (have i_hz124 := Imp.go hz124 (by omega))); omega))))), (Imp.mk (fun hp => have hp : p0.toInt = 2 ∨ p0.toInt = 11 := hp; (show 0 = 0 ∧ (V130 0 98).toInt = (V 0 98).toInt + 1 from by first | omega | ((try (have i_y2 := Imp.go y2 (hp))); omega) | ((try (have i_hz124 := Imp.go hz124 (by omega))); (try (have i_y4 := Imp.go y4 (by omega))); (try (have i_y3 := Imp.go y3 (by omega))); (try (have i_y2 := Imp.go y2 (by omega))); first | omega | ((try (have i_y1 := Imp.go y1 (by omega))); (try (have i_y1 := Imp.go y1 (by omega))); (try (have i_y2 := Imp.go y2 (by omega))); (try (have i_y3 := Imp.go y3 (by omega))); (try (have i_y4 := Imp.go y4 (by omega))); (try (have i_hz124 := Imp.go hz124 (by omega))); omega))))), (Imp.mk (fun hp => have hp : p0.toInt = 4 := hp; (show 0 = 0 ∧ (V130 0 98).toInt = (V 0 98).toInt from by first | omega | ((try (have i_y3 := Imp.go y3 (hp))); omega) | ((try (have i_hz124 := Imp.go hz124 (by omega))); (try (have i_y4 := Imp.go y4 (by omega))); (try (have i_y3 := Imp.go y3 (by omega))); (try (have i_y2 := Imp.go y2 (by omega))); first | omega | ((try (have i_y1 := Imp.go y1 (by omega))); (try (have i_y1 := Imp.go y1 (by omega))); (try (have i_y2 := Imp.go y2 (by omega))); (try (have i_y3 := Imp.go y3 (by omega))); (try (have i_y4 := Imp.go y4 (by omega))); (try (have i_hz124 := Imp.go hz124 (by omega))); omega))))), (Imp.mk (fun hp => have hp : 5 ≤ p0.toInt ∧ p0.toInt ≤ 9 := hp; (show 0 = 0 ∧ (V130 0 98).toInt = (V 0 98).toInt - 1 from by first | omega | ((try (have i_hz124 := Imp.go hz124 (by omega))); (try (have i_y4 := Imp.go y4 (by omega))); (try (have i_y3 := Imp.go y3 (by omega))); (try (have i_y2 := Imp.go y2 (by omega))); first | omega | ((try (have i_y1 := Imp.go y1 (by omega))); (try (have i_y1 := Imp.go y1 (by omega))); (try (have i_y2 := Imp.go y2 (by omega))); (try (have i_y3 := Imp.go y3 (by omega))); (try (have i_y4 := Imp.go y4 (by omega))); (try (have i_hz124 := Imp.go hz124 (by omega))); omega))))), (Imp.mk (fun hp => have hp : p0.toInt ≠ 1 := hp; (show (V130 0 69).toInt = (V 0 69).toInt ∧ (V130 0 68).toInt = (V 0 68).toInt from by first | exact om_67673d8f6684 pq133 pq135 | first | omega | ((try (have i_hz124 := Imp.go hz124 (by omega))); (try (have i_y4 := Imp.go y4 (by omega))); (try (have i_y3 := Imp.go y3 (by omega))); (try (have i_y2 := Imp.go y2 (by omega))); first | omega | ((try (have i_y1 := Imp.go y1 (by omega))); (try (have i_y1 := Imp.go y1 (by omega))); (try (have i_y2 := Imp.go y2 (by omega))); (try (have i_y3 := Imp.go y3 (by omega))); (try (have i_y4 := Imp.go y4 (by omega))); (try (have i_hz124 := Imp.go hz124 (by omega))); omega))))), (Imp.mk (fun hp => have hp : p0.toInt ≠ 10 := hp; (show (V130 0 90).toInt = (V 0 90).toInt ∧ (V130 0 91).toInt = (V 0 91).toInt from by first | exact om_4c4f47d165b0 pq137 pq138 | first | omega | ((try (have i_hz124 := Imp.go hz124 (by omega))); (try (have i_y4 := Imp.go y4 (by omega))); (try (have i_y3 := Imp.go y3 (by omega))); (try (have i_y2 := Imp.go y2 (by omega))); first | omega | ((try (have i_y1 := Imp.go y1 (by omega))); (try (have i_y1 := Imp.go y1 (by omega))); (try (have i_y2 := Imp.go y2 (by omega))); (try (have i_y3 := Imp.go y3 (by omega))); (try (have i_y4 := Imp.go y4 (by omega))); (try (have i_hz124 := Imp.go hz124 (by omega))); omega))))), (Imp.mk (fun hp => by exfalso; omega)), (Imp.mk (fun hp => by exfalso; omega)), (Imp.mk (fun hp => by exfalso; omega)), (Imp.mk (fun hp => by exfalso; omega)), (Imp.mk (fun hp => by exfalso; omega)), (Imp.mk (fun _ t9 ht9 => by have k9 : Int32.toNatClampNeg (V35 0 98) = t9 + 1 := (by have h9 := i_clamp (x := V35 0 98) rfl (by (first | exact om_4313120d86f8 t41 r45.1 | omega)); omega); have k8 : Int32.toNatClampNeg (V43 0 98) = t9 := (by have h9 := i_clamp (x := V43 0 98) rfl (by (first | exact om_eafa9039069c r45.1 | omega)); omega); have a9 := t34; have a8 := t42; have b9 := t129; rw [k9] at a9; rw [k8] at a8 b9; rw [show V35 97 t9 = V 97 t9 from ajV35 97 _ rfl] at a8; exact ⟨b9.1.trans (ez124.trans (by rw [a9, a8])), fun j9 hj9 => (b9.2 j9 (by omega)).trans ((ajV43 97 _ rfl).trans (ajV35 97 _ rfl))⟩)), (Imp.mk (fun hp => by exfalso; omega)), (Imp.mk (fun hp => by exfalso; omega)), (Imp.mk (fun hp => by exfalso; omega))⟩, by rw [ht]; exact hP, va_K.moved hW.alike hK, hD⟩, hS.F ht⟩) hS.2.2 dX12_reckons_173
              · skip
                have f139 : p0.toInt = 6 := b_eq rfl (by decide) c48
                refine lv_iload hx hb dX12_reckons_118 (lv_at hl 0 rfl) ?_
                refine lv_iload_n hx hb dX12_reckons_120 rfl (lv_at hl 1 rfl) ?_
                refine lv_iadd hx hb dX12_reckons_121 ?_
                have r140 := i_full z38
                have r141 := i_full z30
                refine lv_topi (fun z142 ez142 => ?_)
                have hz142 : Imp (-2147483648 ≤ z38.toInt + z30.toInt ∧ z38.toInt + z30.toInt ≤ 2147483647) (z142.toInt = z38.toInt + z30.toInt) := Imp.mk (fun hp => i_add ez142 rfl rfl hp)
                refine lv_goto (tgt := 169) hx hb dX12_reckons_122 (by decide) ?_
                refine gA_void (gA_runV (As := [.int z142]) (rest := []) (ci := 12) (q0 := 0) hx hb hml hown hg hP hD hK hS hA hnw hgk (s_push3 l D ks H.size ad kk V43 L z142 hMV43 (show (V43 0 98).toInt ≤ 19999 from by first | exact om_55730f2b1f23 r1.2 t33 t41 | first | omega | ((try (have i_hz142 := Imp.go hz142 (by omega))); (try (have i_y4 := Imp.go y4 (by omega))); (try (have i_y3 := Imp.go y3 (by omega))); (try (have i_y2 := Imp.go y2 (by omega))); first | omega | ((try (have i_y1 := Imp.go y1 (by omega))); (try (have i_y1 := Imp.go y1 (by omega))); (try (have i_y2 := Imp.go y2 (by omega))); (try (have i_y3 := Imp.go y3 (by omega))); (try (have i_y4 := Imp.go y4 (by omega))); (try (have i_hz142 := Imp.go hz142 (by omega))); omega)))) w2304 w2306 w145 w172 w2307 rfl rfl hdV_yX12_push ⟨Nat.le_of_ble_eq_true rfl, Nat.le_of_ble_eq_true rfl⟩ rfl hl.1 rfl (Nat.le_of_ble_eq_true rfl) dX12_reckons_169 ⟨Nat.le_of_ble_eq_true rfl, Nat.le_of_ble_eq_true rfl⟩) hP hD hK hS hA (fun u144 H locs w145 hP hD hK hS => ?_)
                obtain ⟨V148, L149⟩ := u144
                obtain ⟨hMV148, ajV148, axL149, t146, t147⟩ := w145
                have axL149 : L = L149 := Eq.symm axL149
                subst axL149
                have hP : va_P D vwCl (mw ad kk ks.1 V148 L) H := hP
                have hD : va_D A (mw ad kk ks.1 V148 L) := hD
                have hMV148 : rgd bM V148 := hMV148
                have ajV148 : agr [(0, 98)] [97] V43 V148 := ajV148
                have agV148 : agr [(0, 68), (0, 69), (0, 90), (0, 91), (0, 98)] [97] V V148 := agV43.tr ajV148 (by decide) (by decide)
                have t146 : (V148 0 98).toInt = (V43 0 98).toInt + 1 := t146
                have t147 : V148 97 (Int32.toNatClampNeg (V43 0 98)) = z142 ∧ ∀ j9, j9 ≠ Int32.toNatClampNeg (V43 0 98) → V148 97 j9 = V43 97 j9 := t147
                have r150 : 0 ≤ ((V148 0 98)).toInt ∧ ((V148 0 98)).toInt ≤ 20000 := hMV148 0 98
                refine lv_iconst (v := 0) hx hb dX12_reckons_172 (by decide) ?_
                have pq151 : (V148 0 69).toInt = ((V 0 69)).toInt := congrArg Int32.toInt ((ajV148 0 69 rfl).trans ((ajV43 0 69 rfl).trans (ajV35 0 69 rfl)))
                have r152 : 0 ≤ ((V 0 69)).toInt ∧ ((V 0 69)).toInt ≤ 3000 := hMV 0 69
                have pq153 : (V148 0 68).toInt = ((V 0 68)).toInt := congrArg Int32.toInt ((ajV148 0 68 rfl).trans ((ajV43 0 68 rfl).trans (ajV35 0 68 rfl)))
                have r154 : 0 ≤ ((V 0 68)).toInt ∧ ((V 0 68)).toInt ≤ 60000 := hMV 0 68
                have pq155 : (V148 0 91).toInt = ((V 0 91)).toInt := congrArg Int32.toInt ((ajV148 0 91 rfl).trans ((ajV43 0 91 rfl).trans (ajV35 0 91 rfl)))
                have pq156 : (V148 0 90).toInt = ((V 0 90)).toInt := congrArg Int32.toInt ((ajV148 0 90 rfl).trans ((ajV43 0 90 rfl).trans (ajV35 0 90 rfl)))
                exact W.iret (v := 0) hx hb hr (fun t ht hW => ⟨⟨0, (V148, L), rfl, ⟨hMV148, agV148, rfl, (by decide), (Imp.mk (fun hp => have hp : p0.toInt = 1 := hp; (show (V148 0 98).toInt = (V 0 98).toInt ∧ ((0 = 0 ∧ (V148 0 69).toInt = (V 0 69).toInt + 1 ∧ (V148 0 68).toInt = (V 0 68).toInt + 1 ∧ (V 0 69).toInt < 3000 ∧ (V 0 68).toInt < 60000) ∨ (0 = 2 ∧ (V148 0 69).toInt = (V 0 69).toInt ∧ (V148 0 68).toInt = (V 0 68).toInt ∧ ((V 0 69).toInt = 3000 ∨ (V 0 68).toInt = 60000))) from by first | omega | ((try (have i_hz142 := Imp.go hz142 (by omega))); (try (have i_y4 := Imp.go y4 (by omega))); (try (have i_y3 := Imp.go y3 (by omega))); (try (have i_y2 := Imp.go y2 (by omega))); first | omega | ((try (have i_y1 := Imp.go y1 (by omega))); (try (have i_y1 := Imp.go y1 (by omega))); (try (have i_y2 := Imp.go y2 (by omega))); (try (have i_y3 := Imp.go y3 (by omega))); (try (have i_y4 := Imp.go y4 (by omega))); (try (have i_hz142 := Imp.go hz142 (by omega))); omega))))), (Imp.mk (fun hp => have hp : p0.toInt = 10 := hp; (show 0 = 1 ∧ (V148 0 98).toInt = (V 0 98).toInt ∧ (V148 0 90).toInt = 0 ∧ (V148 0 91).toInt = p1.toInt from by first | omega | ((try (have i_hz142 := Imp.go hz142 (by omega))); (try (have i_y4 := Imp.go y4 (by omega))); (try (have i_y3 := Imp.go y3 (by omega))); (try (have i_y2 := Imp.go y2 (by omega))); first | omega | ((try (have i_y1 := Imp.go y1 (by omega))); (try (have i_y1 := Imp.go y1 (by omega))); (try (have i_y2 := Imp.go y2 (by omega))); (try (have i_y3 := Imp.go y3 (by omega))); (try (have i_y4 := Imp.go y4 (by omega))); (try (have i_hz142 := Imp.go hz142 (by omega))); omega))))), (Imp.mk (fun hp => have hp : p0.toInt = 2 ∨ p0.toInt = 11 := hp; (show 0 = 0 ∧ (V148 0 98).toInt = (V 0 98).toInt + 1 from by first | omega | ((try (have i_y2 := Imp.go y2 (hp))); omega) | ((try (have i_hz142 := Imp.go hz142 (by omega))); (try (have i_y4 := Imp.go y4 (by omega))); (try (have i_y3 := Imp.go y3 (by omega))); (try (have i_y2 := Imp.go y2 (by omega))); first | omega | ((try (have i_y1 := Imp.go y1 (by omega))); (try (have i_y1 := Imp.go y1 (by omega))); (try (have i_y2 := Imp.go y2 (by omega))); (try (have i_y3 := Imp.go y3 (by omega))); (try (have i_y4 := Imp.go y4 (by omega))); (try (have i_hz142 := Imp.go hz142 (by omega))); omega))))), (Imp.mk (fun hp => have hp : p0.toInt = 4 := hp; (show 0 = 0 ∧ (V148 0 98).toInt = (V 0 98).toInt from by first | omega | ((try (have i_y3 := Imp.go y3 (hp))); omega) | ((try (have i_hz142 := Imp.go hz142 (by omega))); (try (have i_y4 := Imp.go y4 (by omega))); (try (have i_y3 := Imp.go y3 (by omega))); (try (have i_y2 := Imp.go y2 (by omega))); first | omega | ((try (have i_y1 := Imp.go y1 (by omega))); (try (have i_y1 := Imp.go y1 (by omega))); (try (have i_y2 := Imp.go y2 (by omega))); (try (have i_y3 := Imp.go y3 (by omega))); (try (have i_y4 := Imp.go y4 (by omega))); (try (have i_hz142 := Imp.go hz142 (by omega))); omega))))), (Imp.mk (fun hp => have hp : 5 ≤ p0.toInt ∧ p0.toInt ≤ 9 := hp; (show 0 = 0 ∧ (V148 0 98).toInt = (V 0 98).toInt - 1 from by first | omega | ((try (have i_hz142 := Imp.go hz142 (by omega))); (try (have i_y4 := Imp.go y4 (by omega))); (try (have i_y3 := Imp.go y3 (by omega))); (try (have i_y2 := Imp.go y2 (by omega))); first | omega | ((try (have i_y1 := Imp.go y1 (by omega))); (try (have i_y1 := Imp.go y1 (by omega))); (try (have i_y2 := Imp.go y2 (by omega))); (try (have i_y3 := Imp.go y3 (by omega))); (try (have i_y4 := Imp.go y4 (by omega))); (try (have i_hz142 := Imp.go hz142 (by omega))); omega))))), (Imp.mk (fun hp => have hp : p0.toInt ≠ 1 := hp; (show (V148 0 69).toInt = (V 0 69).toInt ∧ (V148 0 68).toInt = (V 0 68).toInt from by first | exact om_67673d8f6684 pq151 pq153 | first | omega | ((try (have i_hz142 := Imp.go hz142 (by omega))); (try (have i_y4 := Imp.go y4 (by omega))); (try (have i_y3 := Imp.go y3 (by omega))); (try (have i_y2 := Imp.go y2 (by omega))); first | omega | ((try (have i_y1 := Imp.go y1 (by omega))); (try (have i_y1 := Imp.go y1 (by omega))); (try (have i_y2 := Imp.go y2 (by omega))); (try (have i_y3 := Imp.go y3 (by omega))); (try (have i_y4 := Imp.go y4 (by omega))); (try (have i_hz142 := Imp.go hz142 (by omega))); omega))))), (Imp.mk (fun hp => have hp : p0.toInt ≠ 10 := hp; (show (V148 0 90).toInt = (V 0 90).toInt ∧ (V148 0 91).toInt = (V 0 91).toInt from by first | exact om_4c4f47d165b0 pq155 pq156 | first | omega | ((try (have i_hz142 := Imp.go hz142 (by omega))); (try (have i_y4 := Imp.go y4 (by omega))); (try (have i_y3 := Imp.go y3 (by omega))); (try (have i_y2 := Imp.go y2 (by omega))); first | omega | ((try (have i_y1 := Imp.go y1 (by omega))); (try (have i_y1 := Imp.go y1 (by omega))); (try (have i_y2 := Imp.go y2 (by omega))); (try (have i_y3 := Imp.go y3 (by omega))); (try (have i_y4 := Imp.go y4 (by omega))); (try (have i_hz142 := Imp.go hz142 (by omega))); omega))))), (Imp.mk (fun hp => by exfalso; omega)), (Imp.mk (fun hp => by exfalso; omega)), (Imp.mk (fun hp => by exfalso; omega)), (Imp.mk (fun hp => by exfalso; omega)), (Imp.mk (fun _ t9 ht9 => by have k9 : Int32.toNatClampNeg (V35 0 98) = t9 + 1 := (by have h9 := i_clamp (x := V35 0 98) rfl (by (first | exact om_4313120d86f8 t41 r45.1 | omega)); omega); have k8 : Int32.toNatClampNeg (V43 0 98) = t9 := (by have h9 := i_clamp (x := V43 0 98) rfl (by (first | exact om_eafa9039069c r45.1 | omega)); omega); have a9 := t34; have a8 := t42; have b9 := t147; rw [k9] at a9; rw [k8] at a8 b9; rw [show V35 97 t9 = V 97 t9 from ajV35 97 _ rfl] at a8; exact ⟨b9.1.trans (ez142.trans (by rw [a9, a8])), fun j9 hj9 => (b9.2 j9 (by omega)).trans ((ajV43 97 _ rfl).trans (ajV35 97 _ rfl))⟩)), (Imp.mk (fun hp => by exfalso; omega)), (Imp.mk (fun hp => by exfalso; omega)), (Imp.mk (fun hp => by exfalso; omega)), (Imp.mk (fun hp => by exfalso; omega))⟩, by rw [ht]; exact hP, va_K.moved hW.alike hK, hD⟩, hS.F ht⟩) hS.2.2 dX12_reckons_173
            · skip
              have f157 : p0.toInt = 5 := b_eq rfl (by decide) c46
              refine lv_iload hx hb dX12_reckons_105 (lv_at hl 0 rfl) ?_
              refine lv_iload_n hx hb dX12_reckons_107 rfl (lv_at hl 1 rfl) ?_
              refine lv_imul hx hb dX12_reckons_108 ?_
              have r158 := i_full z38
              have r159 := i_full z30
              refine lv_topi (fun z160 ez160 => ?_)
              refine lv_goto (tgt := 169) hx hb dX12_reckons_109 (by decide) ?_
              refine gA_void (gA_runV (As := [.int z160]) (rest := []) (ci := 12) (q0 := 0) hx hb hml hown hg hP hD hK hS hA hnw hgk (s_push3 l D ks H.size ad kk V43 L z160 hMV43 (show (V43 0 98).toInt ≤ 19999 from by first | exact om_55730f2b1f23 r1.2 t33 t41 | first | omega | ((try (have i_y4 := Imp.go y4 (by omega))); (try (have i_y3 := Imp.go y3 (by omega))); (try (have i_y2 := Imp.go y2 (by omega))); (try (have i_y1 := Imp.go y1 (by omega))); first | omega | ((try (have i_y1 := Imp.go y1 (by omega))); (try (have i_y2 := Imp.go y2 (by omega))); (try (have i_y3 := Imp.go y3 (by omega))); (try (have i_y4 := Imp.go y4 (by omega))); omega)))) w2304 w2306 w145 w172 w2307 rfl rfl hdV_yX12_push ⟨Nat.le_of_ble_eq_true rfl, Nat.le_of_ble_eq_true rfl⟩ rfl hl.1 rfl (Nat.le_of_ble_eq_true rfl) dX12_reckons_169 ⟨Nat.le_of_ble_eq_true rfl, Nat.le_of_ble_eq_true rfl⟩) hP hD hK hS hA (fun u162 H locs w163 hP hD hK hS => ?_)
              obtain ⟨V166, L167⟩ := u162
              obtain ⟨hMV166, ajV166, axL167, t164, t165⟩ := w163
              have axL167 : L = L167 := Eq.symm axL167
              subst axL167
              have hP : va_P D vwCl (mw ad kk ks.1 V166 L) H := hP
              have hD : va_D A (mw ad kk ks.1 V166 L) := hD
              have hMV166 : rgd bM V166 := hMV166
              have ajV166 : agr [(0, 98)] [97] V43 V166 := ajV166
              have agV166 : agr [(0, 68), (0, 69), (0, 90), (0, 91), (0, 98)] [97] V V166 := agV43.tr ajV166 (by decide) (by decide)
              have t164 : (V166 0 98).toInt = (V43 0 98).toInt + 1 := t164
              have t165 : V166 97 (Int32.toNatClampNeg (V43 0 98)) = z160 ∧ ∀ j9, j9 ≠ Int32.toNatClampNeg (V43 0 98) → V166 97 j9 = V43 97 j9 := t165
              have r168 : 0 ≤ ((V166 0 98)).toInt ∧ ((V166 0 98)).toInt ≤ 20000 := hMV166 0 98
              refine lv_iconst (v := 0) hx hb dX12_reckons_172 (by decide) ?_
              have pq169 : (V166 0 69).toInt = ((V 0 69)).toInt := congrArg Int32.toInt ((ajV166 0 69 rfl).trans ((ajV43 0 69 rfl).trans (ajV35 0 69 rfl)))
              have r170 : 0 ≤ ((V 0 69)).toInt ∧ ((V 0 69)).toInt ≤ 3000 := hMV 0 69
              have pq171 : (V166 0 68).toInt = ((V 0 68)).toInt := congrArg Int32.toInt ((ajV166 0 68 rfl).trans ((ajV43 0 68 rfl).trans (ajV35 0 68 rfl)))
              have r172 : 0 ≤ ((V 0 68)).toInt ∧ ((V 0 68)).toInt ≤ 60000 := hMV 0 68
              have pq173 : (V166 0 91).toInt = ((V 0 91)).toInt := congrArg Int32.toInt ((ajV166 0 91 rfl).trans ((ajV43 0 91 rfl).trans (ajV35 0 91 rfl)))
              have pq174 : (V166 0 90).toInt = ((V 0 90)).toInt := congrArg Int32.toInt ((ajV166 0 90 rfl).trans ((ajV43 0 90 rfl).trans (ajV35 0 90 rfl)))
              exact W.iret (v := 0) hx hb hr (fun t ht hW => ⟨⟨0, (V166, L), rfl, ⟨hMV166, agV166, rfl, (by decide), (Imp.mk (fun hp => have hp : p0.toInt = 1 := hp; (show (V166 0 98).toInt = (V 0 98).toInt ∧ ((0 = 0 ∧ (V166 0 69).toInt = (V 0 69).toInt + 1 ∧ (V166 0 68).toInt = (V 0 68).toInt + 1 ∧ (V 0 69).toInt < 3000 ∧ (V 0 68).toInt < 60000) ∨ (0 = 2 ∧ (V166 0 69).toInt = (V 0 69).toInt ∧ (V166 0 68).toInt = (V 0 68).toInt ∧ ((V 0 69).toInt = 3000 ∨ (V 0 68).toInt = 60000))) from by first | omega | ((try (have i_y4 := Imp.go y4 (by omega))); (try (have i_y3 := Imp.go y3 (by omega))); (try (have i_y2 := Imp.go y2 (by omega))); (try (have i_y1 := Imp.go y1 (by omega))); first | omega | ((try (have i_y1 := Imp.go y1 (by omega))); (try (have i_y2 := Imp.go y2 (by omega))); (try (have i_y3 := Imp.go y3 (by omega))); (try (have i_y4 := Imp.go y4 (by omega))); omega))))), (Imp.mk (fun hp => have hp : p0.toInt = 10 := hp; (show 0 = 1 ∧ (V166 0 98).toInt = (V 0 98).toInt ∧ (V166 0 90).toInt = 0 ∧ (V166 0 91).toInt = p1.toInt from by first | omega | ((try (have i_y4 := Imp.go y4 (by omega))); (try (have i_y3 := Imp.go y3 (by omega))); (try (have i_y2 := Imp.go y2 (by omega))); (try (have i_y1 := Imp.go y1 (by omega))); first | omega | ((try (have i_y1 := Imp.go y1 (by omega))); (try (have i_y2 := Imp.go y2 (by omega))); (try (have i_y3 := Imp.go y3 (by omega))); (try (have i_y4 := Imp.go y4 (by omega))); omega))))), (Imp.mk (fun hp => have hp : p0.toInt = 2 ∨ p0.toInt = 11 := hp; (show 0 = 0 ∧ (V166 0 98).toInt = (V 0 98).toInt + 1 from by first | omega | ((try (have i_y2 := Imp.go y2 (hp))); omega) | ((try (have i_y4 := Imp.go y4 (by omega))); (try (have i_y3 := Imp.go y3 (by omega))); (try (have i_y2 := Imp.go y2 (by omega))); (try (have i_y1 := Imp.go y1 (by omega))); first | omega | ((try (have i_y1 := Imp.go y1 (by omega))); (try (have i_y2 := Imp.go y2 (by omega))); (try (have i_y3 := Imp.go y3 (by omega))); (try (have i_y4 := Imp.go y4 (by omega))); omega))))), (Imp.mk (fun hp => have hp : p0.toInt = 4 := hp; (show 0 = 0 ∧ (V166 0 98).toInt = (V 0 98).toInt from by first | omega | ((try (have i_y3 := Imp.go y3 (hp))); omega) | ((try (have i_y4 := Imp.go y4 (by omega))); (try (have i_y3 := Imp.go y3 (by omega))); (try (have i_y2 := Imp.go y2 (by omega))); (try (have i_y1 := Imp.go y1 (by omega))); first | omega | ((try (have i_y1 := Imp.go y1 (by omega))); (try (have i_y2 := Imp.go y2 (by omega))); (try (have i_y3 := Imp.go y3 (by omega))); (try (have i_y4 := Imp.go y4 (by omega))); omega))))), (Imp.mk (fun hp => have hp : 5 ≤ p0.toInt ∧ p0.toInt ≤ 9 := hp; (show 0 = 0 ∧ (V166 0 98).toInt = (V 0 98).toInt - 1 from by first | omega | ((try (have i_y4 := Imp.go y4 (by omega))); (try (have i_y3 := Imp.go y3 (by omega))); (try (have i_y2 := Imp.go y2 (by omega))); (try (have i_y1 := Imp.go y1 (by omega))); first | omega | ((try (have i_y1 := Imp.go y1 (by omega))); (try (have i_y2 := Imp.go y2 (by omega))); (try (have i_y3 := Imp.go y3 (by omega))); (try (have i_y4 := Imp.go y4 (by omega))); omega))))), (Imp.mk (fun hp => have hp : p0.toInt ≠ 1 := hp; (show (V166 0 69).toInt = (V 0 69).toInt ∧ (V166 0 68).toInt = (V 0 68).toInt from by first | exact om_67673d8f6684 pq169 pq171 | first | omega | ((try (have i_y4 := Imp.go y4 (by omega))); (try (have i_y3 := Imp.go y3 (by omega))); (try (have i_y2 := Imp.go y2 (by omega))); (try (have i_y1 := Imp.go y1 (by omega))); first | omega | ((try (have i_y1 := Imp.go y1 (by omega))); (try (have i_y2 := Imp.go y2 (by omega))); (try (have i_y3 := Imp.go y3 (by omega))); (try (have i_y4 := Imp.go y4 (by omega))); omega))))), (Imp.mk (fun hp => have hp : p0.toInt ≠ 10 := hp; (show (V166 0 90).toInt = (V 0 90).toInt ∧ (V166 0 91).toInt = (V 0 91).toInt from by first | exact om_4c4f47d165b0 pq173 pq174 | first | omega | ((try (have i_y4 := Imp.go y4 (by omega))); (try (have i_y3 := Imp.go y3 (by omega))); (try (have i_y2 := Imp.go y2 (by omega))); (try (have i_y1 := Imp.go y1 (by omega))); first | omega | ((try (have i_y1 := Imp.go y1 (by omega))); (try (have i_y2 := Imp.go y2 (by omega))); (try (have i_y3 := Imp.go y3 (by omega))); (try (have i_y4 := Imp.go y4 (by omega))); omega))))), (Imp.mk (fun hp => by exfalso; omega)), (Imp.mk (fun hp => by exfalso; omega)), (Imp.mk (fun hp => by exfalso; omega)), (Imp.mk (fun _ t9 ht9 => by have k9 : Int32.toNatClampNeg (V35 0 98) = t9 + 1 := (by have h9 := i_clamp (x := V35 0 98) rfl (by (first | exact om_4313120d86f8 t41 r45.1 | omega)); omega); have k8 : Int32.toNatClampNeg (V43 0 98) = t9 := (by have h9 := i_clamp (x := V43 0 98) rfl (by (first | exact om_eafa9039069c r45.1 | omega)); omega); have a9 := t34; have a8 := t42; have b9 := t165; rw [k9] at a9; rw [k8] at a8 b9; rw [show V35 97 t9 = V 97 t9 from ajV35 97 _ rfl] at a8; exact ⟨b9.1.trans (ez160.trans (by rw [a9, a8])), fun j9 hj9 => (b9.2 j9 (by omega)).trans ((ajV43 97 _ rfl).trans (ajV35 97 _ rfl))⟩)), (Imp.mk (fun hp => by exfalso; omega)), (Imp.mk (fun hp => by exfalso; omega)), (Imp.mk (fun hp => by exfalso; omega)), (Imp.mk (fun hp => by exfalso; omega)), (Imp.mk (fun hp => by exfalso; omega))⟩, by rw [ht]; exact hP, va_K.moved hW.alike hK, hD⟩, hS.F ht⟩) hS.2.2 dX12_reckons_173
          · skip
            have f175 : p0.toInt = 4 := b_eq rfl (by decide) c28
            refine lv_aload_n hx hb dX12_reckons_76 rfl (lv_at hl 0 rfl) ?_
            refine lv_aload_n hx hb dX12_reckons_77 rfl (lv_at hl 0 rfl) ?_
            refine gA_int (gA_runV (As := []) (rest := [.ref (ad 0)]) (ci := 12) (q0 := 0) hx hb hml hown hg hP hD hK hS hA hnw hgk (s_pop3 l D ks H.size ad kk V L  hMV (show 1 ≤ (V 0 98).toInt from by first | exact om_f8d8213eda45 ((Imp.go y3 (f175))) | first | omega | ((try (have i_y3 := Imp.go y3 (f175))); omega) | ((try (have i_y4 := Imp.go y4 (by omega))); (try (have i_y3 := Imp.go y3 (by omega))); (try (have i_y2 := Imp.go y2 (by omega))); (try (have i_y1 := Imp.go y1 (by omega))); first | omega | ((try (have i_y1 := Imp.go y1 (by omega))); (try (have i_y2 := Imp.go y2 (by omega))); (try (have i_y3 := Imp.go y3 (by omega))); (try (have i_y4 := Imp.go y4 (by omega))); omega)))) w2276 w2278 w138 w172 w2279 rfl rfl hdV_yX12_pop ⟨Nat.le_of_ble_eq_true rfl, Nat.le_of_ble_eq_true rfl⟩ rfl hl.1 rfl (Nat.le_of_ble_eq_true rfl) dX12_reckons_78 ⟨Nat.le_of_ble_eq_true rfl, Nat.le_of_ble_eq_true rfl⟩) hP hD hK hS hA (fun z176 u177 H locs w178 hP hD hK hS => ?_)
            obtain ⟨V181, L182⟩ := u177
            obtain ⟨hMV181, ajV181, axL182, t179, t180⟩ := w178
            have axL182 : L = L182 := Eq.symm axL182
            subst axL182
            have hP : va_P D vwCl (mw ad kk ks.1 V181 L) H := hP
            have hD : va_D A (mw ad kk ks.1 V181 L) := hD
            have hMV181 : rgd bM V181 := hMV181
            have ajV181 : agr [(0, 98)] [] V V181 := ajV181
            have agV181 : agr [(0, 68), (0, 69), (0, 90), (0, 91), (0, 98)] [97] V V181 := agV.tr ajV181 (by decide) (by decide)
            have t179 : (V181 0 98).toInt = (V 0 98).toInt - 1 := t179
            have t180 : z176 = V 97 (Int32.toNatClampNeg (V181 0 98)) := t180
            have r183 : 0 ≤ ((V181 0 98)).toInt ∧ ((V181 0 98)).toInt ≤ 20000 := hMV181 0 98
            refine lv_ineg hx hb dX12_reckons_81 ?_
            refine lv_topi (fun z184 ez184 => ?_)
            refine gA_void (gA_runV (As := [.int z184]) (rest := []) (ci := 12) (q0 := 0) hx hb hml hown hg hP hD hK hS hA hnw hgk (s_push3 l D ks H.size ad kk V181 L z184 hMV181 (show (V181 0 98).toInt ≤ 19999 from by first | exact om_873519b16705 r1.2 t179 | first | omega | ((try (have i_y3 := Imp.go y3 (f175))); omega) | ((try (have i_y4 := Imp.go y4 (by omega))); (try (have i_y3 := Imp.go y3 (by omega))); (try (have i_y2 := Imp.go y2 (by omega))); (try (have i_y1 := Imp.go y1 (by omega))); first | omega | ((try (have i_y1 := Imp.go y1 (by omega))); (try (have i_y2 := Imp.go y2 (by omega))); (try (have i_y3 := Imp.go y3 (by omega))); (try (have i_y4 := Imp.go y4 (by omega))); omega)))) w2304 w2306 w145 w172 w2307 rfl rfl hdV_yX12_push ⟨Nat.le_of_ble_eq_true rfl, Nat.le_of_ble_eq_true rfl⟩ rfl hl.1 rfl (Nat.le_of_ble_eq_true rfl) dX12_reckons_82 ⟨Nat.le_of_ble_eq_true rfl, Nat.le_of_ble_eq_true rfl⟩) hP hD hK hS hA (fun u186 H locs w187 hP hD hK hS => ?_)
            obtain ⟨V190, L191⟩ := u186
            obtain ⟨hMV190, ajV190, axL191, t188, t189⟩ := w187
            have axL191 : L = L191 := Eq.symm axL191
            subst axL191
            have hP : va_P D vwCl (mw ad kk ks.1 V190 L) H := hP
            have hD : va_D A (mw ad kk ks.1 V190 L) := hD
            have hMV190 : rgd bM V190 := hMV190
            have ajV190 : agr [(0, 98)] [97] V181 V190 := ajV190
            have agV190 : agr [(0, 68), (0, 69), (0, 90), (0, 91), (0, 98)] [97] V V190 := agV181.tr ajV190 (by decide) (by decide)
            have t188 : (V190 0 98).toInt = (V181 0 98).toInt + 1 := t188
            have t189 : V190 97 (Int32.toNatClampNeg (V181 0 98)) = z184 ∧ ∀ j9, j9 ≠ Int32.toNatClampNeg (V181 0 98) → V190 97 j9 = V181 97 j9 := t189
            have r192 : 0 ≤ ((V190 0 98)).toInt ∧ ((V190 0 98)).toInt ≤ 20000 := hMV190 0 98
            refine lv_goto (tgt := 172) hx hb dX12_reckons_85 (by decide) ?_
            refine lv_iconst (v := 0) hx hb dX12_reckons_172 (by decide) ?_
            have pq193 : (V190 0 69).toInt = ((V 0 69)).toInt := congrArg Int32.toInt ((ajV190 0 69 rfl).trans (ajV181 0 69 rfl))
            have r194 : 0 ≤ ((V 0 69)).toInt ∧ ((V 0 69)).toInt ≤ 3000 := hMV 0 69
            have pq195 : (V190 0 68).toInt = ((V 0 68)).toInt := congrArg Int32.toInt ((ajV190 0 68 rfl).trans (ajV181 0 68 rfl))
            have r196 : 0 ≤ ((V 0 68)).toInt ∧ ((V 0 68)).toInt ≤ 60000 := hMV 0 68
            have pq197 : (V190 0 91).toInt = ((V 0 91)).toInt := congrArg Int32.toInt ((ajV190 0 91 rfl).trans (ajV181 0 91 rfl))
            have pq198 : (V190 0 90).toInt = ((V 0 90)).toInt := congrArg Int32.toInt ((ajV190 0 90 rfl).trans (ajV181 0 90 rfl))
            exact W.iret (v := 0) hx hb hr (fun t ht hW => ⟨⟨0, (V190, L), rfl, ⟨hMV190, agV190, rfl, (by decide), (Imp.mk (fun hp => have hp : p0.toInt = 1 := hp; (show (V190 0 98).toInt = (V 0 98).toInt ∧ ((0 = 0 ∧ (V190 0 69).toInt = (V 0 69).toInt + 1 ∧ (V190 0 68).toInt = (V 0 68).toInt + 1 ∧ (V 0 69).toInt < 3000 ∧ (V 0 68).toInt < 60000) ∨ (0 = 2 ∧ (V190 0 69).toInt = (V 0 69).toInt ∧ (V190 0 68).toInt = (V 0 68).toInt ∧ ((V 0 69).toInt = 3000 ∨ (V 0 68).toInt = 60000))) from by first | omega | ((try (have i_y3 := Imp.go y3 (f175))); omega) | ((try (have i_y4 := Imp.go y4 (by omega))); (try (have i_y3 := Imp.go y3 (by omega))); (try (have i_y2 := Imp.go y2 (by omega))); (try (have i_y1 := Imp.go y1 (by omega))); first | omega | ((try (have i_y1 := Imp.go y1 (by omega))); (try (have i_y2 := Imp.go y2 (by omega))); (try (have i_y3 := Imp.go y3 (by omega))); (try (have i_y4 := Imp.go y4 (by omega))); omega))))), (Imp.mk (fun hp => have hp : p0.toInt = 10 := hp; (show 0 = 1 ∧ (V190 0 98).toInt = (V 0 98).toInt ∧ (V190 0 90).toInt = 0 ∧ (V190 0 91).toInt = p1.toInt from by first | omega | ((try (have i_y3 := Imp.go y3 (f175))); omega) | ((try (have i_y4 := Imp.go y4 (by omega))); (try (have i_y3 := Imp.go y3 (by omega))); (try (have i_y2 := Imp.go y2 (by omega))); (try (have i_y1 := Imp.go y1 (by omega))); first | omega | ((try (have i_y1 := Imp.go y1 (by omega))); (try (have i_y2 := Imp.go y2 (by omega))); (try (have i_y3 := Imp.go y3 (by omega))); (try (have i_y4 := Imp.go y4 (by omega))); omega))))), (Imp.mk (fun hp => have hp : p0.toInt = 2 ∨ p0.toInt = 11 := hp; (show 0 = 0 ∧ (V190 0 98).toInt = (V 0 98).toInt + 1 from by first | omega | ((try (have i_y3 := Imp.go y3 (f175))); (try (have i_y2 := Imp.go y2 (hp))); omega) | ((try (have i_y4 := Imp.go y4 (by omega))); (try (have i_y3 := Imp.go y3 (by omega))); (try (have i_y2 := Imp.go y2 (by omega))); (try (have i_y1 := Imp.go y1 (by omega))); first | omega | ((try (have i_y1 := Imp.go y1 (by omega))); (try (have i_y2 := Imp.go y2 (by omega))); (try (have i_y3 := Imp.go y3 (by omega))); (try (have i_y4 := Imp.go y4 (by omega))); omega))))), (Imp.mk (fun hp => have hp : p0.toInt = 4 := hp; (show 0 = 0 ∧ (V190 0 98).toInt = (V 0 98).toInt from by first | omega | ((try (have i_y3 := Imp.go y3 (hp))); omega) | ((try (have i_y4 := Imp.go y4 (by omega))); (try (have i_y3 := Imp.go y3 (by omega))); (try (have i_y2 := Imp.go y2 (by omega))); (try (have i_y1 := Imp.go y1 (by omega))); first | omega | ((try (have i_y1 := Imp.go y1 (by omega))); (try (have i_y2 := Imp.go y2 (by omega))); (try (have i_y3 := Imp.go y3 (by omega))); (try (have i_y4 := Imp.go y4 (by omega))); omega))))), (Imp.mk (fun hp => have hp : 5 ≤ p0.toInt ∧ p0.toInt ≤ 9 := hp; (show 0 = 0 ∧ (V190 0 98).toInt = (V 0 98).toInt - 1 from by first | omega | ((try (have i_y3 := Imp.go y3 (f175))); omega) | ((try (have i_y4 := Imp.go y4 (by omega))); (try (have i_y3 := Imp.go y3 (by omega))); (try (have i_y2 := Imp.go y2 (by omega))); (try (have i_y1 := Imp.go y1 (by omega))); first | omega | ((try (have i_y1 := Imp.go y1 (by omega))); (try (have i_y2 := Imp.go y2 (by omega))); (try (have i_y3 := Imp.go y3 (by omega))); (try (have i_y4 := Imp.go y4 (by omega))); omega))))), (Imp.mk (fun hp => have hp : p0.toInt ≠ 1 := hp; (show (V190 0 69).toInt = (V 0 69).toInt ∧ (V190 0 68).toInt = (V 0 68).toInt from by first | exact om_67673d8f6684 pq193 pq195 | first | omega | ((try (have i_y3 := Imp.go y3 (f175))); omega) | ((try (have i_y4 := Imp.go y4 (by omega))); (try (have i_y3 := Imp.go y3 (by omega))); (try (have i_y2 := Imp.go y2 (by omega))); (try (have i_y1 := Imp.go y1 (by omega))); first | omega | ((try (have i_y1 := Imp.go y1 (by omega))); (try (have i_y2 := Imp.go y2 (by omega))); (try (have i_y3 := Imp.go y3 (by omega))); (try (have i_y4 := Imp.go y4 (by omega))); omega))))), (Imp.mk (fun hp => have hp : p0.toInt ≠ 10 := hp; (show (V190 0 90).toInt = (V 0 90).toInt ∧ (V190 0 91).toInt = (V 0 91).toInt from by first | exact om_4c4f47d165b0 pq197 pq198 | first | omega | ((try (have i_y3 := Imp.go y3 (f175))); omega) | ((try (have i_y4 := Imp.go y4 (by omega))); (try (have i_y3 := Imp.go y3 (by omega))); (try (have i_y2 := Imp.go y2 (by omega))); (try (have i_y1 := Imp.go y1 (by omega))); first | omega | ((try (have i_y1 := Imp.go y1 (by omega))); (try (have i_y2 := Imp.go y2 (by omega))); (try (have i_y3 := Imp.go y3 (by omega))); (try (have i_y4 := Imp.go y4 (by omega))); omega))))), (Imp.mk (fun hp => by exfalso; omega)), (Imp.mk (fun hp => by exfalso; omega)), (Imp.mk (fun _ t9 ht9 => by have k9 : Int32.toNatClampNeg (V181 0 98) = t9 := (by have h9 := i_clamp (x := V181 0 98) rfl (by (first | exact om_eafa9039069c r183.1 | omega)); omega); have a9 := t180; have b9 := t189; rw [k9] at a9 b9; exact ⟨b9.1.trans (ez184.trans (by rw [a9])), fun j9 hj9 => (b9.2 j9 (by omega)).trans (ajV181 97 _ rfl)⟩)), (Imp.mk (fun hp => by exfalso; omega)), (Imp.mk (fun hp => by exfalso; omega)), (Imp.mk (fun hp => by exfalso; omega)), (Imp.mk (fun hp => by exfalso; omega)), (Imp.mk (fun hp => by exfalso; omega)), (Imp.mk (fun hp => by exfalso; omega))⟩, by rw [ht]; exact hP, va_K.moved hW.alike hK, hD⟩, hS.F ht⟩) hS.2.2 dX12_reckons_173
        · skip
          have f199 : p0.toInt = 11 := b_eq rfl (by decide) c26
          refine lv_aload_n hx hb dX12_reckons_41 rfl (lv_at hl 0 rfl) ?_
          refine lv_iload_n hx hb dX12_reckons_42 rfl (lv_at hl 1 rfl) ?_
          refine lv_iconst (v := 2) hx hb dX12_reckons_43 (by decide) ?_
          refine lv_icmp_ne (tgt := 51) hx hb dX12_reckons_44 (by decide) (fun c200 => ?_) (fun c200 => ?_)
          · skip
            have f201 : p0.toInt ≠ 2 := b_neq rfl (by decide) c200
            refine lv_aload_n hx hb dX12_reckons_51 rfl (lv_at hl 0 rfl) ?_
            refine va_get (D := D) (ci := 12) (v := .ref (ad 18)) (C := RX12) (T := TX12) (N := 100) hx hb hg inX12 hown hK hP 0 rfl rfl 18 (by decide) (hg _ w1724) (fun _ h9 => h9) rfl dX12_reckons_52 ?_
            refine lv_bipush (v := 12) hx hb dX12_reckons_55 (by decide) ?_
            refine lv_aload_n hx hb dX12_reckons_57 rfl (lv_at hl 0 rfl) ?_
            refine va_get (D := D) (ci := 12) (v := .int (V 0 11)) (C := RX12) (T := TX12) (N := 100) hx hb hg inX12 hown hK hP 0 rfl rfl 11 (by decide) (hg _ w1717) (fun _ h9 => h9) rfl dX12_reckons_58 ?_
            have r202 : 0 ≤ ((V 0 11)).toInt ∧ ((V 0 11)).toInt ≤ 1 := hMV 0 11
            refine lv_imul hx hb dX12_reckons_61 ?_
            refine lv_topi (fun z203 ez203 => ?_)
            have hz203 : z203.toInt = 12 * ((V 0 11)).toInt := i_mul ez203 (by decide) rfl (by (first | exact om_630bd6ee60c3 r202.1 r202.2 | omega))
            refine lv_iload_n hx hb dX12_reckons_62 rfl (lv_at hl 2 rfl) ?_
            refine lv_iadd hx hb dX12_reckons_63 ?_
            have r204 := i_full p1
            refine lv_topi (fun z205 ez205 => ?_)
            have hz205 : Imp (-2147483648 ≤ z203.toInt + p1.toInt ∧ z203.toInt + p1.toInt ≤ 2147483647) (z205.toInt = z203.toInt + p1.toInt) := Imp.mk (fun hp => i_add ez205 rfl rfl hp)
            refine va_iald (D := D) (i := z205) hx hb hK hP 11 10 rfl rfl (i_in (a := z205.toInt) rfl (by first | exact om_2070488757ad r202.1 r202.2 hz203 ((Imp.go y1 (f199)).1) ((Imp.go y1 (f199)).2) ((Imp.go hz205 (om_385c9d290509 r202.1 r202.2 hz203 ((Imp.go y1 (f199)).1) ((Imp.go y1 (f199)).2)))) | first | omega | ((try (have i_y1 := Imp.go y1 (f199))); omega) | ((try (have i_hz205 := Imp.go hz205 (by omega))); (try (have i_y4 := Imp.go y4 (by omega))); (try (have i_y3 := Imp.go y3 (by omega))); (try (have i_y2 := Imp.go y2 (by omega))); first | omega | ((try (have i_y1 := Imp.go y1 (by omega))); (try (have i_y1 := Imp.go y1 (by omega))); (try (have i_y2 := Imp.go y2 (by omega))); (try (have i_y3 := Imp.go y3 (by omega))); (try (have i_y4 := Imp.go y4 (by omega))); (try (have i_hz205 := Imp.go hz205 (by omega))); omega)))) dX12_reckons_64 ?_
            refine gA_void (gA_runV (As := [.int (V 18 (Int32.toNatClampNeg z205))]) (rest := []) (ci := 12) (q0 := 0) hx hb hml hown hg hP hD hK hS hA hnw hgk (s_push3 l D ks H.size ad kk V L (V 18 (Int32.toNatClampNeg z205)) hMV (show (V 0 98).toInt ≤ 19999 from by first | exact om_30759f379686 ((Imp.go y2 (om_9a51e08a4da0 rg_p0.2 f199))) | first | omega | ((try (have i_y1 := Imp.go y1 (f199))); omega) | ((try (have i_hz205 := Imp.go hz205 (by omega))); (try (have i_y4 := Imp.go y4 (by omega))); (try (have i_y3 := Imp.go y3 (by omega))); (try (have i_y2 := Imp.go y2 (by omega))); first | omega | ((try (have i_y1 := Imp.go y1 (by omega))); (try (have i_y1 := Imp.go y1 (by omega))); (try (have i_y2 := Imp.go y2 (by omega))); (try (have i_y3 := Imp.go y3 (by omega))); (try (have i_y4 := Imp.go y4 (by omega))); (try (have i_hz205 := Imp.go hz205 (by omega))); omega)))) w2304 w2306 w145 w172 w2307 rfl rfl hdV_yX12_push ⟨Nat.le_of_ble_eq_true rfl, Nat.le_of_ble_eq_true rfl⟩ rfl hl.1 rfl (Nat.le_of_ble_eq_true rfl) dX12_reckons_65 ⟨Nat.le_of_ble_eq_true rfl, Nat.le_of_ble_eq_true rfl⟩) hP hD hK hS hA (fun u207 H locs w208 hP hD hK hS => ?_)
            obtain ⟨V211, L212⟩ := u207
            obtain ⟨hMV211, ajV211, axL212, t209, t210⟩ := w208
            have axL212 : L = L212 := Eq.symm axL212
            subst axL212
            have hP : va_P D vwCl (mw ad kk ks.1 V211 L) H := hP
            have hD : va_D A (mw ad kk ks.1 V211 L) := hD
            have hMV211 : rgd bM V211 := hMV211
            have ajV211 : agr [(0, 98)] [97] V V211 := ajV211
            have agV211 : agr [(0, 68), (0, 69), (0, 90), (0, 91), (0, 98)] [97] V V211 := agV.tr ajV211 (by decide) (by decide)
            have t209 : (V211 0 98).toInt = (V 0 98).toInt + 1 := t209
            have t210 : V211 97 (Int32.toNatClampNeg (V 0 98)) = (V 18 (Int32.toNatClampNeg z205)) ∧ ∀ j9, j9 ≠ Int32.toNatClampNeg (V 0 98) → V211 97 j9 = V 97 j9 := t210
            have r213 : 0 ≤ ((V211 0 98)).toInt ∧ ((V211 0 98)).toInt ≤ 20000 := hMV211 0 98
            refine lv_goto (tgt := 172) hx hb dX12_reckons_68 (by decide) ?_
            refine lv_iconst (v := 0) hx hb dX12_reckons_172 (by decide) ?_
            have pq214 : (V211 0 69).toInt = ((V 0 69)).toInt := congrArg Int32.toInt (ajV211 0 69 rfl)
            have r215 : 0 ≤ ((V 0 69)).toInt ∧ ((V 0 69)).toInt ≤ 3000 := hMV 0 69
            have pq216 : (V211 0 68).toInt = ((V 0 68)).toInt := congrArg Int32.toInt (ajV211 0 68 rfl)
            have r217 : 0 ≤ ((V 0 68)).toInt ∧ ((V 0 68)).toInt ≤ 60000 := hMV 0 68
            have pq218 : (V211 0 91).toInt = ((V 0 91)).toInt := congrArg Int32.toInt (ajV211 0 91 rfl)
            have pq219 : (V211 0 90).toInt = ((V 0 90)).toInt := congrArg Int32.toInt (ajV211 0 90 rfl)
            have kz9 : Int32.toNatClampNeg z205 = 12 * nwh V + Int32.toNatClampNeg p1 := by (have i9 := Imp.go y1 (by (first | exact om_8955224559b9 rg_p0.2 f199 | omega))); (have b11 := hMV 0 11); (have b11 : 0 ≤ (V 0 11).toInt ∧ (V 0 11).toInt ≤ 1 := b11); (have j9 := Imp.go hz205 (by omega)); (have h9 := i_clamp (x := z205) rfl (by omega)); (have h8 := i_clamp (x := V 0 11) rfl (by (first | exact om_eafa9039069c r202.1 | omega))); (have h7 := i_clamp (x := p1) rfl (by omega)); unfold nwh; omega
            exact W.iret (v := 0) hx hb hr (fun t ht hW => ⟨⟨0, (V211, L), rfl, ⟨hMV211, agV211, rfl, (by decide), (Imp.mk (fun hp => have hp : p0.toInt = 1 := hp; (show (V211 0 98).toInt = (V 0 98).toInt ∧ ((0 = 0 ∧ (V211 0 69).toInt = (V 0 69).toInt + 1 ∧ (V211 0 68).toInt = (V 0 68).toInt + 1 ∧ (V 0 69).toInt < 3000 ∧ (V 0 68).toInt < 60000) ∨ (0 = 2 ∧ (V211 0 69).toInt = (V 0 69).toInt ∧ (V211 0 68).toInt = (V 0 68).toInt ∧ ((V 0 69).toInt = 3000 ∨ (V 0 68).toInt = 60000))) from by first | omega | ((try (have i_y1 := Imp.go y1 (f199))); omega) | ((try (have i_hz205 := Imp.go hz205 (by omega))); (try (have i_y4 := Imp.go y4 (by omega))); (try (have i_y3 := Imp.go y3 (by omega))); (try (have i_y2 := Imp.go y2 (by omega))); first | omega | ((try (have i_y1 := Imp.go y1 (by omega))); (try (have i_y1 := Imp.go y1 (by omega))); (try (have i_y2 := Imp.go y2 (by omega))); (try (have i_y3 := Imp.go y3 (by omega))); (try (have i_y4 := Imp.go y4 (by omega))); (try (have i_hz205 := Imp.go hz205 (by omega))); omega))))), (Imp.mk (fun hp => have hp : p0.toInt = 10 := hp; (show 0 = 1 ∧ (V211 0 98).toInt = (V 0 98).toInt ∧ (V211 0 90).toInt = 0 ∧ (V211 0 91).toInt = p1.toInt from by first | omega | ((try (have i_y1 := Imp.go y1 (f199))); omega) | ((try (have i_hz205 := Imp.go hz205 (by omega))); (try (have i_y4 := Imp.go y4 (by omega))); (try (have i_y3 := Imp.go y3 (by omega))); (try (have i_y2 := Imp.go y2 (by omega))); first | omega | ((try (have i_y1 := Imp.go y1 (by omega))); (try (have i_y1 := Imp.go y1 (by omega))); (try (have i_y2 := Imp.go y2 (by omega))); (try (have i_y3 := Imp.go y3 (by omega))); (try (have i_y4 := Imp.go y4 (by omega))); (try (have i_hz205 := Imp.go hz205 (by omega))); omega))))), (Imp.mk (fun hp => have hp : p0.toInt = 2 ∨ p0.toInt = 11 := hp; (show 0 = 0 ∧ (V211 0 98).toInt = (V 0 98).toInt + 1 from by first | omega | ((try (have i_y2 := Imp.go y2 (hp))); (try (have i_y1 := Imp.go y1 (f199))); omega) | ((try (have i_hz205 := Imp.go hz205 (by omega))); (try (have i_y4 := Imp.go y4 (by omega))); (try (have i_y3 := Imp.go y3 (by omega))); (try (have i_y2 := Imp.go y2 (by omega))); first | omega | ((try (have i_y1 := Imp.go y1 (by omega))); (try (have i_y1 := Imp.go y1 (by omega))); (try (have i_y2 := Imp.go y2 (by omega))); (try (have i_y3 := Imp.go y3 (by omega))); (try (have i_y4 := Imp.go y4 (by omega))); (try (have i_hz205 := Imp.go hz205 (by omega))); omega))))), (Imp.mk (fun hp => have hp : p0.toInt = 4 := hp; (show 0 = 0 ∧ (V211 0 98).toInt = (V 0 98).toInt from by first | omega | ((try (have i_y3 := Imp.go y3 (hp))); (try (have i_y1 := Imp.go y1 (f199))); omega) | ((try (have i_hz205 := Imp.go hz205 (by omega))); (try (have i_y4 := Imp.go y4 (by omega))); (try (have i_y3 := Imp.go y3 (by omega))); (try (have i_y2 := Imp.go y2 (by omega))); first | omega | ((try (have i_y1 := Imp.go y1 (by omega))); (try (have i_y1 := Imp.go y1 (by omega))); (try (have i_y2 := Imp.go y2 (by omega))); (try (have i_y3 := Imp.go y3 (by omega))); (try (have i_y4 := Imp.go y4 (by omega))); (try (have i_hz205 := Imp.go hz205 (by omega))); omega))))), (Imp.mk (fun hp => have hp : 5 ≤ p0.toInt ∧ p0.toInt ≤ 9 := hp; (show 0 = 0 ∧ (V211 0 98).toInt = (V 0 98).toInt - 1 from by first | omega | ((try (have i_y1 := Imp.go y1 (f199))); omega) | ((try (have i_hz205 := Imp.go hz205 (by omega))); (try (have i_y4 := Imp.go y4 (by omega))); (try (have i_y3 := Imp.go y3 (by omega))); (try (have i_y2 := Imp.go y2 (by omega))); first | omega | ((try (have i_y1 := Imp.go y1 (by omega))); (try (have i_y1 := Imp.go y1 (by omega))); (try (have i_y2 := Imp.go y2 (by omega))); (try (have i_y3 := Imp.go y3 (by omega))); (try (have i_y4 := Imp.go y4 (by omega))); (try (have i_hz205 := Imp.go hz205 (by omega))); omega))))), (Imp.mk (fun hp => have hp : p0.toInt ≠ 1 := hp; (show (V211 0 69).toInt = (V 0 69).toInt ∧ (V211 0 68).toInt = (V 0 68).toInt from by first | exact om_67673d8f6684 pq214 pq216 | first | omega | ((try (have i_y1 := Imp.go y1 (f199))); omega) | ((try (have i_hz205 := Imp.go hz205 (by omega))); (try (have i_y4 := Imp.go y4 (by omega))); (try (have i_y3 := Imp.go y3 (by omega))); (try (have i_y2 := Imp.go y2 (by omega))); first | omega | ((try (have i_y1 := Imp.go y1 (by omega))); (try (have i_y1 := Imp.go y1 (by omega))); (try (have i_y2 := Imp.go y2 (by omega))); (try (have i_y3 := Imp.go y3 (by omega))); (try (have i_y4 := Imp.go y4 (by omega))); (try (have i_hz205 := Imp.go hz205 (by omega))); omega))))), (Imp.mk (fun hp => have hp : p0.toInt ≠ 10 := hp; (show (V211 0 90).toInt = (V 0 90).toInt ∧ (V211 0 91).toInt = (V 0 91).toInt from by first | exact om_4c4f47d165b0 pq218 pq219 | first | omega | ((try (have i_y1 := Imp.go y1 (f199))); omega) | ((try (have i_hz205 := Imp.go hz205 (by omega))); (try (have i_y4 := Imp.go y4 (by omega))); (try (have i_y3 := Imp.go y3 (by omega))); (try (have i_y2 := Imp.go y2 (by omega))); first | omega | ((try (have i_y1 := Imp.go y1 (by omega))); (try (have i_y1 := Imp.go y1 (by omega))); (try (have i_y2 := Imp.go y2 (by omega))); (try (have i_y3 := Imp.go y3 (by omega))); (try (have i_y4 := Imp.go y4 (by omega))); (try (have i_hz205 := Imp.go hz205 (by omega))); omega))))), (Imp.mk (fun hp => by exfalso; omega)), (Imp.mk (fun _ => by rw [← kz9]; exact t210)), (Imp.mk (fun hp => by exfalso; omega)), (Imp.mk (fun hp => by exfalso; omega)), (Imp.mk (fun hp => by exfalso; omega)), (Imp.mk (fun hp => by exfalso; omega)), (Imp.mk (fun hp => by exfalso; omega)), (Imp.mk (fun hp => by exfalso; omega)), (Imp.mk (fun hp => by exfalso; omega))⟩, by rw [ht]; exact hP, va_K.moved hW.alike hK, hD⟩, hS.F ht⟩) hS.2.2 dX12_reckons_173
          · skip
            have f220 : p0.toInt = 2 := b_eq rfl (by decide) c200
            exfalso; first | exact om_6510533e50dd f25 f199 f220 | first | omega | ((try (have i_y1 := Imp.go y1 (f199))); omega) | ((try (have i_y4 := Imp.go y4 (by omega))); (try (have i_y3 := Imp.go y3 (by omega))); (try (have i_y2 := Imp.go y2 (by omega))); (try (have i_y1 := Imp.go y1 (by omega))); first | omega | ((try (have i_y1 := Imp.go y1 (by omega))); (try (have i_y2 := Imp.go y2 (by omega))); (try (have i_y3 := Imp.go y3 (by omega))); (try (have i_y4 := Imp.go y4 (by omega))); omega))
    · skip
      have f221 : p0.toInt = 10 := b_eq rfl (by decide) c4
      refine lv_aload_n hx hb dX12_reckons_24 rfl (lv_at hl 0 rfl) ?_
      refine lv_iload_n hx hb dX12_reckons_25 rfl (lv_at hl 2 rfl) ?_
      refine gA_int (gA_runV (As := [.int p1]) (rest := []) (ci := 12) (q0 := 0) hx hb hml hown hg hP hD hK hS hA hnw hgk (s_fails3 l D ks H.size ad kk V L p1 hMV ) w2247 w2249 w131 w172 w2250 rfl rfl hdV_yX12_fails ⟨Nat.le_of_ble_eq_true rfl, Nat.le_of_ble_eq_true rfl⟩ rfl hl.1 rfl (Nat.le_of_ble_eq_true rfl) dX12_reckons_26 ⟨Nat.le_of_ble_eq_true rfl, Nat.le_of_ble_eq_true rfl⟩) hP hD hK hS hA (fun z222 u223 H locs w224 hP hD hK hS => ?_)
      obtain ⟨V227, L228⟩ := u223
      obtain ⟨hMV227, ajV227, axL228, rgz222, t225, t226⟩ := w224
      have axL228 : L = L228 := Eq.symm axL228
      subst axL228
      have hP : va_P D vwCl (mw ad kk ks.1 V227 L) H := hP
      have hD : va_D A (mw ad kk ks.1 V227 L) := hD
      have hMV227 : rgd bM V227 := hMV227
      have ajV227 : agr [(0, 90), (0, 91)] [] V V227 := ajV227
      have agV227 : agr [(0, 68), (0, 69), (0, 90), (0, 91), (0, 98)] [97] V V227 := agV.tr ajV227 (by decide) (by decide)
      have rgz222 : 1 ≤ z222.toInt ∧ z222.toInt ≤ 1 := rgz222
      have t225 : (V227 0 90).toInt = 0 := t225
      have t226 : (V227 0 91).toInt = p1.toInt := t226
      have pq229 : (V227 0 69).toInt = ((V 0 69)).toInt := congrArg Int32.toInt (ajV227 0 69 rfl)
      have r230 : 0 ≤ ((V 0 69)).toInt ∧ ((V 0 69)).toInt ≤ 3000 := hMV 0 69
      have pq231 : (V227 0 68).toInt = ((V 0 68)).toInt := congrArg Int32.toInt (ajV227 0 68 rfl)
      have r232 : 0 ≤ ((V 0 68)).toInt ∧ ((V 0 68)).toInt ≤ 60000 := hMV 0 68
      have pq233 : (V227 0 98).toInt = ((V 0 98)).toInt := congrArg Int32.toInt (ajV227 0 98 rfl)
      exact W.iret (v := z222) hx hb hr (fun t ht hW => ⟨⟨z222, (V227, L), rfl, ⟨hMV227, agV227, rfl, (show 0 ≤ z222.toInt ∧ z222.toInt ≤ 2 from by first | exact om_4a983af70113 rgz222.1 rgz222.2 | first | omega | ((try (have i_y4 := Imp.go y4 (by omega))); (try (have i_y3 := Imp.go y3 (by omega))); (try (have i_y2 := Imp.go y2 (by omega))); (try (have i_y1 := Imp.go y1 (by omega))); first | omega | ((try (have i_y1 := Imp.go y1 (by omega))); (try (have i_y2 := Imp.go y2 (by omega))); (try (have i_y3 := Imp.go y3 (by omega))); (try (have i_y4 := Imp.go y4 (by omega))); omega))), (Imp.mk (fun hp => have hp : p0.toInt = 1 := hp; (show (V227 0 98).toInt = (V 0 98).toInt ∧ ((z222.toInt = 0 ∧ (V227 0 69).toInt = (V 0 69).toInt + 1 ∧ (V227 0 68).toInt = (V 0 68).toInt + 1 ∧ (V 0 69).toInt < 3000 ∧ (V 0 68).toInt < 60000) ∨ (z222.toInt = 2 ∧ (V227 0 69).toInt = (V 0 69).toInt ∧ (V227 0 68).toInt = (V 0 68).toInt ∧ ((V 0 69).toInt = 3000 ∨ (V 0 68).toInt = 60000))) from by first | omega | ((try (have i_y4 := Imp.go y4 (by omega))); (try (have i_y3 := Imp.go y3 (by omega))); (try (have i_y2 := Imp.go y2 (by omega))); (try (have i_y1 := Imp.go y1 (by omega))); first | omega | ((try (have i_y1 := Imp.go y1 (by omega))); (try (have i_y2 := Imp.go y2 (by omega))); (try (have i_y3 := Imp.go y3 (by omega))); (try (have i_y4 := Imp.go y4 (by omega))); omega))))), (Imp.mk (fun hp => have hp : p0.toInt = 10 := hp; (show z222.toInt = 1 ∧ (V227 0 98).toInt = (V 0 98).toInt ∧ (V227 0 90).toInt = 0 ∧ (V227 0 91).toInt = p1.toInt from by first | exact om_537998cc9c87 rgz222.1 rgz222.2 t225 t226 pq233 | first | omega | ((try (have i_y4 := Imp.go y4 (by omega))); (try (have i_y3 := Imp.go y3 (by omega))); (try (have i_y2 := Imp.go y2 (by omega))); (try (have i_y1 := Imp.go y1 (by omega))); first | omega | ((try (have i_y1 := Imp.go y1 (by omega))); (try (have i_y2 := Imp.go y2 (by omega))); (try (have i_y3 := Imp.go y3 (by omega))); (try (have i_y4 := Imp.go y4 (by omega))); omega))))), (Imp.mk (fun hp => have hp : p0.toInt = 2 ∨ p0.toInt = 11 := hp; (show z222.toInt = 0 ∧ (V227 0 98).toInt = (V 0 98).toInt + 1 from by first | omega | ((try (have i_y2 := Imp.go y2 (hp))); omega) | ((try (have i_y4 := Imp.go y4 (by omega))); (try (have i_y3 := Imp.go y3 (by omega))); (try (have i_y2 := Imp.go y2 (by omega))); (try (have i_y1 := Imp.go y1 (by omega))); first | omega | ((try (have i_y1 := Imp.go y1 (by omega))); (try (have i_y2 := Imp.go y2 (by omega))); (try (have i_y3 := Imp.go y3 (by omega))); (try (have i_y4 := Imp.go y4 (by omega))); omega))))), (Imp.mk (fun hp => have hp : p0.toInt = 4 := hp; (show z222.toInt = 0 ∧ (V227 0 98).toInt = (V 0 98).toInt from by first | omega | ((try (have i_y3 := Imp.go y3 (hp))); omega) | ((try (have i_y4 := Imp.go y4 (by omega))); (try (have i_y3 := Imp.go y3 (by omega))); (try (have i_y2 := Imp.go y2 (by omega))); (try (have i_y1 := Imp.go y1 (by omega))); first | omega | ((try (have i_y1 := Imp.go y1 (by omega))); (try (have i_y2 := Imp.go y2 (by omega))); (try (have i_y3 := Imp.go y3 (by omega))); (try (have i_y4 := Imp.go y4 (by omega))); omega))))), (Imp.mk (fun hp => have hp : 5 ≤ p0.toInt ∧ p0.toInt ≤ 9 := hp; (show z222.toInt = 0 ∧ (V227 0 98).toInt = (V 0 98).toInt - 1 from by first | omega | ((try (have i_y4 := Imp.go y4 (by omega))); (try (have i_y3 := Imp.go y3 (by omega))); (try (have i_y2 := Imp.go y2 (by omega))); (try (have i_y1 := Imp.go y1 (by omega))); first | omega | ((try (have i_y1 := Imp.go y1 (by omega))); (try (have i_y2 := Imp.go y2 (by omega))); (try (have i_y3 := Imp.go y3 (by omega))); (try (have i_y4 := Imp.go y4 (by omega))); omega))))), (Imp.mk (fun hp => have hp : p0.toInt ≠ 1 := hp; (show (V227 0 69).toInt = (V 0 69).toInt ∧ (V227 0 68).toInt = (V 0 68).toInt from by first | exact om_67673d8f6684 pq229 pq231 | first | omega | ((try (have i_y4 := Imp.go y4 (by omega))); (try (have i_y3 := Imp.go y3 (by omega))); (try (have i_y2 := Imp.go y2 (by omega))); (try (have i_y1 := Imp.go y1 (by omega))); first | omega | ((try (have i_y1 := Imp.go y1 (by omega))); (try (have i_y2 := Imp.go y2 (by omega))); (try (have i_y3 := Imp.go y3 (by omega))); (try (have i_y4 := Imp.go y4 (by omega))); omega))))), (Imp.mk (fun hp => have hp : p0.toInt ≠ 10 := hp; (show (V227 0 90).toInt = (V 0 90).toInt ∧ (V227 0 91).toInt = (V 0 91).toInt from by first | omega | ((try (have i_y4 := Imp.go y4 (by omega))); (try (have i_y3 := Imp.go y3 (by omega))); (try (have i_y2 := Imp.go y2 (by omega))); (try (have i_y1 := Imp.go y1 (by omega))); first | omega | ((try (have i_y1 := Imp.go y1 (by omega))); (try (have i_y2 := Imp.go y2 (by omega))); (try (have i_y3 := Imp.go y3 (by omega))); (try (have i_y4 := Imp.go y4 (by omega))); omega))))), (Imp.mk (fun hp => by exfalso; omega)), (Imp.mk (fun hp => by exfalso; omega)), (Imp.mk (fun hp => by exfalso; omega)), (Imp.mk (fun hp => by exfalso; omega)), (Imp.mk (fun hp => by exfalso; omega)), (Imp.mk (fun hp => by exfalso; omega)), (Imp.mk (fun hp => by exfalso; omega)), (Imp.mk (fun hp => by exfalso; omega)), (Imp.mk (fun _ j9 => (show agr [(0, 90), (0, 91)] [] V V227 from (agr.tr agr.rf ajV227 (by decide) (by decide))) 97 j9 rfl))⟩, by rw [ht]; exact hP, va_K.moved hW.alike hK, hD⟩, hS.F ht⟩) hS.2.2 dX12_reckons_29
  · skip
    have f234 : p0.toInt = 1 := b_eq rfl (by decide) c2
    refine lv_aload_n hx hb dX12_reckons_5 rfl (lv_at hl 0 rfl) ?_
    refine gA_int (gA_runV (As := []) (rest := []) (ci := 12) (q0 := 0) hx hb hml hown hg hP hD hK hS hA hnw hgk (s_step3 l D ks H.size ad kk V L  hMV ) w2259 w2261 w134 w172 w2262 rfl rfl hdV_yX12_step ⟨Nat.le_of_ble_eq_true rfl, Nat.le_of_ble_eq_true rfl⟩ rfl hl.1 rfl (Nat.le_of_ble_eq_true rfl) dX12_reckons_6 ⟨Nat.le_of_ble_eq_true rfl, Nat.le_of_ble_eq_true rfl⟩) hP hD hK hS hA (fun z235 u236 H locs w237 hP hD hK hS => ?_)
    obtain ⟨V240, L241⟩ := u236
    obtain ⟨hMV240, ajV240, axL241, rgz235, t238, t239⟩ := w237
    have axL241 : L = L241 := Eq.symm axL241
    subst axL241
    have hP : va_P D vwCl (mw ad kk ks.1 V240 L) H := hP
    have hD : va_D A (mw ad kk ks.1 V240 L) := hD
    have hMV240 : rgd bM V240 := hMV240
    have ajV240 : agr [(0, 68), (0, 69)] [] V V240 := ajV240
    have agV240 : agr [(0, 68), (0, 69), (0, 90), (0, 91), (0, 98)] [97] V V240 := agV.tr ajV240 (by decide) (by decide)
    have rgz235 : 0 ≤ z235.toInt ∧ z235.toInt ≤ 1 := rgz235
    have t238 : Imp (z235.toInt = 1) ((V240 0 69).toInt = (V 0 69).toInt + 1 ∧ (V240 0 68).toInt = (V 0 68).toInt + 1 ∧ (V 0 69).toInt < 3000 ∧ (V 0 68).toInt < 60000) := t238
    have t239 : Imp (z235.toInt = 0) ((V240 0 69).toInt = (V 0 69).toInt ∧ (V240 0 68).toInt = (V 0 68).toInt ∧ ((V 0 69).toInt = 3000 ∨ (V 0 68).toInt = 60000)) := t239
    have r242 : 0 ≤ ((V 0 69)).toInt ∧ ((V 0 69)).toInt ≤ 3000 := hMV 0 69
    have r243 : 0 ≤ ((V 0 68)).toInt ∧ ((V 0 68)).toInt ≤ 60000 := hMV 0 68
    have r244 : 0 ≤ ((V240 0 69)).toInt ∧ ((V240 0 69)).toInt ≤ 3000 := hMV240 0 69
    have r245 : 0 ≤ ((V240 0 68)).toInt ∧ ((V240 0 68)).toInt ≤ 60000 := hMV240 0 68
    refine lv_if_eq (tgt := 16) hx hb dX12_reckons_9 (by decide) (fun c246 => ?_) (fun c246 => ?_)
    · skip
      have f247 : z235.toInt = 0 := b_eq rfl (by decide) c246
      refine lv_iconst (v := 2) hx hb dX12_reckons_16 (by decide) ?_
      have pq248 : (V240 0 98).toInt = ((V 0 98)).toInt := congrArg Int32.toInt (ajV240 0 98 rfl)
      have pq249 : (V240 0 91).toInt = ((V 0 91)).toInt := congrArg Int32.toInt (ajV240 0 91 rfl)
      have pq250 : (V240 0 90).toInt = ((V 0 90)).toInt := congrArg Int32.toInt (ajV240 0 90 rfl)
      exact W.iret (v := 2) hx hb hr (fun t ht hW => ⟨⟨2, (V240, L), rfl, ⟨hMV240, agV240, rfl, (by decide), (Imp.mk (fun hp => have hp : p0.toInt = 1 := hp; (show (V240 0 98).toInt = (V 0 98).toInt ∧ ((2 = 0 ∧ (V240 0 69).toInt = (V 0 69).toInt + 1 ∧ (V240 0 68).toInt = (V 0 68).toInt + 1 ∧ (V 0 69).toInt < 3000 ∧ (V 0 68).toInt < 60000) ∨ (2 = 2 ∧ (V240 0 69).toInt = (V 0 69).toInt ∧ (V240 0 68).toInt = (V 0 68).toInt ∧ ((V 0 69).toInt = 3000 ∨ (V 0 68).toInt = 60000))) from by first | omega | ((try (have i_t239 := Imp.go t239 (f247))); omega) | ((try (have i_t239 := Imp.go t239 (by omega))); (try (have i_t238 := Imp.go t238 (by omega))); (try (have i_y4 := Imp.go y4 (by omega))); (try (have i_y3 := Imp.go y3 (by omega))); first | omega | ((try (have i_y2 := Imp.go y2 (by omega))); (try (have i_y1 := Imp.go y1 (by omega))); (try (have i_y1 := Imp.go y1 (by omega))); (try (have i_y2 := Imp.go y2 (by omega))); first | omega | ((try (have i_y3 := Imp.go y3 (by omega))); (try (have i_y4 := Imp.go y4 (by omega))); (try (have i_t238 := Imp.go t238 (by omega))); (try (have i_t239 := Imp.go t239 (by omega))); omega)))))), (Imp.mk (fun hp => have hp : p0.toInt = 10 := hp; (show 2 = 1 ∧ (V240 0 98).toInt = (V 0 98).toInt ∧ (V240 0 90).toInt = 0 ∧ (V240 0 91).toInt = p1.toInt from by first | omega | ((try (have i_t239 := Imp.go t239 (f247))); omega) | ((try (have i_t239 := Imp.go t239 (by omega))); (try (have i_t238 := Imp.go t238 (by omega))); (try (have i_y4 := Imp.go y4 (by omega))); (try (have i_y3 := Imp.go y3 (by omega))); first | omega | ((try (have i_y2 := Imp.go y2 (by omega))); (try (have i_y1 := Imp.go y1 (by omega))); (try (have i_y1 := Imp.go y1 (by omega))); (try (have i_y2 := Imp.go y2 (by omega))); first | omega | ((try (have i_y3 := Imp.go y3 (by omega))); (try (have i_y4 := Imp.go y4 (by omega))); (try (have i_t238 := Imp.go t238 (by omega))); (try (have i_t239 := Imp.go t239 (by omega))); omega)))))), (Imp.mk (fun hp => have hp : p0.toInt = 2 ∨ p0.toInt = 11 := hp; (show 2 = 0 ∧ (V240 0 98).toInt = (V 0 98).toInt + 1 from by first | omega | ((try (have i_t239 := Imp.go t239 (f247))); (try (have i_y2 := Imp.go y2 (hp))); omega) | ((try (have i_t239 := Imp.go t239 (by omega))); (try (have i_t238 := Imp.go t238 (by omega))); (try (have i_y4 := Imp.go y4 (by omega))); (try (have i_y3 := Imp.go y3 (by omega))); first | omega | ((try (have i_y2 := Imp.go y2 (by omega))); (try (have i_y1 := Imp.go y1 (by omega))); (try (have i_y1 := Imp.go y1 (by omega))); (try (have i_y2 := Imp.go y2 (by omega))); first | omega | ((try (have i_y3 := Imp.go y3 (by omega))); (try (have i_y4 := Imp.go y4 (by omega))); (try (have i_t238 := Imp.go t238 (by omega))); (try (have i_t239 := Imp.go t239 (by omega))); omega)))))), (Imp.mk (fun hp => have hp : p0.toInt = 4 := hp; (show 2 = 0 ∧ (V240 0 98).toInt = (V 0 98).toInt from by first | omega | ((try (have i_t239 := Imp.go t239 (f247))); (try (have i_y3 := Imp.go y3 (hp))); omega) | ((try (have i_t239 := Imp.go t239 (by omega))); (try (have i_t238 := Imp.go t238 (by omega))); (try (have i_y4 := Imp.go y4 (by omega))); (try (have i_y3 := Imp.go y3 (by omega))); first | omega | ((try (have i_y2 := Imp.go y2 (by omega))); (try (have i_y1 := Imp.go y1 (by omega))); (try (have i_y1 := Imp.go y1 (by omega))); (try (have i_y2 := Imp.go y2 (by omega))); first | omega | ((try (have i_y3 := Imp.go y3 (by omega))); (try (have i_y4 := Imp.go y4 (by omega))); (try (have i_t238 := Imp.go t238 (by omega))); (try (have i_t239 := Imp.go t239 (by omega))); omega)))))), (Imp.mk (fun hp => have hp : 5 ≤ p0.toInt ∧ p0.toInt ≤ 9 := hp; (show 2 = 0 ∧ (V240 0 98).toInt = (V 0 98).toInt - 1 from by first | omega | ((try (have i_t239 := Imp.go t239 (f247))); omega) | ((try (have i_t239 := Imp.go t239 (by omega))); (try (have i_t238 := Imp.go t238 (by omega))); (try (have i_y4 := Imp.go y4 (by omega))); (try (have i_y3 := Imp.go y3 (by omega))); first | omega | ((try (have i_y2 := Imp.go y2 (by omega))); (try (have i_y1 := Imp.go y1 (by omega))); (try (have i_y1 := Imp.go y1 (by omega))); (try (have i_y2 := Imp.go y2 (by omega))); first | omega | ((try (have i_y3 := Imp.go y3 (by omega))); (try (have i_y4 := Imp.go y4 (by omega))); (try (have i_t238 := Imp.go t238 (by omega))); (try (have i_t239 := Imp.go t239 (by omega))); omega)))))), (Imp.mk (fun hp => have hp : p0.toInt ≠ 1 := hp; (show (V240 0 69).toInt = (V 0 69).toInt ∧ (V240 0 68).toInt = (V 0 68).toInt from by first | omega | ((try (have i_t239 := Imp.go t239 (f247))); omega) | ((try (have i_t239 := Imp.go t239 (by omega))); (try (have i_t238 := Imp.go t238 (by omega))); (try (have i_y4 := Imp.go y4 (by omega))); (try (have i_y3 := Imp.go y3 (by omega))); first | omega | ((try (have i_y2 := Imp.go y2 (by omega))); (try (have i_y1 := Imp.go y1 (by omega))); (try (have i_y1 := Imp.go y1 (by omega))); (try (have i_y2 := Imp.go y2 (by omega))); first | omega | ((try (have i_y3 := Imp.go y3 (by omega))); (try (have i_y4 := Imp.go y4 (by omega))); (try (have i_t238 := Imp.go t238 (by omega))); (try (have i_t239 := Imp.go t239 (by omega))); omega)))))), (Imp.mk (fun hp => have hp : p0.toInt ≠ 10 := hp; (show (V240 0 90).toInt = (V 0 90).toInt ∧ (V240 0 91).toInt = (V 0 91).toInt from by first | exact om_4c4f47d165b0 pq249 pq250 | first | omega | ((try (have i_t239 := Imp.go t239 (f247))); omega) | ((try (have i_t239 := Imp.go t239 (by omega))); (try (have i_t238 := Imp.go t238 (by omega))); (try (have i_y4 := Imp.go y4 (by omega))); (try (have i_y3 := Imp.go y3 (by omega))); first | omega | ((try (have i_y2 := Imp.go y2 (by omega))); (try (have i_y1 := Imp.go y1 (by omega))); (try (have i_y1 := Imp.go y1 (by omega))); (try (have i_y2 := Imp.go y2 (by omega))); first | omega | ((try (have i_y3 := Imp.go y3 (by omega))); (try (have i_y4 := Imp.go y4 (by omega))); (try (have i_t238 := Imp.go t238 (by omega))); (try (have i_t239 := Imp.go t239 (by omega))); omega)))))), (Imp.mk (fun hp => by exfalso; omega)), (Imp.mk (fun hp => by exfalso; omega)), (Imp.mk (fun hp => by exfalso; omega)), (Imp.mk (fun hp => by exfalso; omega)), (Imp.mk (fun hp => by exfalso; omega)), (Imp.mk (fun hp => by exfalso; omega)), (Imp.mk (fun hp => by exfalso; omega)), (Imp.mk (fun hp => by exfalso; omega)), (Imp.mk (fun _ j9 => (show agr [(0, 68), (0, 69)] [] V V240 from (agr.tr agr.rf ajV240 (by decide) (by decide))) 97 j9 rfl))⟩, by rw [ht]; exact hP, va_K.moved hW.alike hK, hD⟩, hS.F ht⟩) hS.2.2 dX12_reckons_17
    · skip
      have f251 : z235.toInt ≠ 0 := b_neq rfl (by decide) c246
      refine lv_iconst (v := 0) hx hb dX12_reckons_12 (by decide) ?_
      refine lv_goto (tgt := 17) hx hb dX12_reckons_13 (by decide) ?_
      have pq252 : (V240 0 98).toInt = ((V 0 98)).toInt := congrArg Int32.toInt (ajV240 0 98 rfl)
      have pq253 : (V240 0 91).toInt = ((V 0 91)).toInt := congrArg Int32.toInt (ajV240 0 91 rfl)
      have pq254 : (V240 0 90).toInt = ((V 0 90)).toInt := congrArg Int32.toInt (ajV240 0 90 rfl)
      exact W.iret (v := 0) hx hb hr (fun t ht hW => ⟨⟨0, (V240, L), rfl, ⟨hMV240, agV240, rfl, (by decide), (Imp.mk (fun hp => have hp : p0.toInt = 1 := hp; (show (V240 0 98).toInt = (V 0 98).toInt ∧ ((0 = 0 ∧ (V240 0 69).toInt = (V 0 69).toInt + 1 ∧ (V240 0 68).toInt = (V 0 68).toInt + 1 ∧ (V 0 69).toInt < 3000 ∧ (V 0 68).toInt < 60000) ∨ (0 = 2 ∧ (V240 0 69).toInt = (V 0 69).toInt ∧ (V240 0 68).toInt = (V 0 68).toInt ∧ ((V 0 69).toInt = 3000 ∨ (V 0 68).toInt = 60000))) from by first | omega | ((try (have i_t238 := Imp.go t238 (imp_a (rgz235.1) (rgz235.2) (f251)))); omega) | ((try (have i_t239 := Imp.go t239 (by omega))); (try (have i_t238 := Imp.go t238 (by omega))); (try (have i_y4 := Imp.go y4 (by omega))); (try (have i_y3 := Imp.go y3 (by omega))); first | omega | ((try (have i_y2 := Imp.go y2 (by omega))); (try (have i_y1 := Imp.go y1 (by omega))); (try (have i_y1 := Imp.go y1 (by omega))); (try (have i_y2 := Imp.go y2 (by omega))); first | omega | ((try (have i_y3 := Imp.go y3 (by omega))); (try (have i_y4 := Imp.go y4 (by omega))); (try (have i_t238 := Imp.go t238 (by omega))); (try (have i_t239 := Imp.go t239 (by omega))); omega)))))), (Imp.mk (fun hp => have hp : p0.toInt = 10 := hp; (show 0 = 1 ∧ (V240 0 98).toInt = (V 0 98).toInt ∧ (V240 0 90).toInt = 0 ∧ (V240 0 91).toInt = p1.toInt from by first | omega | ((try (have i_t238 := Imp.go t238 (imp_a (rgz235.1) (rgz235.2) (f251)))); omega) | ((try (have i_t239 := Imp.go t239 (by omega))); (try (have i_t238 := Imp.go t238 (by omega))); (try (have i_y4 := Imp.go y4 (by omega))); (try (have i_y3 := Imp.go y3 (by omega))); first | omega | ((try (have i_y2 := Imp.go y2 (by omega))); (try (have i_y1 := Imp.go y1 (by omega))); (try (have i_y1 := Imp.go y1 (by omega))); (try (have i_y2 := Imp.go y2 (by omega))); first | omega | ((try (have i_y3 := Imp.go y3 (by omega))); (try (have i_y4 := Imp.go y4 (by omega))); (try (have i_t238 := Imp.go t238 (by omega))); (try (have i_t239 := Imp.go t239 (by omega))); omega)))))), (Imp.mk (fun hp => have hp : p0.toInt = 2 ∨ p0.toInt = 11 := hp; (show 0 = 0 ∧ (V240 0 98).toInt = (V 0 98).toInt + 1 from by first | omega | ((try (have i_t238 := Imp.go t238 (imp_a (rgz235.1) (rgz235.2) (f251)))); (try (have i_y2 := Imp.go y2 (hp))); omega) | ((try (have i_t239 := Imp.go t239 (by omega))); (try (have i_t238 := Imp.go t238 (by omega))); (try (have i_y4 := Imp.go y4 (by omega))); (try (have i_y3 := Imp.go y3 (by omega))); first | omega | ((try (have i_y2 := Imp.go y2 (by omega))); (try (have i_y1 := Imp.go y1 (by omega))); (try (have i_y1 := Imp.go y1 (by omega))); (try (have i_y2 := Imp.go y2 (by omega))); first | omega | ((try (have i_y3 := Imp.go y3 (by omega))); (try (have i_y4 := Imp.go y4 (by omega))); (try (have i_t238 := Imp.go t238 (by omega))); (try (have i_t239 := Imp.go t239 (by omega))); omega)))))), (Imp.mk (fun hp => have hp : p0.toInt = 4 := hp; (show 0 = 0 ∧ (V240 0 98).toInt = (V 0 98).toInt from by first | omega | ((try (have i_t238 := Imp.go t238 (imp_a (rgz235.1) (rgz235.2) (f251)))); (try (have i_y3 := Imp.go y3 (hp))); omega) | ((try (have i_t239 := Imp.go t239 (by omega))); (try (have i_t238 := Imp.go t238 (by omega))); (try (have i_y4 := Imp.go y4 (by omega))); (try (have i_y3 := Imp.go y3 (by omega))); first | omega | ((try (have i_y2 := Imp.go y2 (by omega))); (try (have i_y1 := Imp.go y1 (by omega))); (try (have i_y1 := Imp.go y1 (by omega))); (try (have i_y2 := Imp.go y2 (by omega))); first | omega | ((try (have i_y3 := Imp.go y3 (by omega))); (try (have i_y4 := Imp.go y4 (by omega))); (try (have i_t238 := Imp.go t238 (by omega))); (try (have i_t239 := Imp.go t239 (by omega))); omega)))))), (Imp.mk (fun hp => have hp : 5 ≤ p0.toInt ∧ p0.toInt ≤ 9 := hp; (show 0 = 0 ∧ (V240 0 98).toInt = (V 0 98).toInt - 1 from by first | omega | ((try (have i_t238 := Imp.go t238 (imp_a (rgz235.1) (rgz235.2) (f251)))); omega) | ((try (have i_t239 := Imp.go t239 (by omega))); (try (have i_t238 := Imp.go t238 (by omega))); (try (have i_y4 := Imp.go y4 (by omega))); (try (have i_y3 := Imp.go y3 (by omega))); first | omega | ((try (have i_y2 := Imp.go y2 (by omega))); (try (have i_y1 := Imp.go y1 (by omega))); (try (have i_y1 := Imp.go y1 (by omega))); (try (have i_y2 := Imp.go y2 (by omega))); first | omega | ((try (have i_y3 := Imp.go y3 (by omega))); (try (have i_y4 := Imp.go y4 (by omega))); (try (have i_t238 := Imp.go t238 (by omega))); (try (have i_t239 := Imp.go t239 (by omega))); omega)))))), (Imp.mk (fun hp => have hp : p0.toInt ≠ 1 := hp; (show (V240 0 69).toInt = (V 0 69).toInt ∧ (V240 0 68).toInt = (V 0 68).toInt from by first | omega | ((try (have i_t238 := Imp.go t238 (imp_a (rgz235.1) (rgz235.2) (f251)))); omega) | ((try (have i_t239 := Imp.go t239 (by omega))); (try (have i_t238 := Imp.go t238 (by omega))); (try (have i_y4 := Imp.go y4 (by omega))); (try (have i_y3 := Imp.go y3 (by omega))); first | omega | ((try (have i_y2 := Imp.go y2 (by omega))); (try (have i_y1 := Imp.go y1 (by omega))); (try (have i_y1 := Imp.go y1 (by omega))); (try (have i_y2 := Imp.go y2 (by omega))); first | omega | ((try (have i_y3 := Imp.go y3 (by omega))); (try (have i_y4 := Imp.go y4 (by omega))); (try (have i_t238 := Imp.go t238 (by omega))); (try (have i_t239 := Imp.go t239 (by omega))); omega)))))), (Imp.mk (fun hp => have hp : p0.toInt ≠ 10 := hp; (show (V240 0 90).toInt = (V 0 90).toInt ∧ (V240 0 91).toInt = (V 0 91).toInt from by first | exact om_4c4f47d165b0 pq253 pq254 | first | omega | ((try (have i_t238 := Imp.go t238 (imp_a (rgz235.1) (rgz235.2) (f251)))); omega) | ((try (have i_t239 := Imp.go t239 (by omega))); (try (have i_t238 := Imp.go t238 (by omega))); (try (have i_y4 := Imp.go y4 (by omega))); (try (have i_y3 := Imp.go y3 (by omega))); first | omega | ((try (have i_y2 := Imp.go y2 (by omega))); (try (have i_y1 := Imp.go y1 (by omega))); (try (have i_y1 := Imp.go y1 (by omega))); (try (have i_y2 := Imp.go y2 (by omega))); first | omega | ((try (have i_y3 := Imp.go y3 (by omega))); (try (have i_y4 := Imp.go y4 (by omega))); (try (have i_t238 := Imp.go t238 (by omega))); (try (have i_t239 := Imp.go t239 (by omega))); omega)))))), (Imp.mk (fun hp => by exfalso; omega)), (Imp.mk (fun hp => by exfalso; omega)), (Imp.mk (fun hp => by exfalso; omega)), (Imp.mk (fun hp => by exfalso; omega)), (Imp.mk (fun hp => by exfalso; omega)), (Imp.mk (fun hp => by exfalso; omega)), (Imp.mk (fun hp => by exfalso; omega)), (Imp.mk (fun hp => by exfalso; omega)), (Imp.mk (fun _ j9 => (show agr [(0, 68), (0, 69)] [] V V240 from (agr.tr agr.rf ajV240 (by decide) (by decide))) 97 j9 rfl))⟩, by rw [ht]; exact hP, va_K.moved hW.alike hK, hD⟩, hS.F ht⟩) hS.2.2 dX12_reckons_17
abbrev r_s_placeOf3 : Room := { frames := 0, cells := 0, slots := 0, locals := 0 }
abbrev q_s_placeOf3 (D : va_G) (ks : KS) (ad : Nat → Nat) (kk : Nat → ClassId) (V : Vf) (L : Lf) (p0 : Int32) (p1 : Int32) (gB : Bk) (gs : Int) (gt : Int) (gu : Int) (A : Nat → Prop) : Array Value → State → Outcome → State → Prop := va_Qi (fun (r : Int32) (_ : Unit) => ((-1) ≤ r.toInt ∧ r.toInt ≤ 39) ∧ (r.toInt = plc (mV V gs gt gu) (bS gB (Int32.toNatClampNeg p0)) p1.toInt)) (fun _ t => gq D A (mw ad kk ks.1 V L) (mty kk) t) A
set_option maxHeartbeats 4000000 in
set_option maxRecDepth 100000 in
theorem s_placeOf3 (l : Launch) (D : va_G) (ks : KS) (sz : Nat) (ad : Nat → Nat) (kk : Nat → ClassId) (V : Vf) (L : Lf) (p0 : Int32) (p1 : Int32) (gB : Bk) (gs : Int) (gt : Int) (gu : Int) (hMV : rgd bM V) (rg_p0 : 0 ≤ p0.toInt ∧ p0.toInt ≤ 23) (rg_p1 : 0 ≤ p1.toInt ∧ p1.toInt ≤ 39) (bk : BKm V gB) (cl9 : Int32.toNatClampNeg p0 < nC gB)  : Met l yX12_placeOf (Cond.code yX12_placeOf cX12_placeOf 4 (some .int) :: GW) r_s_placeOf3 (va_Pc [.ref (ad 0), .int p0, .int p1] (gp D ks (mw ad kk ks.1 V L) (mty kk) sz)) (q_s_placeOf3 D ks ad kk V L p0 p1 gB gs gt gu (va_A (mw ad kk ks.1 V L) sz)) 0 0 (va_A (mw ad kk ks.1 V L) sz) := by
  refine g_met (q_s_placeOf3 D ks ad kk V L p0 p1 gB gs gt gu) (by decide) (Nat.le_of_ble_eq_true rfl) ?_
  intro p e s m below meth c A ls H locs hx hb hr hml hown hg hlocks hin hnw hgk hP hK hD hS hA hl
  have hown : s.vm.findClass RX12 = some m.cls := hown
  have hl : lv_has ls 4 [(0, .ref (ad 0)), (1, .int p0), (2, .int p1)] := hl
  have hP : va_P D vwCl (mw ad kk ks.1 V L) H := hP
  have hD : va_D A (mw ad kk ks.1 V L) := hD
  have hK : va_K D vwCl (mty kk) s := hK
  refine lv_aload_n hx hb dX12_placeOf_0 rfl (lv_at hl 0 rfl) ?_
  refine va_get (D := D) (ci := 12) (v := .ref (ad 22)) (C := RX12) (T := TX12) (N := 100) hx hb hg inX12 hown hK hP 0 rfl rfl 22 (by decide) (hg _ w1728) (fun _ h9 => h9) rfl dX12_placeOf_1 ?_
  refine lv_bipush (v := 24) hx hb dX12_placeOf_4 (by decide) ?_
  refine lv_aload_n hx hb dX12_placeOf_6 rfl (lv_at hl 0 rfl) ?_
  refine va_get (D := D) (ci := 12) (v := .int (V 0 11)) (C := RX12) (T := TX12) (N := 100) hx hb hg inX12 hown hK hP 0 rfl rfl 11 (by decide) (hg _ w1717) (fun _ h9 => h9) rfl dX12_placeOf_7 ?_
  have r1 : 0 ≤ ((V 0 11)).toInt ∧ ((V 0 11)).toInt ≤ 1 := hMV 0 11
  refine lv_imul hx hb dX12_placeOf_10 ?_
  refine lv_topi (fun z2 ez2 => ?_)
  have hz2 : z2.toInt = 24 * ((V 0 11)).toInt := i_mul ez2 (by decide) rfl (by (first | exact om_3f8aba7b6ce1 r1.1 r1.2 | omega))
  refine lv_iload_n hx hb dX12_placeOf_11 rfl (lv_at hl 1 rfl) ?_
  refine lv_iadd hx hb dX12_placeOf_12 ?_
  refine lv_topi (fun z3 ez3 => ?_)
  have hz3 : z3.toInt = z2.toInt + p0.toInt := i_add ez3 rfl rfl (by (first | exact om_6c84dfc0d33f rg_p0.1 rg_p0.2 r1.1 r1.2 hz2 | omega))
  have kn9 : (nwh V : Int) = (V 0 11).toInt := i_clamp (x := V 0 11) rfl (hMV 0 11).1
  have kp9 := i_clamp (x := p0) rfl (by (first | exact om_eafa9039069c rg_p0.1 | omega))
  have kz9 : Int32.toNatClampNeg z3 = 24 * nwh V + Int32.toNatClampNeg p0 := by have h9 := i_clamp (x := z3) rfl (by (first | exact om_11587583f9f8 rg_p0.1 r1.1 hz2 hz3 | omega)); (first | exact om_513b2bd4b43e hz2 hz3 kn9 kp9 h9 | omega)
  have c22 : (V 22 (Int32.toNatClampNeg z3)).toInt = ((bS gB (Int32.toNatClampNeg p0) : Nat) : Int) := by rw [kz9]; exact (bk.2.2.2.1.2.2 (Int32.toNatClampNeg p0) cl9).1.2.1
  refine va_iald (D := D) (i := z3) hx hb hK hP 15 14 rfl rfl (i_in (a := z3.toInt) rfl (by (first | exact om_cf341bf82a51 rg_p0.1 rg_p0.2 r1.1 r1.2 hz2 hz3 | omega))) dX12_placeOf_13 ?_
  refine lv_istore_n (lv' := [(3, .int (V 22 (Int32.toNatClampNeg z3))), (0, .ref (ad 0)), (1, .int p0), (2, .int p1)]) hx hb dX12_placeOf_14 rfl hl (by decide) rfl (fun ls hl => ?_)
  refine lv_iload_n hx hb dX12_placeOf_15 rfl (lv_at hl 0 rfl) ?_
  refine lv_if_ne (tgt := 21) hx hb dX12_placeOf_16 (by decide) (fun c4 => ?_) (fun c4 => ?_)
  · skip
    have f5 : ((V 22 (Int32.toNatClampNeg z3))).toInt ≠ 0 := b_neq rfl (by decide) c4
    refine lv_iload_n hx hb dX12_placeOf_21 rfl (lv_at hl 0 rfl) ?_
    refine lv_iconst (v := 3) hx hb dX12_placeOf_22 (by decide) ?_
    refine lv_icmp_ne (tgt := 28) hx hb dX12_placeOf_23 (by decide) (fun c6 => ?_) (fun c6 => ?_)
    · skip
      have f7 : ((V 22 (Int32.toNatClampNeg z3))).toInt ≠ 3 := b_neq rfl (by decide) c6
      refine lv_iload_n hx hb dX12_placeOf_28 rfl (lv_at hl 0 rfl) ?_
      refine lv_iconst (v := 2) hx hb dX12_placeOf_29 (by decide) ?_
      refine lv_icmp_ne (tgt := 49) hx hb dX12_placeOf_30 (by decide) (fun c8 => ?_) (fun c8 => ?_)
      · skip
        have f9 : ((V 22 (Int32.toNatClampNeg z3))).toInt ≠ 2 := b_neq rfl (by decide) c8
        refine lv_aload_n hx hb dX12_placeOf_49 rfl (lv_at hl 1 rfl) ?_
        refine va_get (D := D) (ci := 12) (v := .ref (ad 57)) (C := RX12) (T := TX12) (N := 100) hx hb hg inX12 hown hK hP 0 rfl rfl 57 (by decide) (hg _ w1763) (fun _ h9 => h9) rfl dX12_placeOf_50 ?_
        refine lv_iload_n hx hb dX12_placeOf_53 rfl (lv_at hl 3 rfl) ?_
        refine va_iald (D := D) (i := p1) hx hb hK hP 43 42 rfl rfl (i_in (a := p1.toInt) rfl (by (first | exact om_fc4b7ceebace rg_p1.1 rg_p1.2 | omega))) dX12_placeOf_54 ?_
        refine lv_iconst (v := 1) hx hb dX12_placeOf_55 (by decide) ?_
        refine lv_icmp_ne (tgt := 63) hx hb dX12_placeOf_56 (by decide) (fun c10 => ?_) (fun c10 => ?_)
        · skip
          have f11 : ((V 57 (Int32.toNatClampNeg p1))).toInt ≠ 1 := b_neq rfl (by decide) c10
          refine lv_aload_n hx hb dX12_placeOf_63 rfl (lv_at hl 1 rfl) ?_
          refine va_get (D := D) (ci := 12) (v := .ref (ad 57)) (C := RX12) (T := TX12) (N := 100) hx hb hg inX12 hown hK hP 0 rfl rfl 57 (by decide) (hg _ w1763) (fun _ h9 => h9) rfl dX12_placeOf_64 ?_
          refine lv_iload_n hx hb dX12_placeOf_67 rfl (lv_at hl 3 rfl) ?_
          refine va_iald (D := D) (i := p1) hx hb hK hP 43 42 rfl rfl (i_in (a := p1.toInt) rfl (by (first | exact om_fc4b7ceebace rg_p1.1 rg_p1.2 | omega))) dX12_placeOf_68 ?_
          refine lv_iconst (v := 2) hx hb dX12_placeOf_69 (by decide) ?_
          refine lv_icmp_ne (tgt := 82) hx hb dX12_placeOf_70 (by decide) (fun c12 => ?_) (fun c12 => ?_)
          · skip
            have f13 : ((V 57 (Int32.toNatClampNeg p1))).toInt ≠ 2 := b_neq rfl (by decide) c12
            refine lv_iconst (v := (-1)) hx hb dX12_placeOf_82 (by decide) ?_
            have kq9 : p1.toInt.toNat = Int32.toNatClampNeg p1 := rfl
            exact W.iret (v := (-1)) hx hb hr (fun t ht hW => ⟨⟨(-1), (), rfl, ⟨(by decide), (by rw [plc_1n (by omega) (by omega) (by omega) (by show ¬ (V 57 _).toInt = 1; rw [kq9]; omega) (by show ¬ (V 57 _).toInt = 2; rw [kq9]; omega)]; decide)⟩, by rw [ht]; exact hP, va_K.moved hW.alike hK, hD⟩, hS.F ht⟩) hS.2.2 dX12_placeOf_83
          · skip
            have f14 : ((V 57 (Int32.toNatClampNeg p1))).toInt = 2 := b_eq rfl (by decide) c12
            refine lv_aload_n hx hb dX12_placeOf_73 rfl (lv_at hl 1 rfl) ?_
            refine va_get (D := D) (ci := 12) (v := .ref (ad 58)) (C := RX12) (T := TX12) (N := 100) hx hb hg inX12 hown hK hP 0 rfl rfl 58 (by decide) (hg _ w1764) (fun _ h9 => h9) rfl dX12_placeOf_74 ?_
            refine lv_iload_n hx hb dX12_placeOf_77 rfl (lv_at hl 3 rfl) ?_
            refine va_iald (D := D) (i := p1) hx hb hK hP 44 43 rfl rfl (i_in (a := p1.toInt) rfl (by (first | exact om_fc4b7ceebace rg_p1.1 rg_p1.2 | omega))) dX12_placeOf_78 ?_
            have r15 : (-1) ≤ ((V 58 (Int32.toNatClampNeg p1))).toInt ∧ ((V 58 (Int32.toNatClampNeg p1))).toInt ≤ 39 := hMV 58 (Int32.toNatClampNeg p1)
            refine lv_goto (tgt := 83) hx hb dX12_placeOf_79 (by decide) ?_
            have kq9 : p1.toInt.toNat = Int32.toNatClampNeg p1 := rfl
            exact W.iret (v := (V 58 (Int32.toNatClampNeg p1))) hx hb hr (fun t ht hW => ⟨⟨(V 58 (Int32.toNatClampNeg p1)), (), rfl, ⟨(show (-1) ≤ ((V 58 (Int32.toNatClampNeg p1))).toInt ∧ ((V 58 (Int32.toNatClampNeg p1))).toInt ≤ 39 from by (first | exact om_f252d5c70457 r15.1 r15.2 | omega)), (by rw [plc_1m (by omega) (by omega) (by omega) (by show (V 57 _).toInt = 2; rw [kq9]; omega)]; rfl)⟩, by rw [ht]; exact hP, va_K.moved hW.alike hK, hD⟩, hS.F ht⟩) hS.2.2 dX12_placeOf_83
        · skip
          have f16 : ((V 57 (Int32.toNatClampNeg p1))).toInt = 1 := b_eq rfl (by decide) c10
          refine lv_iload_n hx hb dX12_placeOf_59 rfl (lv_at hl 3 rfl) ?_
          refine lv_goto (tgt := 83) hx hb dX12_placeOf_60 (by decide) ?_
          have kq9 : p1.toInt.toNat = Int32.toNatClampNeg p1 := rfl
          exact W.iret (v := p1) hx hb hr (fun t ht hW => ⟨⟨p1, (), rfl, ⟨(show (-1) ≤ p1.toInt ∧ p1.toInt ≤ 39 from by (first | exact om_51af92a0e09d rg_p1.1 rg_p1.2 | omega)), (by rw [plc_1d (by omega) (by omega) (by omega) (by show (V 57 _).toInt = 1; rw [kq9]; omega)])⟩, by rw [ht]; exact hP, va_K.moved hW.alike hK, hD⟩, hS.F ht⟩) hS.2.2 dX12_placeOf_83
      · skip
        have f17 : ((V 22 (Int32.toNatClampNeg z3))).toInt = 2 := b_eq rfl (by decide) c8
        refine lv_aload_n hx hb dX12_placeOf_33 rfl (lv_at hl 1 rfl) ?_
        refine va_get (D := D) (ci := 12) (v := .ref (ad 57)) (C := RX12) (T := TX12) (N := 100) hx hb hg inX12 hown hK hP 0 rfl rfl 57 (by decide) (hg _ w1763) (fun _ h9 => h9) rfl dX12_placeOf_34 ?_
        refine lv_iload_n hx hb dX12_placeOf_37 rfl (lv_at hl 3 rfl) ?_
        refine va_iald (D := D) (i := p1) hx hb hK hP 43 42 rfl rfl (i_in (a := p1.toInt) rfl (by (first | exact om_fc4b7ceebace rg_p1.1 rg_p1.2 | omega))) dX12_placeOf_38 ?_
        refine lv_iconst (v := 2) hx hb dX12_placeOf_39 (by decide) ?_
        refine lv_icmp_ne (tgt := 47) hx hb dX12_placeOf_40 (by decide) (fun c18 => ?_) (fun c18 => ?_)
        · skip
          have f19 : ((V 57 (Int32.toNatClampNeg p1))).toInt ≠ 2 := b_neq rfl (by decide) c18
          refine lv_iconst (v := (-1)) hx hb dX12_placeOf_47 (by decide) ?_
          have kq9 : p1.toInt.toNat = Int32.toNatClampNeg p1 := rfl
          exact W.iret (v := (-1)) hx hb hr (fun t ht hW => ⟨⟨(-1), (), rfl, ⟨(by decide), (by rw [plc_2n (by omega) (by show ¬ (V 57 _).toInt = 2; rw [kq9]; omega)]; decide)⟩, by rw [ht]; exact hP, va_K.moved hW.alike hK, hD⟩, hS.F ht⟩) hS.2.2 dX12_placeOf_48
        · skip
          have f20 : ((V 57 (Int32.toNatClampNeg p1))).toInt = 2 := b_eq rfl (by decide) c18
          refine lv_iload_n hx hb dX12_placeOf_43 rfl (lv_at hl 3 rfl) ?_
          refine lv_goto (tgt := 48) hx hb dX12_placeOf_44 (by decide) ?_
          have kq9 : p1.toInt.toNat = Int32.toNatClampNeg p1 := rfl
          exact W.iret (v := p1) hx hb hr (fun t ht hW => ⟨⟨p1, (), rfl, ⟨(show (-1) ≤ p1.toInt ∧ p1.toInt ≤ 39 from by (first | exact om_51af92a0e09d rg_p1.1 rg_p1.2 | omega)), (by rw [plc_2y (by omega) (by show (V 57 _).toInt = 2; rw [kq9]; omega)])⟩, by rw [ht]; exact hP, va_K.moved hW.alike hK, hD⟩, hS.F ht⟩) hS.2.2 dX12_placeOf_48
    · skip
      have f21 : ((V 22 (Int32.toNatClampNeg z3))).toInt = 3 := b_eq rfl (by decide) c6
      refine lv_iload_n hx hb dX12_placeOf_26 rfl (lv_at hl 3 rfl) ?_
      exact W.iret (v := p1) hx hb hr (fun t ht hW => ⟨⟨p1, (), rfl, ⟨(show (-1) ≤ p1.toInt ∧ p1.toInt ≤ 39 from by (first | exact om_51af92a0e09d rg_p1.1 rg_p1.2 | omega)), (by rw [plc_3 (by omega)])⟩, by rw [ht]; exact hP, va_K.moved hW.alike hK, hD⟩, hS.F ht⟩) hS.2.2 dX12_placeOf_27
  · skip
    have f22 : ((V 22 (Int32.toNatClampNeg z3))).toInt = 0 := b_eq rfl (by decide) c4
    refine lv_iconst (v := 0) hx hb dX12_placeOf_19 (by decide) ?_
    exact W.iret (v := 0) hx hb hr (fun t ht hW => ⟨⟨0, (), rfl, ⟨(by decide), (by rw [plc_0 (by omega)]; decide)⟩, by rw [ht]; exact hP, va_K.moved hW.alike hK, hD⟩, hS.F ht⟩) hS.2.2 dX12_placeOf_20
abbrev r_s_objectAt3 : Room := { frames := 0, cells := 0, slots := 0, locals := 0 }
abbrev q_s_objectAt3 (D : va_G) (ks : KS) (ad : Nat → Nat) (kk : Nat → ClassId) (V : Vf) (L : Lf) (p0 : Int32) (p1 : Int32) (gB : Bk) (gs : Int) (gt : Int) (gu : Int) (A : Nat → Prop) : Array Value → State → Outcome → State → Prop := va_Qi (fun (r : Int32) (_ : Unit) => ((-1) ≤ r.toInt ∧ r.toInt ≤ 299) ∧ (r.toInt < (V 0 60).toInt) ∧ (r.toInt = prs (mV V gs gt gu) p1.toInt p0.toInt (V 0 60).toInt.toNat)) (fun _ t => gq D A (mw ad kk ks.1 V L) (mty kk) t) A
set_option maxHeartbeats 4000000 in
set_option maxRecDepth 100000 in
theorem s_objectAt3 (l : Launch) (D : va_G) (ks : KS) (sz : Nat) (ad : Nat → Nat) (kk : Nat → ClassId) (V : Vf) (L : Lf) (p0 : Int32) (p1 : Int32) (gB : Bk) (gs : Int) (gt : Int) (gu : Int) (hMV : rgd bM V) (rg_p0 : 0 ≤ p0.toInt ∧ p0.toInt ≤ 23) (rg_p1 : 0 ≤ p1.toInt ∧ p1.toInt ≤ 39)  : Met l yX12_objectAt (Cond.code yX12_objectAt cX12_objectAt 5 (some .int) :: GW) r_s_objectAt3 (va_Pc [.ref (ad 0), .int p0, .int p1] (gp D ks (mw ad kk ks.1 V L) (mty kk) sz)) (q_s_objectAt3 D ks ad kk V L p0 p1 gB gs gt gu (va_A (mw ad kk ks.1 V L) sz)) 0 0 (va_A (mw ad kk ks.1 V L) sz) := by
  refine g_met (q_s_objectAt3 D ks ad kk V L p0 p1 gB gs gt gu) (by decide) (Nat.le_of_ble_eq_true rfl) ?_
  intro p e s m below meth c A ls H locs hx hb hr hml hown hg hlocks hin hnw hgk hP hK hD hS hA hl
  have hown : s.vm.findClass RX12 = some m.cls := hown
  have hl : lv_has ls 5 [(0, .ref (ad 0)), (1, .int p0), (2, .int p1)] := hl
  have hP : va_P D vwCl (mw ad kk ks.1 V L) H := hP
  have hD : va_D A (mw ad kk ks.1 V L) := hD
  have hK : va_K D vwCl (mty kk) s := hK
  refine lv_iconst (v := (-1)) hx hb dX12_objectAt_0 (by decide) ?_
  refine lv_istore_n (lv' := [(3, .int (-1)), (0, .ref (ad 0)), (1, .int p0), (2, .int p1)]) hx hb dX12_objectAt_1 rfl hl (by decide) rfl (fun ls hl => ?_)
  refine lv_iconst (v := 0) hx hb dX12_objectAt_2 (by decide) ?_
  refine lv_istore (lv' := [(4, .int 0), (3, .int (-1)), (0, .ref (ad 0)), (1, .int p0), (2, .int p1)]) hx hb dX12_objectAt_3 hl (by decide) rfl (fun ls hl => ?_)
  have lp3 : ∀ (fulp3 : Nat) (y1 : Int32) (y2 : Int32) (H : Heap) (locs : List Loc) (ls : Array Slot), 0 ≤ y1.toInt ∧ y1.toInt ≤ 300 → (-1) ≤ y2.toInt ∧ y2.toInt ≤ 299 → y1.toInt ≤ (V 0 60).toInt ∧ y2.toInt < (V 0 60).toInt + 1 → y2.toInt = prs (mV V gs gt gu) p1.toInt p0.toInt (Int32.toNatClampNeg y1) → y2.toInt < (V 0 60).toInt → (V 0 60).toInt - y1.toInt < (fulp3 : Int) → va_P D vwCl (mw ad kk ks.1 V L) H → va_D A (mw ad kk ks.1 V L) → va_S A s.heap H locs → lv_has ls 5 [(4, .int y1), (3, .int y2), (0, .ref (ad 0)), (1, .int p0), (2, .int p1)] → W p l e r_s_objectAt3 s m ([.ref (ad 0), .int p0, .int p1] : List Value).toArray below meth c H locs 0 0 (MQ below (q_s_objectAt3 D ks ad kk V L p0 p1 gB gs gt gu A) ([.ref (ad 0), .int p0, .int p1] : List Value).toArray s 0 0 A) (F0 m 5 ls []) := by
    intro fulp3
    induction fulp3 with
    | zero =>
      intro y1 y2 H locs ls klp3_0 klp3_1 xlp3_0 xlp3_1 xlp3_2 hn  hP hD hS hl
      exfalso; (first | exact om_4634b1278845 xlp3_0.1 hn | omega)
    | succ fulp3 ihlp3 =>
      intro y1 y2 H locs ls klp3_0 klp3_1 xlp3_0 xlp3_1 xlp3_2 hn  hP hD hS hl
      have r4 : 0 ≤ ((V 0 60)).toInt ∧ ((V 0 60)).toInt ≤ 300 := hMV 0 60
      refine lv_iload hx hb dX12_objectAt_5 (lv_at hl 0 rfl) ?_
      refine lv_aload_n hx hb dX12_objectAt_7 rfl (lv_at hl 2 rfl) ?_
      refine va_get (D := D) (ci := 12) (v := .int (V 0 60)) (C := RX12) (T := TX12) (N := 100) hx hb hg inX12 hown hK hP 0 rfl rfl 60 (by decide) (hg _ w1766) (fun _ h9 => h9) rfl dX12_objectAt_8 ?_
      refine lv_icmp_ge (tgt := 60) hx hb dX12_objectAt_11 (by decide) (fun c5 => ?_) (fun c5 => ?_)
      · skip
        have f6 : ((V 0 60)).toInt ≤ y1.toInt := b_le rfl rfl c5
        refine lv_iload_n hx hb dX12_objectAt_60 rfl (lv_at hl 1 rfl) ?_
        exact W.iret (v := y2) hx hb hr (fun t ht hW => ⟨⟨y2, (), rfl, ⟨(show (-1) ≤ y2.toInt ∧ y2.toInt ≤ 299 from by (first | exact om_0fcd3dacd231 klp3_1.1 klp3_1.2 | omega)), (show y2.toInt < (V 0 60).toInt from by (first | exact om_0e9116797efb xlp3_2 | omega)), (by have h9 := xlp3_1; have k9 := i_clamp (x := y1) rfl (by (first | exact om_eafa9039069c klp3_0.1 | omega)); rw [show Int32.toNatClampNeg y1 = (V 0 60).toInt.toNat from by omega] at h9; exact h9)⟩, by rw [ht]; exact hP, va_K.moved hW.alike hK, hD⟩, hS.F ht⟩) hS.2.2 dX12_objectAt_61
      · skip
        have f7 : y1.toInt < ((V 0 60)).toInt := b_nle rfl rfl c5
        refine lv_aload_n hx hb dX12_objectAt_14 rfl (lv_at hl 2 rfl) ?_
        refine va_get (D := D) (ci := 12) (v := .ref (ad 61)) (C := RX12) (T := TX12) (N := 100) hx hb hg inX12 hown hK hP 0 rfl rfl 61 (by decide) (hg _ w1767) (fun _ h9 => h9) rfl dX12_objectAt_15 ?_
        refine lv_iload hx hb dX12_objectAt_18 (lv_at hl 0 rfl) ?_
        refine va_iald (D := D) (i := y1) hx hb hK hP 46 45 rfl rfl (i_in (a := y1.toInt) rfl (by (first | exact om_cd73be67f278 klp3_0.1 r4.2 f7 | omega))) dX12_objectAt_20 ?_
        have r8 : 0 ≤ ((V 61 (Int32.toNatClampNeg y1))).toInt ∧ ((V 61 (Int32.toNatClampNeg y1))).toInt ≤ 23 := hMV 61 (Int32.toNatClampNeg y1)
        refine lv_iload_n hx hb dX12_objectAt_21 rfl (lv_at hl 3 rfl) ?_
        refine lv_icmp_ne (tgt := 52) hx hb dX12_objectAt_22 (by decide) (fun c9 => ?_) (fun c9 => ?_)
        · skip
          have f10 : ((V 61 (Int32.toNatClampNeg y1))).toInt ≠ p0.toInt := b_neq rfl rfl c9
          refine lv_iload_n hx hb dX12_objectAt_52 rfl (lv_at hl 1 rfl) ?_
          refine lv_istore_n (lv' := [(3, .int y2), (4, .int y1), (0, .ref (ad 0)), (1, .int p0), (2, .int p1)]) hx hb dX12_objectAt_53 rfl hl (by decide) rfl (fun ls hl => ?_)
          obtain ⟨z11, ez11⟩ : ∃ y : Int32, y = y1 + 1 := ⟨_, rfl⟩
          have hz11 : z11.toInt = y1.toInt + 1 := i_add ez11 rfl (by decide) (by (first | exact om_c09ff01990d3 klp3_0.1 r4.2 f7 | omega))
          refine lv_iinc (v := z11) (lv' := [(4, .int z11), (3, .int y2), (0, .ref (ad 0)), (1, .int p0), (2, .int p1)]) hx hb dX12_objectAt_54 hl (k := 1) rfl (by rw [ez11]; rfl) (by decide) rfl (fun ls hl => ?_)
          refine lv_goto (tgt := 5) hx hb dX12_objectAt_57 (by decide) ?_
          have kc4 := i_clamp (x := y1) rfl (by (first | exact om_eafa9039069c klp3_0.1 | omega))
          have kc5 : Int32.toNatClampNeg z11 = Int32.toNatClampNeg y1 + 1 := by have h9 := i_clamp (x := z11) rfl (by (first | exact om_5ed16a07bd2d klp3_0.1 hz11 | omega)); (first | exact om_5d9ced273fe6 hz11 kc4 h9 | omega)
          exact ihlp3 z11 y2 H locs ls (by (first | exact om_0d23cfa2d5c1 klp3_0.1 r4.2 f7 hz11 | omega)) (by (first | exact om_0fcd3dacd231 klp3_1.1 klp3_1.2 | omega)) (show z11.toInt ≤ (V 0 60).toInt ∧ y2.toInt < (V 0 60).toInt + 1 from by (first | exact om_25f14e855ca5 xlp3_2 f7 hz11 | omega)) (by rw [kc5, prs_n (fun h9 => by have h1 : (V 61 (Int32.toNatClampNeg y1)).toInt = p0.toInt := h9.1; have h2 : (V 62 (Int32.toNatClampNeg y1)).toInt = p1.toInt := h9.2.1; have h3 : (V 63 (Int32.toNatClampNeg y1)).toInt < 2 := h9.2.2; omega)]; exact xlp3_1) (show y2.toInt < (V 0 60).toInt from by (first | exact om_0e9116797efb xlp3_2 | omega)) (by (first | exact om_9e7d2b874257 hn hz11 | omega)) hP hD hS (lv_sub hl [0, 1, 2, 3, 4] rfl)
        · skip
          have f12 : ((V 61 (Int32.toNatClampNeg y1))).toInt = p0.toInt := b_eq rfl rfl c9
          refine lv_aload_n hx hb dX12_objectAt_25 rfl (lv_at hl 2 rfl) ?_
          refine va_get (D := D) (ci := 12) (v := .ref (ad 62)) (C := RX12) (T := TX12) (N := 100) hx hb hg inX12 hown hK hP 0 rfl rfl 62 (by decide) (hg _ w1768) (fun _ h9 => h9) rfl dX12_objectAt_26 ?_
          refine lv_iload hx hb dX12_objectAt_29 (lv_at hl 0 rfl) ?_
          refine va_iald (D := D) (i := y1) hx hb hK hP 47 46 rfl rfl (i_in (a := y1.toInt) rfl (by (first | exact om_cd73be67f278 klp3_0.1 r4.2 f7 | omega))) dX12_objectAt_31 ?_
          have r13 : 0 ≤ ((V 62 (Int32.toNatClampNeg y1))).toInt ∧ ((V 62 (Int32.toNatClampNeg y1))).toInt ≤ 39 := hMV 62 (Int32.toNatClampNeg y1)
          refine lv_iload_n hx hb dX12_objectAt_32 rfl (lv_at hl 4 rfl) ?_
          refine lv_icmp_ne (tgt := 52) hx hb dX12_objectAt_33 (by decide) (fun c14 => ?_) (fun c14 => ?_)
          · skip
            have f15 : ((V 62 (Int32.toNatClampNeg y1))).toInt ≠ p1.toInt := b_neq rfl rfl c14
            refine lv_iload_n hx hb dX12_objectAt_52 rfl (lv_at hl 1 rfl) ?_
            refine lv_istore_n (lv' := [(3, .int y2), (4, .int y1), (0, .ref (ad 0)), (1, .int p0), (2, .int p1)]) hx hb dX12_objectAt_53 rfl hl (by decide) rfl (fun ls hl => ?_)
            obtain ⟨z16, ez16⟩ : ∃ y : Int32, y = y1 + 1 := ⟨_, rfl⟩
            have hz16 : z16.toInt = y1.toInt + 1 := i_add ez16 rfl (by decide) (by (first | exact om_c09ff01990d3 klp3_0.1 r4.2 f7 | omega))
            refine lv_iinc (v := z16) (lv' := [(4, .int z16), (3, .int y2), (0, .ref (ad 0)), (1, .int p0), (2, .int p1)]) hx hb dX12_objectAt_54 hl (k := 1) rfl (by rw [ez16]; rfl) (by decide) rfl (fun ls hl => ?_)
            refine lv_goto (tgt := 5) hx hb dX12_objectAt_57 (by decide) ?_
            have kc4 := i_clamp (x := y1) rfl (by (first | exact om_eafa9039069c klp3_0.1 | omega))
            have kc5 : Int32.toNatClampNeg z16 = Int32.toNatClampNeg y1 + 1 := by have h9 := i_clamp (x := z16) rfl (by (first | exact om_5ed16a07bd2d klp3_0.1 hz16 | omega)); (first | exact om_5d9ced273fe6 hz16 kc4 h9 | omega)
            exact ihlp3 z16 y2 H locs ls (by (first | exact om_0d23cfa2d5c1 klp3_0.1 r4.2 f7 hz16 | omega)) (by (first | exact om_0fcd3dacd231 klp3_1.1 klp3_1.2 | omega)) (show z16.toInt ≤ (V 0 60).toInt ∧ y2.toInt < (V 0 60).toInt + 1 from by (first | exact om_25f14e855ca5 xlp3_2 f7 hz16 | omega)) (by rw [kc5, prs_n (fun h9 => by have h1 : (V 61 (Int32.toNatClampNeg y1)).toInt = p0.toInt := h9.1; have h2 : (V 62 (Int32.toNatClampNeg y1)).toInt = p1.toInt := h9.2.1; have h3 : (V 63 (Int32.toNatClampNeg y1)).toInt < 2 := h9.2.2; omega)]; exact xlp3_1) (show y2.toInt < (V 0 60).toInt from by (first | exact om_0e9116797efb xlp3_2 | omega)) (by (first | exact om_9e7d2b874257 hn hz16 | omega)) hP hD hS (lv_sub hl [0, 1, 2, 3, 4] rfl)
          · skip
            have f17 : ((V 62 (Int32.toNatClampNeg y1))).toInt = p1.toInt := b_eq rfl rfl c14
            refine lv_aload_n hx hb dX12_objectAt_36 rfl (lv_at hl 2 rfl) ?_
            refine va_get (D := D) (ci := 12) (v := .ref (ad 63)) (C := RX12) (T := TX12) (N := 100) hx hb hg inX12 hown hK hP 0 rfl rfl 63 (by decide) (hg _ w1769) (fun _ h9 => h9) rfl dX12_objectAt_37 ?_
            refine lv_iload hx hb dX12_objectAt_40 (lv_at hl 0 rfl) ?_
            refine va_iald (D := D) (i := y1) hx hb hK hP 48 47 rfl rfl (i_in (a := y1.toInt) rfl (by (first | exact om_cd73be67f278 klp3_0.1 r4.2 f7 | omega))) dX12_objectAt_42 ?_
            have r18 : 0 ≤ ((V 63 (Int32.toNatClampNeg y1))).toInt ∧ ((V 63 (Int32.toNatClampNeg y1))).toInt ≤ 2 := hMV 63 (Int32.toNatClampNeg y1)
            refine lv_iconst (v := 2) hx hb dX12_objectAt_43 (by decide) ?_
            refine lv_icmp_ge (tgt := 52) hx hb dX12_objectAt_44 (by decide) (fun c19 => ?_) (fun c19 => ?_)
            · skip
              have f20 : 2 ≤ ((V 63 (Int32.toNatClampNeg y1))).toInt := b_le (by decide) rfl c19
              refine lv_iload_n hx hb dX12_objectAt_52 rfl (lv_at hl 1 rfl) ?_
              refine lv_istore_n (lv' := [(3, .int y2), (4, .int y1), (0, .ref (ad 0)), (1, .int p0), (2, .int p1)]) hx hb dX12_objectAt_53 rfl hl (by decide) rfl (fun ls hl => ?_)
              obtain ⟨z21, ez21⟩ : ∃ y : Int32, y = y1 + 1 := ⟨_, rfl⟩
              have hz21 : z21.toInt = y1.toInt + 1 := i_add ez21 rfl (by decide) (by (first | exact om_c09ff01990d3 klp3_0.1 r4.2 f7 | omega))
              refine lv_iinc (v := z21) (lv' := [(4, .int z21), (3, .int y2), (0, .ref (ad 0)), (1, .int p0), (2, .int p1)]) hx hb dX12_objectAt_54 hl (k := 1) rfl (by rw [ez21]; rfl) (by decide) rfl (fun ls hl => ?_)
              refine lv_goto (tgt := 5) hx hb dX12_objectAt_57 (by decide) ?_
              have kc4 := i_clamp (x := y1) rfl (by (first | exact om_eafa9039069c klp3_0.1 | omega))
              have kc5 : Int32.toNatClampNeg z21 = Int32.toNatClampNeg y1 + 1 := by have h9 := i_clamp (x := z21) rfl (by (first | exact om_5ed16a07bd2d klp3_0.1 hz21 | omega)); (first | exact om_5d9ced273fe6 hz21 kc4 h9 | omega)
              exact ihlp3 z21 y2 H locs ls (by (first | exact om_0d23cfa2d5c1 klp3_0.1 r4.2 f7 hz21 | omega)) (by (first | exact om_0fcd3dacd231 klp3_1.1 klp3_1.2 | omega)) (show z21.toInt ≤ (V 0 60).toInt ∧ y2.toInt < (V 0 60).toInt + 1 from by (first | exact om_25f14e855ca5 xlp3_2 f7 hz21 | omega)) (by rw [kc5, prs_n (fun h9 => by have h1 : (V 61 (Int32.toNatClampNeg y1)).toInt = p0.toInt := h9.1; have h2 : (V 62 (Int32.toNatClampNeg y1)).toInt = p1.toInt := h9.2.1; have h3 : (V 63 (Int32.toNatClampNeg y1)).toInt < 2 := h9.2.2; omega)]; exact xlp3_1) (show y2.toInt < (V 0 60).toInt from by (first | exact om_0e9116797efb xlp3_2 | omega)) (by (first | exact om_9e7d2b874257 hn hz21 | omega)) hP hD hS (lv_sub hl [0, 1, 2, 3, 4] rfl)
            · skip
              have f22 : ((V 63 (Int32.toNatClampNeg y1))).toInt < 2 := b_nle (by decide) rfl c19
              refine lv_iload hx hb dX12_objectAt_47 (lv_at hl 0 rfl) ?_
              refine lv_goto (tgt := 53) hx hb dX12_objectAt_49 (by decide) ?_
              refine lv_istore_n (lv' := [(3, .int y1), (4, .int y1), (0, .ref (ad 0)), (1, .int p0), (2, .int p1)]) hx hb dX12_objectAt_53 rfl hl (by decide) rfl (fun ls hl => ?_)
              obtain ⟨z23, ez23⟩ : ∃ y : Int32, y = y1 + 1 := ⟨_, rfl⟩
              have hz23 : z23.toInt = y1.toInt + 1 := i_add ez23 rfl (by decide) (by (first | exact om_c09ff01990d3 klp3_0.1 r4.2 f7 | omega))
              refine lv_iinc (v := z23) (lv' := [(4, .int z23), (3, .int y1), (0, .ref (ad 0)), (1, .int p0), (2, .int p1)]) hx hb dX12_objectAt_54 hl (k := 1) rfl (by rw [ez23]; rfl) (by decide) rfl (fun ls hl => ?_)
              refine lv_goto (tgt := 5) hx hb dX12_objectAt_57 (by decide) ?_
              have kc4 := i_clamp (x := y1) rfl (by (first | exact om_eafa9039069c klp3_0.1 | omega))
              have kc5 : Int32.toNatClampNeg z23 = Int32.toNatClampNeg y1 + 1 := by have h9 := i_clamp (x := z23) rfl (by (first | exact om_5ed16a07bd2d klp3_0.1 hz23 | omega)); (first | exact om_5d9ced273fe6 hz23 kc4 h9 | omega)
              exact ihlp3 z23 y1 H locs ls (by (first | exact om_0d23cfa2d5c1 klp3_0.1 r4.2 f7 hz23 | omega)) (by (first | exact om_38757deacf4c klp3_0.1 r4.2 f7 | omega)) (show z23.toInt ≤ (V 0 60).toInt ∧ y1.toInt < (V 0 60).toInt + 1 from by (first | exact om_731fead9210c f7 hz23 | omega)) (by rw [kc5, prs_y (show (V 61 _).toInt = p0.toInt from by omega) (show (V 62 _).toInt = p1.toInt from by omega) (show (V 63 _).toInt < 2 from by omega)]; omega) (show y1.toInt < (V 0 60).toInt from by (first | exact om_0e9116797efb f7 | omega)) (by (first | exact om_9e7d2b874257 hn hz23 | omega)) hP hD hS (lv_sub hl [0, 1, 2, 3, 4] rfl)
  have r24 : Int32.toInt 0 = 0 := by decide
  have r25 : Int32.toInt (-1) = (-1) := by decide
  have r26 : 0 ≤ ((V 0 60)).toInt ∧ ((V 0 60)).toInt ≤ 300 := hMV 0 60
  exact lp3 (((V 0 60).toInt - (Int32.toInt 0) + 1 : Int).toNat) 0 (-1) H locs ls (by decide) (by decide) (show (Int32.toInt 0) ≤ (V 0 60).toInt ∧ (Int32.toInt (-1)) < (V 0 60).toInt + 1 from by (first | exact om_25f998b4993b r24 r25 r26.1 | omega)) (show (Int32.toInt (-1)) = prs (mV V gs gt gu) p1.toInt p0.toInt (Int32.toNatClampNeg 0) from rfl) (show (Int32.toInt (-1)) < (V 0 60).toInt from by (first | exact om_3e9fea077503 r25 r26.1 | omega)) (by (first | exact om_7441a7786481 | omega)) hP hD hS (lv_sub hl [0, 1, 2, 3, 4] rfl)
abbrev r_s_wrapAt3 : Room := { frames := 1, cells := 0, slots := 0, locals := 25 }
abbrev q_s_wrapAt3 (D : va_G) (ks : KS) (ad : Nat → Nat) (kk : Nat → ClassId) (V : Vf) (L : Lf) (p0 : Int32) (p1 : Int32) (p2 : Int32) (p3 : Int32) (gB : Bk) (A : Nat → Prop) : Array Value → State → Outcome → State → Prop := va_Qi (fun (r : Int32) (_ : Unit) => ((-1) ≤ r.toInt ∧ r.toInt ≤ 11) ∧ (Imp (0 ≤ r.toInt) (∃ i9, KPo (bW gB) (isWb V p1 p2 p3) (Int32.toNatClampNeg p0) i9 ∧ (bW gB).getD i9 0 = Int32.toNatClampNeg r ∧ r.toInt < ((wN gB : Nat) : Int))) ∧ (Imp (r.toInt = -1) (((cnP (isWb V p1 p2 p3) (bW gB) : Nat) : Int) ≤ p0.toInt))) (fun _ t => gq D A (mw ad kk ks.1 V L) (mty kk) t) A
set_option maxHeartbeats 4000000 in
set_option maxRecDepth 100000 in
theorem s_wrapAt3 (l : Launch) (D : va_G) (ks : KS) (sz : Nat) (ad : Nat → Nat) (kk : Nat → ClassId) (V : Vf) (L : Lf) (p0 : Int32) (p1 : Int32) (p2 : Int32) (p3 : Int32) (gB : Bk) (hMV : rgd bM V) (rg_p0 : 0 ≤ p0.toInt ∧ p0.toInt ≤ 24) (rg_p1 : 0 ≤ p1.toInt ∧ p1.toInt ≤ 299) (tb : TB V) (bk : BKm V gB)  : Met l yX12_wrapAt (Cond.code yX12_wrapAt cX12_wrapAt 8 (some .int) :: GW) r_s_wrapAt3 (va_Pc [.ref (ad 0), .int p0, .int p1, .int p2, .int p3] (gp D ks (mw ad kk ks.1 V L) (mty kk) sz)) (q_s_wrapAt3 D ks ad kk V L p0 p1 p2 p3 gB (va_A (mw ad kk ks.1 V L) sz)) 0 0 (va_A (mw ad kk ks.1 V L) sz) := by
  refine g_met (q_s_wrapAt3 D ks ad kk V L p0 p1 p2 p3 gB) (by decide) (Nat.le_of_ble_eq_true rfl) ?_
  intro p e s m below meth c A ls H locs hx hb hr hml hown hg hlocks hin hnw hgk hP hK hD hS hA hl
  have hown : s.vm.findClass RX12 = some m.cls := hown
  have hl : lv_has ls 8 [(0, .ref (ad 0)), (1, .int p0), (2, .int p1), (3, .int p2), (4, .int p3)] := hl
  have hP : va_P D vwCl (mw ad kk ks.1 V L) H := hP
  have hD : va_D A (mw ad kk ks.1 V L) := hD
  have hK : va_K D vwCl (mty kk) s := hK
  have r39h : 0 ≤ (V 39 (Int32.toNatClampNeg (V 0 11))).toInt ∧ (V 39 (Int32.toNatClampNeg (V 0 11))).toInt ≤ 12 := hMV 39 _
  have kn9 : (nwh V : Int) = (V 0 11).toInt := i_clamp (x := V 0 11) rfl (hMV 0 11).1
  have wm9 : (V 39 (Int32.toNatClampNeg (V 0 11))).toInt = ((wN gB : Nat) : Int) := BKm.wn bk
  refine lv_iload_n hx hb dX12_wrapAt_0 rfl (lv_at hl 1 rfl) ?_
  refine lv_istore (lv' := [(5, .int p0), (0, .ref (ad 0)), (1, .int p0), (2, .int p1), (3, .int p2), (4, .int p3)]) hx hb dX12_wrapAt_1 hl (by decide) rfl (fun ls hl => ?_)
  refine lv_iconst (v := 0) hx hb dX12_wrapAt_3 (by decide) ?_
  refine lv_istore (lv' := [(6, .int 0), (5, .int p0), (0, .ref (ad 0)), (1, .int p0), (2, .int p1), (3, .int p2), (4, .int p3)]) hx hb dX12_wrapAt_4 hl (by decide) rfl (fun ls hl => ?_)
  have lp3 : ∀ (fulp3 : Nat) (y1 : Int32) (y2 : Int32) (H : Heap) (locs : List Loc) (ls : Array Slot), 0 ≤ y1.toInt ∧ y1.toInt ≤ 100 → 0 ≤ y2.toInt ∧ y2.toInt ≤ 24 → 0 ≤ y2.toInt → y2.toInt = p0.toInt - ((cnP (isWb V p1 p2 p3) (preL gB (Int32.toNatClampNeg y1) 0) : Nat) : Int) → 100 - y1.toInt < (fulp3 : Int) → va_P D vwCl (mw ad kk ks.1 V L) H → va_D A (mw ad kk ks.1 V L) → va_S A s.heap H locs → lv_has ls 8 [(6, .int y1), (5, .int y2), (0, .ref (ad 0)), (1, .int p0), (2, .int p1), (3, .int p2), (4, .int p3)] → W p l e r_s_wrapAt3 s m ([.ref (ad 0), .int p0, .int p1, .int p2, .int p3] : List Value).toArray below meth c H locs 0 0 (MQ below (q_s_wrapAt3 D ks ad kk V L p0 p1 p2 p3 gB A) ([.ref (ad 0), .int p0, .int p1, .int p2, .int p3] : List Value).toArray s 0 0 A) (F0 m 6 ls []) := by
    intro fulp3
    induction fulp3 with
    | zero =>
      intro y1 y2 H locs ls klp3_0 klp3_1 xlp3_0 xlp3_1 hn  hP hD hS hl
      exfalso; (first | exact om_e2604d380dc4 klp3_0.2 hn | omega)
    | succ fulp3 ihlp3 =>
      intro y1 y2 H locs ls klp3_0 klp3_1 xlp3_0 xlp3_1 hn  hP hD hS hl
      refine lv_iload hx hb dX12_wrapAt_6 (lv_at hl 0 rfl) ?_
      refine lv_bipush (v := 100) hx hb dX12_wrapAt_8 (by decide) ?_
      refine lv_icmp_ge (tgt := 86) hx hb dX12_wrapAt_10 (by decide) (fun c4 => ?_) (fun c4 => ?_)
      · skip
        have f5 : 100 ≤ y1.toInt := b_le (by decide) rfl c4
        refine lv_iconst (v := (-1)) hx hb dX12_wrapAt_86 (by decide) ?_
        have h89 := xlp3_1
        rw [show Int32.toNatClampNeg y1 = 100 from by have h9 := i_clamp (x := y1) rfl (by (first | exact om_f379beda3da3 f5 | omega)); omega, preL_all] at h89
        exact W.iret (v := (-1)) hx hb hr (fun t ht hW => ⟨⟨(-1), (), rfl, ⟨(by decide), (Imp.mk (fun hp => absurd hp (by decide))), (Imp.mk (fun _ => by have h9 := xlp3_0; omega))⟩, by rw [ht]; exact hP, va_K.moved hW.alike hK, hD⟩, hS.F ht⟩) hS.2.2 dX12_wrapAt_87
      · skip
        have f6 : y1.toInt < 100 := b_nle (by decide) rfl c4
        refine lv_iconst (v := 0) hx hb dX12_wrapAt_13 (by decide) ?_
        refine lv_istore (lv' := [(7, .int 0), (6, .int y1), (5, .int y2), (0, .ref (ad 0)), (1, .int p0), (2, .int p1), (3, .int p2), (4, .int p3)]) hx hb dX12_wrapAt_14 hl (by decide) rfl (fun ls hl => ?_)
        have lp9 : ∀ (fulp9 : Nat) (y7 : Int32) (y8 : Int32) (H : Heap) (locs : List Loc) (ls : Array Slot), 0 ≤ y7.toInt ∧ y7.toInt ≤ 12 → 0 ≤ y8.toInt ∧ y8.toInt ≤ 24 → 0 ≤ y8.toInt → y7.toInt ≤ (V 39 (Int32.toNatClampNeg (V 0 11))).toInt → y8.toInt = p0.toInt - ((cnP (isWb V p1 p2 p3) (preL gB (Int32.toNatClampNeg y1) (Int32.toNatClampNeg y7)) : Nat) : Int) → 12 - y7.toInt < (fulp9 : Int) → va_P D vwCl (mw ad kk ks.1 V L) H → va_D A (mw ad kk ks.1 V L) → va_S A s.heap H locs → lv_has ls 8 [(7, .int y7), (6, .int y1), (5, .int y8), (0, .ref (ad 0)), (1, .int p0), (2, .int p1), (3, .int p2), (4, .int p3)] → W p l e r_s_wrapAt3 s m ([.ref (ad 0), .int p0, .int p1, .int p2, .int p3] : List Value).toArray below meth c H locs 0 0 (MQ below (q_s_wrapAt3 D ks ad kk V L p0 p1 p2 p3 gB A) ([.ref (ad 0), .int p0, .int p1, .int p2, .int p3] : List Value).toArray s 0 0 A) (F0 m 16 ls []) := by
          intro fulp9
          induction fulp9 with
          | zero =>
            intro y7 y8 H locs ls klp9_0 klp9_1 xlp9_0 xlp9_1 xlp9_2 hn  hP hD hS hl
            exfalso; (first | exact om_b9de4c342026 klp9_0.2 hn | omega)
          | succ fulp9 ihlp9 =>
            intro y7 y8 H locs ls klp9_0 klp9_1 xlp9_0 xlp9_1 xlp9_2 hn  hP hD hS hl
            refine lv_iload hx hb dX12_wrapAt_16 (lv_at hl 0 rfl) ?_
            refine lv_aload_n hx hb dX12_wrapAt_18 rfl (lv_at hl 3 rfl) ?_
            refine va_get (D := D) (ci := 12) (v := .ref (ad 39)) (C := RX12) (T := TX12) (N := 100) hx hb hg inX12 hown hK hP 0 rfl rfl 39 (by decide) (hg _ w1745) (fun _ h9 => h9) rfl dX12_wrapAt_19 ?_
            refine lv_aload_n hx hb dX12_wrapAt_22 rfl (lv_at hl 3 rfl) ?_
            refine va_get (D := D) (ci := 12) (v := .int (V 0 11)) (C := RX12) (T := TX12) (N := 100) hx hb hg inX12 hown hK hP 0 rfl rfl 11 (by decide) (hg _ w1717) (fun _ h9 => h9) rfl dX12_wrapAt_23 ?_
            have r10 : 0 ≤ ((V 0 11)).toInt ∧ ((V 0 11)).toInt ≤ 1 := hMV 0 11
            refine va_iald (D := D) (i := (V 0 11)) hx hb hK hP 32 31 rfl rfl (i_in (a := ((V 0 11)).toInt) rfl (by (first | exact om_8367a84723c7 r10.1 r10.2 | omega))) dX12_wrapAt_26 ?_
            have r11 : 0 ≤ ((V 39 (Int32.toNatClampNeg (V 0 11)))).toInt ∧ ((V 39 (Int32.toNatClampNeg (V 0 11)))).toInt ≤ 12 := hMV 39 (Int32.toNatClampNeg (V 0 11))
            refine lv_icmp_ge (tgt := 80) hx hb dX12_wrapAt_27 (by decide) (fun c12 => ?_) (fun c12 => ?_)
            · skip
              have f13 : ((V 39 (Int32.toNatClampNeg (V 0 11)))).toInt ≤ y7.toInt := b_le rfl rfl c12
              obtain ⟨z14, ez14⟩ : ∃ y : Int32, y = y1 + 1 := ⟨_, rfl⟩
              have hz14 : z14.toInt = y1.toInt + 1 := i_add ez14 rfl (by decide) (by (first | exact om_607e1c2a08b1 klp3_0.1 f6 | omega))
              refine lv_iinc (v := z14) (lv' := [(6, .int z14), (7, .int y7), (5, .int y8), (0, .ref (ad 0)), (1, .int p0), (2, .int p1), (3, .int p2), (4, .int p3)]) hx hb dX12_wrapAt_80 hl (k := 1) rfl (by rw [ez14]; rfl) (by decide) rfl (fun ls hl => ?_)
              refine lv_goto (tgt := 6) hx hb dX12_wrapAt_83 (by decide) ?_
              have kc7 : Int32.toNatClampNeg y7 = wN gB := by have h9 := i_clamp (x := y7) rfl (by (first | exact om_eafa9039069c klp9_0.1 | omega)); (first | exact om_f9bfce0d51f5 wm9 xlp9_1 f13 h9 | omega)
              have kc6 : Int32.toNatClampNeg z14 = Int32.toNatClampNeg y1 + 1 := by have h9 := i_clamp (x := z14) rfl (by (first | exact om_5ed16a07bd2d klp3_0.1 hz14 | omega)); have h8 := i_clamp (x := y1) rfl (by (first | exact om_eafa9039069c klp3_0.1 | omega)); (first | exact om_d1f22e1e2f79 hz14 h9 h8 | omega)
              have h89 := xlp9_2
              rw [kc7, preL_n] at h89
              exact ihlp3 z14 y8 H locs ls (by (first | exact om_739bffcf43dc klp3_0.1 f6 hz14 | omega)) (by (first | exact om_f82fee59341f klp9_1.1 klp9_1.2 | omega)) (show 0 ≤ y8.toInt from by (first | exact om_eafa9039069c klp9_1.1 | omega)) (by rw [kc6]; exact h89) (by omega) hP hD hS (lv_sub hl [0, 2, 3, 4, 5, 6, 7] rfl)
            · skip
              have f15 : y7.toInt < ((V 39 (Int32.toNatClampNeg (V 0 11)))).toInt := b_nle rfl rfl c12
              refine lv_aload_n hx hb dX12_wrapAt_30 rfl (lv_at hl 3 rfl) ?_
              refine lv_iload hx hb dX12_wrapAt_31 (lv_at hl 0 rfl) ?_
              refine lv_iload_n hx hb dX12_wrapAt_33 rfl (lv_at hl 5 rfl) ?_
              refine lv_iload_n hx hb dX12_wrapAt_34 rfl (lv_at hl 6 rfl) ?_
              refine lv_iload hx hb dX12_wrapAt_35 (lv_at hl 7 rfl) ?_
              have kw16 := i_clamp (x := y7) rfl (by (first | exact om_eafa9039069c klp9_0.1 | omega))
              have e39 : (V 39 (nwh V)).toInt = (V 39 (Int32.toNatClampNeg (V 0 11))).toInt := rfl
              refine gA_int (gA_runV (As := [.int y7, .int p1, .int p2, .int p3]) (rest := []) (ci := 12) (q0 := 0) hx hb hml hown hg hP hD hK hS hA hnw hgk (s_isWrap2 l D ks H.size ad kk V L y7 p1 p2 p3 hMV (by (first | exact om_1ad90c7041d3 r39h.2 klp9_0.1 f15 | omega)) (by (first | exact om_cb67e99158ac rg_p1.1 rg_p1.2 | omega)) ((show TBL V (nwh V) _ from tb).2 (Int32.toNatClampNeg y7) (by omega)).2.2) w2288 w2290 w141 w172 w2291 rfl rfl hdV_yX12_isWrap ⟨Nat.le_of_ble_eq_true rfl, Nat.le_of_ble_eq_true rfl⟩ rfl hl.1 rfl (Nat.le_of_ble_eq_true rfl) dX12_wrapAt_37 ⟨Nat.le_of_ble_eq_true rfl, Nat.le_of_ble_eq_true rfl⟩) hP hD hK hS hA (fun z17 u18 H locs w19 hP hD hK hS => ?_)
              obtain ⟨rgz17, t20, t21⟩ := w19
              have rgz17 : 0 ≤ z17.toInt ∧ z17.toInt ≤ 1 := rgz17
              have t20 : Imp (z17.toInt = 1) (isWb V p1 p2 p3 (Int32.toNatClampNeg y7) = true) := t20
              have t21 : Imp (z17.toInt = 0) (isWb V p1 p2 p3 (Int32.toNatClampNeg y7) = false) := t21
              refine lv_if_eq (tgt := 74) hx hb dX12_wrapAt_40 (by decide) (fun c22 => ?_) (fun c22 => ?_)
              · skip
                have f23 : z17.toInt = 0 := b_eq rfl (by decide) c22
                obtain ⟨z24, ez24⟩ : ∃ y : Int32, y = y7 + 1 := ⟨_, rfl⟩
                have hz24 : z24.toInt = y7.toInt + 1 := i_add ez24 rfl (by decide) (by (first | exact om_18aaedfb7f0e r39h.2 klp9_0.1 f15 | omega))
                refine lv_iinc (v := z24) (lv' := [(7, .int z24), (6, .int y1), (5, .int y8), (0, .ref (ad 0)), (1, .int p0), (2, .int p1), (3, .int p2), (4, .int p3)]) hx hb dX12_wrapAt_74 hl (k := 0) rfl (by rw [ez24]; rfl) (by decide) rfl (fun ls hl => ?_)
                refine lv_goto (tgt := 16) hx hb dX12_wrapAt_77 (by decide) ?_
                have kc7 := i_clamp (x := y7) rfl (by (first | exact om_eafa9039069c klp9_0.1 | omega))
                have kc8 : Int32.toNatClampNeg z24 = Int32.toNatClampNeg y7 + 1 := by have h9 := i_clamp (x := z24) rfl (by (first | exact om_1a8c13602466 kw16 hz24 | omega)); (first | exact om_53eba9d5f07d kw16 hz24 kc7 h9 | omega)
                have gs9 := preL_s (B := gB) (P := (isWb V p1 p2 p3)) (n := (Int32.toNatClampNeg y1)) (w := (Int32.toNatClampNeg y7))
                rw [if_neg (fun z9 => by have z8 := z9.2; rw [Imp.go t21 (by (first | exact om_b1799fcf2d63 rgz17.1 f23 | omega))] at z8; exact absurd z8 (by decide))] at gs9
                have h89 := xlp9_2
                exact ihlp9 z24 y8 H locs ls (by (first | exact om_5c55627118e7 r39h.2 f15 kw16 hz24 | omega)) (by (first | exact om_f82fee59341f klp9_1.1 klp9_1.2 | omega)) (show 0 ≤ y8.toInt from by (first | exact om_eafa9039069c klp9_1.1 | omega)) (show z24.toInt ≤ (V 39 (Int32.toNatClampNeg (V 0 11))).toInt from by (first | exact om_7fe9249fc074 f15 hz24 | omega)) (by rw [kc8, gs9]; omega) (by (first | exact om_95514e7aa9e9 hn hz24 | omega)) hP hD hS (lv_sub hl [0, 1, 2, 3, 4, 5, 6, 7] rfl)
              · skip
                have f25 : z17.toInt ≠ 0 := b_neq rfl (by decide) c22
                refine lv_aload_n hx hb dX12_wrapAt_43 rfl (lv_at hl 3 rfl) ?_
                refine va_get (D := D) (ci := 12) (v := .ref (ad 42)) (C := RX12) (T := TX12) (N := 100) hx hb hg inX12 hown hK hP 0 rfl rfl 42 (by decide) (hg _ w1748) (fun _ h9 => h9) rfl dX12_wrapAt_44 ?_
                refine lv_bipush (v := 12) hx hb dX12_wrapAt_47 (by decide) ?_
                refine lv_aload_n hx hb dX12_wrapAt_49 rfl (lv_at hl 3 rfl) ?_
                refine va_get (D := D) (ci := 12) (v := .int (V 0 11)) (C := RX12) (T := TX12) (N := 100) hx hb hg inX12 hown hK hP 0 rfl rfl 11 (by decide) (hg _ w1717) (fun _ h9 => h9) rfl dX12_wrapAt_50 ?_
                refine lv_imul hx hb dX12_wrapAt_53 ?_
                refine lv_topi (fun z26 ez26 => ?_)
                have hz26 : z26.toInt = 12 * ((V 0 11)).toInt := i_mul ez26 (by decide) rfl (by (first | exact om_630bd6ee60c3 r10.1 r10.2 | omega))
                refine lv_iload hx hb dX12_wrapAt_54 (lv_at hl 0 rfl) ?_
                refine lv_iadd hx hb dX12_wrapAt_56 ?_
                refine lv_topi (fun z27 ez27 => ?_)
                have hz27 : z27.toInt = z26.toInt + y7.toInt := i_add ez27 rfl rfl (by (first | exact om_e587e6add610 r39h.2 klp9_0.1 r10.1 r10.2 f15 hz26 | omega))
                refine va_iald (D := D) (i := z27) hx hb hK hP 35 34 rfl rfl (i_in (a := z27.toInt) rfl (by (first | exact om_8a70a791fbcb r39h.2 klp9_0.1 r10.1 r10.2 f15 hz26 hz27 | omega))) dX12_wrapAt_57 ?_
                have r28 : 0 ≤ ((V 42 (Int32.toNatClampNeg z27))).toInt ∧ ((V 42 (Int32.toNatClampNeg z27))).toInt ≤ 99 := hMV 42 (Int32.toNatClampNeg z27)
                refine lv_iload hx hb dX12_wrapAt_58 (lv_at hl 1 rfl) ?_
                refine lv_icmp_ne (tgt := 74) hx hb dX12_wrapAt_60 (by decide) (fun c29 => ?_) (fun c29 => ?_)
                · skip
                  have f30 : ((V 42 (Int32.toNatClampNeg z27))).toInt ≠ y1.toInt := b_neq rfl rfl c29
                  obtain ⟨z31, ez31⟩ : ∃ y : Int32, y = y7 + 1 := ⟨_, rfl⟩
                  have hz31 : z31.toInt = y7.toInt + 1 := i_add ez31 rfl (by decide) (by (first | exact om_18aaedfb7f0e r39h.2 klp9_0.1 f15 | omega))
                  refine lv_iinc (v := z31) (lv' := [(7, .int z31), (6, .int y1), (5, .int y8), (0, .ref (ad 0)), (1, .int p0), (2, .int p1), (3, .int p2), (4, .int p3)]) hx hb dX12_wrapAt_74 hl (k := 0) rfl (by rw [ez31]; rfl) (by decide) rfl (fun ls hl => ?_)
                  refine lv_goto (tgt := 16) hx hb dX12_wrapAt_77 (by decide) ?_
                  have kc7 := i_clamp (x := y7) rfl (by (first | exact om_eafa9039069c klp9_0.1 | omega))
                  have kc8 : Int32.toNatClampNeg z31 = Int32.toNatClampNeg y7 + 1 := by have h9 := i_clamp (x := z31) rfl (by (first | exact om_1a8c13602466 kw16 hz31 | omega)); (first | exact om_53eba9d5f07d kw16 hz31 kc7 h9 | omega)
                  have gs9 := preL_s (B := gB) (P := (isWb V p1 p2 p3)) (n := (Int32.toNatClampNeg y1)) (w := (Int32.toNatClampNeg y7))
                  have kz9 : Int32.toNatClampNeg z27 = 12 * nwh V + Int32.toNatClampNeg y7 := by have h9 := i_clamp (x := z27) rfl (by (first | exact om_528fa8a13d6e r10.1 kw16 hz26 hz27 | omega)); (first | exact om_63520458d162 kn9 kw16 hz26 hz27 kc7 h9 | omega)
                  have nu9 : (V 42 (Int32.toNatClampNeg z27)).toInt = ((nL gB.1 (902 + 8 * Int32.toNatClampNeg y7) : Nat) : Int) := by rw [kz9]; exact (BKm.wr bk (w := Int32.toNatClampNeg y7) (by omega)).2.2.1
                  have kc6 := i_clamp (x := y1) rfl (by (first | exact om_eafa9039069c klp3_0.1 | omega))
                  rw [if_neg (fun z9 => by have z8 := z9.1; omega)] at gs9
                  have h89 := xlp9_2
                  exact ihlp9 z31 y8 H locs ls (by (first | exact om_5c55627118e7 r39h.2 f15 kw16 hz31 | omega)) (by (first | exact om_f82fee59341f klp9_1.1 klp9_1.2 | omega)) (show 0 ≤ y8.toInt from by (first | exact om_eafa9039069c klp9_1.1 | omega)) (show z31.toInt ≤ (V 39 (Int32.toNatClampNeg (V 0 11))).toInt from by (first | exact om_7fe9249fc074 f15 hz31 | omega)) (by rw [kc8, gs9]; omega) (by (first | exact om_95514e7aa9e9 hn hz31 | omega)) hP hD hS (lv_sub hl [0, 1, 2, 3, 4, 5, 6, 7] rfl)
                · skip
                  have f32 : ((V 42 (Int32.toNatClampNeg z27))).toInt = y1.toInt := b_eq rfl rfl c29
                  refine lv_iload hx hb dX12_wrapAt_63 (lv_at hl 2 rfl) ?_
                  refine lv_if_ne (tgt := 71) hx hb dX12_wrapAt_65 (by decide) (fun c33 => ?_) (fun c33 => ?_)
                  · skip
                    have f34 : y8.toInt ≠ 0 := b_neq rfl (by decide) c33
                    obtain ⟨z35, ez35⟩ : ∃ y : Int32, y = y8 + (-1) := ⟨_, rfl⟩
                    have hz35 : z35.toInt = y8.toInt + (-1) := i_add ez35 rfl (by decide) (by (first | exact om_8011ca81eb0d klp9_1.1 klp9_1.2 f34 | omega))
                    refine lv_iinc (v := z35) (lv' := [(5, .int z35), (7, .int y7), (6, .int y1), (0, .ref (ad 0)), (1, .int p0), (2, .int p1), (3, .int p2), (4, .int p3)]) hx hb dX12_wrapAt_71 hl (k := 2) rfl (by rw [ez35]; rfl) (by decide) rfl (fun ls hl => ?_)
                    obtain ⟨z36, ez36⟩ : ∃ y : Int32, y = y7 + 1 := ⟨_, rfl⟩
                    have hz36 : z36.toInt = y7.toInt + 1 := i_add ez36 rfl (by decide) (by (first | exact om_18aaedfb7f0e r39h.2 klp9_0.1 f15 | omega))
                    refine lv_iinc (v := z36) (lv' := [(7, .int z36), (5, .int z35), (6, .int y1), (0, .ref (ad 0)), (1, .int p0), (2, .int p1), (3, .int p2), (4, .int p3)]) hx hb dX12_wrapAt_74 hl (k := 1) rfl (by rw [ez36]; rfl) (by decide) rfl (fun ls hl => ?_)
                    refine lv_goto (tgt := 16) hx hb dX12_wrapAt_77 (by decide) ?_
                    have kc7 := i_clamp (x := y7) rfl (by (first | exact om_eafa9039069c klp9_0.1 | omega))
                    have kc8 : Int32.toNatClampNeg z36 = Int32.toNatClampNeg y7 + 1 := by have h9 := i_clamp (x := z36) rfl (by (first | exact om_1a8c13602466 kw16 hz36 | omega)); (first | exact om_53eba9d5f07d kw16 hz36 kc7 h9 | omega)
                    have gs9 := preL_s (B := gB) (P := (isWb V p1 p2 p3)) (n := (Int32.toNatClampNeg y1)) (w := (Int32.toNatClampNeg y7))
                    have kz9 : Int32.toNatClampNeg z27 = 12 * nwh V + Int32.toNatClampNeg y7 := by have h9 := i_clamp (x := z27) rfl (by (first | exact om_528fa8a13d6e r10.1 kw16 hz26 hz27 | omega)); (first | exact om_63520458d162 kn9 kw16 hz26 hz27 kc7 h9 | omega)
                    have nu9 : (V 42 (Int32.toNatClampNeg z27)).toInt = ((nL gB.1 (902 + 8 * Int32.toNatClampNeg y7) : Nat) : Int) := by rw [kz9]; exact (BKm.wr bk (w := Int32.toNatClampNeg y7) (by omega)).2.2.1
                    have kc6 := i_clamp (x := y1) rfl (by (first | exact om_eafa9039069c klp3_0.1 | omega))
                    rw [if_pos ⟨(show nL gB.1 (902 + 8 * (Int32.toNatClampNeg y7)) = (Int32.toNatClampNeg y1) from by omega), Imp.go t20 (by (first | exact om_2ebe32d50835 rgz17.1 rgz17.2 f25 | omega))⟩] at gs9
                    have h89 := xlp9_2
                    exact ihlp9 z36 z35 H locs ls (by (first | exact om_5c55627118e7 r39h.2 f15 kw16 hz36 | omega)) (by (first | exact om_ed5b40001501 klp9_1.1 klp9_1.2 f34 hz35 | omega)) (show 0 ≤ z35.toInt from by (first | exact om_23be7eaae8ae klp9_1.1 f34 hz35 | omega)) (show z36.toInt ≤ (V 39 (Int32.toNatClampNeg (V 0 11))).toInt from by (first | exact om_7fe9249fc074 f15 hz36 | omega)) (by rw [kc8, gs9]; omega) (by (first | exact om_95514e7aa9e9 hn hz36 | omega)) hP hD hS (lv_sub hl [0, 2, 1, 3, 4, 5, 6, 7] rfl)
                  · skip
                    have f37 : y8.toInt = 0 := b_eq rfl (by decide) c33
                    refine lv_iload hx hb dX12_wrapAt_68 (lv_at hl 0 rfl) ?_
                    have kc7 := i_clamp (x := y7) rfl (by (first | exact om_eafa9039069c klp9_0.1 | omega))
                    have kz9 : Int32.toNatClampNeg z27 = 12 * nwh V + Int32.toNatClampNeg y7 := by have h9 := i_clamp (x := z27) rfl (by (first | exact om_528fa8a13d6e r10.1 kw16 hz26 hz27 | omega)); (first | exact om_63520458d162 kn9 kw16 hz26 hz27 kc7 h9 | omega)
                    have nu9 : (V 42 (Int32.toNatClampNeg z27)).toInt = ((nL gB.1 (902 + 8 * Int32.toNatClampNeg y7) : Nat) : Int) := by rw [kz9]; exact (BKm.wr bk (w := Int32.toNatClampNeg y7) (by omega)).2.2.1
                    have kc6 := i_clamp (x := y1) rfl (by (first | exact om_eafa9039069c klp3_0.1 | omega))
                    have h89 := xlp9_2
                    have kp9 := KPo.of (B := gB) (P := (isWb V p1 p2 p3)) (n := Int32.toNatClampNeg y1) (w := Int32.toNatClampNeg y7) (by omega) (by omega) (by omega) (Imp.go t20 (by (first | exact om_2ebe32d50835 rgz17.1 rgz17.2 f25 | omega)))
                    exact W.iret (v := y7) hx hb hr (fun t ht hW => ⟨⟨y7, (), rfl, ⟨(show (-1) ≤ y7.toInt ∧ y7.toInt ≤ 11 from by (first | exact om_08cfb15675cc r39h.2 f15 kw16 | omega)), (Imp.mk (fun _ => ⟨_, by have h9 := kp9.1; rw [show cnP (isWb V p1 p2 p3) (preL gB (Int32.toNatClampNeg y1) (Int32.toNatClampNeg y7)) = Int32.toNatClampNeg p0 from by have h8 := i_clamp (x := p0) rfl (by (first | exact om_f6cd13a04f42 klp3_1.1 xlp3_1 | omega)); omega] at h9; exact h9, kp9.2, by omega⟩)), (Imp.mk (fun hp => by exfalso; omega))⟩, by rw [ht]; exact hP, va_K.moved hW.alike hK, hD⟩, hS.F ht⟩) hS.2.2 dX12_wrapAt_70
        have r38 : Int32.toInt 0 = 0 := by decide
        exact lp9 ((12 - (Int32.toInt 0) + 1 : Int).toNat) 0 y2 H locs ls (by decide) (by (first | exact om_fa19ac06e9a0 rg_p0.2 klp3_1.1 xlp3_1 | omega)) (show 0 ≤ y2.toInt from by (first | exact om_eafa9039069c klp3_1.1 | omega)) (show (Int32.toInt 0) ≤ (V 39 (Int32.toNatClampNeg (V 0 11))).toInt from by (first | exact om_6f9bb8cf3bec r39h.1 r38 | omega)) xlp3_1 (by (first | exact om_10cc180fa1f4 | omega)) hP hD hS (lv_sub hl [0, 1, 2, 3, 4, 5, 6, 7] rfl)
  have r39 : Int32.toInt 0 = 0 := by decide
  exact lp3 ((100 - (Int32.toInt 0) + 1 : Int).toNat) 0 p0 H locs ls (by decide) (by (first | exact om_f82fee59341f rg_p0.1 rg_p0.2 | omega)) (show 0 ≤ p0.toInt from by (first | exact om_eafa9039069c rg_p0.1 | omega)) (show p0.toInt = p0.toInt - ((cnP (isWb V p1 p2 p3) (preL gB (Int32.toNatClampNeg 0) 0) : Nat) : Int) from by rw [show preL gB (Int32.toNatClampNeg 0) 0 = [] from rfl]; show p0.toInt = p0.toInt - ((0 : Nat) : Int); omega) (by (first | exact om_37d99c122198 | omega)) hP hD hS (lv_sub hl [0, 1, 2, 3, 4, 5, 6] rfl)
