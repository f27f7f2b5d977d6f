/-! what the calls about matches answer -/
def sBest (a : pw_H) (l y h : Int) : Int := sB (sC a l y h) (a 0 0).toNat (a 5 l).toNat (a 5 l).toNat 0
def sStar (a : pw_H) (l y h : Int) (i : Nat) : Int := sSt (sC a l y h) (a 0 0).toNat (a 5 l).toNat i
def s_best (a : pw_H) (l y h : Int) : sR := if bList a l = false then (-1, a) else if bMom y h = false then (-2, a) else (sBest a l y h, a)
def s_matched (a : pw_H) (l i y h : Int) : sR := if bLine a l i = false then (-1, a) else if bMom y h = false then (-2, a) else (sStar a l y h i.toNat, a)
def bYrs (h f t : Int) : Bool := bIn h (-600) 600 && (bIn f (-3000) 3000 && (bIn t (-3000) 3000 && decide (f ≤ t ∧ (t - f) / 10 ≤ 40)))
/-- of the first k + 1 years from f: the year that fits best, and its cost -/
def sDt (a : pw_H) (l h f : Int) : Nat → Int × Int
  | 0 => (f, sBest a l f h)
  | k + 1 => if sBest a l (f + 10 * (k + 1 : Nat)) h < (sDt a l h f k).2 then (f + 10 * (k + 1 : Nat), sBest a l (f + 10 * (k + 1 : Nat)) h) else sDt a l h f k
def sYs (f t : Int) : Nat := ((t - f) / 10).toNat
def s_dated (a : pw_H) (l h f t : Int) : sR := if bList a l = false then (-1, a) else if bYrs h f t = false then (-2, a) else ((sDt a l h f (sYs f t)).1 + 3000, a)
def s_doubt (a : pw_H) (l h f t k : Int) : sR := if bList a l = false then (-1, a) else if (bYrs h f t && bIn k 0 800) = false then (-2, a) else (sSum (fun i => zB (decide (sBest a l (f + 10 * i) h ≤ (sDt a l h f (sYs f t)).2 + k))) (sYs f t + 1), a)
/-- a way is put in its place among the first n -/
def sIns (d : Int) : Nat → (Int → Int) → (Int → Int)
  | 0, f => fun j => if j = 0 then d else f j
  | n + 1, f => if d < f (n : Int) then sIns d n (fun j => if j = (n + 1 : Nat) then f (n : Int) else f j) else fun j => if j = (n + 1 : Nat) then d else f j
/-- the ways of the first i lines that are matched by slip 0, in order; how many -/
def sWs (a : pw_H) (l y : Int) : Nat → (Int → Int) × Nat
  | 0 => (fun _ => 0, 0)
  | i + 1 => if sStar a l y 0 i = -9 ∨ ¬ sRk a l i (sStar a l y 0 i) y 0 % 4 = 0 then sWs a l y i else (sIns (sWay (sSky a (sStar a l y 0 i) y) (a 6 (l * 8 + i))) (sWs a l y i).2 (sWs a l y i).1, (sWs a l y i).2 + 1)
def sTold (a : pw_H) (l y : Int) : Int := if (sWs a l y (a 5 l).toNat).2 = 0 then -9 else (sWs a l y (a 5 l).toNat).1 ((((sWs a l y (a 5 l).toNat).2 : Int) - 1) / 2) + 30
def s_shift (a : pw_H) (l y : Int) : sR := if bList a l = false then (-1, a) else if bIn y (-3000) 3000 = false then (-2, a) else (sTold a l y, a)
/-- the faults that the first i lines of a list tell, by star -/
def sFs (a : pw_H) (l y h : Int) : Nat → (Int → Int)
  | 0 => fun _ => 0
  | i + 1 => if sStar a l y h i = -9 then sFs a l y h i else fun s => if s = sStar a l y h i then sRk a l i (sStar a l y h i) y h % 4 else sFs a l y h i s
def sFault (a : pw_H) (l y h s : Int) : Int := sFs a l y h (a 5 l).toNat s
def s_fault (a : pw_H) (l s y h : Int) : sR := if (bList a l && bStar a s) = false then (-1, a) else if bMom y h = false then (-2, a) else (sFault a l y h s, a)
def sShare (a : pw_H) (p q y h : Int) : Int := sSum (fun s => zB (decide (¬ sFault a p y h s = 0 ∧ sFault a p y h s = sFault a q y h s))) (a 0 0).toNat
def sApart (a : pw_H) (p q y h : Int) : Int := sSum (fun s => zB (decide (¬ sFault a p y h s = sFault a q y h s))) (a 0 0).toNat
def s_share (a : pw_H) (p q y h : Int) : sR := if (bList a p && bList a q) = false then (-1, a) else if bMom y h = false then (-2, a) else (sShare a p q y h, a)
def s_apart (a : pw_H) (p q y h : Int) : sR := if (bList a p && bList a q) = false then (-1, a) else if bMom y h = false then (-2, a) else (sApart a p q y h, a)
