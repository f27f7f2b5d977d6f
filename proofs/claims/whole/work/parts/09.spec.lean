/-! the shapes of the two systems -/
abbrev shX : pw_S := [.inl (4, [some 1, some 2, some 3, some 4, some 5]), .inl (3, [some 6, some 7, some 8, some 9, none, none]), .inl (2, [some 10, none, some 11, some 12]), .inl (1, [some 13, some 14, none, some 1, some 2, some 15, some 16, some 17, some 18, none]), .inl (0, [some 19, none, none, some 1, some 2, some 3, some 20, some 21]), .inr (false, 41), .inr (false, 8), .inr (false, 8), .inr (false, 8), .inr (false, 8), .inr (false, 6), .inr (false, 48), .inr (false, 48), .inr (false, 8), .inr (false, 8), .inr (false, 8), .inr (true, 256), .inr (false, 8), .inr (true, 8), .inr (false, 5), .inr (false, 48), .inr (false, 6)]
abbrev shM : pw_S := [.inl (5, [none, some 1, some 2, some 3, some 4, none, none, some 5, some 6, some 7, none, none, some 8, some 9, some 10, some 11, some 12, some 13, some 14, some 15]), .inr (false, 8), .inr (false, 8), .inr (false, 8), .inr (false, 8), .inr (false, 6), .inr (false, 48), .inr (false, 48), .inr (false, 2304), .inr (false, 64), .inr (false, 64), .inr (false, 8), .inr (false, 8), .inr (false, 48), .inr (false, 6), .inr (false, 5)]
/-! the abstract state: 0: how many stars, the limit, how many lists; 1 to 4: the stars' LONG, WIDE, MOTION, LIGHT; 5: how many lines; 6, 7: the lines' LONG, WIDE -/
def vX (σ : pw_H) : pw_H := fun k => match k with
  | 0 => fun j => if j = 0 then σ 1 4 else if j = 1 then σ 1 5 else σ 2 1
  | 1 => σ 6 | 2 => σ 7 | 3 => σ 8 | 4 => σ 9 | 5 => σ 10 | 6 => σ 11 | 7 => σ 12
  | _ => fun _ => 0
def vM (σ : pw_H) : pw_H := fun k => match k with
  | 0 => fun j => if j = 0 then σ 0 0 else if j = 1 then σ 0 5 else σ 0 6
  | 1 => σ 1 | 2 => σ 2 | 3 => σ 3 | 4 => σ 4 | 5 => σ 5 | 6 => σ 6 | 7 => σ 7
  | _ => fun _ => 0
/-- what holds of the abstract state between calls -/
def Inv (a : pw_H) : Prop := (0 ≤ a 0 0 ∧ a 0 0 ≤ 8) ∧ (0 ≤ a 0 1 ∧ a 0 1 ≤ 6) ∧ (0 ≤ a 0 2 ∧ a 0 2 ≤ 6) ∧ (∀ j, 0 ≤ a 1 j ∧ a 1 j ≤ 21599) ∧ (∀ j, -5400 ≤ a 2 j ∧ a 2 j ≤ 5400) ∧ (∀ j, -50 ≤ a 3 j ∧ a 3 j ≤ 50) ∧ (∀ j, 0 ≤ a 4 j ∧ a 4 j ≤ 6) ∧ (∀ j, 0 ≤ a 5 j ∧ a 5 j ≤ 8) ∧ (∀ j, a 0 2 ≤ j → a 5 j = 0) ∧ (∀ j, 0 ≤ a 6 j ∧ a 6 j ≤ 21599) ∧ (∀ j, -5400 ≤ a 7 j ∧ a 7 j ≤ 5400)
/-! what each call answers, of the abstract state -/
def bIn (n a b : Int) : Bool := decide (a ≤ n ∧ n ≤ b)
def bStar (a : pw_H) (s : Int) : Bool := bIn s 0 (a 0 0 - 1)
def bList (a : pw_H) (l : Int) : Bool := bIn l 0 (a 0 2 - 1)
def bLine (a : pw_H) (l i : Int) : Bool := bList a l && bIn i 0 (a 5 l - 1)
def bPlace (x w : Int) : Bool := bIn x 0 21599 && bIn w (-5400) 5400
def bMom (y h : Int) : Bool := bIn y (-3000) 3000 && bIn h (-600) 600
def sSky (a : pw_H) (s y : Int) : Int := (a 1 s + 5 * y / 6 + a 3 s * y / 100) % 21600
def sWay (f t : Int) : Int := (t - f + 10800) % 21600 - 10800
def sLess (least kind x y more : Int) : Int := if 30 < x ∨ 30 < y then least else if 4 * (x + y + more) + kind < least then 4 * (x + y + more) + kind else least
/-- four times the cost and the slip's number; 1048576: none -/
def sRank (d w v : Int) : Int := sLess (sLess (sLess (sLess (sLess 1048576 0 (zabs d) (zabs (w - v)) 0) 1 (zabs d) (zabs (w + v)) 40) 2 (zabs (zabs d - 1800)) (zabs (w - v)) 50) 3 (zabs (zabs d - 600)) (zabs (w - v)) 45) 3 (zabs d) (zabs (zabs (w - v) - 600)) 45
