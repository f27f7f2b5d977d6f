/-! the shapes of the two systems -/
abbrev shX : pw_S := [.inl (4, [some 1, some 2, some 3, some 4, some 5]), .inl (3, [some 6, some 7, some 8, some 9, none, none]), .inl (2, [some 10, none, some 11, some 12]), .inl (1, [some 13, some 14, none, some 1, some 2, some 15, some 16, some 17, some 18, none]), .inl (0, [some 19, none, none, some 1, some 2, some 3, some 20, some 21]), .inr (false, 41), .inr (false, 8), .inr (false, 8), .inr (false, 8), .inr (false, 8), .inr (false, 6), .inr (false, 48), .inr (false, 48), .inr (false, 8), .inr (false, 8), .inr (false, 8), .inr (true, 256), .inr (false, 8), .inr (true, 8), .inr (false, 5), .inr (false, 48), .inr (false, 6)]
abbrev shM : pw_S := [.inl (5, [none, some 1, some 2, some 3, some 4, none, none, some 5, some 6, some 7, none, none, some 8, some 9, some 10, some 11, some 12, some 13, some 14, some 15]), .inr (false, 8), .inr (false, 8), .inr (false, 8), .inr (false, 8), .inr (false, 6), .inr (false, 48), .inr (false, 48), .inr (false, 2304), .inr (false, 64), .inr (false, 64), .inr (false, 8), .inr (false, 8), .inr (false, 48), .inr (false, 6), .inr (false, 5)]
/-! the abstract state: 0: how many stars, the limit, how many lists; 1 to 4: the stars' LONG, WIDE, MOTION, LIGHT; 5: how many lines; 6, 7: the lines' LONG, WIDE -/
def vX (σ : pw_H) : pw_H := fun k => match k with
  | 0 => fun j => if j = 0 then σ 1 4 else if j = 1 then σ 1 5 else if j = 2 then σ 2 1 else 0
  | 1 => σ 6 | 2 => σ 7 | 3 => σ 8 | 4 => σ 9 | 5 => σ 10 | 6 => σ 11 | 7 => σ 12
  | _ => fun _ => 0
def vM (σ : pw_H) : pw_H := fun k => match k with
  | 0 => fun j => if j = 0 then σ 0 0 else if j = 1 then σ 0 5 else if j = 2 then σ 0 6 else 0
  | 1 => σ 1 | 2 => σ 2 | 3 => σ 3 | 4 => σ 4 | 5 => σ 5 | 6 => σ 6 | 7 => σ 7
  | _ => fun _ => 0
/-- what holds of the abstract state between calls -/
def Inv (a : pw_H) : Prop := (0 ≤ a 0 0 ∧ a 0 0 ≤ 8) ∧ (0 ≤ a 0 1 ∧ a 0 1 ≤ 6) ∧ (0 ≤ a 0 2 ∧ a 0 2 ≤ 6) ∧ (∀ j, 0 ≤ a 1 j ∧ a 1 j ≤ 21599) ∧ (∀ j, -5400 ≤ a 2 j ∧ a 2 j ≤ 5400) ∧ (∀ j, -50 ≤ a 3 j ∧ a 3 j ≤ 50) ∧ (∀ j, 0 ≤ a 4 j ∧ a 4 j ≤ 6) ∧ (∀ j, 0 ≤ a 5 j ∧ a 5 j ≤ 8) ∧ (∀ j, a 0 2 ≤ j → a 5 j = 0) ∧ (∀ j, 0 ≤ a 6 j ∧ a 6 j ≤ 21599) ∧ (∀ j, -5400 ≤ a 7 j ∧ a 7 j ≤ 5400)
/-! what each call answers, of the abstract state -/
def bIn (n a b : Int) : Bool := decide (a ≤ n ∧ n ≤ b)
def bStar (a : pw_H) (s : Int) : Bool := bIn s 0 (a 0 0 - 1)
def bList (a : pw_H) (l : Int) : Bool := bIn l 0 (a 0 2 - 1)
def bLine (a : pw_H) (l i : Int) : Bool := bList a l && bIn i 0 (a 5 l - 1)
def bPlace (x w : Int) : Bool := bIn x 0 21599 && bIn w (-5400) 5400
def bMom (y h : Int) : Bool := bIn y (-3000) 3000 && bIn h (-600) 600
def sSky (a : pw_H) (s y : Int) : Int := (a 1 s + 5 * y / 6 + a 3 s * y / 100) % 21600
def sWay (f t : Int) : Int := (t - f + 10800) % 21600 - 10800
def sLess (least kind x y more : Int) : Int := if 30 < x ∨ 30 < y then least else if 4 * (x + y + more) + kind < least then 4 * (x + y + more) + kind else least
/-- four times the cost and the slip's number; 1048576: none -/
def sRank (d w v : Int) : Int := sLess (sLess (sLess (sLess (sLess 1048576 0 (zabs d) (zabs (w - v)) 0) 1 (zabs d) (zabs (w + v)) 40) 2 (zabs (zabs d - 1800)) (zabs (w - v)) 50) 3 (zabs (zabs d - 600)) (zabs (w - v)) 45) 3 (zabs d) (zabs (zabs (w - v) - 600)) 45
def sSum (f : Int → Int) : Nat → Int
  | 0 => 0
  | n + 1 => sSum f n + f (n : Int)
/-- the rank of a line against a star in a year with a shift -/
def sRk (a : pw_H) (l i s y h : Int) : Int := sRank (sWay (sSky a s y + h) (a 6 (l * 8 + i))) (a 7 (l * 8 + i)) (a 2 s)
def Fr (ks : List Nat) (σ τ : pw_H) : Prop := ∀ k, k ∉ ks → τ k = σ k
theorem Fr.rf {ks : List Nat} {σ : pw_H} : Fr ks σ σ := fun _ _ => rfl
theorem Fr.tr {k1 k2 ks : List Nat} {σ τ υ : pw_H} (h1 : Fr k1 σ τ) (h2 : Fr k2 τ υ) (s1 : ∀ k ∈ k1, k ∈ ks) (s2 : ∀ k ∈ k2, k ∈ ks) : Fr ks σ υ := fun k hk => (h2 k (fun q => hk (s2 k q))).trans (h1 k (fun q => hk (s1 k q)))
theorem Fr.u {ks : List Nat} {σ : pw_H} {k : Nat} {j v : Int} (h : k ∈ ks) : Fr ks σ (pw_u σ k j v) := fun k' hk => by
  funext t
  exact pw_u_k (fun q => hk (q ▸ h))
theorem Fr_vX {ks : List Nat} {σ τ : pw_H} (h : Fr ks σ τ) (hk : ∀ k ∈ [1, 2, 6, 7, 8, 9, 10, 11, 12], k ∉ ks) : vX τ = vX σ := by
  have e : ∀ k ∈ [1, 2, 6, 7, 8, 9, 10, 11, 12], τ k = σ k := fun k q => h k (hk k q)
  funext k
  match k with
  | 0 => simp only [vX, e 1 (by decide), e 2 (by decide)]
  | 1 => exact e 6 (by decide)
  | 2 => exact e 7 (by decide)
  | 3 => exact e 8 (by decide)
  | 4 => exact e 9 (by decide)
  | 5 => exact e 10 (by decide)
  | 6 => exact e 11 (by decide)
  | 7 => exact e 12 (by decide)
  | k + 8 => rfl
theorem Fr_vM {ks : List Nat} {σ τ : pw_H} (h : Fr ks σ τ) (hk : ∀ k ∈ [1, 2, 3, 4, 5, 6, 7], k ∉ ks) (h0 : τ 0 0 = σ 0 0 ∧ τ 0 5 = σ 0 5 ∧ τ 0 6 = σ 0 6) : vM τ = vM σ := by
  have e : ∀ k ∈ [1, 2, 3, 4, 5, 6, 7], τ k = σ k := fun k q => h k (hk k q)
  funext k
  match k with
  | 0 => simp only [vM, h0.1, h0.2.1, h0.2.2]
  | 1 => exact e 1 (by decide)
  | 2 => exact e 2 (by decide)
  | 3 => exact e 3 (by decide)
  | 4 => exact e 4 (by decide)
  | 5 => exact e 5 (by decide)
  | 6 => exact e 6 (by decide)
  | 7 => exact e 7 (by decide)
  | k + 8 => rfl
/-! the calls: what they answer, and the state behind them -/
abbrev sR : Type := Int × pw_H
def s_star (a : pw_H) (x w m b : Int) : sR := if (bPlace x w && (bIn m (-50) 50 && bIn b 0 6)) = false then (-2, a) else if a 0 0 = 8 then (-4, a) else (a 0 0, pw_u (pw_u (pw_u (pw_u (pw_u a 1 (a 0 0) x) 2 (a 0 0) w) 3 (a 0 0) m) 4 (a 0 0) b) 0 0 (a 0 0 + 1))
def s_sky (a : pw_H) (s y : Int) : sR := if bStar a s = false then (-1, a) else if bIn y (-3000) 3000 = false then (-2, a) else (sSky a s y, a)
def s_about (a : pw_H) (s w : Int) : sR := if bStar a s = false then (-1, a) else if w = 0 then (a 1 s, a) else if w = 1 then (a 3 s, a) else if w = 2 then (a 4 s, a) else if w = 3 then (a 2 s + 5400, a) else (-2, a)
def s_limit (a : pw_H) (n : Int) : sR := if bIn n 0 6 = false then (-2, a) else (a 0 1, pw_u a 0 1 n)
def s_way (a : pw_H) (f t : Int) : sR := if (bIn f 0 21599 && bIn t 0 21599) = false then (-2, a) else (sWay f t + 10800, a)
def s_list (a : pw_H) : sR := if a 0 2 = 6 then (-4, a) else (a 0 2, pw_u a 0 2 (a 0 2 + 1))
def s_line (a : pw_H) (l x w : Int) : sR := if bList a l = false then (-1, a) else if bPlace x w = false then (-2, a) else if a 5 l = 8 then (-4, a) else (a 5 l, pw_u (pw_u (pw_u a 5 l (a 5 l + 1)) 6 (l * 8 + a 5 l) x) 7 (l * 8 + a 5 l) w)
def s_written (a : pw_H) (l i w : Int) : sR := if bLine a l i = false then (-1, a) else if w = 0 then (a 6 (l * 8 + i), a) else if w = 1 then (a 7 (l * 8 + i) + 5400, a) else (-2, a)
def s_mend (a : pw_H) (l i x w : Int) : sR := if bLine a l i = false then (-1, a) else if bPlace x w = false then (-2, a) else (a 6 (l * 8 + i), pw_u (pw_u a 6 (l * 8 + i) x) 7 (l * 8 + i) w)
def s_round (a : pw_H) (l p : Int) : sR := if bList a l = false then (-1, a) else if bIn p 2 1800 = false then (-2, a) else (sSum (fun i => zB (decide (a 6 (l * 8 + i) % p = 0))) (a 5 l).toNat, a)
def s_slip (a : pw_H) (l i s y h : Int) : sR := if (bLine a l i && bStar a s) = false then (-1, a) else if bMom y h = false then (-2, a) else (if sRk a l i s y h = 1048576 then -9 else sRk a l i s y h % 4, a)
def s_cost (a : pw_H) (l i s y h : Int) : sR := if (bLine a l i && bStar a s) = false then (-1, a) else if bMom y h = false then (-2, a) else (if sRk a l i s y h = 1048576 then -9 else sRk a l i s y h / 4, a)
def s_count (a : pw_H) (w : Int) : sR := if w = 0 then (a 0 0, a) else if w = 1 then (a 0 2, a) else if w = 2 then (sSum (a 5) (a 0 2).toNat, a) else if w = 3 then (sSum (fun s => zB (decide (a 4 s ≤ a 0 1))) (a 0 0).toNat, a) else (-2, a)
abbrev pX (S : sR) : Option Value → pw_H → Prop := fun r τ => r = some (vI S.1) ∧ vX τ = S.2
abbrev pM (S : sR) : Option Value → pw_H → Prop := fun r τ => r = some (vI S.1) ∧ vM τ = S.2
/-- a star counts and matches a line; what it costs (100000: it doesn't) -/
def sF (a : pw_H) (l y h i s : Int) : Bool := decide (a 4 s ≤ a 0 1) && !decide (sRk a l i s y h = 1048576)
def sC (a : pw_H) (l y h : Int) : Int → Int → Int := fun i s => if sF a l y h i s = true then sRk a l i s y h / 4 else 100000
