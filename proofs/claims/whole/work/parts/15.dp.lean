/-! the best match: sets of stars are natural numbers, by their bits -/
def sMin (f : Nat → Int) : Nat → Int → Int
  | 0, b => b
  | k + 1, b => zmin (sMin f k b) (f k)
theorem zmin_le (x y : Int) : zmin x y ≤ x ∧ zmin x y ≤ y ∧ (zmin x y = x ∨ zmin x y = y) := by unfold zmin; split <;> omega
theorem le_zmin {b x y : Int} : b ≤ zmin x y ↔ b ≤ x ∧ b ≤ y := by unfold zmin; split <;> omega
theorem sMin_init (f : Nat → Int) (b : Int) : ∀ k, sMin f k b ≤ b
  | 0 => Int.le_refl b
  | k + 1 => Int.le_trans (zmin_le _ _).1 (sMin_init f b k)
theorem sMin_le (f : Nat → Int) (b : Int) : ∀ k s, s < k → sMin f k b ≤ f s
  | 0, s, h => absurd h (Nat.not_lt_zero s)
  | k + 1, s, h => by
    rcases Nat.lt_or_ge s k with q | q
    · exact Int.le_trans (zmin_le _ _).1 (sMin_le f b k s q)
    · have : s = k := by omega
      subst this
      exact (zmin_le _ _).2.1
theorem sMin_at (f : Nat → Int) (b : Int) : ∀ k, sMin f k b = b ∨ ∃ s, s < k ∧ sMin f k b = f s
  | 0 => Or.inl rfl
  | k + 1 => by
    rcases (zmin_le (sMin f k b) (f k)).2.2 with q | q
    · rcases sMin_at f b k with h | ⟨s, h, h2⟩
      · exact Or.inl (q.trans h)
      · exact Or.inr ⟨s, by omega, q.trans h2⟩
    · exact Or.inr ⟨k, by omega, q⟩
/-- the least cost of the last r of n lines, when the stars of G are gone; C: what a line costs with a star, 100000 or more: they do not match -/
def sB (C : Int → Int → Int) (N n : Nat) : Nat → Nat → Int
  | 0, _ => 0
  | r + 1, G => sMin (fun s => if G.testBit s = true then 100000 else C ((n : Int) - (r + 1 : Nat)) (s : Int) + sB C N n r (G ||| 2 ^ s)) N (100 + sB C N n r G)
def sLow (p : Nat → Bool) : Nat → Nat → Int
  | _, 0 => -9
  | j, c + 1 => if p j = true then (j : Int) else sLow p (j + 1) c
theorem sLow_or (p : Nat → Bool) : ∀ c j, (sLow p j c = -9 ∧ ∀ s, j ≤ s → s < j + c → p s = false) ∨ ∃ s : Nat, sLow p j c = s ∧ j ≤ s ∧ s < j + c ∧ p s = true ∧ ∀ t, j ≤ t → t < s → p t = false
  | 0, j => Or.inl ⟨rfl, fun s h1 h2 => by omega⟩
  | c + 1, j => by
    simp only [sLow]
    by_cases h : p j = true
    · rw [if_pos h]
      exact Or.inr ⟨j, rfl, Nat.le_refl j, by omega, h, fun t h1 h2 => by omega⟩
    · rw [if_neg h]
      rcases sLow_or p c (j + 1) with ⟨h1, h2⟩ | ⟨s, h1, h2, h3, h4, h5⟩
      · refine Or.inl ⟨h1, fun s q1 q2 => ?_⟩
        by_cases q : s = j
        · subst q; simpa using h
        · exact h2 s (by omega) (by omega)
      · refine Or.inr ⟨s, h1, by omega, by omega, h4, fun t q1 q2 => ?_⟩
        by_cases q : t = j
        · subst q; simpa using h
        · exact h5 t (by omega) q2
def sP (C : Int → Int → Int) (N n r G s : Nat) : Bool := !G.testBit s && (decide (C ((n : Int) - (r + 1 : Nat)) (s : Int) < 100000) && decide (C ((n : Int) - (r + 1 : Nat)) (s : Int) + sB C N n r (G ||| 2 ^ s) = sB C N n (r + 1) G))
/-- the star of the first of the last r + 1 lines; -9: it is left -/
def sCh (C : Int → Int → Int) (N n r G : Nat) : Int := sLow (sP C N n r G) 0 N
def sGo (G : Nat) (c : Int) : Nat := if c = -9 then G else G ||| 2 ^ c.toNat
/-- the stars that are gone ahead of line i -/
def sGn (C : Int → Int → Int) (N n : Nat) : Nat → Nat
  | 0 => 0
  | i + 1 => sGo (sGn C N n i) (sCh C N n (n - 1 - i) (sGn C N n i))
/-- the star of line i in the best match -/
def sSt (C : Int → Int → Int) (N n i : Nat) : Int := sCh C N n (n - 1 - i) (sGn C N n i)
def dW (n r : Nat) : Int := 16 ^ (8 - n + r)
def dD (c : Int) : Int := if c = -9 then 8 else c
def sDg (C : Int → Int → Int) (N n : Nat) : Nat → Nat → Int
  | 0, _ => 0
  | r + 1, G => dD (sCh C N n r G) * dW n r + sDg C N n r (sGo G (sCh C N n r G))
def sK (C : Int → Int → Int) (N n r G : Nat) : Int := sB C N n r G * 4294967296 + sDg C N n r G
section DP
variable {C : Int → Int → Int} {N n : Nat}
theorem sB_rng (hC : ∀ i s, 0 ≤ C i s) : ∀ r G, 0 ≤ sB C N n r G ∧ sB C N n r G ≤ 100 * r
  | 0, G => by simp [sB]
  | r + 1, G => by
    have h1 := sB_rng hC r G
    simp only [sB]
    refine ⟨?_, Int.le_trans (sMin_init _ _ N) (by omega)⟩
    rcases sMin_at (fun s => if G.testBit s = true then 100000 else C ((n : Int) - (r + 1 : Nat)) (s : Int) + sB C N n r (G ||| 2 ^ s)) (100 + sB C N n r G) N with q | ⟨s, hs, q⟩
    · rw [q]; omega
    · rw [q]
      have h2 := sB_rng hC r (G ||| 2 ^ s)
      have h3 := hC ((n : Int) - (r + 1 : Nat)) s
      split <;> omega
theorem sCh_or (r G : Nat) : (sCh C N n r G = -9 ∧ ∀ s, s < N → sP C N n r G s = false) ∨ ∃ s : Nat, sCh C N n r G = s ∧ s < N ∧ sP C N n r G s = true ∧ ∀ t, t < s → sP C N n r G t = false := by
  rcases sLow_or (sP C N n r G) N 0 with ⟨h1, h2⟩ | ⟨s, h1, h2, h3, h4, h5⟩
  · exact Or.inl ⟨h1, fun s h => h2 s (Nat.zero_le s) (by omega)⟩
  · exact Or.inr ⟨s, h1, by omega, h4, fun t h => h5 t (Nat.zero_le t) h⟩
theorem sP_iff {r G s : Nat} : sP C N n r G s = true ↔ G.testBit s = false ∧ C ((n : Int) - (r + 1 : Nat)) s < 100000 ∧ C ((n : Int) - (r + 1 : Nat)) s + sB C N n r (G ||| 2 ^ s) = sB C N n (r + 1) G := by
  simp [sP]
theorem dW_pos (n r : Nat) : 0 < dW n r := Int.pow_pos (by decide)
theorem dW_s (n r : Nat) : dW n (r + 1) = 16 * dW n r := by
  unfold dW
  rw [← Nat.add_assoc, Int.pow_succ, Int.mul_comm]
theorem dD_rng (hN : N ≤ 8) (r G : Nat) : 0 ≤ dD (sCh C N n r G) ∧ dD (sCh C N n r G) ≤ 8 := by
  rcases sCh_or (C := C) (N := N) (n := n) r G with ⟨h, -⟩ | ⟨s, h, h2, -⟩
  · rw [h]; decide
  · rw [h]
    unfold dD
    rw [if_neg (by omega)]
    omega
theorem sDg_rng (hN : N ≤ 8) : ∀ r G, 0 ≤ sDg C N n r G ∧ sDg C N n r G < dW n r
  | 0, G => by have := dW_pos n 0; simp [sDg]; omega
  | r + 1, G => by
    have h1 := sDg_rng hN r (sGo G (sCh C N n r G))
    have h2 := dD_rng (C := C) (n := n) hN r G
    have h3 := dW_pos n r
    rw [dW_s]
    simp only [sDg]
    have h4 : 0 ≤ dD (sCh C N n r G) * dW n r := Int.mul_nonneg h2.1 (Int.le_of_lt h3)
    have h5 : dD (sCh C N n r G) * dW n r ≤ 8 * dW n r := Int.mul_le_mul_of_nonneg_right h2.2 (Int.le_of_lt h3)
    omega
theorem dW_le {r : Nat} (hr : r ≤ n) (hn : n ≤ 8) : dW n r ≤ 4294967296 := by
  unfold dW
  have h : 8 - n + r ≤ 8 := by omega
  have : ∀ k, k ≤ 8 → (16 : Int) ^ k ≤ 4294967296 := by decide
  exact this _ h
/-- the least key is not above any way to go on -/
theorem sK_le (hC : ∀ i s, 0 ≤ C i s) (hN : N ≤ 8) (hn : n ≤ 8) {r : Nat} (hr : r + 1 ≤ n) (G : Nat) :
    sK C N n (r + 1) G ≤ 100 * 4294967296 + 8 * dW n r + sK C N n r G ∧ ∀ s : Nat, s < N → G.testBit s = false → C ((n : Int) - (r + 1 : Nat)) s < 100000 → sK C N n (r + 1) G ≤ C ((n : Int) - (r + 1 : Nat)) s * 4294967296 + s * dW n r + sK C N n r (G ||| 2 ^ s) := by
  have hg := sDg_rng (C := C) (n := n) hN (r + 1) G
  have hw := dW_le hr hn
  have hwp := dW_pos n r
  have hB1 := sMin_init (fun s => if G.testBit s = true then 100000 else C ((n : Int) - (r + 1 : Nat)) (s : Int) + sB C N n r (G ||| 2 ^ s)) (100 + sB C N n r G) N
  have hBs := sMin_le (fun s => if G.testBit s = true then 100000 else C ((n : Int) - (r + 1 : Nat)) (s : Int) + sB C N n r (G ||| 2 ^ s)) (100 + sB C N n r G) N
  have eB : sB C N n (r + 1) G = sMin (fun s => if G.testBit s = true then 100000 else C ((n : Int) - (r + 1 : Nat)) (s : Int) + sB C N n r (G ||| 2 ^ s)) N (100 + sB C N n r G) := rfl
  rw [← eB] at hB1 hBs
  have eD : sDg C N n (r + 1) G = dD (sCh C N n r G) * dW n r + sDg C N n r (sGo G (sCh C N n r G)) := rfl
  refine ⟨?_, fun s hs hb hc => ?_⟩
  · have hg0 := sDg_rng (C := C) (n := n) hN r G
    unfold sK
    by_cases q : sB C N n (r + 1) G = 100 + sB C N n r G
    · rcases sCh_or (C := C) (N := N) (n := n) r G with ⟨h, -⟩ | ⟨t, h, h2, -, -⟩
      · rw [h] at eD
        rw [eD, show dD (-9) = 8 from rfl, show sGo G (-9) = G from rfl, q]
        omega
      · have hg1 := sDg_rng (C := C) (n := n) hN r (sGo G (sCh C N n r G))
        have h3 : dD (sCh C N n r G) = t := by rw [h]; unfold dD; rw [if_neg (by omega)]
        have h4 : dD (sCh C N n r G) * dW n r ≤ 7 * dW n r := Int.mul_le_mul_of_nonneg_right (by omega) (Int.le_of_lt hwp)
        omega
    · omega
  · have hc0 := hBs s hs
    simp only [hb, Bool.false_eq_true, if_false] at hc0
    have hg0 := sDg_rng (C := C) (n := n) hN r (G ||| 2 ^ s)
    have hsw : 0 ≤ (s : Int) * dW n r := Int.mul_nonneg (by omega) (Int.le_of_lt hwp)
    unfold sK
    rw [← Int.add_assoc, Int.add_right_comm, Int.add_assoc _ _ (sDg C N n r (G ||| 2 ^ s)), Int.add_right_comm]
    by_cases q : C ((n : Int) - (r + 1 : Nat)) s + sB C N n r (G ||| 2 ^ s) = sB C N n (r + 1) G
    · have hp : sP C N n r G s = true := sP_iff.mpr ⟨hb, hc, q⟩
      rcases sCh_or (C := C) (N := N) (n := n) r G with ⟨h, h2⟩ | ⟨t, h, h2, h3, h4⟩
      · rw [h2 s hs] at hp; cases hp
      · have hts : t ≤ s := by
          rcases Nat.lt_or_ge s t with q2 | q2
          · rw [h4 s q2] at hp; cases hp
          · exact q2
        have h5 : dD (sCh C N n r G) = t := by rw [h]; unfold dD; rw [if_neg (by omega)]
        have hg1 := sDg_rng (C := C) (n := n) hN r (sGo G (sCh C N n r G))
        rw [h5] at eD
        by_cases q3 : t = s
        · subst q3
          have h6 : sGo G (sCh C N n r G) = G ||| 2 ^ t := by rw [h]; unfold sGo; rw [if_neg (by omega)]; simp
          rw [h6] at eD
          omega
        · have h7 : (t : Int) * dW n r + dW n r ≤ (s : Int) * dW n r := by
            have : ((t : Int) + 1) * dW n r ≤ (s : Int) * dW n r := Int.mul_le_mul_of_nonneg_right (by omega) (Int.le_of_lt hwp)
            rw [Int.add_mul, Int.one_mul] at this
            exact this
          omega
    · omega
/-- it is one of the ways to go on -/
theorem sK_at (hC : ∀ i s, 0 ≤ C i s) (hn : n ≤ 8) {r : Nat} (hr : r + 1 ≤ n) (G : Nat) :
    sK C N n (r + 1) G = 100 * 4294967296 + 8 * dW n r + sK C N n r G ∨ ∃ s : Nat, s < N ∧ G.testBit s = false ∧ C ((n : Int) - (r + 1 : Nat)) s < 100000 ∧ sK C N n (r + 1) G = C ((n : Int) - (r + 1 : Nat)) s * 4294967296 + s * dW n r + sK C N n r (G ||| 2 ^ s) := by
  have eB : sB C N n (r + 1) G = sMin (fun s => if G.testBit s = true then 100000 else C ((n : Int) - (r + 1 : Nat)) (s : Int) + sB C N n r (G ||| 2 ^ s)) N (100 + sB C N n r G) := rfl
  have eD : sDg C N n (r + 1) G = dD (sCh C N n r G) * dW n r + sDg C N n r (sGo G (sCh C N n r G)) := rfl
  rcases sCh_or (C := C) (N := N) (n := n) r G with ⟨h, h2⟩ | ⟨t, h, h2, h3, h4⟩
  · left
    rw [h] at eD
    have hb : sB C N n (r + 1) G = 100 + sB C N n r G := by
      rcases sMin_at (fun s => if G.testBit s = true then 100000 else C ((n : Int) - (r + 1 : Nat)) (s : Int) + sB C N n r (G ||| 2 ^ s)) (100 + sB C N n r G) N with q | ⟨s, hs, q⟩
      · exact q
      · exfalso
        have hlt := sB_rng (N := N) (n := n) hC (r + 1) G
        have h0 := (sB_rng (N := N) (n := n) hC r (G ||| 2 ^ s)).1
        rw [← eB] at q
        by_cases hbit : G.testBit s = true
        · simp only [hbit, if_true] at q; omega
        · simp only [hbit, if_false] at q
          have := h2 s hs
          rw [Bool.eq_false_iff] at this
          exact this (sP_iff.mpr ⟨by simpa using hbit, by omega, q.symm⟩)
    unfold sK
    rw [eD, hb, show dD (-9) = 8 from rfl, show sGo G (-9) = G from rfl]
    omega
  · right
    obtain ⟨p1, p2, p3⟩ := sP_iff.mp h3
    refine ⟨t, h2, p1, p2, ?_⟩
    have h5 : dD (sCh C N n r G) = t := by rw [h]; unfold dD; rw [if_neg (by omega)]
    have h6 : sGo G (sCh C N n r G) = G ||| 2 ^ t := by rw [h]; unfold sGo; rw [if_neg (by omega)]; simp
    unfold sK
    rw [eD, h5, h6, ← p3, Int.add_mul]
    omega
theorem sK_iff (hC : ∀ i s, 0 ≤ C i s) (hN : N ≤ 8) (hn : n ≤ 8) {r : Nat} (hr : r + 1 ≤ n) (G : Nat) (b : Int) :
    b ≤ sK C N n (r + 1) G ↔ b ≤ 100 * 4294967296 + 8 * dW n r + sK C N n r G ∧ ∀ s : Nat, s < N → G.testBit s = false → C ((n : Int) - (r + 1 : Nat)) s < 100000 → b ≤ C ((n : Int) - (r + 1 : Nat)) s * 4294967296 + s * dW n r + sK C N n r (G ||| 2 ^ s) := by
  obtain ⟨h1, h2⟩ := sK_le hC hN hn hr G
  constructor
  · intro h
    exact ⟨Int.le_trans h h1, fun s a1 a2 a3 => Int.le_trans h (h2 s a1 a2 a3)⟩
  · rintro ⟨q1, q2⟩
    rcases sK_at (N := N) hC hn hr G with q | ⟨s, a1, a2, a3, q⟩
    · rw [q]; exact q1
    · rw [q]; exact q2 s a1 a2 a3
theorem sK_rng (hC : ∀ i s, 0 ≤ C i s) (hN : N ≤ 8) (hn : n ≤ 8) {r : Nat} (hr : r ≤ n) (G : Nat) : 0 ≤ sK C N n r G ∧ sK C N n r G < 801 * 4294967296 := by
  have h1 := sB_rng (N := N) (n := n) hC r G
  have h2 := sDg_rng (C := C) (n := n) hN r G
  have h3 := dW_le hr hn
  unfold sK
  omega
/-- the key's digits are the stars -/
theorem sK_path (hn : n ≤ 8) : ∀ i, i ≤ n → ∃ A : Int, sK C N n n 0 = A * dW n (n - i) + sDg C N n (n - i) (sGn C N n i) ∧ (i = 0 → A = sB C N n n 0) := by
  intro i
  induction i with
  | zero =>
    intro h
    refine ⟨sB C N n n 0, ?_, fun _ => rfl⟩
    unfold sK
    rw [show dW n (n - 0) = 4294967296 by unfold dW; rw [show 8 - n + (n - 0) = 8 by omega]; decide]
    rfl
  | succ i ih =>
    intro h
    obtain ⟨A, h1, -⟩ := ih (by omega)
    refine ⟨A * 16 + dD (sSt C N n i), ?_, fun q => by omega⟩
    have e : n - i = (n - (i + 1)) + 1 := by omega
    have e2 : n - 1 - i = n - (i + 1) := by omega
    rw [h1, e, dW_s]
    simp only [sDg, sGn, sSt, e2]
    rw [Int.add_mul, Int.mul_assoc, Int.add_assoc]
theorem sK_digit (hN : N ≤ 8) (hn : n ≤ 8) {i : Nat} (hi : i < n) : sK C N n n 0 / dW n (n - 1 - i) % 16 = dD (sSt C N n i) := by
  obtain ⟨A, h1, -⟩ := sK_path (C := C) (N := N) hn i (by omega)
  have e : n - i = (n - 1 - i) + 1 := by omega
  rw [e, dW_s] at h1
  simp only [sDg] at h1
  have hw := dW_pos n (n - 1 - i)
  have hg := sDg_rng (C := C) (n := n) hN (n - 1 - i) (sGo (sGn C N n i) (sCh C N n (n - 1 - i) (sGn C N n i)))
  have hd := dD_rng (C := C) (n := n) hN (n - 1 - i) (sGn C N n i)
  rw [show sSt C N n i = sCh C N n (n - 1 - i) (sGn C N n i) from rfl]
  have e2 : sK C N n n 0 = sDg C N n (n - 1 - i) (sGo (sGn C N n i) (sCh C N n (n - 1 - i) (sGn C N n i))) + (A * 16 + dD (sCh C N n (n - 1 - i) (sGn C N n i))) * dW n (n - 1 - i) := by
    rw [h1, Int.add_mul, Int.mul_assoc]
    omega
  rw [e2, Int.add_mul_ediv_right _ _ (by omega), Int.ediv_eq_zero_of_lt hg.1 hg.2]
  omega
theorem sK_cost (hN : N ≤ 8) (hn : n ≤ 8) : sK C N n n 0 / 4294967296 = sB C N n n 0 := by
  have hg := sDg_rng (C := C) (n := n) hN n 0
  have hw := dW_le (n := n) (Nat.le_refl n) hn
  unfold sK
  omega
theorem sSt_rng (i : Nat) : sSt C N n i = -9 ∨ (0 ≤ sSt C N n i ∧ sSt C N n i < N ∧ C i (sSt C N n i) < 100000) ∨ n ≤ i := by
  rcases Nat.lt_or_ge i n with q | q
  · rcases sCh_or (C := C) (N := N) (n := n) (n - 1 - i) (sGn C N n i) with ⟨h, -⟩ | ⟨s, h, h2, h3, -⟩
    · exact Or.inl h
    · refine Or.inr (Or.inl ?_)
      obtain ⟨-, p2, -⟩ := sP_iff.mp h3
      have e : ((n : Int) - ((n - 1 - i + 1 : Nat) : Int)) = i := by omega
      rw [e] at p2
      rw [show sSt C N n i = (s : Int) from h]
      exact ⟨by omega, by omega, p2⟩
  · exact Or.inr (Or.inr q)
end DP
