/-! the tree of copies -/
abbrev tA : Type := Int × Int × Int
def tB (ap : Int → Int → Int) (g : Int → Int) (p q : Int) (c : tA) : tA := if ¬ g p = g q ∧ ap p q < c.2.2 then (p, q, ap p q) else c
/-- the lists q0, q0 + 1, .. behind p -/
def tIn (ap : Int → Int → Int) (g : Int → Int) (p : Int) (q0 : Nat) (c : tA) : Nat → tA
  | 0 => c
  | k + 1 => tB ap g p ((q0 + k : Nat) : Int) (tIn ap g p q0 c k)
def tOut (ap : Int → Int → Int) (g : Int → Int) (n : Nat) (c : tA) : Nat → tA
  | 0 => c
  | p + 1 => tIn ap g p (p + 1) (tOut ap g n c p) (n - (p + 1))
/-- the pair that comes next: its lists, by how much they are apart -/
def tPk (ap : Int → Int → Int) (g : Int → Int) (n : Nat) : tA := tOut ap g n (-9, -9, 9) n
def tG (g : Int → Int) (f e : Int) : Int → Int := fun l => if g l = g e then g f else g l
/-- groups, faults, rows behind k rows -/
def tS (ap : Int → Int → Int) (n : Nat) : Nat → (Int → Int) × Int × (Int → Int)
  | 0 => (fun l => l, 0, fun _ => 0)
  | k + 1 => (tG (tS ap n k).1 (tPk ap (tS ap n k).1 n).1 (tPk ap (tS ap n k).1 n).2.1, (tS ap n k).2.1 + (tPk ap (tS ap n k).1 n).2.2, fun j => if j = (k : Int) then 10 * (tPk ap (tS ap n k).1 n).1 + (tPk ap (tS ap n k).1 n).2.1 else (tS ap n k).2.2 j)
def tI (ap : Int → Int → Int) (n : Nat) (c : tA) : Prop := c = (-9, -9, 9) ∨ (0 ≤ c.1 ∧ c.1 < c.2.1 ∧ c.2.1 < n ∧ c.2.2 = ap c.1 c.2.1 ∧ c.2.2 < 9)
section TREE
variable {ap : Int → Int → Int} {g : Int → Int} {n : Nat}
theorem tB_I {p q : Nat} (hp : p < q) (hq : q < n) {c : tA} (h : tI ap n c) : tI ap n (tB ap g p q c) := by
  unfold tB
  by_cases z : ¬ g p = g q ∧ ap p q < c.2.2
  · rw [if_pos z]
    refine Or.inr ⟨by simp only []; omega, by simp only []; omega, by simp only []; omega, rfl, ?_⟩
    rcases h with h | h
    · rw [h] at z; exact z.2
    · simp only []; omega
  · rw [if_neg z]; exact h
theorem tIn_I {p q0 : Nat} (hp : p < q0) {c : tA} (h : tI ap n c) : ∀ k, q0 + k ≤ n → tI ap n (tIn ap g p q0 c k)
  | 0, _ => h
  | k + 1, hk => tB_I (by omega) (by omega) (tIn_I hp h k (by omega))
theorem tOut_I {c : tA} (h : tI ap n c) : ∀ p, p ≤ n → tI ap n (tOut ap g n c p)
  | 0, _ => h
  | p + 1, hp => tIn_I (Nat.lt_succ_self p) (tOut_I h p (by omega)) _ (by omega)
theorem tPk_I : tI ap n (tPk ap g n) := tOut_I (Or.inl rfl) n (Nat.le_refl n)
theorem tB_s {p q : Nat} {c : tA} (h : ¬ c.1 = -9) : ¬ (tB ap g p q c).1 = -9 := by
  unfold tB
  split
  · simp only []; omega
  · exact h
theorem tIn_s {p q0 : Nat} {c : tA} (h : ¬ c.1 = -9) : ∀ k, ¬ (tIn ap g p q0 c k).1 = -9
  | 0 => h
  | k + 1 => tB_s (tIn_s h k)
theorem tIn_f (hap : ∀ i j, ap i j < 9) {p q0 : Nat} (hp : p < q0) {c : tA} (hc : tI ap n c) : ∀ k, q0 + k ≤ n → (∃ j, j < k ∧ ¬ g p = g ((q0 + j : Nat) : Int)) → ¬ (tIn ap g p q0 c k).1 = -9
  | 0, _, h => by obtain ⟨j, hj, -⟩ := h; omega
  | k + 1, hk, h => by
    obtain ⟨j, hj, hg⟩ := h
    by_cases q : j = k
    · subst q
      simp only [tIn]
      have hI := tIn_I (g := g) hp hc j (by omega)
      by_cases z : (tIn ap g p q0 c j).1 = -9
      · have e : (tIn ap g p q0 c j) = (-9, -9, 9) := by
          rcases hI with h | h
          · exact h
          · omega
        rw [e]
        unfold tB
        rw [if_pos ⟨hg, hap _ _⟩]
        simp only []; omega
      · exact tB_s z
    · exact tB_s (tIn_f hap hp hc k (by omega) ⟨j, by omega, hg⟩)
theorem tOut_f (hap : ∀ i j, ap i j < 9) {c : tA} (hc : tI ap n c) : ∀ p, p ≤ n → (∃ i j : Nat, i < p ∧ i < j ∧ j < n ∧ ¬ g i = g j) → ¬ (tOut ap g n c p).1 = -9
  | 0, _, h => by obtain ⟨i, j, hi, -⟩ := h; omega
  | p + 1, hp, h => by
    obtain ⟨i, j, h1, h2, h3, h4⟩ := h
    simp only [tOut]
    by_cases q : i = p
    · subst q
      refine tIn_f hap (Nat.lt_succ_self i) (tOut_I hc i (by omega)) _ (by omega) ⟨j - (i + 1), by omega, ?_⟩
      rw [show i + 1 + (j - (i + 1)) = j by omega]
      exact h4
    · exact tIn_s (tOut_f hap hc p (by omega) ⟨i, j, by omega, h2, h3, h4⟩) _
/-- at least m lists of n, no two of which hang together -/
def tDis (g : Int → Int) (n m : Nat) : Prop := ∃ f : Nat → Nat, (∀ i, i < m → f i < n) ∧ ∀ i j, i < j → j < m → ¬ g (f i) = g (f j)
theorem tDis_s {m : Nat} (h : tDis g n (m + 1)) (f e : Int) : tDis (tG g f e) n m := by
  obtain ⟨F, h1, h2⟩ := h
  by_cases z : ∃ i, i < m + 1 ∧ g (F i) = g e
  · obtain ⟨i0, z1, z2⟩ := z
    refine ⟨fun i => if i < i0 then F i else F (i + 1), fun i hi => ?_, fun i j hij hj => ?_⟩
    · simp only []
      split
      · exact h1 i (by omega)
      · exact h1 (i + 1) (by omega)
    · have keep : ∀ k, k < m + 1 → k ≠ i0 → tG g f e (F k) = g (F k) := by
        intro k hk hne
        unfold tG
        rw [if_neg]
        intro q
        rw [← z2] at q
        rcases Nat.lt_or_ge k i0 with w | w
        · exact h2 k i0 w z1 q
        · exact h2 i0 k (by omega) hk q.symm
      simp only []
      split
      · split
        · rw [keep i (by omega) (by omega), keep j (by omega) (by omega)]; exact h2 i j hij (by omega)
        · rw [keep i (by omega) (by omega), keep (j + 1) (by omega) (by omega)]; exact h2 i (j + 1) (by omega) (by omega)
      · split
        · omega
        · rw [keep (i + 1) (by omega) (by omega), keep (j + 1) (by omega) (by omega)]; exact h2 (i + 1) (j + 1) (by omega) (by omega)
  · have keep : ∀ k, k < m + 1 → tG g f e (F k) = g (F k) := by
      intro k hk
      unfold tG
      rw [if_neg (fun q => z ⟨k, hk, q⟩)]
    exact ⟨F, fun i hi => h1 i (by omega), fun i j hij hj => by rw [keep i (by omega), keep j (by omega)]; exact h2 i j hij (by omega)⟩
theorem tS_dis (ap : Int → Int → Int) (n : Nat) : ∀ k, k ≤ n → tDis (tS ap n k).1 n (n - k)
  | 0, _ => ⟨fun i => i, fun i hi => by omega, fun i j hij hj => by simp only [tS]; omega⟩
  | k + 1, hk => by
    have := tS_dis ap n k (by omega)
    rw [show n - k = (n - (k + 1)) + 1 by omega] at this
    exact tDis_s this _ _
/-- as long as there are two lists that don't hang together a pair is found -/
theorem tS_found (hap : ∀ i j, ap i j < 9) {k : Nat} (hk : k + 1 < n) : 0 ≤ (tPk ap (tS ap n k).1 n).1 ∧ (tPk ap (tS ap n k).1 n).1 < (tPk ap (tS ap n k).1 n).2.1 ∧ (tPk ap (tS ap n k).1 n).2.1 < n ∧ (tPk ap (tS ap n k).1 n).2.2 = ap (tPk ap (tS ap n k).1 n).1 (tPk ap (tS ap n k).1 n).2.1 := by
  have hne : ¬ (tPk ap (tS ap n k).1 n).1 = -9 := by
    refine tOut_f hap (Or.inl rfl) n (Nat.le_refl n) ?_
    obtain ⟨F, h1, h2⟩ := tS_dis ap n k (by omega)
    have d := h2 0 1 (by omega) (by omega)
    have a0 := h1 0 (by omega)
    have a1 := h1 1 (by omega)
    rcases Nat.lt_trichotomy (F 0) (F 1) with w | w | w
    · exact ⟨F 0, F 1, a0, w, a1, d⟩
    · rw [w] at d; exact absurd rfl d
    · exact ⟨F 1, F 0, a1, w, a0, fun q => d q.symm⟩
  rcases (tPk_I : tI ap n (tPk ap (tS ap n k).1 n)) with h | h
  · rw [h] at hne; exact absurd rfl hne
  · exact ⟨h.1, h.2.1, h.2.2.1, h.2.2.2.1⟩
theorem tS_rng (ap : Int → Int → Int) (n : Nat) : ∀ k, k + 1 ≤ n → (∀ i j, ap i j < 9) → ∀ l : Int, 0 ≤ l → l < n → 0 ≤ (tS ap n k).1 l ∧ (tS ap n k).1 l < n
  | 0, _, _, l, h1, h2 => by simp only [tS]; omega
  | k + 1, hk, hap, l, h1, h2 => by
    have ih := tS_rng ap n k (by omega) hap
    have hf := tS_found (ap := ap) (n := n) hap (k := k) (by omega)
    simp only [tS, tG]
    split
    · exact ih _ hf.1 (by omega)
    · exact ih l h1 h2
end TREE
def sTr (a : pw_H) (y h : Int) (k : Nat) : (Int → Int) × Int × (Int → Int) := tS (fun p q => sApart a p q y h) (a 0 2).toNat k
def s_tree (a : pw_H) (y h : Int) : sR := if bMom y h = false then (-2, a) else ((sTr a y h ((a 0 2).toNat - 1)).2.1, a)
def s_row (a : pw_H) (i y h : Int) : sR := if bMom y h = false then (-2, a) else (if bIn i 0 (a 0 2 - 2) = true then (sTr a y h ((a 0 2).toNat - 1)).2.2 i else -9, a)
theorem sSum_cong {f g : Int → Int} : ∀ {n : Nat}, (∀ j : Nat, j < n → f j = g j) → sSum f n = sSum g n
  | 0, _ => rfl
  | n + 1, h => by
    simp only [sSum]
    rw [sSum_cong (fun j hj => h j (by omega)), h n (by omega)]
theorem sApart_r {a : pw_H} (hI : Inv a) (p q y h : Int) : 0 ≤ sApart a p q y h ∧ sApart a p q y h < 9 := by
  have h0 := hI.1
  have := sSum_01 (fun s => decide (¬ sFault a p y h s = sFault a q y h s)) (a 0 0).toNat
  unfold sApart
  omega
theorem sFs_r (a : pw_H) (l y h : Int) : ∀ (i : Nat) (s : Int), 0 ≤ sFs a l y h i s ∧ sFs a l y h i s ≤ 3
  | 0, s => by simp [sFs]
  | i + 1, s => by
    simp only [sFs]
    split
    · exact sFs_r a l y h i s
    · simp only []
      split
      · omega
      · exact sFs_r a l y h i s
