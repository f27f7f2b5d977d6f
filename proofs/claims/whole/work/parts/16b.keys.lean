theorem x_or8 : ∀ T : Nat, T < 256 → ∀ s : Nat, s < 8 → (T ||| 2 ^ s < 256) ∧ (T.testBit s = false → (T ||| 2 ^ s) ^^^ 2 ^ s = T ∧ (T ||| 2 ^ s).testBit s = true) ∧ (T.testBit s = true → (T ^^^ 2 ^ s) ||| 2 ^ s = T ∧ (T ^^^ 2 ^ s).testBit s = false ∧ T ^^^ 2 ^ s < 256) := by decide +kernel
theorem x_sub {T Z : Nat} : T &&& Z = T ↔ ∀ j, T.testBit j = true → Z.testBit j = true := by
  constructor
  · intro h j hj
    have := congrArg (fun x => x.testBit j) h
    simp only [Nat.testBit_and, hj, Bool.true_and] at this
    exact this
  · intro h
    apply Nat.eq_of_testBit_eq
    intro j
    rw [Nat.testBit_and]
    cases hj : T.testBit j with
    | false => rfl
    | true => rw [h j hj]; rfl
theorem n_sLess4 {least kind x y more : Int} (h : least = 1048576 ∨ 0 ≤ least ∧ least ≤ 443) (h1 : 0 ≤ x) (h2 : 0 ≤ y) (h3 : 0 ≤ more ∧ more ≤ 50) (h4 : 0 ≤ kind ∧ kind ≤ 3) : sLess least kind x y more = 1048576 ∨ 0 ≤ sLess least kind x y more ∧ sLess least kind x y more ≤ 443 := by
  unfold sLess; split <;> (try split) <;> omega
theorem n_sRank4 (d w v : Int) : sRank d w v = 1048576 ∨ 0 ≤ sRank d w v ∧ sRank d w v ≤ 443 := by
  unfold sRank
  refine n_sLess4 (n_sLess4 (n_sLess4 (n_sLess4 (n_sLess4 (by omega) ?_ ?_ ?_ ?_) ?_ ?_ ?_ ?_) ?_ ?_ ?_ ?_) ?_ ?_ ?_ ?_) ?_ ?_ ?_ ?_ <;> first | exact n_abs0 _ | omega
theorem sC_lt {a : pw_H} {l y h i s : Int} : sC a l y h i s < 100000 ↔ sF a l y h i s = true := by
  unfold sC
  have h4 := n_sRank4 (sWay (sSky a s y + h) (a 6 (l * 8 + i))) (a 7 (l * 8 + i)) (a 2 s)
  rw [show sRank (sWay (sSky a s y + h) (a 6 (l * 8 + i))) (a 7 (l * 8 + i)) (a 2 s) = sRk a l i s y h from rfl] at h4
  cases e : sF a l y h i s with
  | false => simp
  | true =>
    simp only [sF, Bool.and_eq_true, Bool.not_eq_true', decide_eq_false_iff_not] at e
    simp only [if_true, iff_true]
    have := e.2
    omega
theorem sC_t {a : pw_H} {l y h i s : Int} (e : sF a l y h i s = true) : sC a l y h i s = sRk a l i s y h / 4 ∧ 0 ≤ sRk a l i s y h ∧ sRk a l i s y h ≤ 443 := by
  have h4 := n_sRank4 (sWay (sSky a s y + h) (a 6 (l * 8 + i))) (a 7 (l * 8 + i)) (a 2 s)
  rw [show sRank (sWay (sSky a s y + h) (a 6 (l * 8 + i))) (a 7 (l * 8 + i)) (a 2 s) = sRk a l i s y h from rfl] at h4
  refine ⟨by unfold sC; rw [if_pos e], ?_⟩
  simp only [sF, Bool.and_eq_true, Bool.not_eq_true', decide_eq_false_iff_not] at e
  have := e.2
  omega
theorem sC_0 {a : pw_H} {l y h : Int} : ∀ i s, 0 ≤ sC a l y h i s := by
  intro i s
  cases e : sF a l y h i s with
  | false => unfold sC; rw [e]; simp
  | true => have := sC_t e; omega
/-- what a star adds to a key at line i -/
def kq (C : Int → Int → Int) (i s : Nat) : Int := C i s * 4294967296 + s * 16 ^ (7 - i)
section KEYS
variable {C : Int → Int → Int} {N n : Nat}
theorem dW_i {i : Nat} (hi : i < n) (hn : n ≤ 8) : dW n (n - (i + 1)) = 16 ^ (7 - i) := by
  unfold dW
  rw [show 8 - n + (n - (i + 1)) = 7 - i by omega]
/-- the keys K behind i lines: together with the least keys of the rest they give the least key -/
def DPi (C : Int → Int → Int) (N n i Z : Nat) (K : Int → Int) : Prop := (∀ T : Nat, T < 256 → 0 ≤ K T ∧ K T ≤ 1152921504606846976 + i * 2251799813685248) ∧ (∀ T : Nat, T < 256 → ¬ T &&& Z = T → 1152921504606846976 ≤ K T) ∧ ∀ b : Int, b ≤ 1152921504606846976 → ((∀ T : Nat, T < 256 → b ≤ K T + sK C N n (n - i) T) ↔ b ≤ sK C N n n 0)
theorem DP_0 (hC : ∀ i s, 0 ≤ C i s) (hN : N ≤ 8) (hn : n ≤ 8) {K : Int → Int} (h0 : K 0 = 0) (h1 : ∀ T : Nat, T < 256 → T ≠ 0 → K T = 1152921504606846976) : DPi C N n 0 0 K := by
  refine ⟨fun T hT => ?_, fun T hT hs => ?_, fun b hb => ⟨fun h => ?_, fun h T hT => ?_⟩⟩
  · by_cases q : T = 0
    · subst q; rw [show ((0 : Nat) : Int) = 0 from rfl, h0]; omega
    · rw [h1 T hT q]; omega
  · rw [h1 T hT (fun q => hs (by rw [q]; rfl))]; exact Int.le_refl _
  · have := h 0 (by decide)
    rw [show ((0 : Nat) : Int) = 0 from rfl, h0, Int.zero_add] at this
    exact this
  · have hr := sK_rng hC hN hn (r := n - 0) (by omega) T
    by_cases q : T = 0
    · subst q; rw [show ((0 : Nat) : Int) = 0 from rfl, h0, Int.zero_add]; exact h
    · rw [h1 T hT q]; omega
theorem DP_s (hC : ∀ i s, 0 ≤ C i s) (hN : N ≤ 8) (hn : n ≤ 8) {i Z Z' : Nat} (hi : i < n) {K K' : Int → Int} (D : DPi C N n i Z K) (hZ : ∀ s : Nat, Z.testBit s = true → Z'.testBit s = true) (hZs : ∀ s : Nat, s < N → C i s < 100000 → Z'.testBit s = true)
    (hk : ∀ s : Nat, s < N → C i s < 100000 → kq C i s ≤ 36028797018963968)
    (hin : ∀ T : Nat, T < 256 → T &&& Z' = T → Kn K N (fun s => decide (C i s < 100000)) (kq C i) (100 * 4294967296 + 8 * 16 ^ (7 - i)) T (K' T)) (hout : ∀ T : Nat, T < 256 → ¬ T &&& Z' = T → K' T = K T) : DPi C N n (i + 1) Z' K' := by
  obtain ⟨d1, d2, d3⟩ := D
  have hw := p16b i (by omega)
  have hkq : ∀ s : Nat, 0 ≤ kq C i s := fun s => by
    have := hC i s
    have := Int.mul_nonneg (show (0 : Int) ≤ s by omega) (show (0 : Int) ≤ 16 ^ (7 - i) by omega)
    unfold kq; omega
  have hsub : ∀ T : Nat, ¬ T &&& Z' = T → ¬ T &&& Z = T := fun T h q => h (x_sub.mpr fun j hj => hZ j (x_sub.mp q j hj))
  have en : n - i = (n - (i + 1)) + 1 := by omega
  have eI : ((n : Int) - ((n - (i + 1) + 1 : Nat) : Int)) = i := by omega
  have hstep : ∀ (G : Nat) (b : Int), b ≤ sK C N n (n - i) G ↔ b ≤ 100 * 4294967296 + 8 * 16 ^ (7 - i) + sK C N n (n - (i + 1)) G ∧ ∀ s : Nat, s < N → G.testBit s = false → C i s < 100000 → b ≤ kq C i s + sK C N n (n - (i + 1)) (G ||| 2 ^ s) := by
    intro G b
    have := sK_iff (N := N) hC hN hn (r := n - (i + 1)) (by omega) G b
    rw [dW_i hi hn, eI, ← en] at this
    exact this
  refine ⟨fun T hT => ?_, fun T hT hs => ?_, fun b hb => ?_⟩
  · by_cases q : T &&& Z' = T
    · have hn' := hin T hT q
      have h1 := d1 T hT
      constructor
      · rw [hn']
        refine ⟨by omega, fun s s1 s2 s3 => ?_⟩
        have h2 := d1 _ ((x_or8 T hT s (by omega)).2.2 s3).2.2
        have := hkq s
        omega
      · have := ((hn' (K' T)).mp (Int.le_refl _)).1
        omega
    · rw [hout T hT q]
      have h1 := d1 T hT
      omega
  · rw [hout T hT hs]; exact d2 T hT (hsub T hs)
  · rw [← d3 b hb]
    constructor
    · intro h T hT
      have hr0 := sK_rng hC hN hn (r := n - (i + 1)) (by omega) T
      rw [show (b ≤ K T + sK C N n (n - i) T) ↔ (b - K T ≤ sK C N n (n - i) T) by constructor <;> intro <;> omega, hstep]
      by_cases q : T &&& Z' = T
      · refine ⟨?_, fun s s1 s2 s3 => ?_⟩
        · have h1 := h T hT
          have h2 := (((hin T hT q) (K' T)).mp (Int.le_refl _)).1
          omega
        · obtain ⟨x1, x2, -⟩ := x_or8 T hT s (by omega)
          obtain ⟨x3, x4⟩ := x2 s2
          have q2 : (T ||| 2 ^ s) &&& Z' = T ||| 2 ^ s := x_sub.mpr fun j hj => by
            rw [Nat.testBit_or, Bool.or_eq_true] at hj
            rcases hj with hj | hj
            · exact x_sub.mp q j hj
            · have : s = j := by simpa [Nat.testBit_two_pow] using hj
              subst this
              exact hZs s s1 s3
          have h1 := h _ x1
          have h2 := (((hin _ x1 q2) (K' ((T ||| 2 ^ s : Nat) : Int))).mp (Int.le_refl _)).2 s s1 (by simpa using s3) x4
          rw [x3] at h2
          omega
      · have h1 := d2 T hT (hsub T q)
        refine ⟨by omega, fun s s1 s2 s3 => ?_⟩
        have h2 := sK_rng hC hN hn (r := n - (i + 1)) (by omega) (T ||| 2 ^ s)
        have := hkq s
        omega
    · intro h T hT
      have hr0 := sK_rng hC hN hn (r := n - (i + 1)) (by omega) T
      by_cases q : T &&& Z' = T
      · rw [show (b ≤ K' T + sK C N n (n - (i + 1)) T) ↔ (b - sK C N n (n - (i + 1)) T ≤ K' T) by constructor <;> intro <;> omega, hin T hT q]
        refine ⟨?_, fun s s1 s2 s3 => ?_⟩
        · have h1 := h T hT
          have h2 := ((hstep T _).mp (Int.le_refl _)).1
          omega
        · obtain ⟨-, -, x2⟩ := x_or8 T hT s (by omega)
          obtain ⟨x3, x4, x5⟩ := x2 s3
          have h1 := h _ x5
          have h2 := ((hstep (T ^^^ 2 ^ s) _).mp (Int.le_refl _)).2 s s1 x4 (by simpa using s2)
          rw [x3] at h2
          omega
      · rw [hout T hT q]
        have h1 := d2 T hT (hsub T q)
        omega
theorem DP_end (hC : ∀ i s, 0 ≤ C i s) (hN : N ≤ 8) (hn : n ≤ 8) {Z : Nat} (hZ : Z < 256) {K : Int → Int} (D : DPi C N n n Z K) {m : Int} (hm : ∀ b : Int, b ≤ m ↔ ∀ T : Nat, T ≤ Z → b ≤ K T) : m = sK C N n n 0 := by
  obtain ⟨d1, d2, d3⟩ := D
  have hr := sK_rng hC hN hn (r := n) (Nat.le_refl n) 0
  have e : ∀ T, sK C N n (n - n) T = 0 := fun T => by rw [Nat.sub_self]; rfl
  have key : ∀ b : Int, b ≤ 1152921504606846976 → (b ≤ m ↔ b ≤ sK C N n n 0) := by
    intro b hb
    rw [← d3 b hb, hm b]
    constructor
    · intro h T hT
      rw [e, Int.add_zero]
      rcases Nat.lt_or_ge Z T with q | q
      · have hs : ¬ T &&& Z = T := fun q2 => by
          have : T &&& Z ≤ Z := Nat.and_le_right
          omega
        have := d2 T hT hs
        omega
      · exact h T q
    · intro h T hT
      have := h T (by omega)
      rw [e, Int.add_zero] at this
      exact this
  have h1 : sK C N n n 0 ≤ m := (key _ (by omega)).mpr (Int.le_refl _)
  have h2 : ¬ sK C N n n 0 + 1 ≤ m := fun q => by
    have := (key (sK C N n n 0 + 1) (by omega)).mp q
    omega
  omega
end KEYS
