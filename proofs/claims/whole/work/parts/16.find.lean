set_option maxRecDepth 100000 in
theorem c_J7_fill_d0a16 (l : Launch) (G : pw_G) (σ : pw_H) {v : Int} : Ct l shX G mJ7_fill_d0a16 [.ref (G.2.1 16), vL v] σ (fun r τ => r = none ∧ Fr [16] σ τ ∧ ∀ j : Int, 0 ≤ j → j < 256 → τ 16 j = v) := by
  refine Ct_of (ls := [some (.ref (G.2.1 16)), some (vL v), none, none, none]) (by decide +kernel) (Nat.le_of_ble_eq_true rfl) rfl (fun X C => ?_)
  have loop : ∀ (n i : Nat) (τ : pw_H), i + n = 256 → Fr [16] σ τ → (∀ j : Int, 0 ≤ j → j < i → τ 16 j = v) → PW X shX G 6 [some (.ref (G.2.1 16)), some (vL v), none, some (vI i), some (vI (256 : Nat))] [] τ := by
    intro n
    induction n with
    | zero =>
      intro i τ hi hF hj
      refine r_iload_n C rfl dJ7_fill_d0a16_6 ?_
      refine r_iload C rfl dJ7_fill_d0a16_7 ?_
      refine r_icmp_ge (tgt := 22) C (by decide) (by omega) (by omega) dJ7_fill_d0a16_9 (fun c9 => ?_) (fun c9 => ?_)
      · refine r_return C rfl ?_ dJ7_fill_d0a16_22
        exact ⟨rfl, hF, fun j j1 j2 => hj j j1 (by omega)⟩
      · omega
    | succ n ih =>
      intro i τ hi hF hj
      refine r_iload_n C rfl dJ7_fill_d0a16_6 ?_
      refine r_iload C rfl dJ7_fill_d0a16_7 ?_
      refine r_icmp_ge (tgt := 22) C (by decide) (by omega) (by omega) dJ7_fill_d0a16_9 (fun c9 => ?_) (fun c9 => ?_)
      · omega
      · refine r_aload_n C rfl dJ7_fill_d0a16_12 ?_
        refine r_iload_n C rfl dJ7_fill_d0a16_13 ?_
        refine r_lload_n C rfl dJ7_fill_d0a16_14 ?_
        refine r_lastore C rfl (by decide) (by omega) dJ7_fill_d0a16_15 ?_
        refine r_iinc (ls' := [_, _, _, _, _]) C rfl (by decide) rfl rfl dJ7_fill_d0a16_16 ?_
        refine r_goto (tgt := 6) C (by decide) dJ7_fill_d0a16_19 ?_
        refine ih (i + 1) _ (by omega) (hF.tr (Fr.u (by decide)) (fun _ q => q) (fun _ q => q)) (fun j j1 j2 => ?_)
        by_cases q : j = i
        · rw [q, pw_u_s]
        · rw [pw_u_j q]; exact hj j j1 (by omega)
  refine r_iconst C dJ7_fill_d0a16_0 ?_
  refine r_istore_n (ls' := [_, _, _, _, _]) C (by decide) rfl rfl dJ7_fill_d0a16_1 ?_
  refine r_aload_n C rfl dJ7_fill_d0a16_2 ?_
  refine r_alen C rfl dJ7_fill_d0a16_3 ?_
  refine r_istore (ls' := [_, _, _, _, _]) C (by decide) rfl rfl dJ7_fill_d0a16_4 ?_
  exact loop 256 0 σ (by omega) Fr.rf (fun j j1 j2 => by omega)
theorem p16 : ∀ i : Nat, i < 8 → (2 : Int) ^ (4 * (7 - i)) = 16 ^ (7 - i) := by decide
theorem p16N : ∀ i : Nat, i < 8 → 2 ^ (4 * (7 - i)) = 16 ^ (7 - i) := by decide
theorem p16b : ∀ i : Nat, i < 8 → 1 ≤ (16 : Int) ^ (7 - i) ∧ (16 : Int) ^ (7 - i) ≤ 268435456 := by decide
set_option maxRecDepth 100000 in
theorem c_X1_digitPlace (l : Launch) (G : pw_G) (σ : pw_H) {i : Nat} (hi : i < 8) : Ct l shX G mX1_digitPlace [vI (i : Int)] σ (pv ((4 * (7 - i) : Nat) : Int) σ) := by
  refine Ct_of (ls := [some (vI (i : Int))]) (by decide +kernel) (Nat.le_of_ble_eq_true rfl) rfl (fun X C => ?_)
  refine r_iconst C dX1_digitPlace_0 ?_
  refine r_bipush C (by decide +kernel) dX1_digitPlace_1 ?_
  refine r_iload_n C rfl dX1_digitPlace_3 ?_
  refine r_isub C dX1_digitPlace_4 ?_
  refine r_imul C dX1_digitPlace_5 ?_
  refine r_ireturn C rfl ?_ dX1_digitPlace_6
  exact pv_of (by omega) rfl
set_option maxRecDepth 100000 in
theorem c_X1_keyPart (l : Launch) (G : pw_G) (σ : pw_H) {i c d : Nat} (hi : i < 8) (hc : c < 1048576) (hd : d < 16) : Ct l shX G mX1_keyPart [vI (i : Int), vI (c : Int), vI (d : Int)] σ (fun r τ => r = some (vL (c * 4294967296 + d * 16 ^ (7 - i))) ∧ σ = τ) := by
  refine Ct_of (ls := [some (vI (i : Int)), some (vI (c : Int)), some (vI (d : Int))]) (by decide +kernel) (Nat.le_of_ble_eq_true rfl) rfl (fun X C => ?_)
  refine r_iload_n C rfl dX1_keyPart_0 ?_
  refine r_i2l C (l_i2l (by omega)) dX1_keyPart_1 ?_
  refine r_bipush C (by decide +kernel) dX1_keyPart_2 ?_
  refine r_lshl C (l_shl c (k := 32) (by decide)) dX1_keyPart_4 ?_
  refine r_iload_n C rfl dX1_keyPart_5 ?_
  refine r_i2l C (l_i2l (by omega)) dX1_keyPart_6 ?_
  refine r_iload_n C rfl dX1_keyPart_7 ?_
  refine r_callS (As := [_]) C (c_X1_digitPlace _ _ _ hi) ok_X1_digitPlace ln_X1_120 rfl rfl (Nat.le_of_ble_eq_true rfl) (Nat.le_of_ble_eq_true rfl) (Nat.le_of_ble_eq_true rfl) dX1_keyPart_8 (fun v8 τ8 hq8 => ?_)
  obtain ⟨rfl, rfl⟩ := hq8
  refine r_lshl C (l_shl d (k := 4 * (7 - i)) (by omega)) dX1_keyPart_11 ?_
  refine r_ladd C dX1_keyPart_12 ?_
  refine r_lreturn C rfl ?_ dX1_keyPart_13
  refine ⟨?_, rfl⟩
  rw [p16N i hi, Int.natCast_mul, Int.natCast_mul, Int.natCast_pow, Int.natCast_pow]
  rfl
/-- what gatherFits leaves: F stars st, that match and count, what each adds to a key -/
def Fits (σ : pw_H) (N : Nat) (p : Nat → Bool) (q : Nat → Int) (F : Nat) (st : Nat → Nat) : Prop := σ 3 9 = F ∧ F ≤ N ∧ (∀ f : Nat, f < F → st f < N ∧ p (st f) = true ∧ σ 17 f = ((2 ^ st f : Nat) : Int) ∧ σ 18 f = q (st f)) ∧ (∀ s, s < N → p s = true → ∃ f, f < F ∧ st f = s)
/-- a key behind a line: b is not above it if it isn't above any way to it -/
def Kn (K : Int → Int) (N : Nat) (p : Nat → Bool) (q : Nat → Int) (left : Int) (T : Nat) (v : Int) : Prop := ∀ b : Int, b ≤ v ↔ b ≤ K T + left ∧ ∀ s, s < N → p s = true → T.testBit s = true → b ≤ K ((T ^^^ 2 ^ s : Nat) : Int) + q s
theorem b_less8 : ∀ T : Nat, T < 256 → ∀ s : Nat, s < 8 → T.testBit s = true → T ^^^ 2 ^ s < T := by decide +kernel
/-- fewer places known -/
def pw_m : List (Option Value) → List Bool → List (Option Value)
  | a :: r, b :: m => (if b then a else none) :: pw_m r m
  | _, _ => []
theorem pw_m_at : ∀ (ls : List (Option Value)) (m : List Bool) (i : Nat) (v : Value), (pw_m ls m)[i]? = some (some v) → ls[i]? = some (some v)
  | [], m, i, v, h => by cases m <;> simp [pw_m] at h
  | a :: r, [], i, v, h => by simp [pw_m] at h
  | a :: r, b :: m, 0, v, h => by cases b <;> simp [pw_m] at h ⊢; exact h
  | a :: r, b :: m, i + 1, v, h => by
    simp only [pw_m, List.getElem?_cons_succ] at h ⊢
    exact pw_m_at r m i v h
theorem PW_lw {X : PXT} {sh : pw_S} {G : pw_G} {pc : Nat} {ls ls' : List (Option Value)} {st : List Value} {σ : pw_H} (m : List Bool) (h : PW X sh G pc ls' st σ) (e : pw_m ls m = ls') : PW X sh G pc ls st σ := by
  obtain ⟨p, l, e', R, s, mm, args, below, meth, c, A, Z, n⟩ := X
  subst e
  intro H locs la hl hP hS
  refine h H locs la ⟨hl.1, hl.2.1, fun q hq => ?_⟩ hP hS
  obtain ⟨j, v⟩ := q
  obtain ⟨t, ht, hv⟩ := (pw_l_mem _ 0 j v).mp hq
  exact hl.2.2 (j, v) ((pw_l_mem _ 0 j v).mpr ⟨t, ht, pw_m_at ls m t v hv⟩)
theorem b_none {T s : Nat} : T &&& 2 ^ s = 0 ↔ T.testBit s = false := by
  constructor
  · intro h
    have := congrArg (fun x => x.testBit s) h
    simpa using this
  · intro h
    apply Nat.eq_of_testBit_eq
    intro j
    by_cases q : s = j
    · subst q; simp [h]
    · simp [Nat.testBit_two_pow, q]
set_option maxRecDepth 100000 in
set_option maxHeartbeats 4000000 in
theorem c_X1_takeLine (l : Launch) (G : pw_G) (σ : pw_H) {i Z N : Nat} {p : Nat → Bool} {q : Nat → Int} {F : Nat} {st : Nat → Nat} (hi : i < 8) (hZ : Z < 256) (hN : N ≤ 8) (hF : Fits σ N p q F st) (hK : ∀ T : Nat, T < 256 → 0 ≤ σ 16 T ∧ σ 16 T ≤ 2305843009213693952) (hq : ∀ s, s < N → p s = true → 0 ≤ q s ∧ q s ≤ 36028797018963968) :
    Ct l shX G mX1_takeLine [.ref (G.2.1 3), vI (i : Int), vI (Z : Int)] σ (fun r τ => r = none ∧ Fr [16] σ τ ∧ ∀ T : Nat, T < 256 → (T &&& Z = T → Kn (σ 16) N p q (100 * 4294967296 + 8 * 16 ^ (7 - i)) T (τ 16 T)) ∧ (¬ T &&& Z = T → τ 16 T = σ 16 T)) := by
  obtain ⟨f1, f2, f3, f4⟩ := hF
  have hw := p16b i hi
  refine Ct_of (ls := [some (.ref (G.2.1 3)), some (vI (i : Int)), some (vI (Z : Int)), none, none, none, none, none, none]) (by decide +kernel) (Nat.le_of_ble_eq_true rfl) rfl (fun X C => ?_)
  have loop : ∀ (n : Nat) (υ : pw_H), n ≤ Z + 1 → Fr [16] σ υ → (∀ T : Nat, T < 256 → (T < n → υ 16 T = σ 16 T) ∧ (n ≤ T → (T &&& Z = T → Kn (σ 16) N p q (100 * 4294967296 + 8 * 16 ^ (7 - i)) T (υ 16 T)) ∧ (¬ T &&& Z = T → υ 16 T = σ 16 T))) → PW X shX G 12 [some (.ref (G.2.1 3)), some (vI (i : Int)), some (vI (Z : Int)), some (vL (100 * 4294967296 + 8 * 16 ^ (7 - i))), none, some (vI ((n : Int) - 1)), none, none, none] [] υ := by
    intro n
    induction n with
    | zero =>
      intro υ hn hFr hT
      refine r_iload C rfl dX1_takeLine_12 ?_
      refine r_if_lt (tgt := 119) C (by decide) (by omega) dX1_takeLine_14 (fun c14 => ?_) (fun c14 => ?_)
      · refine r_return C rfl ?_ dX1_takeLine_119
        exact ⟨rfl, hFr, fun T h => (hT T h).2 (Nat.zero_le T)⟩
      · omega
    | succ n ih =>
      intro υ hn hFr hT
      have e1 : υ 3 9 = F := (congrFun (hFr 3 (by decide)) 9).trans f1
      have e2 : ∀ f : Nat, υ 17 f = σ 17 f := fun f => congrFun (hFr 17 (by decide)) f
      have e3 : ∀ f : Nat, υ 18 f = σ 18 f := fun f => congrFun (hFr 18 (by decide)) f
      have hn0 : ((n + 1 : Nat) : Int) - 1 = (n : Int) := by omega
      have eK : ∀ T : Nat, T < n + 1 → υ 16 T = σ 16 T := fun T h => (hT T (by omega)).1 h
      rw [hn0]
      have ex : ∀ m : Int, 0 ≤ m → m ≤ 4611686018427387904 → n &&& Z = n → Kn (σ 16) N p q (100 * 4294967296 + 8 * 16 ^ (7 - i)) n m → PW X shX G 104 [some (.ref (G.2.1 3)), some (vI (i : Int)), some (vI (Z : Int)), some (vL (100 * 4294967296 + 8 * 16 ^ (7 - i))), none, some (vI (n : Int)), some (vL m), none, some (vI (F : Int))] [] υ := by
        intro m m0 m1 hs hm
        refine r_aload_n C rfl dX1_takeLine_104 ?_
        refine r_getR C 1 6 rfl rfl (by decide) rfl uw_X1 fl_X1_25 dX1_takeLine_105 ?_
        refine r_iload C rfl dX1_takeLine_108 ?_
        refine r_lload C rfl dX1_takeLine_110 ?_
        refine r_lastore C rfl (by decide) (by omega) dX1_takeLine_112 ?_
        refine r_iinc (ls' := [_, _, _, _, _, _, _, _, _]) C rfl (by decide) rfl rfl dX1_takeLine_113 ?_
        refine r_goto (tgt := 12) C (by decide) dX1_takeLine_116 ?_
        refine PW_lw [true, true, true, true, false, true, false, false, false] (ih _ (by omega) (hFr.tr (Fr.u (by decide)) (fun _ q => q) (fun _ q => q)) (fun T h => ?_)) ?_
        · by_cases q0 : T = n
          · subst q0
            exact ⟨fun q1 => by omega, fun _ => ⟨fun _ => by rw [pw_u_s]; exact hm, fun q1 => absurd hs q1⟩⟩
          · have e5 : pw_u υ 16 (n : Int) m 16 (T : Int) = υ 16 T := pw_u_j (by omega)
            rw [e5]
            exact ⟨fun q1 => eK T (by omega), fun q1 => (hT T h).2 (by omega)⟩
        · rfl
      have inner : ∀ (k f : Nat) (m : Int), f + k = F → n &&& Z = n → 0 ≤ m → m ≤ 4611686018427387904 → (∀ b : Int, b ≤ m ↔ b ≤ σ 16 n + (100 * 4294967296 + 8 * 16 ^ (7 - i)) ∧ ∀ g : Nat, g < f → n.testBit (st g) = true → b ≤ σ 16 ((n ^^^ 2 ^ st g : Nat) : Int) + q (st g)) → PW X shX G 43 [some (.ref (G.2.1 3)), some (vI (i : Int)), some (vI (Z : Int)), some (vL (100 * 4294967296 + 8 * 16 ^ (7 - i))), none, some (vI (n : Int)), some (vL m), none, some (vI (f : Int))] [] υ := by
        intro k
        induction k with
        | zero =>
          intro f m hf hs m0 m1 hm
          refine r_iload C rfl dX1_takeLine_43 ?_
          refine r_aload_n C rfl dX1_takeLine_45 ?_
          refine r_getI (jz := 9) C 1 9 rfl rfl (by decide) rfl uw_X1 fl_X1_35 rfl dX1_takeLine_46 ?_
          refine r_icmp_ge (tgt := 104) C (by decide) (by omega) (by omega) dX1_takeLine_49 (fun c49 => ?_) (fun c49 => ?_)
          · have hfF : f = F := by omega
            subst hfF
            refine ex m m0 m1 hs (fun b => (hm b).trans ⟨fun h => ⟨h.1, fun s s1 s2 s3 => ?_⟩, fun h => ⟨h.1, fun g g1 g2 => h.2 (st g) (f3 g g1).1 (f3 g g1).2.1 g2⟩⟩)
            obtain ⟨g, g1, g2⟩ := f4 s s1 s2
            subst g2
            exact h.2 g g1 s3
          · omega
        | succ k ihk =>
          intro f m hf hs m0 m1 hm
          have hfF : f < F := by omega
          obtain ⟨s1, s2, s3, s4⟩ := f3 f hfF
          have s5 := e2 f
          have s6 := e3 f
          have s7 := hq _ s1 s2
          have hn256 : n < 256 := by omega
          have hb1 : n &&& 2 ^ st f < 256 := Nat.lt_of_le_of_lt Nat.and_le_left hn256
          refine r_iload C rfl dX1_takeLine_43 ?_
          refine r_aload_n C rfl dX1_takeLine_45 ?_
          refine r_getI (jz := 9) C 1 9 rfl rfl (by decide) rfl uw_X1 fl_X1_35 rfl dX1_takeLine_46 ?_
          refine r_icmp_ge (tgt := 104) C (by decide) (by omega) (by omega) dX1_takeLine_49 (fun c49 => ?_) (fun c49 => ?_)
          · omega
          · refine r_iload C rfl dX1_takeLine_52 ?_
            refine r_aload_n C rfl dX1_takeLine_54 ?_
            refine r_getR C 1 7 rfl rfl (by decide) rfl uw_X1 fl_X1_29 dX1_takeLine_55 ?_
            refine r_iload C rfl dX1_takeLine_58 ?_
            refine r_iaload C rfl (by decide) (by omega) dX1_takeLine_60 ?_
            rw [s5, s3]
            refine r_iand C (b_and n (2 ^ st f)) dX1_takeLine_61 ?_
            refine r_if_ne (tgt := 68) C (by decide) (by omega) dX1_takeLine_62 (fun c62 => ?_) (fun c62 => ?_)
            · have hbit : n.testBit (st f) = true := by
                rcases Bool.eq_false_or_eq_true (n.testBit (st f)) with q1 | q1
                · exact q1
                · exact absurd (by rw [b_none.mpr q1]; rfl) c62
              have hls := b_less8 n hn256 (st f) (by omega) hbit
              have hk := hK (n ^^^ 2 ^ st f) (by omega)
              have e7 := eK (n ^^^ 2 ^ st f) (by omega)
              have hz := zmin_le m (σ 16 ((n ^^^ 2 ^ st f : Nat) : Int) + q (st f))
              have hnx : ∀ b : Int, b ≤ zmin m (σ 16 ((n ^^^ 2 ^ st f : Nat) : Int) + q (st f)) ↔ b ≤ σ 16 n + (100 * 4294967296 + 8 * 16 ^ (7 - i)) ∧ ∀ g : Nat, g < f + 1 → n.testBit (st g) = true → b ≤ σ 16 ((n ^^^ 2 ^ st g : Nat) : Int) + q (st g) := by
                intro b
                rw [le_zmin, hm b]
                constructor
                · rintro ⟨⟨h1, h2⟩, h3⟩
                  refine ⟨h1, fun g g1 g2 => ?_⟩
                  by_cases q1 : g = f
                  · subst q1; exact h3
                  · exact h2 g (by omega) g2
                · rintro ⟨h1, h2⟩
                  exact ⟨⟨h1, fun g g1 g2 => h2 g (by omega) g2⟩, h2 f (by omega) hbit⟩
              refine r_lload C rfl dX1_takeLine_68 ?_
              refine r_aload_n C rfl dX1_takeLine_70 ?_
              refine r_getR C 1 6 rfl rfl (by decide) rfl uw_X1 fl_X1_25 dX1_takeLine_71 ?_
              refine r_iload C rfl dX1_takeLine_74 ?_
              refine r_aload_n C rfl dX1_takeLine_76 ?_
              refine r_getR C 1 7 rfl rfl (by decide) rfl uw_X1 fl_X1_29 dX1_takeLine_77 ?_
              refine r_iload C rfl dX1_takeLine_80 ?_
              refine r_iaload C rfl (by decide) (by omega) dX1_takeLine_82 ?_
              rw [s5, s3]
              refine r_ixor C (b_xor n (2 ^ st f)) dX1_takeLine_83 ?_
              refine r_laload C rfl (by decide) (by omega) dX1_takeLine_84 ?_
              refine r_aload_n C rfl dX1_takeLine_85 ?_
              refine r_getR C 1 8 rfl rfl (by decide) rfl uw_X1 fl_X1_32 dX1_takeLine_86 ?_
              refine r_iload C rfl dX1_takeLine_89 ?_
              refine r_laload C rfl (by decide) (by omega) dX1_takeLine_91 ?_
              refine r_ladd C dX1_takeLine_92 ?_
              rw [e7, s6, s4]
              refine r_mminL C (by omega) (by omega) ln_X1_123 st_min_long in_Math co_min_long (Nat.le_of_ble_eq_true rfl) (Nat.le_of_ble_eq_true rfl) dX1_takeLine_93 ?_
              refine r_lstore (ls' := [_, _, _, _, _, _, _, _, _]) C (by decide) rfl rfl dX1_takeLine_96 ?_
              refine r_iinc (ls' := [_, _, _, _, _, _, _, _, _]) C rfl (by decide) rfl rfl dX1_takeLine_98 ?_
              refine r_goto (tgt := 43) C (by decide) dX1_takeLine_101 ?_
              exact ihk (f + 1) _ (by omega) hs (by omega) (by omega) hnx
            · have hbit : n.testBit (st f) = false := b_none.mp (by omega)
              have hnx : ∀ b : Int, b ≤ m ↔ b ≤ σ 16 n + (100 * 4294967296 + 8 * 16 ^ (7 - i)) ∧ ∀ g : Nat, g < f + 1 → n.testBit (st g) = true → b ≤ σ 16 ((n ^^^ 2 ^ st g : Nat) : Int) + q (st g) := by
                intro b
                rw [hm b]
                constructor
                · rintro ⟨h1, h2⟩
                  refine ⟨h1, fun g g1 g2 => ?_⟩
                  by_cases q1 : g = f
                  · subst q1; rw [hbit] at g2; cases g2
                  · exact h2 g (by omega) g2
                · rintro ⟨h1, h2⟩
                  exact ⟨h1, fun g g1 g2 => h2 g (by omega) g2⟩
              refine r_goto (tgt := 98) C (by decide) dX1_takeLine_65 ?_
              refine r_iinc (ls' := [_, _, _, _, _, _, _, _, _]) C rfl (by decide) rfl rfl dX1_takeLine_98 ?_
              refine r_goto (tgt := 43) C (by decide) dX1_takeLine_101 ?_
              exact ihk (f + 1) _ (by omega) hs (by omega) (by omega) hnx
      have hn256 : n < 256 := by omega
      have hk := hK n hn256
      have e8 := eK n (by omega)
      refine r_iload C rfl dX1_takeLine_12 ?_
      refine r_if_lt (tgt := 119) C (by decide) (by omega) dX1_takeLine_14 (fun c14 => ?_) (fun c14 => ?_)
      · omega
      · refine r_iload C rfl dX1_takeLine_17 ?_
        refine r_iload_n C rfl dX1_takeLine_19 ?_
        refine r_iconst C dX1_takeLine_20 ?_
        refine r_ixor C (b_not8 Z hZ) dX1_takeLine_21 ?_
        refine r_iand C (b_mask8 Z hZ n hn256) dX1_takeLine_22 ?_
        refine r_if_eq (tgt := 29) C (by decide) (by have : n &&& (255 ^^^ Z) ≤ n := Nat.and_le_left; omega) dX1_takeLine_23 (fun c23 => ?_) (fun c23 => ?_)
        · have hs : n &&& Z = n := (b_sub8 Z hZ n hn256).mp (by omega)
          refine r_aload_n C rfl dX1_takeLine_29 ?_
          refine r_getR C 1 6 rfl rfl (by decide) rfl uw_X1 fl_X1_25 dX1_takeLine_30 ?_
          refine r_iload C rfl dX1_takeLine_33 ?_
          refine r_laload C rfl (by decide) (by omega) dX1_takeLine_35 ?_
          refine r_lload_n C rfl dX1_takeLine_36 ?_
          refine r_ladd C dX1_takeLine_37 ?_
          refine r_lstore (ls' := [_, _, _, _, _, _, _, _, _]) C (by decide) rfl rfl dX1_takeLine_38 ?_
          refine r_iconst C dX1_takeLine_40 ?_
          refine r_istore (ls' := [_, _, _, _, _, _, _, _, _]) C (by decide) rfl rfl dX1_takeLine_41 ?_
          rw [e8]
          exact inner F 0 _ (by omega) hs (by omega) (by omega) (fun b => ⟨fun h => ⟨h, fun g g1 => by omega⟩, fun h => h.1⟩)
        · have hs : ¬ n &&& Z = n := fun q1 => c23 (by rw [(b_sub8 Z hZ n hn256).mpr q1]; rfl)
          refine r_goto (tgt := 113) C (by decide) dX1_takeLine_26 ?_
          refine r_iinc (ls' := [_, _, _, _, _, _, _, _, _]) C rfl (by decide) rfl rfl dX1_takeLine_113 ?_
          refine r_goto (tgt := 12) C (by decide) dX1_takeLine_116 ?_
          refine PW_lw [true, true, true, true, false, true, false, false, false] (ih υ (by omega) hFr (fun T h => ?_)) ?_
          · by_cases q0 : T = n
            · subst q0
              exact ⟨fun q1 => by omega, fun _ => ⟨fun q1 => absurd q1 hs, fun _ => e8⟩⟩
            · exact ⟨fun q1 => eK T (by omega), fun q1 => (hT T h).2 (by omega)⟩
          · rfl
  refine r_iload_n C rfl dX1_takeLine_0 ?_
  refine r_bipush C (by decide +kernel) dX1_takeLine_1 ?_
  refine r_bipush C (by decide +kernel) dX1_takeLine_3 ?_
  refine r_callS (As := [_, _, _]) C (c_X1_keyPart (c := 100) (d := 8) _ _ _ hi (by decide) (by decide)) ok_X1_keyPart ln_X1_116 rfl rfl (Nat.le_of_ble_eq_true rfl) (Nat.le_of_ble_eq_true rfl) (Nat.le_of_ble_eq_true rfl) dX1_takeLine_5 (fun v5 τ5 hq5 => ?_)
  obtain ⟨rfl, rfl⟩ := hq5
  refine r_lstore_n (ls' := [_, _, _, _, _, _, _, _, _]) C (by decide) rfl rfl dX1_takeLine_8 ?_
  refine r_iload_n C rfl dX1_takeLine_9 ?_
  refine r_istore (ls' := [_, _, _, _, _, _, _, _, _]) C (by decide) rfl rfl dX1_takeLine_10 ?_
  refine PW_lw [true, true, true, true, false, true, false, false, false] (loop (Z + 1) σ (by omega) Fr.rf (fun T h => ⟨fun _ => rfl, fun q1 => ⟨fun q2 => ?_, fun _ => rfl⟩⟩)) ?_
  · have : T &&& Z ≤ Z := Nat.and_le_right
    omega
  · have : ((Z + 1 : Nat) : Int) - 1 = (Z : Int) := by omega
    rw [this]
    rfl
