theorem Fits_s {σ τ : pw_H} {k F : Nat} {p : Nat → Bool} {q : Nat → Int} {st : Nat → Nat} (h : Fits σ k p q F st) (e : Fr [3, 17, 18] σ τ) : True := trivial
set_option maxRecDepth 100000 in
set_option maxHeartbeats 4000000 in
theorem c_X1_gatherFits (l : Launch) (G : pw_G) (σ : pw_H) {t i : Nat} {y h : Int} (hI : Inv (vX σ)) (ht : t < 6) (hi : i < 8) (hsky : ∀ s : Int, 0 ≤ s → s < σ 1 4 → σ 15 s = sSky (vX σ) s y + h) (hh : -600 ≤ h ∧ h ≤ 600) :
    Ct l shX G mX1_gatherFits [.ref (G.2.1 3), vI (t : Int), vI (i : Int)] σ (fun r τ => Fr [3, 17, 18] σ τ ∧ ∃ (Z F : Nat) (st : Nat → Nat), r = some (vI (Z : Int)) ∧ Z < 256 ∧ (∀ s : Nat, Z.testBit s = (decide (s < (σ 1 4).toNat) && sF (vX σ) t y h i s)) ∧ Fits τ (σ 1 4).toNat (fun s => sF (vX σ) t y h i s) (kq (sC (vX σ) t y h) i) F st) := by
  have h0 : 0 ≤ σ 1 4 ∧ σ 1 4 ≤ 8 := hI.1
  refine Ct_of (ls := [some (.ref (G.2.1 3)), some (vI (t : Int)), some (vI (i : Int)), none, none, none]) (by decide +kernel) (Nat.le_of_ble_eq_true rfl) rfl (fun X C => ?_)
  have loop : ∀ (n k : Nat) (τ : pw_H) (Z F : Nat) (st : Nat → Nat), k + n = (σ 1 4).toNat → Fr [3, 17, 18] σ τ → Z < 256 → (∀ s : Nat, Z.testBit s = (decide (s < k) && sF (vX σ) t y h i s)) → Fits τ k (fun s => sF (vX σ) t y h i s) (kq (sC (vX σ) t y h) i) F st → PW X shX G 10 [some (.ref (G.2.1 3)), some (vI (t : Int)), some (vI (i : Int)), some (vI (Z : Int)), some (vI (k : Int)), none] [] τ := by
    intro n
    induction n with
    | zero =>
      intro k τ Z F st hk hF hZ hb hs
      have e1 : τ 1 4 = σ 1 4 := congrFun (hF 1 (by decide)) 4
      have ek : k = (σ 1 4).toNat := by omega
      refine r_iload C rfl dX1_gatherFits_10 ?_
      refine r_aload_n C rfl dX1_gatherFits_12 ?_
      refine r_getR C 1 3 rfl rfl (by decide) rfl uw_X1 fl_X1_38 dX1_gatherFits_13 ?_
      refine r_getI (jz := 4) C 3 4 rfl rfl (by decide) rfl uw_X4 fl_X1_82 rfl dX1_gatherFits_16 ?_
      refine r_icmp_ge (tgt := 118) C (by decide) (by omega) (by omega) dX1_gatherFits_19 (fun c19 => ?_) (fun c19 => ?_)
      · refine r_iload_n C rfl dX1_gatherFits_118 ?_
        refine r_ireturn C rfl ?_ dX1_gatherFits_119
        exact ⟨hF, Z, F, st, rfl, hZ, by rw [← ek]; exact hb, by rw [← ek]; exact hs⟩
      · omega
    | succ n ih =>
      intro k τ Z F st hk hF hZ hb hs
      have e1 : τ 1 4 = σ 1 4 := congrFun (hF 1 (by decide)) 4
      have e2 : vX τ = vX σ := Fr_vX hF (by decide)
      have e3 : τ 15 k = sSky (vX σ) k y + h := (congrFun (hF 15 (by decide)) k).trans (hsky k (by omega) (by omega))
      obtain ⟨g1, g2, g3, g4⟩ := hs
      have hsk := n_sky (vX σ) k y
      have hrk : 0 ≤ sRk (vX σ) t i k y h ∧ sRk (vX σ) t i k y h ≤ 1048576 := n_sRank _ _ _
      have hno : sF (vX σ) t y h i k = false → PW X shX G 10 [some (.ref (G.2.1 3)), some (vI (t : Int)), some (vI (i : Int)), some (vI (Z : Int)), some (vI ((k : Int) + 1)), none] [] τ := fun hf =>
        PW_ls (ih (k + 1) τ Z F st (by omega) hF hZ (fun s => by
          rw [hb s]
          by_cases q : s = k
          · subst q; rw [hf]; simp
          · rw [show decide (s < k + 1) = decide (s < k) from (by rw [decide_eq_decide]; omega)]) ⟨g1, by omega, fun f f1 => ⟨by have := (g3 f f1).1; omega, (g3 f f1).2⟩, fun s s1 s2 => by
          by_cases q : s = k
          · subst q
            have s3 : sF (vX σ) t y h i s = true := s2
            rw [hf] at s3; cases s3
          · exact g4 s (by omega) s2⟩) rfl
      refine r_iload C rfl dX1_gatherFits_10 ?_
      refine r_aload_n C rfl dX1_gatherFits_12 ?_
      refine r_getR C 1 3 rfl rfl (by decide) rfl uw_X1 fl_X1_38 dX1_gatherFits_13 ?_
      refine r_getI (jz := 4) C 3 4 rfl rfl (by decide) rfl uw_X4 fl_X1_82 rfl dX1_gatherFits_16 ?_
      refine r_icmp_ge (tgt := 118) C (by decide) (by omega) (by omega) dX1_gatherFits_19 (fun c19 => ?_) (fun c19 => ?_)
      · omega
      · refine r_aload_n C rfl dX1_gatherFits_22 ?_
        refine r_getR C 1 3 rfl rfl (by decide) rfl uw_X1 fl_X1_38 dX1_gatherFits_23 ?_
        refine r_iload C rfl dX1_gatherFits_26 ?_
        refine r_callV (As := [_]) C (c_X4_counts _ _ _ (e2 ▸ hI) (by omega)) ok_X4_counts ln_X1_107 rfl rfl rfl rfl (Nat.le_of_ble_eq_true rfl) (Nat.le_of_ble_eq_true rfl) (Nat.le_of_ble_eq_true rfl) dX1_gatherFits_28 (fun v28 τ28 hq28 => ?_)
        obtain ⟨rfl, rfl⟩ := hq28
        refine r_ifB_ne (tgt := 37) C (by decide) dX1_gatherFits_31 (fun c31 => ?_) (fun c31 => ?_)
        · refine r_aload_n C rfl dX1_gatherFits_37 ?_
          refine r_iload_n C rfl dX1_gatherFits_38 ?_
          refine r_iload_n C rfl dX1_gatherFits_39 ?_
          refine r_iload C rfl dX1_gatherFits_40 ?_
          refine r_callV (As := [_, _, _]) C (c_X1_turnedRank _ _ _ (e2 ▸ hI) (by omega) (by omega) (by omega) (by rw [e3]; omega)) ok_X1_turnedRank ln_X1_50 rfl rfl rfl rfl (Nat.le_of_ble_eq_true rfl) (Nat.le_of_ble_eq_true rfl) (Nat.le_of_ble_eq_true rfl) dX1_gatherFits_42 (fun v42 τ42 hq42 => ?_)
          obtain ⟨rfl, rfl⟩ := hq42
          rw [e3, e2, show sRank (sWay (sSky (vX σ) k y + h) (vX σ 6 ((t : Int) * 8 + i))) (vX σ 7 ((t : Int) * 8 + i)) (vX σ 2 k) = sRk (vX σ) t i k y h from rfl]
          refine r_istore (ls' := [_, _, _, _, _, _]) C (by decide) rfl rfl dX1_gatherFits_45 ?_
          refine r_iload C rfl dX1_gatherFits_47 ?_
          refine r_ldc C (z := 1048576) cn_X1_111 (by decide +kernel) dX1_gatherFits_49 ?_
          refine r_icmp_ne (tgt := 57) C (by decide) (by omega) (by omega) dX1_gatherFits_51 (fun c51 => ?_) (fun c51 => ?_)
          · have hf : sF (vX σ) t y h i k = true := by rw [e2] at c31; unfold sF; rw [c31, decide_eq_false c51]; rfl
            obtain ⟨r1, r2, r3⟩ := sC_t hf
            have hF8 : F < 8 := by omega
            have hp : ∀ s : Nat, s < 8 → (2 : Nat) ^ s < 256 := by decide
            have hpk := hp k (by omega)
            refine r_aload_n C rfl dX1_gatherFits_57 ?_
            refine r_getR C 1 7 rfl rfl (by decide) rfl uw_X1 fl_X1_29 dX1_gatherFits_58 ?_
            refine r_aload_n C rfl dX1_gatherFits_61 ?_
            refine r_getI (jz := 9) C 1 9 rfl rfl (by decide) rfl uw_X1 fl_X1_35 rfl dX1_gatherFits_62 ?_
            rw [g1]
            refine r_iconst C dX1_gatherFits_65 ?_
            refine r_iload C rfl dX1_gatherFits_66 ?_
            refine r_ishl C (b_shl8 k (by omega)) dX1_gatherFits_68 ?_
            refine r_iastore C rfl (by decide) (by omega) dX1_gatherFits_69 ?_
            refine r_aload_n C rfl dX1_gatherFits_70 ?_
            refine r_getR C 1 8 rfl rfl (by decide) rfl uw_X1 fl_X1_32 dX1_gatherFits_71 ?_
            refine r_aload_n C rfl dX1_gatherFits_74 ?_
            refine r_getI (jz := 9) C 1 9 rfl rfl (by decide) rfl uw_X1 fl_X1_35 rfl dX1_gatherFits_75 ?_
            try simp (disch := decide) only [pw_u_k, pw_u_j, pw_u_s]
            rw [g1]
            refine r_iload_n C rfl dX1_gatherFits_78 ?_
            refine r_iload C rfl dX1_gatherFits_79 ?_
            refine r_callS (As := [_]) C (c_X3_costOf _ _ _ (by omega)) ok_X3_costOf ln_X1_112 rfl rfl (Nat.le_of_ble_eq_true rfl) (Nat.le_of_ble_eq_true rfl) (Nat.le_of_ble_eq_true rfl) dX1_gatherFits_81 (fun v81 τ81 hq81 => ?_)
            obtain ⟨rfl, rfl⟩ := hq81
            refine r_iload C rfl dX1_gatherFits_84 ?_
            rw [show sRk (vX σ) t i k y h / 4 = ((sRk (vX σ) t i k y h / 4).toNat : Int) by omega]
            refine r_callS (As := [_, _, _]) C (c_X1_keyPart (c := (sRk (vX σ) t i k y h / 4).toNat) (d := k) _ _ _ hi (by omega) (by omega)) ok_X1_keyPart ln_X1_116 rfl rfl (Nat.le_of_ble_eq_true rfl) (Nat.le_of_ble_eq_true rfl) (Nat.le_of_ble_eq_true rfl) dX1_gatherFits_86 (fun v86 τ86 hq86 => ?_)
            obtain ⟨rfl, rfl⟩ := hq86
            refine r_lastore C rfl (by decide) (by omega) dX1_gatherFits_89 ?_
            refine r_iload_n C rfl dX1_gatherFits_90 ?_
            refine r_aload_n C rfl dX1_gatherFits_91 ?_
            refine r_getR C 1 7 rfl rfl (by decide) rfl uw_X1 fl_X1_29 dX1_gatherFits_92 ?_
            refine r_aload_n C rfl dX1_gatherFits_95 ?_
            refine r_getI (jz := 9) C 1 9 rfl rfl (by decide) rfl uw_X1 fl_X1_35 rfl dX1_gatherFits_96 ?_
            try simp (disch := decide) only [pw_u_k, pw_u_j, pw_u_s]
            rw [g1]
            refine r_iaload C rfl (by decide) (by omega) dX1_gatherFits_99 ?_
            try simp (disch := decide) only [pw_u_k, pw_u_j, pw_u_s]
            refine r_ior C (b_or Z (2 ^ k)) dX1_gatherFits_100 ?_
            refine r_istore_n (ls' := [_, _, _, _, _, _]) C (by decide) rfl rfl dX1_gatherFits_101 ?_
            refine r_aload_n C rfl dX1_gatherFits_102 ?_
            refine r_dup C rfl dX1_gatherFits_103 ?_
            refine r_getI (jz := 9) C 1 9 rfl rfl (by decide) rfl uw_X1 fl_X1_35 rfl dX1_gatherFits_104 ?_
            try simp (disch := decide) only [pw_u_k, pw_u_j, pw_u_s]
            rw [g1]
            refine r_iconst C dX1_gatherFits_107 ?_
            refine r_iadd C dX1_gatherFits_108 ?_
            refine r_putI (jz := 9) C 1 9 tyX1 tyX1_ok nmX1 rfl rfl (by decide) rfl uw_X1 fl_X1_35 rfl rfl rfl dX1_gatherFits_109 ?_
            refine r_iinc (ls' := [_, _, _, _, _, _]) C rfl (by decide) rfl rfl dX1_gatherFits_112 ?_
            refine r_goto (tgt := 10) C (by decide) dX1_gatherFits_115 ?_
            refine PW_lw [true, true, true, true, true, false] (ih (k + 1) _ (Z ||| 2 ^ k) (F + 1) (fun f => if f = F then k else st f) (by omega) ?_ (x_or8 Z hZ k (by omega)).1 (fun s => ?_) ⟨?_, by omega, fun f f1 => ?_, fun s s1 s2 => ?_⟩) rfl
            · exact ((hF.tr (Fr.u (ks := [3, 17, 18]) (by decide)) (fun _ q => q) (fun _ q => q)).tr (Fr.u (ks := [3, 17, 18]) (by decide)) (fun _ q => q) (fun _ q => q)).tr (Fr.u (by decide)) (fun _ q => q) (fun _ q => q)
            · rw [Nat.testBit_or, hb s, Nat.testBit_two_pow]
              by_cases q : s = k
              · subst q; rw [hf]; simp
              · rw [show decide (s < k + 1) = decide (s < k) from (by rw [decide_eq_decide]; omega), decide_eq_false (show ¬ k = s from fun z => q z.symm)]; simp
            · rw [pw_u_s]; rfl
            · by_cases q : f = F
              · subst q
                simp only [if_true]
                refine ⟨by omega, hf, ?_, ?_⟩
                · simp (disch := decide) only [pw_u_k, pw_u_s]
                · simp (disch := decide) only [pw_u_k, pw_u_s]
                  unfold kq
                  rw [r1]
                  omega
              · simp only [if_neg q]
                obtain ⟨f2, f3, f4, f5⟩ := g3 f (by omega)
                refine ⟨by omega, f3, ?_, ?_⟩
                · rw [pw_u_k (by decide), pw_u_k (by decide), pw_u_j (by omega)]; exact f4
                · rw [pw_u_k (by decide), pw_u_j (by omega), pw_u_k (by decide)]; exact f5
            · by_cases q : s = k
              · exact ⟨F, by omega, (if_pos rfl).trans q.symm⟩
              · obtain ⟨f, f1, f2⟩ := g4 s (by omega) s2
                exact ⟨f, by omega, (if_neg (by omega)).trans f2⟩
          · have hf : sF (vX σ) t y h i k = false := by unfold sF; rw [decide_eq_true (by omega : sRk (vX σ) t i k y h = 1048576)]; simp
            refine r_goto (tgt := 112) C (by decide) dX1_gatherFits_54 ?_
            refine r_iinc (ls' := [_, _, _, _, _, _]) C rfl (by decide) rfl rfl dX1_gatherFits_112 ?_
            refine r_goto (tgt := 10) C (by decide) dX1_gatherFits_115 ?_
            exact PW_lw [true, true, true, true, true, false] (hno hf) rfl
        · have hf : sF (vX σ) t y h i k = false := by rw [e2] at c31; unfold sF; rw [c31]; rfl
          refine r_goto (tgt := 112) C (by decide) dX1_gatherFits_34 ?_
          refine r_iinc (ls' := [_, _, _, _, _, _]) C rfl (by decide) rfl rfl dX1_gatherFits_112 ?_
          refine r_goto (tgt := 10) C (by decide) dX1_gatherFits_115 ?_
          exact hno hf
  refine r_iconst C dX1_gatherFits_0 ?_
  refine r_istore_n (ls' := [_, _, _, _, _, _]) C (by decide) rfl rfl dX1_gatherFits_1 ?_
  refine r_aload_n C rfl dX1_gatherFits_2 ?_
  refine r_iconst C dX1_gatherFits_3 ?_
  refine r_putI (jz := 9) C 1 9 tyX1 tyX1_ok nmX1 rfl rfl (by decide) rfl uw_X1 fl_X1_35 rfl rfl rfl dX1_gatherFits_4 ?_
  refine r_iconst C dX1_gatherFits_7 ?_
  refine r_istore (ls' := [_, _, _, _, _, _]) C (by decide) rfl rfl dX1_gatherFits_8 ?_
  refine loop (σ 1 4).toNat 0 _ 0 0 (fun _ => 0) (by omega) (Fr.u (by decide)) (by decide) (fun s => ?_) ⟨pw_u_s _ _ _ _, by omega, fun f f1 => by omega, fun s s1 => by omega⟩
  simp
set_option maxRecDepth 100000 in
theorem c_X1_leastKey (l : Launch) (G : pw_G) (σ : pw_H) {Z : Nat} (hZ : Z < 256) (hK : ∀ T : Nat, T < 256 → 0 ≤ σ 16 T ∧ σ 16 T ≤ 2305843009213693952) : Ct l shX G mX1_leastKey [.ref (G.2.1 3), vI (Z : Int)] σ (fun r τ => ∃ m : Int, r = some (vL m) ∧ σ = τ ∧ ∀ b : Int, b ≤ m ↔ ∀ T : Nat, T ≤ Z → b ≤ σ 16 T) := by
  refine Ct_of (ls := [some (.ref (G.2.1 3)), some (vI (Z : Int)), none, none, none]) (by decide +kernel) (Nat.le_of_ble_eq_true rfl) rfl (fun X C => ?_)
  have loop : ∀ (n k : Nat) (m : Int), k + n = Z + 1 → 0 ≤ m → m ≤ 2305843009213693952 → (∀ b : Int, b ≤ m ↔ ∀ T : Nat, T < k → b ≤ σ 16 T) → PW X shX G 10 [some (.ref (G.2.1 3)), some (vI (Z : Int)), some (vL m), none, some (vI (k : Int))] [] σ := by
    intro n
    induction n with
    | zero =>
      intro k m hk m0 m1 hm
      refine r_iload C rfl dX1_leastKey_10 ?_
      refine r_iload_n C rfl dX1_leastKey_12 ?_
      refine r_icmp_gt (tgt := 34) C (by decide) (by omega) (by omega) dX1_leastKey_13 (fun c13 => ?_) (fun c13 => ?_)
      · refine r_lload_n C rfl dX1_leastKey_34 ?_
        refine r_lreturn C rfl ?_ dX1_leastKey_35
        exact ⟨m, rfl, rfl, fun b => (hm b).trans ⟨fun h T hT => h T (by omega), fun h T hT => h T (by omega)⟩⟩
      · omega
    | succ n ih =>
      intro k m hk m0 m1 hm
      have hk2 := hK k (by omega)
      have hz := zmin_le m (σ 16 k)
      refine r_iload C rfl dX1_leastKey_10 ?_
      refine r_iload_n C rfl dX1_leastKey_12 ?_
      refine r_icmp_gt (tgt := 34) C (by decide) (by omega) (by omega) dX1_leastKey_13 (fun c13 => ?_) (fun c13 => ?_)
      · omega
      · refine r_lload_n C rfl dX1_leastKey_16 ?_
        refine r_aload_n C rfl dX1_leastKey_17 ?_
        refine r_getR C 1 6 rfl rfl (by decide) rfl uw_X1 fl_X1_25 dX1_leastKey_18 ?_
        refine r_iload C rfl dX1_leastKey_21 ?_
        refine r_laload C rfl (by decide) (by omega) dX1_leastKey_23 ?_
        refine r_mminL C (by omega) (by omega) ln_X1_123 st_min_long in_Math co_min_long (Nat.le_of_ble_eq_true rfl) (Nat.le_of_ble_eq_true rfl) dX1_leastKey_24 ?_
        refine r_lstore_n (ls' := [_, _, _, _, _]) C (by decide) rfl rfl dX1_leastKey_27 ?_
        refine r_iinc (ls' := [_, _, _, _, _]) C rfl (by decide) rfl rfl dX1_leastKey_28 ?_
        refine r_goto (tgt := 10) C (by decide) dX1_leastKey_31 ?_
        refine ih (k + 1) _ (by omega) (by omega) (by omega) (fun b => ?_)
        rw [le_zmin, hm b]
        constructor
        · rintro ⟨h1, h2⟩ T hT
          by_cases q : T = k
          · subst q; exact h2
          · exact h1 T (by omega)
        · intro h1
          exact ⟨fun T hT => h1 T (by omega), h1 k (by omega)⟩
  have hk0 := hK 0 (by decide)
  refine r_aload_n C rfl dX1_leastKey_0 ?_
  refine r_getR C 1 6 rfl rfl (by decide) rfl uw_X1 fl_X1_25 dX1_leastKey_1 ?_
  refine r_iconst C dX1_leastKey_4 ?_
  refine r_laload C rfl (by decide) (by omega) dX1_leastKey_5 ?_
  refine r_lstore_n (ls' := [_, _, _, _, _]) C (by decide) rfl rfl dX1_leastKey_6 ?_
  refine r_iconst C dX1_leastKey_7 ?_
  refine r_istore (ls' := [_, _, _, _, _]) C (by decide) rfl rfl dX1_leastKey_8 ?_
  refine loop Z 1 _ (by omega) hk0.1 hk0.2 (fun b => ⟨fun h T hT => ?_, fun h => h 0 (by decide)⟩)
  have : T = 0 := by omega
  subst this
  exact h
set_option maxRecDepth 100000 in
theorem c_X1_readKey (l : Launch) (G : pw_G) (σ : pw_H) {k : Int} {n : Nat} (hn : n ≤ 8) (hk : 0 ≤ k ∧ k ≤ 4611686018427387904) : Ct l shX G mX1_readKey [.ref (G.2.1 3), vL k, vI (n : Int)] σ (fun r τ => r = none ∧ Fr [3, 13] σ τ ∧ τ 3 2 = k / 4294967296 ∧ ∀ i : Nat, i < n → τ 13 i = if k / 16 ^ (7 - i) % 16 = 8 then -9 else k / 16 ^ (7 - i) % 16) := by
  refine Ct_of (ls := [some (.ref (G.2.1 3)), some (vL k), none, some (vI (n : Int)), none, none]) (by decide +kernel) (Nat.le_of_ble_eq_true rfl) rfl (fun X C => ?_)
  have loop : ∀ (m i : Nat) (τ : pw_H), i + m = n → Fr [3, 13] σ τ → τ 3 2 = k / 4294967296 → (∀ j : Nat, j < i → τ 13 j = if k / 16 ^ (7 - j) % 16 = 8 then -9 else k / 16 ^ (7 - j) % 16) → PW X shX G 12 [some (.ref (G.2.1 3)), some (vL k), none, some (vI (n : Int)), some (vI (i : Int)), none] [] τ := by
    intro m
    induction m with
    | zero =>
      intro i τ hi hF h2 hj
      refine r_iload C rfl dX1_readKey_12 ?_
      refine r_iload_n C rfl dX1_readKey_14 ?_
      refine r_icmp_ge (tgt := 58) C (by decide) (by omega) (by omega) dX1_readKey_15 (fun c15 => ?_) (fun c15 => ?_)
      · refine r_return C rfl ?_ dX1_readKey_58
        exact ⟨rfl, hF, h2, fun j j1 => hj j (by omega)⟩
      · omega
    | succ m ih =>
      intro i τ hi hF h2 hj
      have hi8 : i < 8 := by omega
      refine r_iload C rfl dX1_readKey_12 ?_
      refine r_iload_n C rfl dX1_readKey_14 ?_
      refine r_icmp_ge (tgt := 58) C (by decide) (by omega) (by omega) dX1_readKey_15 (fun c15 => ?_) (fun c15 => ?_)
      · omega
      · refine r_lload_n C rfl dX1_readKey_18 ?_
        refine r_iload C rfl dX1_readKey_19 ?_
        refine r_callS (As := [_]) C (c_X1_digitPlace _ _ _ hi8) ok_X1_digitPlace ln_X1_120 rfl rfl (Nat.le_of_ble_eq_true rfl) (Nat.le_of_ble_eq_true rfl) (Nat.le_of_ble_eq_true rfl) dX1_readKey_21 (fun v21 τ21 hq21 => ?_)
        obtain ⟨rfl, rfl⟩ := hq21
        refine r_lshr C (l_shr (k := 4 * (7 - i)) (by omega) (by omega) (by omega)) dX1_readKey_24 ?_
        rw [p16 i hi8]
        refine r_l2i C (l_l2i _) dX1_readKey_25 ?_
        refine r_bipush C (by decide +kernel) dX1_readKey_26 ?_
        refine r_iand C (b_and15 _) dX1_readKey_28 ?_
        refine r_istore (ls' := [_, _, _, _, _, _]) C (by decide) rfl rfl dX1_readKey_29 ?_
        refine r_aload_n C rfl dX1_readKey_31 ?_
        refine r_getR C 1 0 rfl rfl (by decide) rfl uw_X1 fl_X1_11 dX1_readKey_32 ?_
        refine r_iload C rfl dX1_readKey_35 ?_
        refine r_iload C rfl dX1_readKey_37 ?_
        refine r_bipush C (by decide +kernel) dX1_readKey_39 ?_
        refine r_icmp_ne (tgt := 49) C (by decide) (by omega) (by omega) dX1_readKey_41 (fun c41 => ?_) (fun c41 => ?_)
        · refine r_iload C rfl dX1_readKey_49 ?_
          refine r_iastore C rfl (by decide) (by omega) dX1_readKey_51 ?_
          refine r_iinc (ls' := [_, _, _, _, _, _]) C rfl (by decide) rfl rfl dX1_readKey_52 ?_
          refine r_goto (tgt := 12) C (by decide) dX1_readKey_55 ?_
          refine PW_lw [true, true, false, true, true, false] (ih (i + 1) _ (by omega) (hF.tr (Fr.u (by decide)) (fun _ q => q) (fun _ q => q)) (by rw [pw_u_k (by decide)]; exact h2) (fun j j1 => ?_)) rfl
          by_cases q : j = i
          · subst q
            rw [pw_u_s]
            first | rw [if_pos (by omega)] | rw [if_neg (by omega)]
          · rw [pw_u_j (by omega)]
            exact hj j (by omega)
        · refine r_bipush C (by decide +kernel) dX1_readKey_44 ?_
          refine r_goto (tgt := 51) C (by decide) dX1_readKey_46 ?_
          refine r_iastore C rfl (by decide) (by omega) dX1_readKey_51 ?_
          refine r_iinc (ls' := [_, _, _, _, _, _]) C rfl (by decide) rfl rfl dX1_readKey_52 ?_
          refine r_goto (tgt := 12) C (by decide) dX1_readKey_55 ?_
          refine PW_lw [true, true, false, true, true, false] (ih (i + 1) _ (by omega) (hF.tr (Fr.u (by decide)) (fun _ q => q) (fun _ q => q)) (by rw [pw_u_k (by decide)]; exact h2) (fun j j1 => ?_)) rfl
          by_cases q : j = i
          · subst q
            rw [pw_u_s]
            first | rw [if_pos (by omega)] | rw [if_neg (by omega)]
          · rw [pw_u_j (by omega)]
            exact hj j (by omega)
  refine r_aload_n C rfl dX1_readKey_0 ?_
  refine r_lload_n C rfl dX1_readKey_1 ?_
  refine r_bipush C (by decide +kernel) dX1_readKey_2 ?_
  refine r_lshr C (l_shr (k := 32) (by omega) (by omega) (by decide)) dX1_readKey_4 ?_
  refine r_l2i C (l_l2i _) dX1_readKey_5 ?_
  refine r_putI (jz := 2) C 1 2 tyX1 tyX1_ok nmX1 rfl rfl (by decide) rfl uw_X1 fl_X1_18 rfl rfl rfl dX1_readKey_6 ?_
  refine r_iconst C dX1_readKey_9 ?_
  refine r_istore (ls' := [_, _, _, _, _, _]) C (by decide) rfl rfl dX1_readKey_10 ?_
  exact loop n 0 _ (by omega) (Fr.u (by decide)) (by rw [pw_u_s]; rfl) (fun j j1 => by omega)
