theorem kq_le {a : pw_H} {l y h : Int} {i s : Nat} (hi : i < 8) (hs : s < 8) (hF : sC a l y h i s < 100000) : 0 ≤ kq (sC a l y h) i s ∧ kq (sC a l y h) i s ≤ 36028797018963968 := by
  have h1 := sC_t (sC_lt.mp hF)
  have h2 := p16b i hi
  have h3 := sC_0 (a := a) (l := l) (y := y) (h := h) i s
  have h4 : 0 ≤ (s : Int) * 16 ^ (7 - i) := Int.mul_nonneg (by omega) (by omega)
  have h5 : (s : Int) * 16 ^ (7 - i) ≤ 7 * 268435456 := Int.mul_le_mul (by omega) h2.2 (by omega) (by omega)
  unfold kq
  omega
theorem sF_dec {a : pw_H} {l y h : Int} {i : Nat} : (fun s : Nat => sF a l y h i s) = (fun s : Nat => decide (sC a l y h i s < 100000)) := by
  funext s
  rw [Bool.eq_iff_iff, decide_eq_true_eq]
  exact sC_lt.symm
set_option maxRecDepth 100000 in
set_option maxHeartbeats 4000000 in
theorem c_X1_find (l : Launch) (G : pw_G) (σ : pw_H) {t : Nat} {y h : Int} (hI : Inv (vX σ)) (ht : t < 6) (hy : -3000 ≤ y ∧ y ≤ 3000) (hh : -600 ≤ h ∧ h ≤ 600) :
    Ct l shX G mX1_find [.ref (G.2.1 3), vI (t : Int), vI y, vI h] σ (fun r τ => r = none ∧ Fr [3, 13, 15, 16, 17, 18] σ τ ∧ τ 3 2 = sB (sC (vX σ) t y h) (σ 1 4).toNat (σ 10 t).toNat (σ 10 t).toNat 0 ∧ (∀ i : Nat, i < (σ 10 t).toNat → τ 13 i = sSt (sC (vX σ) t y h) (σ 1 4).toNat (σ 10 t).toNat i) ∧ ∀ s : Int, 0 ≤ s → s < σ 1 4 → τ 15 s = sSky (vX σ) s y + h) := by
  have h0 : 0 ≤ σ 1 4 ∧ σ 1 4 ≤ 8 := hI.1
  have h9 : 0 ≤ σ 10 t ∧ σ 10 t ≤ 8 := hI.2.2.2.2.2.2.2.1 t
  have hN8 : (σ 1 4).toNat ≤ 8 := by omega
  have hn8 : (σ 10 t).toNat ≤ 8 := by omega
  have hC := sC_0 (a := vX σ) (l := t) (y := y) (h := h)
  refine Ct_of (ls := [some (.ref (G.2.1 3)), some (vI (t : Int)), some (vI y), some (vI h), none, none]) (by decide +kernel) (Nat.le_of_ble_eq_true rfl) rfl (fun X C => ?_)
  have loop : ∀ (k i Z : Nat) (υ : pw_H), i + k = (σ 10 t).toNat → Fr [3, 15, 16, 17, 18] σ υ → (∀ s : Int, 0 ≤ s → s < σ 1 4 → υ 15 s = sSky (vX σ) s y + h) → Z < 256 → DPi (sC (vX σ) t y h) (σ 1 4).toNat (σ 10 t).toNat i Z (υ 16) → PW X shX G 29 [some (.ref (G.2.1 3)), some (vI (t : Int)), some (vI y), some (vI h), some (vI (Z : Int)), some (vI (i : Int))] [] υ := by
    intro k
    induction k with
    | zero =>
      intro i Z υ hi hF hs hZ hD
      have e1 : υ 10 t = σ 10 t := congrFun (hF 10 (by decide)) _
      have ei : i = (σ 10 t).toNat := by omega
      subst ei
      have hK : ∀ T : Nat, T < 256 → 0 ≤ υ 16 T ∧ υ 16 T ≤ 2305843009213693952 := fun T hT => by have := hD.1 T hT; omega
      refine r_iload C rfl dX1_find_29 ?_
      refine r_aload_n C rfl dX1_find_31 ?_
      refine r_getR C 1 4 rfl rfl (by decide) rfl uw_X1 fl_X1_42 dX1_find_32 ?_
      refine r_getR C 2 0 rfl rfl (by decide) rfl uw_X2 fl_X1_62 dX1_find_35 ?_
      refine r_iload_n C rfl dX1_find_38 ?_
      refine r_iaload C rfl (by decide) (by omega) dX1_find_39 ?_
      refine r_icmp_ge (tgt := 69) C (by decide) (by omega) (by omega) dX1_find_40 (fun c40 => ?_) (fun c40 => ?_)
      · refine r_aload_n C rfl dX1_find_69 ?_
        refine r_aload_n C rfl dX1_find_70 ?_
        refine r_iload C rfl dX1_find_71 ?_
        refine r_callV (As := [_]) C (c_X1_leastKey _ _ _ hZ hK) ok_X1_leastKey ln_X1_74 rfl rfl rfl rfl (Nat.le_of_ble_eq_true rfl) (Nat.le_of_ble_eq_true rfl) (Nat.le_of_ble_eq_true rfl) dX1_find_73 (fun v73 τ73 hq73 => ?_)
        obtain ⟨m, rfl, rfl, hm⟩ := hq73
        have em := DP_end hC hN8 hn8 hZ hD hm
        have er := sK_rng (N := (σ 1 4).toNat) hC hN8 hn8 (r := (σ 10 t).toNat) (Nat.le_refl _) 0
        refine r_aload_n C rfl dX1_find_76 ?_
        refine r_getR C 1 4 rfl rfl (by decide) rfl uw_X1 fl_X1_42 dX1_find_77 ?_
        refine r_getR C 2 0 rfl rfl (by decide) rfl uw_X2 fl_X1_62 dX1_find_80 ?_
        refine r_iload_n C rfl dX1_find_83 ?_
        refine r_iaload C rfl (by decide) (by omega) dX1_find_84 ?_
        rw [e1, show σ 10 t = ((σ 10 t).toNat : Int) by omega]
        refine r_callV (As := [_, _]) C (c_X1_readKey _ _ _ hn8 (by rw [em]; omega)) ok_X1_readKey ln_X1_78 rfl rfl rfl rfl (Nat.le_of_ble_eq_true rfl) (Nat.le_of_ble_eq_true rfl) (Nat.le_of_ble_eq_true rfl) dX1_find_85 (fun v85 τ85 hq85 => ?_)
        obtain ⟨rfl, hF2, hr2, hr13⟩ := hq85
        refine r_return C rfl ?_ dX1_find_88
        refine ⟨rfl, hF.tr hF2 (by decide) (by decide), ?_, fun i i1 => ?_, fun s s1 s2 => ?_⟩
        · rw [hr2, em, sK_cost hN8 hn8]
        · rw [hr13 i i1, em, ← dW_i i1 hn8, show (σ 10 t).toNat - (i + 1) = (σ 10 t).toNat - 1 - i by omega, sK_digit hN8 hn8 i1]
          rcases sSt_rng (C := sC (vX σ) t y h) (N := (σ 1 4).toNat) (n := (σ 10 t).toNat) i with q | ⟨q1, q2, -⟩ | q
          · rw [q]; rfl
          · unfold dD
            rw [if_neg (by omega : ¬ sSt (sC (vX σ) t y h) (σ 1 4).toNat (σ 10 t).toNat i = -9), if_neg (by omega)]
          · omega
        · rw [hF2 15 (by decide)]; exact hs s s1 s2
      · omega
    | succ k ih =>
      intro i Z υ hi hF hs hZ hD
      have e1 : υ 10 t = σ 10 t := congrFun (hF 10 (by decide)) _
      have e2 : vX υ = vX σ := Fr_vX hF (by decide)
      have e3 : υ 1 4 = σ 1 4 := congrFun (hF 1 (by decide)) _
      have hi8 : i < 8 := by omega
      refine r_iload C rfl dX1_find_29 ?_
      refine r_aload_n C rfl dX1_find_31 ?_
      refine r_getR C 1 4 rfl rfl (by decide) rfl uw_X1 fl_X1_42 dX1_find_32 ?_
      refine r_getR C 2 0 rfl rfl (by decide) rfl uw_X2 fl_X1_62 dX1_find_35 ?_
      refine r_iload_n C rfl dX1_find_38 ?_
      refine r_iaload C rfl (by decide) (by omega) dX1_find_39 ?_
      refine r_icmp_ge (tgt := 69) C (by decide) (by omega) (by omega) dX1_find_40 (fun c40 => ?_) (fun c40 => ?_)
      · omega
      · refine r_iload C rfl dX1_find_43 ?_
        refine r_aload_n C rfl dX1_find_45 ?_
        refine r_iload_n C rfl dX1_find_46 ?_
        refine r_iload C rfl dX1_find_47 ?_
        refine r_callV (As := [_, _]) C (c_X1_gatherFits (t := t) (i := i) (y := y) (h := h) _ _ _ (e2 ▸ hI) ht hi8 (fun s s1 s2 => by rw [e2]; exact hs s s1 (by omega)) hh) ok_X1_gatherFits ln_X1_67 rfl rfl rfl rfl (Nat.le_of_ble_eq_true rfl) (Nat.le_of_ble_eq_true rfl) (Nat.le_of_ble_eq_true rfl) dX1_find_49 (fun v49 τ49 hq49 => ?_)
        obtain ⟨hF2, B, F, st, rfl, hB, hbit, hfit⟩ := hq49
        rw [e2, e3] at hbit hfit
        rw [sF_dec] at hfit
        have hZB : Z ||| B < 256 := Nat.or_lt_two_pow (n := 8) hZ hB
        have e16 : τ49 16 = υ 16 := hF2 16 (by decide)
        have hK : ∀ T : Nat, T < 256 → 0 ≤ τ49 16 T ∧ τ49 16 T ≤ 2305843009213693952 := fun T hT => by have := hD.1 T hT; rw [e16]; omega
        refine r_ior C (b_or Z B) dX1_find_52 ?_
        refine r_istore (ls' := [_, _, _, _, _, _]) C (by decide) rfl rfl dX1_find_53 ?_
        refine r_aload_n C rfl dX1_find_55 ?_
        refine r_iload C rfl dX1_find_56 ?_
        refine r_iload C rfl dX1_find_58 ?_
        refine r_callV (As := [_, _]) C (c_X1_takeLine _ _ _ hi8 hZB hN8 hfit hK (fun s s1 s2 => kq_le hi8 (by omega) (by simpa using s2))) ok_X1_takeLine ln_X1_71 rfl rfl rfl rfl (Nat.le_of_ble_eq_true rfl) (Nat.le_of_ble_eq_true rfl) (Nat.le_of_ble_eq_true rfl) dX1_find_60 (fun v60 τ60 hq60 => ?_)
        obtain ⟨rfl, hF3, hT⟩ := hq60
        rw [e16] at hT
        refine r_iinc (ls' := [_, _, _, _, _, _]) C rfl (by decide) rfl rfl dX1_find_63 ?_
        refine r_goto (tgt := 29) C (by decide) dX1_find_66 ?_
        refine ih (i + 1) (Z ||| B) _ (by omega) ((hF.tr hF2 (fun _ q => q) (by decide)).tr hF3 (fun _ q => q) (by decide)) (fun s s1 s2 => ?_) hZB (DP_s hC hN8 hn8 (by omega) hD (fun s q => by rw [Nat.testBit_or, q]; rfl) (fun s s1 s2 => ?_) (fun s s1 s2 => (kq_le hi8 (by omega) s2).2) (fun T h1 h2 => (hT T h1).1 h2) (fun T h1 h2 => (hT T h1).2 h2))
        · rw [hF3 15 (by decide), hF2 15 (by decide)]; exact hs s s1 s2
        · rw [Nat.testBit_or, hbit s, sC_lt.mp s2, decide_eq_true s1]; simp
  refine r_aload_n C rfl dX1_find_0 ?_
  refine r_iload_n C rfl dX1_find_1 ?_
  refine r_iload_n C rfl dX1_find_2 ?_
  refine r_callV (As := [_, _]) C (c_X1_turnSky _ _ _ hI hy) ok_X1_turnSky ln_X1_46 rfl rfl rfl rfl (Nat.le_of_ble_eq_true rfl) (Nat.le_of_ble_eq_true rfl) (Nat.le_of_ble_eq_true rfl) dX1_find_3 (fun v3 τ3 hq3 => ?_)
  obtain ⟨rfl, hF1, hS⟩ := hq3
  refine r_aload_n C rfl dX1_find_6 ?_
  refine r_getR C 1 6 rfl rfl (by decide) rfl uw_X1 fl_X1_25 dX1_find_7 ?_
  refine r_ldc2 C (z := 1152921504606846976) cn_X1_54 (by decide +kernel) dX1_find_10 ?_
  refine r_callS (As := [_, _]) C (c_J7_fill_d0a16 _ _ _) ok_J7_fill_d0a16 ln_X1_56 rfl rfl (Nat.le_of_ble_eq_true rfl) (Nat.le_of_ble_eq_true rfl) (Nat.le_of_ble_eq_true rfl) dX1_find_13 (fun v13 τ13 hq13 => ?_)
  obtain ⟨rfl, hF2, hfill⟩ := hq13
  refine r_aload_n C rfl dX1_find_16 ?_
  refine r_getR C 1 6 rfl rfl (by decide) rfl uw_X1 fl_X1_25 dX1_find_17 ?_
  refine r_iconst C dX1_find_20 ?_
  refine r_lconst C (z := 0) (by decide +kernel) dX1_find_21 ?_
  refine r_lastore C rfl (by decide) (by omega) dX1_find_22 ?_
  refine r_iconst C dX1_find_23 ?_
  refine r_istore (ls' := [_, _, _, _, _, _]) C (by decide) rfl rfl dX1_find_24 ?_
  refine r_iconst C dX1_find_26 ?_
  refine r_istore (ls' := [_, _, _, _, _, _]) C (by decide) rfl rfl dX1_find_27 ?_
  refine loop (σ 10 t).toNat 0 0 _ (by omega) ((hF1.tr hF2 (ks := [3, 15, 16, 17, 18]) (by decide) (by decide)).tr (Fr.u (by decide)) (fun _ q => q) (fun _ q => q)) (fun s s1 s2 => ?_) (by decide) (DP_0 hC hN8 hn8 (pw_u_s _ _ _ _) (fun T hT h0 => ?_))
  · rw [pw_u_k (by decide), hF2 15 (by decide)]; exact hS s s1 s2
  · rw [pw_u_j (by omega)]; exact hfill T (by omega) (by omega)
