/-- a natural number's Int, one more -/
theorem PW_ls {X : PXT} {sh : pw_S} {G : pw_G} {pc : Nat} {ls ls' : List (Option Value)} {st : List Value} {σ : pw_H} (h : PW X sh G pc ls' st σ) (e : ls = ls') : PW X sh G pc ls st σ := e ▸ h
set_option maxRecDepth 100000 in
theorem c_X4_bright (l : Launch) (G : pw_G) (σ : pw_H) (hI : Inv (vX σ)) : Ct l shX G mX4_bright [.ref (G.2.1 1)] σ (pv (sSum (fun s => zB (decide (vX σ 4 s ≤ vX σ 0 1))) (σ 1 4).toNat) σ) := by
  have h0 : 0 ≤ σ 1 4 ∧ σ 1 4 ≤ 8 := hI.1
  refine Ct_of (ls := [some (.ref (G.2.1 1)), none, none]) (by decide +kernel) (Nat.le_of_ble_eq_true rfl) rfl (fun X C => ?_)
  have bd : ∀ i : Nat, 0 ≤ sSum (fun s => zB (decide (vX σ 4 s ≤ vX σ 0 1))) i ∧ sSum (fun s => zB (decide (vX σ 4 s ≤ vX σ 0 1))) i ≤ i := by
    intro i
    induction i with
    | zero => simp [sSum]
    | succ i ih =>
      simp only [sSum]
      have : ∀ b, 0 ≤ zB b ∧ zB b ≤ 1 := by intro b; cases b <;> decide
      have := this (decide (vX σ 4 (i : Int) ≤ vX σ 0 1))
      omega
  have loop : ∀ (n i : Nat), i + n = (σ 1 4).toNat → PW X shX G 4 [some (.ref (G.2.1 1)), some (vI (sSum (fun s => zB (decide (vX σ 4 s ≤ vX σ 0 1))) i)), some (vI i)] [] σ := by
    intro n
    induction n with
    | zero =>
      intro i hi
      refine r_iload_n C rfl dX4_bright_4 ?_
      refine r_aload_n C rfl dX4_bright_5 ?_
      refine r_getI (jz := 4) C 3 4 rfl rfl (by decide) rfl uw_X4 fl_X4_24 rfl dX4_bright_6 ?_
      refine r_icmp_ge (tgt := 29) C (by decide) (by omega) (by omega) dX4_bright_9 (fun c9 => ?_) (fun c9 => ?_)
      · refine r_iload_n C rfl dX4_bright_29 ?_
        refine r_ireturn C rfl ?_ dX4_bright_30
        refine pv_of ?_ rfl
        rw [show i = (σ 1 4).toNat by omega]
      · omega
    | succ n ih =>
      intro i hi
      refine r_iload_n C rfl dX4_bright_4 ?_
      refine r_aload_n C rfl dX4_bright_5 ?_
      refine r_getI (jz := 4) C 3 4 rfl rfl (by decide) rfl uw_X4 fl_X4_24 rfl dX4_bright_6 ?_
      refine r_icmp_ge (tgt := 29) C (by decide) (by omega) (by omega) dX4_bright_9 (fun c9 => ?_) (fun c9 => ?_)
      · omega
      · refine r_aload_n C rfl dX4_bright_12 ?_
        refine r_iload_n C rfl dX4_bright_13 ?_
        refine r_callV (As := [_]) C (c_X4_counts _ _ _ hI (by omega)) ok_X4_counts ln_X4_40 rfl rfl rfl rfl (Nat.le_of_ble_eq_true rfl) (Nat.le_of_ble_eq_true rfl) (Nat.le_of_ble_eq_true rfl) dX4_bright_14 (fun v14 τ14 hq14 => ?_)
        obtain ⟨rfl, rfl⟩ := hq14
        refine r_ifB_eq (tgt := 23) C (by decide) dX4_bright_17 (fun c17 => ?_) (fun c17 => ?_)
        · refine r_iinc (ls' := [_, _, _]) C rfl (by decide) rfl rfl dX4_bright_23 ?_
          refine r_goto (tgt := 4) C (by decide) dX4_bright_26 ?_
          refine PW_ls (ih (i + 1) (by omega)) ?_
          simp [sSum, *, zB]
        · refine r_iinc (ls' := [_, _, _]) C rfl (by decide) rfl rfl dX4_bright_20 ?_
          refine r_iinc (ls' := [_, _, _]) C rfl (by decide) rfl rfl dX4_bright_23 ?_
          refine r_goto (tgt := 4) C (by decide) dX4_bright_26 ?_
          refine PW_ls (ih (i + 1) (by omega)) ?_
          simp [sSum, *, zB]
  refine r_iconst C dX4_bright_0 ?_
  refine r_istore_n (ls' := [_, _, _]) C (by decide) rfl rfl dX4_bright_1 ?_
  refine r_iconst C dX4_bright_2 ?_
  refine r_istore_n (ls' := [_, _, _]) C (by decide) rfl rfl dX4_bright_3 ?_
  exact loop (σ 1 4).toNat 0 (by omega)
set_option maxRecDepth 100000 in
theorem c_X2_allLines (l : Launch) (G : pw_G) (σ : pw_H) (hI : Inv (vX σ)) : Ct l shX G mX2_allLines [.ref (G.2.1 2)] σ (pv (sSum (vX σ 5) (σ 2 1).toNat) σ) := by
  have h0 : 0 ≤ σ 2 1 ∧ σ 2 1 ≤ 6 := hI.2.2.1
  refine Ct_of (ls := [some (.ref (G.2.1 2)), none, none]) (by decide +kernel) (Nat.le_of_ble_eq_true rfl) rfl (fun X C => ?_)
  have loop : ∀ (n i : Nat), i + n = (σ 2 1).toNat → PW X shX G 4 [some (.ref (G.2.1 2)), some (vI (sSum (vX σ 5) i)), some (vI i)] [] σ := by
    intro n
    induction n with
    | zero =>
      intro i hi
      refine r_iload_n C rfl dX2_allLines_4 ?_
      refine r_aload_n C rfl dX2_allLines_5 ?_
      refine r_getI (jz := 1) C 2 1 rfl rfl (by decide) rfl uw_X2 fl_X2_15 rfl dX2_allLines_6 ?_
      refine r_icmp_ge (tgt := 27) C (by decide) (by omega) (by omega) dX2_allLines_9 (fun c9 => ?_) (fun c9 => ?_)
      · refine r_iload_n C rfl dX2_allLines_27 ?_
        refine r_ireturn C rfl ?_ dX2_allLines_28
        refine pv_of ?_ rfl
        rw [show i = (σ 2 1).toNat by omega]
      · omega
    | succ n ih =>
      intro i hi
      refine r_iload_n C rfl dX2_allLines_4 ?_
      refine r_aload_n C rfl dX2_allLines_5 ?_
      refine r_getI (jz := 1) C 2 1 rfl rfl (by decide) rfl uw_X2 fl_X2_15 rfl dX2_allLines_6 ?_
      refine r_icmp_ge (tgt := 27) C (by decide) (by omega) (by omega) dX2_allLines_9 (fun c9 => ?_) (fun c9 => ?_)
      · omega
      · refine r_iload_n C rfl dX2_allLines_12 ?_
        refine r_aload_n C rfl dX2_allLines_13 ?_
        refine r_getR C 2 0 rfl rfl (by decide) rfl uw_X2 fl_X2_9 dX2_allLines_14 ?_
        refine r_iload_n C rfl dX2_allLines_17 ?_
        refine r_iaload C rfl (by decide) (by omega) dX2_allLines_18 ?_
        refine r_iadd C dX2_allLines_19 ?_
        refine r_istore_n (ls' := [_, _, _]) C (by decide) rfl rfl dX2_allLines_20 ?_
        refine r_iinc (ls' := [_, _, _]) C rfl (by decide) rfl rfl dX2_allLines_21 ?_
        refine r_goto (tgt := 4) C (by decide) dX2_allLines_24 ?_
        exact ih (i + 1) (by omega)
  refine r_iconst C dX2_allLines_0 ?_
  refine r_istore_n (ls' := [_, _, _]) C (by decide) rfl rfl dX2_allLines_1 ?_
  refine r_iconst C dX2_allLines_2 ?_
  refine r_istore_n (ls' := [_, _, _]) C (by decide) rfl rfl dX2_allLines_3 ?_
  exact loop (σ 2 1).toNat 0 (by omega)
set_option maxRecDepth 100000 in
theorem c_X1_turnSky (l : Launch) (G : pw_G) (σ : pw_H) {y h : Int} (hI : Inv (vX σ)) (hy : -3000 ≤ y ∧ y ≤ 3000) : Ct l shX G mX1_turnSky [.ref (G.2.1 3), vI y, vI h] σ (fun r τ => r = none ∧ Fr [15] σ τ ∧ ∀ s : Int, 0 ≤ s → s < σ 1 4 → τ 15 s = sSky (vX σ) s y + h) := by
  have h0 : 0 ≤ σ 1 4 ∧ σ 1 4 ≤ 8 := hI.1
  refine Ct_of (ls := [some (.ref (G.2.1 3)), some (vI y), some (vI h), none]) (by decide +kernel) (Nat.le_of_ble_eq_true rfl) rfl (fun X C => ?_)
  have loop : ∀ (n i : Nat) (τ : pw_H), i + n = (σ 1 4).toNat → Fr [15] σ τ → (∀ s : Int, 0 ≤ s → s < i → τ 15 s = sSky (vX σ) s y + h) → PW X shX G 2 [some (.ref (G.2.1 3)), some (vI y), some (vI h), some (vI i)] [] τ := by
    intro n
    induction n with
    | zero =>
      intro i τ hi hF hs
      have e1 : τ 1 4 = σ 1 4 := congrFun (hF 1 (by decide)) 4
      refine r_iload_n C rfl dX1_turnSky_2 ?_
      refine r_aload_n C rfl dX1_turnSky_3 ?_
      refine r_getR C 1 3 rfl rfl (by decide) rfl uw_X1 fl_X1_38 dX1_turnSky_4 ?_
      refine r_getI (jz := 4) C 3 4 rfl rfl (by decide) rfl uw_X4 fl_X1_82 rfl dX1_turnSky_7 ?_
      refine r_icmp_ge (tgt := 36) C (by decide) (by omega) (by omega) dX1_turnSky_10 (fun c10 => ?_) (fun c10 => ?_)
      · refine r_return C rfl ?_ dX1_turnSky_36
        exact ⟨rfl, hF, fun s s1 s2 => hs s s1 (by omega)⟩
      · omega
    | succ n ih =>
      intro i τ hi hF hs
      have e1 : τ 1 4 = σ 1 4 := congrFun (hF 1 (by decide)) 4
      have e2 : vX τ = vX σ := Fr_vX hF (by decide)
      refine r_iload_n C rfl dX1_turnSky_2 ?_
      refine r_aload_n C rfl dX1_turnSky_3 ?_
      refine r_getR C 1 3 rfl rfl (by decide) rfl uw_X1 fl_X1_38 dX1_turnSky_4 ?_
      refine r_getI (jz := 4) C 3 4 rfl rfl (by decide) rfl uw_X4 fl_X1_82 rfl dX1_turnSky_7 ?_
      refine r_icmp_ge (tgt := 36) C (by decide) (by omega) (by omega) dX1_turnSky_10 (fun c10 => ?_) (fun c10 => ?_)
      · omega
      · refine r_aload_n C rfl dX1_turnSky_13 ?_
        refine r_getR C 1 5 rfl rfl (by decide) rfl uw_X1 fl_X1_22 dX1_turnSky_14 ?_
        refine r_iload_n C rfl dX1_turnSky_17 ?_
        refine r_aload_n C rfl dX1_turnSky_18 ?_
        refine r_getR C 1 3 rfl rfl (by decide) rfl uw_X1 fl_X1_38 dX1_turnSky_19 ?_
        refine r_iload_n C rfl dX1_turnSky_22 ?_
        refine r_iload_n C rfl dX1_turnSky_23 ?_
        refine r_callV (As := [_, _]) C (c_X4_longIn _ _ _ (e2 ▸ hI) (by omega) (by omega)) ok_X4_longIn ln_X1_87 rfl rfl rfl rfl (Nat.le_of_ble_eq_true rfl) (Nat.le_of_ble_eq_true rfl) (Nat.le_of_ble_eq_true rfl) dX1_turnSky_24 (fun v24 τ24 hq24 => ?_)
        obtain ⟨rfl, rfl⟩ := hq24
        refine r_iload_n C rfl dX1_turnSky_27 ?_
        refine r_iadd C dX1_turnSky_28 ?_
        refine r_iastore C rfl (by decide) (by omega) dX1_turnSky_29 ?_
        refine r_iinc (ls' := [_, _, _, _]) C rfl (by decide) rfl rfl dX1_turnSky_30 ?_
        refine r_goto (tgt := 2) C (by decide) dX1_turnSky_33 ?_
        refine ih (i + 1) _ (by omega) (hF.tr (Fr.u (by decide)) (fun _ q => q) (fun _ q => q)) (fun s s1 s2 => ?_)
        by_cases q : s = i
        · rw [q, pw_u_s, e2]
        · rw [pw_u_j q]; exact hs s s1 (by omega)
  refine r_iconst C dX1_turnSky_0 ?_
  refine r_istore_n (ls' := [_, _, _, _]) C (by decide) rfl rfl dX1_turnSky_1 ?_
  exact loop (σ 1 4).toNat 0 σ (by omega) Fr.rf (fun s s1 s2 => by omega)
set_option maxRecDepth 100000 in
theorem c_X1_turnedRank (l : Launch) (G : pw_G) (σ : pw_H) {t i s : Int} (hI : Inv (vX σ)) (ht : 0 ≤ t ∧ t < 6) (hi : 0 ≤ i ∧ i < 8) (hs : 0 ≤ s ∧ s < 8) (hb : -1000 ≤ σ 15 s ∧ σ 15 s ≤ 50000) : Ct l shX G mX1_turnedRank [.ref (G.2.1 3), vI t, vI i, vI s] σ (pv (sRank (sWay (σ 15 s) (vX σ 6 (t * 8 + i))) (vX σ 7 (t * 8 + i)) (vX σ 2 s)) σ) := by
  have b1 : 0 ≤ σ 11 (t * 8 + i) ∧ σ 11 (t * 8 + i) ≤ 21599 := hI.2.2.2.2.2.2.2.2.2.1 _
  have b2 : -5400 ≤ σ 12 (t * 8 + i) ∧ σ 12 (t * 8 + i) ≤ 5400 := hI.2.2.2.2.2.2.2.2.2.2 _
  have b3 : -5400 ≤ σ 7 s ∧ σ 7 s ≤ 5400 := hI.2.2.2.2.1 _
  have b4 := n_way (σ 15 s) (σ 11 (t * 8 + i))
  refine Ct_of (ls := [some (.ref (G.2.1 3)), some (vI t), some (vI i), some (vI s), none]) (by decide +kernel) (Nat.le_of_ble_eq_true rfl) rfl (fun X C => ?_)
  refine r_aload_n C rfl dX1_turnedRank_0 ?_
  refine r_getR C 1 5 rfl rfl (by decide) rfl uw_X1 fl_X1_22 dX1_turnedRank_1 ?_
  refine r_iload_n C rfl dX1_turnedRank_4 ?_
  refine r_iaload C rfl (by decide) (by omega) dX1_turnedRank_5 ?_
  refine r_aload_n C rfl dX1_turnedRank_6 ?_
  refine r_getR C 1 4 rfl rfl (by decide) rfl uw_X1 fl_X1_42 dX1_turnedRank_7 ?_
  refine r_iload_n C rfl dX1_turnedRank_10 ?_
  refine r_iload_n C rfl dX1_turnedRank_11 ?_
  refine r_callV (As := [_, _]) C (c_X2_longOf _ _ _ (by omega) (by omega)) ok_X2_longOf ln_X1_90 rfl rfl rfl rfl (Nat.le_of_ble_eq_true rfl) (Nat.le_of_ble_eq_true rfl) (Nat.le_of_ble_eq_true rfl) dX1_turnedRank_12 (fun v12 τ12 hq12 => ?_)
  obtain ⟨rfl, rfl⟩ := hq12
  refine r_callN (As := [_, _]) C (c_X5_leads _ _ _ (by omega) (by omega)) ok_X5_leads rfl rfl rfl rfl (Nat.le_of_ble_eq_true rfl) (Nat.le_of_ble_eq_true rfl) (Nat.le_of_ble_eq_true rfl) dX1_turnedRank_15 (fun v15 τ15 hq15 => ?_)
  obtain ⟨rfl, rfl⟩ := hq15
  refine r_istore (ls' := [_, _, _, _, _]) C (by decide) rfl rfl dX1_turnedRank_18 ?_
  refine r_iload C rfl dX1_turnedRank_20 ?_
  refine r_aload_n C rfl dX1_turnedRank_22 ?_
  refine r_getR C 1 4 rfl rfl (by decide) rfl uw_X1 fl_X1_42 dX1_turnedRank_23 ?_
  refine r_iload_n C rfl dX1_turnedRank_26 ?_
  refine r_iload_n C rfl dX1_turnedRank_27 ?_
  refine r_callV (As := [_, _]) C (c_X2_wideOf _ _ _ (by omega) (by omega)) ok_X2_wideOf ln_X1_96 rfl rfl rfl rfl (Nat.le_of_ble_eq_true rfl) (Nat.le_of_ble_eq_true rfl) (Nat.le_of_ble_eq_true rfl) dX1_turnedRank_28 (fun v28 τ28 hq28 => ?_)
  obtain ⟨rfl, rfl⟩ := hq28
  refine r_aload_n C rfl dX1_turnedRank_31 ?_
  refine r_getR C 1 3 rfl rfl (by decide) rfl uw_X1 fl_X1_38 dX1_turnedRank_32 ?_
  refine r_getR C 3 1 rfl rfl (by decide) rfl uw_X4 fl_X1_99 dX1_turnedRank_35 ?_
  refine r_iload_n C rfl dX1_turnedRank_38 ?_
  refine r_iaload C rfl (by decide) (by omega) dX1_turnedRank_39 ?_
  refine r_callS (As := [_, _, _]) C (c_X3_rank _ _ _ (by omega) (by omega) (by omega)) ok_X3_rank ln_X1_102 rfl rfl (Nat.le_of_ble_eq_true rfl) (Nat.le_of_ble_eq_true rfl) (Nat.le_of_ble_eq_true rfl) dX1_turnedRank_40 (fun v40 τ40 hq40 => ?_)
  obtain ⟨rfl, rfl⟩ := hq40
  refine r_ireturn C rfl ?_ dX1_turnedRank_43
  exact ⟨rfl, rfl⟩
set_option maxRecDepth 100000 in
theorem c_X1_rankOf (l : Launch) (G : pw_G) (σ : pw_H) {t i s y h : Int} (hI : Inv (vX σ)) (ht : 0 ≤ t ∧ t < 6) (hi : 0 ≤ i ∧ i < 8) (hs : 0 ≤ s ∧ s < σ 1 4) (hy : -3000 ≤ y ∧ y ≤ 3000) (hh : -600 ≤ h ∧ h ≤ 600) : Ct l shX G mX1_rankOf [.ref (G.2.1 3), vI t, vI i, vI s, vI y, vI h] σ (fun r τ => r = some (vI (sRk (vX σ) t i s y h)) ∧ Fr [15] σ τ) := by
  have h0 : 0 ≤ σ 1 4 ∧ σ 1 4 ≤ 8 := hI.1
  have h1 := n_sky (vX σ) s y
  refine Ct_of (ls := [some (.ref (G.2.1 3)), some (vI t), some (vI i), some (vI s), some (vI y), some (vI h)]) (by decide +kernel) (Nat.le_of_ble_eq_true rfl) rfl (fun X C => ?_)
  refine r_aload_n C rfl dX1_rankOf_0 ?_
  refine r_iload C rfl dX1_rankOf_1 ?_
  refine r_iload C rfl dX1_rankOf_3 ?_
  refine r_callV (As := [_, _]) C (c_X1_turnSky _ _ _ hI (by omega)) ok_X1_turnSky ln_X1_46 rfl rfl rfl rfl (Nat.le_of_ble_eq_true rfl) (Nat.le_of_ble_eq_true rfl) (Nat.le_of_ble_eq_true rfl) dX1_rankOf_5 (fun v5 τ5 hq5 => ?_)
  obtain ⟨rfl, hF, hS⟩ := hq5
  have e2 : vX τ5 = vX σ := Fr_vX hF (by decide)
  have e3 := hS s hs.1 hs.2
  refine r_aload_n C rfl dX1_rankOf_8 ?_
  refine r_iload_n C rfl dX1_rankOf_9 ?_
  refine r_iload_n C rfl dX1_rankOf_10 ?_
  refine r_iload_n C rfl dX1_rankOf_11 ?_
  refine r_callV (As := [_, _, _]) C (c_X1_turnedRank _ _ _ (e2 ▸ hI) (by omega) (by omega) (by omega) (by rw [e3]; omega)) ok_X1_turnedRank ln_X1_50 rfl rfl rfl rfl (Nat.le_of_ble_eq_true rfl) (Nat.le_of_ble_eq_true rfl) (Nat.le_of_ble_eq_true rfl) dX1_rankOf_12 (fun v12 τ12 hq12 => ?_)
  obtain ⟨rfl, rfl⟩ := hq12
  refine r_ireturn C rfl ?_ dX1_rankOf_15
  exact ⟨by rw [e3, e2]; rfl, hF⟩
theorem zB_01 (b : Bool) : 0 ≤ zB b ∧ zB b ≤ 1 := by cases b <;> decide
theorem sSum_01 (f : Int → Bool) (n : Nat) : 0 ≤ sSum (fun s => zB (f s)) n ∧ sSum (fun s => zB (f s)) n ≤ n := by
  induction n with
  | zero => simp [sSum]
  | succ n ih => simp only [sSum]; have := zB_01 (f (n : Int)); omega
