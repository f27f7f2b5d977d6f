theorem sIns_cong (d : Int) : ∀ (n : Nat) (f g : Int → Int), (∀ j : Nat, j < n → f j = g j) → ∀ j : Nat, j ≤ n → sIns d n f j = sIns d n g j
  | 0, f, g, h, j, hj => by
    have : j = 0 := by omega
    subst this
    simp [sIns]
  | n + 1, f, g, h, j, hj => by
    simp only [sIns]
    rw [h n (by omega)]
    by_cases q : d < g n
    · rw [if_pos q, if_pos q]
      by_cases q2 : j = n + 1
      · subst q2
        have out : ∀ (m : Nat) (F : Int → Int) (z : Int), (m : Int) < z → sIns d m F z = F z := by
          intro m
          induction m with
          | zero => intro F z hz; simp only [sIns]; rw [if_neg (by omega)]
          | succ m ih =>
            intro F z hz
            simp only [sIns]
            split
            · rw [ih _ z (by omega), if_neg (by omega)]
            · exact if_neg (by omega)
        rw [out n _ _ (by omega), out n _ _ (by omega)]
        simp
      · refine sIns_cong d n _ _ (fun k hk => ?_) j (by omega)
        try simp only []
        rw [if_neg (by omega), if_neg (by omega)]
        exact h k (by omega)
    · rw [if_neg q, if_neg q]
      by_cases q2 : (j : Int) = (n + 1 : Nat)
      · rw [if_pos q2, if_pos q2]
      · rw [if_neg q2, if_neg q2]
        exact h j (by omega)
theorem sIns_rng (d lo hi : Int) (hd : lo ≤ d ∧ d ≤ hi) : ∀ (n : Nat) (f : Int → Int), (∀ j : Nat, j < n → lo ≤ f j ∧ f j ≤ hi) → ∀ j : Nat, j ≤ n → lo ≤ sIns d n f j ∧ sIns d n f j ≤ hi
  | 0, f, h, j, hj => by
    have : j = 0 := by omega
    subst this
    simp [sIns]; exact hd
  | n + 1, f, h, j, hj => by
    simp only [sIns]
    by_cases q : d < f n
    · rw [if_pos q]
      by_cases q2 : j = n + 1
      · subst q2
        have out : ∀ (m : Nat) (F : Int → Int) (z : Int), (m : Int) < z → sIns d m F z = F z := by
          intro m
          induction m with
          | zero => intro F z hz; simp only [sIns]; rw [if_neg (by omega)]
          | succ m ih =>
            intro F z hz
            simp only [sIns]
            split
            · rw [ih _ z (by omega), if_neg (by omega)]
            · exact if_neg (by omega)
        rw [out n _ _ (by omega)]
        simp
        exact h n (by omega)
      · refine sIns_rng d lo hi hd n _ (fun k hk => ?_) j (by omega)
        try simp only []
        rw [if_neg (by omega)]
        exact h k (by omega)
    · rw [if_neg q]
      by_cases q2 : (j : Int) = (n + 1 : Nat)
      · rw [if_pos q2]; exact hd
      · rw [if_neg q2]
        exact h j (by omega)
theorem sStar_r {a : pw_H} (hI : Inv a) {l y h : Int} {i : Nat} (hi : i < (a 5 l).toNat) : sStar a l y h i = -9 ∨ (0 ≤ sStar a l y h i ∧ sStar a l y h i < a 0 0 ∧ sF a l y h i (sStar a l y h i) = true) := by
  have h0 := hI.1
  rcases sSt_rng (C := sC a l y h) (N := (a 0 0).toNat) (n := (a 5 l).toNat) i with q | ⟨q1, q2, q3⟩ | q
  · exact Or.inl q
  · have e : sSt (sC a l y h) (a 0 0).toNat (a 5 l).toNat i = sStar a l y h i := rfl
    rw [e] at q1 q2 q3
    exact Or.inr ⟨q1, by omega, sC_lt.mp q3⟩
  · omega
theorem pw_u_f (σ : pw_H) (k : Nat) (z v : Int) : pw_u σ k z v k = fun j => if j = z then v else σ k j := by
  funext j
  simp [pw_u]
theorem sWs_r (a : pw_H) (l y : Int) : ∀ i, (sWs a l y i).2 ≤ i ∧ ∀ j : Nat, j < (sWs a l y i).2 → -10800 ≤ (sWs a l y i).1 j ∧ (sWs a l y i).1 j ≤ 10799
  | 0 => by simp [sWs]
  | i + 1 => by
    obtain ⟨h1, h2⟩ := sWs_r a l y i
    simp only [sWs]
    split
    · exact ⟨by omega, h2⟩
    · refine ⟨by simp only []; omega, fun j hj => sIns_rng _ _ _ (n_way _ _) _ _ h2 j ?_⟩
      simp only [] at hj
      omega
set_option maxRecDepth 100000 in
theorem c_X1_insertWay (l : Launch) (G : pw_G) (σ : pw_H) {n : Nat} {d : Int} (hn : n < 8) (hd : -10800 ≤ d ∧ d ≤ 10800) (hr : ∀ j : Nat, j < n → -10800 ≤ σ 14 j ∧ σ 14 j ≤ 10799) : Ct l shX G mX1_insertWay [.ref (G.2.1 3), vI (n : Int), vI d] σ (fun r τ => r = none ∧ Fr [14] σ τ ∧ τ 14 = sIns d n (σ 14)) := by
  refine Ct_of (ls := [some (.ref (G.2.1 3)), some (vI (n : Int)), some (vI d), none]) (by decide +kernel) (Nat.le_of_ble_eq_true rfl) rfl (fun X C => ?_)
  have loop : ∀ (k : Nat) (υ : pw_H), k ≤ n → Fr [14] σ υ → (∀ j : Nat, j < k → υ 14 j = σ 14 j) → sIns d k (υ 14) = sIns d n (σ 14) → PW X shX G 2 [some (.ref (G.2.1 3)), some (vI (n : Int)), some (vI d), some (vI (k : Int))] [] υ := by
    intro k
    induction k with
    | zero =>
      intro υ hk hF hj hs
      refine r_iload_n C rfl dX1_insertWay_2 ?_
      refine r_if_le (tgt := 38) C (by decide) (by omega) dX1_insertWay_3 (fun c3 => ?_) (fun c3 => ?_)
      · refine r_aload_n C rfl dX1_insertWay_38 ?_
        refine r_getR C 1 1 rfl rfl (by decide) rfl uw_X1 fl_X1_15 dX1_insertWay_39 ?_
        refine r_iload_n C rfl dX1_insertWay_42 ?_
        refine r_iload_n C rfl dX1_insertWay_43 ?_
        refine r_iastore C rfl (by decide) (by omega) dX1_insertWay_44 ?_
        refine r_return C rfl ?_ dX1_insertWay_45
        refine ⟨rfl, hF.tr (Fr.u (by decide)) (fun _ q => q) (fun _ q => q), ?_⟩
        rw [pw_u_f, ← hs]
        rfl
      · omega
    | succ k ih =>
      intro υ hk hF hj hs
      have e1 := hj k (by omega)
      have e2 := hr k (by omega)
      have e0 : ((k + 1 : Nat) : Int) - 1 = (k : Int) := by omega
      refine r_iload_n C rfl dX1_insertWay_2 ?_
      refine r_if_le (tgt := 38) C (by decide) (by omega) dX1_insertWay_3 (fun c3 => ?_) (fun c3 => ?_)
      · omega
      · refine r_aload_n C rfl dX1_insertWay_6 ?_
        refine r_getR C 1 1 rfl rfl (by decide) rfl uw_X1 fl_X1_15 dX1_insertWay_7 ?_
        refine r_iload_n C rfl dX1_insertWay_10 ?_
        refine r_iconst C dX1_insertWay_11 ?_
        refine r_isub C dX1_insertWay_12 ?_
        rw [e0]
        refine r_iaload C rfl (by decide) (by omega) dX1_insertWay_13 ?_
        refine r_iload_n C rfl dX1_insertWay_14 ?_
        rw [e1]
        refine r_icmp_le (tgt := 38) C (by decide) (by omega) (by omega) dX1_insertWay_15 (fun c15 => ?_) (fun c15 => ?_)
        · refine r_aload_n C rfl dX1_insertWay_38 ?_
          refine r_getR C 1 1 rfl rfl (by decide) rfl uw_X1 fl_X1_15 dX1_insertWay_39 ?_
          refine r_iload_n C rfl dX1_insertWay_42 ?_
          refine r_iload_n C rfl dX1_insertWay_43 ?_
          refine r_iastore C rfl (by decide) (by omega) dX1_insertWay_44 ?_
          refine r_return C rfl ?_ dX1_insertWay_45
          refine ⟨rfl, hF.tr (Fr.u (by decide)) (fun _ q => q) (fun _ q => q), ?_⟩
          rw [pw_u_f, ← hs]
          simp only [sIns]
          rw [if_neg (by omega)]
        · refine r_aload_n C rfl dX1_insertWay_18 ?_
          refine r_getR C 1 1 rfl rfl (by decide) rfl uw_X1 fl_X1_15 dX1_insertWay_19 ?_
          refine r_iload_n C rfl dX1_insertWay_22 ?_
          refine r_aload_n C rfl dX1_insertWay_23 ?_
          refine r_getR C 1 1 rfl rfl (by decide) rfl uw_X1 fl_X1_15 dX1_insertWay_24 ?_
          refine r_iload_n C rfl dX1_insertWay_27 ?_
          refine r_iconst C dX1_insertWay_28 ?_
          refine r_isub C dX1_insertWay_29 ?_
          rw [e0]
          refine r_iaload C rfl (by decide) (by omega) dX1_insertWay_30 ?_
          rw [e1]
          refine r_iastore C rfl (by decide) (by omega) dX1_insertWay_31 ?_
          refine r_iinc (ls' := [_, _, _, _]) C rfl (by decide) rfl rfl dX1_insertWay_32 ?_
          refine r_goto (tgt := 2) C (by decide) dX1_insertWay_35 ?_
          refine PW_ls (ih _ (by omega) (hF.tr (Fr.u (by decide)) (fun _ q => q) (fun _ q => q)) (fun j j1 => by rw [pw_u_j (by omega)]; exact hj j (by omega)) ?_) ?_
          · rw [pw_u_f, ← hs, ← e1]
            simp only [sIns]
            rw [if_pos (by omega)]
          · rw [show ((k + 1 : Nat) : Int) + -1 = (k : Int) by omega]
  refine r_iload_n C rfl dX1_insertWay_0 ?_
  refine r_istore_n (ls' := [_, _, _, _]) C (by decide) rfl rfl dX1_insertWay_1 ?_
  exact loop n σ (Nat.le_refl n) Fr.rf (fun j j1 => rfl) rfl
set_option maxRecDepth 100000 in
set_option maxHeartbeats 4000000 in
theorem c_X1_sortPlainWays (l : Launch) (G : pw_G) (σ : pw_H) {t : Nat} {y : Int} (hI : Inv (vX σ)) (ht : t < 6) (hst : ∀ i : Nat, i < (σ 10 t).toNat → σ 13 i = sStar (vX σ) t y 0 i) (hsky : ∀ s : Int, 0 ≤ s → s < σ 1 4 → σ 15 s = sSky (vX σ) s y + 0) : Ct l shX G mX1_sortPlainWays [.ref (G.2.1 3), vI (t : Int)] σ (fun r τ => r = some (vI ((sWs (vX σ) t y (σ 10 t).toNat).2 : Int)) ∧ Fr [14] σ τ ∧ ∀ j : Nat, j < (sWs (vX σ) t y (σ 10 t).toNat).2 → τ 14 j = (sWs (vX σ) t y (σ 10 t).toNat).1 j) := by
  have h0 : 0 ≤ σ 1 4 ∧ σ 1 4 ≤ 8 := hI.1
  have h9 : 0 ≤ σ 10 t ∧ σ 10 t ≤ 8 := hI.2.2.2.2.2.2.2.1 t
  refine Ct_of (ls := [some (.ref (G.2.1 3)), some (vI (t : Int)), none, none, none]) (by decide +kernel) (Nat.le_of_ble_eq_true rfl) rfl (fun X C => ?_)
  have loop : ∀ (k i : Nat) (υ : pw_H), i + k = (σ 10 t).toNat → Fr [14] σ υ → (∀ j : Nat, j < (sWs (vX σ) t y i).2 → υ 14 j = (sWs (vX σ) t y i).1 j) → PW X shX G 4 [some (.ref (G.2.1 3)), some (vI (t : Int)), some (vI ((sWs (vX σ) t y i).2 : Int)), some (vI (i : Int)), none] [] υ := by
    intro k
    induction k with
    | zero =>
      intro i υ hi hF hj
      have e1 : υ 10 t = σ 10 t := congrFun (hF 10 (by decide)) _
      have ei : i = (σ 10 t).toNat := by omega
      subst ei
      refine r_iload_n C rfl dX1_sortPlainWays_4 ?_
      refine r_aload_n C rfl dX1_sortPlainWays_5 ?_
      refine r_getR C 1 4 rfl rfl (by decide) rfl uw_X1 fl_X1_42 dX1_sortPlainWays_6 ?_
      refine r_getR C 2 0 rfl rfl (by decide) rfl uw_X2 fl_X1_62 dX1_sortPlainWays_9 ?_
      refine r_iload_n C rfl dX1_sortPlainWays_12 ?_
      refine r_iaload C rfl (by decide) (by omega) dX1_sortPlainWays_13 ?_
      refine r_icmp_ge (tgt := 82) C (by decide) (by omega) (by omega) dX1_sortPlainWays_14 (fun c14 => ?_) (fun c14 => ?_)
      · refine r_iload_n C rfl dX1_sortPlainWays_82 ?_
        refine r_ireturn C rfl ?_ dX1_sortPlainWays_83
        exact ⟨rfl, hF, hj⟩
      · omega
    | succ k ih =>
      intro i υ hi hF hj
      have e1 : υ 10 t = σ 10 t := congrFun (hF 10 (by decide)) _
      have e2 : vX υ = vX σ := Fr_vX hF (by decide)
      have e3 : υ 13 i = sStar (vX σ) t y 0 i := (congrFun (hF 13 (by decide)) _).trans (hst i (by omega))
      have hw := sWs_r (vX σ) t y i
      have hs3 : sStar (vX σ) t y 0 i = -9 ∨ (0 ≤ sStar (vX σ) t y 0 i ∧ sStar (vX σ) t y 0 i < σ 1 4) := by
        rcases sStar_r (y := y) (h := 0) hI (l := t) (i := i) (show i < (σ 10 t).toNat by omega) with q | ⟨q1, q2, -⟩
        · exact Or.inl q
        · exact Or.inr ⟨q1, q2⟩
      have e4 : 0 ≤ sStar (vX σ) t y 0 i → υ 15 (sStar (vX σ) t y 0 i) = sSky (vX σ) (sStar (vX σ) t y 0 i) y := fun q => by
        rw [hF 15 (by decide), hsky _ q (by omega), Int.add_zero]
      have hsk := n_sky (vX σ) (sStar (vX σ) t y 0 i) y
      have hrk : 0 ≤ sRk (vX σ) t i (sStar (vX σ) t y 0 i) y 0 ∧ sRk (vX σ) t i (sStar (vX σ) t y 0 i) y 0 ≤ 1048576 := n_sRank _ _ _
      have b1 : 0 ≤ σ 11 ((t : Int) * 8 + i) ∧ σ 11 ((t : Int) * 8 + i) ≤ 21599 := hI.2.2.2.2.2.2.2.2.2.1 _
      have b2 : υ 11 ((t : Int) * 8 + i) = σ 11 ((t : Int) * 8 + i) := congrFun (hF 11 (by decide)) _
      have b4 := n_way (sSky (vX σ) (sStar (vX σ) t y 0 i) y) (σ 11 ((t : Int) * 8 + i))
      have hno : (sStar (vX σ) t y 0 i = -9 ∨ ¬ sRk (vX σ) t i (sStar (vX σ) t y 0 i) y 0 % 4 = 0) → sWs (vX σ) t y (i + 1) = sWs (vX σ) t y i := fun q => by simp only [sWs]; rw [if_pos q]
      refine r_iload_n C rfl dX1_sortPlainWays_4 ?_
      refine r_aload_n C rfl dX1_sortPlainWays_5 ?_
      refine r_getR C 1 4 rfl rfl (by decide) rfl uw_X1 fl_X1_42 dX1_sortPlainWays_6 ?_
      refine r_getR C 2 0 rfl rfl (by decide) rfl uw_X2 fl_X1_62 dX1_sortPlainWays_9 ?_
      refine r_iload_n C rfl dX1_sortPlainWays_12 ?_
      refine r_iaload C rfl (by decide) (by omega) dX1_sortPlainWays_13 ?_
      refine r_icmp_ge (tgt := 82) C (by decide) (by omega) (by omega) dX1_sortPlainWays_14 (fun c14 => ?_) (fun c14 => ?_)
      · omega
      · refine r_aload_n C rfl dX1_sortPlainWays_17 ?_
        refine r_getR C 1 0 rfl rfl (by decide) rfl uw_X1 fl_X1_11 dX1_sortPlainWays_18 ?_
        refine r_iload_n C rfl dX1_sortPlainWays_21 ?_
        refine r_iaload C rfl (by decide) (by omega) dX1_sortPlainWays_22 ?_
        rw [e3]
        refine r_istore (ls' := [_, _, _, _, _]) C (by decide) rfl rfl dX1_sortPlainWays_23 ?_
        refine r_iload C rfl dX1_sortPlainWays_25 ?_
        refine r_bipush C (by decide +kernel) dX1_sortPlainWays_27 ?_
        refine r_icmp_eq (tgt := 76) C (by decide) (by omega) (by omega) dX1_sortPlainWays_29 (fun c29 => ?_) (fun c29 => ?_)
        · refine r_iinc (ls' := [_, _, _, _, _]) C rfl (by decide) rfl rfl dX1_sortPlainWays_76 ?_
          refine r_goto (tgt := 4) C (by decide) dX1_sortPlainWays_79 ?_
          refine PW_lw [true, true, true, true, false] (ih (i + 1) υ (by omega) hF ?_) ?_
          · rw [hno (Or.inl (by omega))]; exact hj
          · rw [hno (Or.inl (by omega))]; rfl
        · refine r_aload_n C rfl dX1_sortPlainWays_32 ?_
          refine r_iload_n C rfl dX1_sortPlainWays_33 ?_
          refine r_iload_n C rfl dX1_sortPlainWays_34 ?_
          refine r_iload C rfl dX1_sortPlainWays_35 ?_
          refine r_callV (As := [_, _, _]) C (c_X1_turnedRank _ _ _ (e2 ▸ hI) (by omega) (by omega) (by omega) (by rw [e4 (by omega)]; omega)) ok_X1_turnedRank ln_X1_50 rfl rfl rfl rfl (Nat.le_of_ble_eq_true rfl) (Nat.le_of_ble_eq_true rfl) (Nat.le_of_ble_eq_true rfl) dX1_sortPlainWays_37 (fun v37 τ37 hq37 => ?_)
          obtain ⟨rfl, rfl⟩ := hq37
          rw [e4 (by omega), e2, show sRank (sWay (sSky (vX σ) (sStar (vX σ) t y 0 i) y) (vX σ 6 ((t : Int) * 8 + i))) (vX σ 7 ((t : Int) * 8 + i)) (vX σ 2 (sStar (vX σ) t y 0 i)) = sRk (vX σ) t i (sStar (vX σ) t y 0 i) y 0 by unfold sRk; rw [Int.add_zero]]
          refine r_callS (As := [_]) C (c_X3_kindOf _ _ _ hrk) ok_X3_kindOf ln_X1_129 rfl rfl (Nat.le_of_ble_eq_true rfl) (Nat.le_of_ble_eq_true rfl) (Nat.le_of_ble_eq_true rfl) dX1_sortPlainWays_40 (fun v40 τ40 hq40 => ?_)
          obtain ⟨rfl, rfl⟩ := hq40
          refine r_if_eq (tgt := 49) C (by decide) (by omega) dX1_sortPlainWays_43 (fun c43 => ?_) (fun c43 => ?_)
          · refine r_aload_n C rfl dX1_sortPlainWays_49 ?_
            refine r_iload_n C rfl dX1_sortPlainWays_50 ?_
            refine r_aload_n C rfl dX1_sortPlainWays_51 ?_
            refine r_getR C 1 5 rfl rfl (by decide) rfl uw_X1 fl_X1_22 dX1_sortPlainWays_52 ?_
            refine r_iload C rfl dX1_sortPlainWays_55 ?_
            refine r_iaload C rfl (by decide) (by omega) dX1_sortPlainWays_57 ?_
            rw [e4 (by omega)]
            refine r_aload_n C rfl dX1_sortPlainWays_58 ?_
            refine r_getR C 1 4 rfl rfl (by decide) rfl uw_X1 fl_X1_42 dX1_sortPlainWays_59 ?_
            refine r_iload_n C rfl dX1_sortPlainWays_62 ?_
            refine r_iload_n C rfl dX1_sortPlainWays_63 ?_
            refine r_callV (As := [_, _]) C (c_X2_longOf _ _ _ (by omega) (by omega)) ok_X2_longOf ln_X1_90 rfl rfl rfl rfl (Nat.le_of_ble_eq_true rfl) (Nat.le_of_ble_eq_true rfl) (Nat.le_of_ble_eq_true rfl) dX1_sortPlainWays_64 (fun v64 τ64 hq64 => ?_)
            obtain ⟨rfl, rfl⟩ := hq64
            rw [b2]
            refine r_callN (As := [_, _]) C (c_X5_leads _ _ _ (by omega) (by omega)) ok_X5_leads rfl rfl rfl rfl (Nat.le_of_ble_eq_true rfl) (Nat.le_of_ble_eq_true rfl) (Nat.le_of_ble_eq_true rfl) dX1_sortPlainWays_67 (fun v67 τ67 hq67 => ?_)
            obtain ⟨rfl, rfl⟩ := hq67
            refine r_callV (As := [_, _]) C (c_X1_insertWay _ _ _ (by omega) (by omega) (fun j j1 => by rw [hj j j1]; exact hw.2 j j1)) ok_X1_insertWay ln_X1_132 rfl rfl rfl rfl (Nat.le_of_ble_eq_true rfl) (Nat.le_of_ble_eq_true rfl) (Nat.le_of_ble_eq_true rfl) dX1_sortPlainWays_70 (fun v70 τ70 hq70 => ?_)
            obtain ⟨rfl, hF2, e5⟩ := hq70
            refine r_iinc (ls' := [_, _, _, _, _]) C rfl (by decide) rfl rfl dX1_sortPlainWays_73 ?_
            refine r_iinc (ls' := [_, _, _, _, _]) C rfl (by decide) rfl rfl dX1_sortPlainWays_76 ?_
            refine r_goto (tgt := 4) C (by decide) dX1_sortPlainWays_79 ?_
            have hye : sWs (vX σ) t y (i + 1) = (sIns (sWay (sSky (vX σ) (sStar (vX σ) t y 0 i) y) (vX σ 6 ((t : Int) * 8 + i))) (sWs (vX σ) t y i).2 (sWs (vX σ) t y i).1, (sWs (vX σ) t y i).2 + 1) := by simp only [sWs]; rw [if_neg (by omega)]
            refine PW_lw [true, true, true, true, false] (ih (i + 1) _ (by omega) (hF.tr hF2 (fun _ q => q) (fun _ q => q)) (fun j j1 => ?_)) ?_
            · rw [hye] at j1 ⊢
              simp only [] at j1 ⊢
              rw [e5]
              exact sIns_cong _ _ _ _ hj j (by omega)
            · rw [hye]; rfl
          · refine r_goto (tgt := 76) C (by decide) dX1_sortPlainWays_46 ?_
            refine r_iinc (ls' := [_, _, _, _, _]) C rfl (by decide) rfl rfl dX1_sortPlainWays_76 ?_
            refine r_goto (tgt := 4) C (by decide) dX1_sortPlainWays_79 ?_
            refine PW_lw [true, true, true, true, false] (ih (i + 1) υ (by omega) hF ?_) ?_
            · rw [hno (Or.inr (by omega))]; exact hj
            · rw [hno (Or.inr (by omega))]; rfl
  refine r_iconst C dX1_sortPlainWays_0 ?_
  refine r_istore_n (ls' := [_, _, _, _, _]) C (by decide) rfl rfl dX1_sortPlainWays_1 ?_
  refine r_iconst C dX1_sortPlainWays_2 ?_
  refine r_istore_n (ls' := [_, _, _, _, _]) C (by decide) rfl rfl dX1_sortPlainWays_3 ?_
  exact loop (σ 10 t).toNat 0 σ (by omega) Fr.rf (fun j j1 => by simp [sWs] at j1)
set_option maxRecDepth 100000 in
theorem c_X5_shift (l : Launch) (G : pw_G) (σ : pw_H) {t y : Int} (hI : Inv (vX σ)) (q_t : InI t) (q_y : InI y) : Ct l shX G mX5_shift [.ref (G.2.1 0), vI t, vI y] σ (pX (s_shift (vX σ) t y)) := by
  have h0 : 0 ≤ σ 1 4 ∧ σ 1 4 ≤ 8 := hI.1
  have h5 : 0 ≤ σ 1 5 ∧ σ 1 5 ≤ 6 := hI.2.1
  have h1 : 0 ≤ σ 2 1 ∧ σ 2 1 ≤ 6 := hI.2.2.1
  refine Ct_of (ls := [some (.ref (G.2.1 0)), some (vI t), some (vI y), none]) (by decide +kernel) (Nat.le_of_ble_eq_true rfl) rfl (fun X C => ?_)
  refine r_aload_n C rfl dX5_shift_0 ?_
  refine r_getR C 4 1 rfl rfl (by decide) rfl uw_X5 fl_X5_19 dX5_shift_1 ?_
  refine r_iload_n C rfl dX5_shift_4 ?_
  refine r_callV (As := [_]) C (c_X2_has _ _ _ (by omega) hI) ok_X2_has ln_X5_98 rfl rfl rfl rfl (Nat.le_of_ble_eq_true rfl) (Nat.le_of_ble_eq_true rfl) (Nat.le_of_ble_eq_true rfl) dX5_shift_5 (fun v5 τ5 hq5 => ?_)
  obtain ⟨rfl, rfl⟩ := hq5
  refine r_ifB_ne (tgt := 13) C (by decide) dX5_shift_8 (fun c8 => ?_) (fun c8 => ?_)
  · have h8 : 0 ≤ t ∧ t ≤ σ 2 1 - 1 := bList_t c8
    obtain ⟨u, rfl⟩ := Int.eq_ofNat_of_zero_le h8.1
    have h9 : 0 ≤ σ 10 u ∧ σ 10 u ≤ 8 := hI.2.2.2.2.2.2.2.1 u
    have hw := sWs_r (vX σ) u y (σ 10 u).toNat
    refine r_iload_n C rfl dX5_shift_13 ?_
    refine r_callS (As := [_]) C (c_X5_isYear _ _ _ (by omega)) ok_X5_isYear ln_X5_65 rfl rfl (Nat.le_of_ble_eq_true rfl) (Nat.le_of_ble_eq_true rfl) (Nat.le_of_ble_eq_true rfl) dX5_shift_14 (fun v14 τ14 hq14 => ?_)
    obtain ⟨rfl, rfl⟩ := hq14
    refine r_ifB_ne (tgt := 23) C (by decide) dX5_shift_17 (fun c17 => ?_) (fun c17 => ?_)
    · have h11 := bIn_iff.mp c17
      refine r_aload_n C rfl dX5_shift_23 ?_
      refine r_getR C 4 2 rfl rfl (by decide) rfl uw_X5 fl_X5_28 dX5_shift_24 ?_
      refine r_iload_n C rfl dX5_shift_27 ?_
      refine r_iload_n C rfl dX5_shift_28 ?_
      refine r_iconst C dX5_shift_29 ?_
      refine r_callV (As := [_, _, _]) C (c_X1_find _ _ _ hI (by omega) h11 (by omega)) ok_X1_find ln_X5_135 rfl rfl rfl rfl (Nat.le_of_ble_eq_true rfl) (Nat.le_of_ble_eq_true rfl) (Nat.le_of_ble_eq_true rfl) dX5_shift_30 (fun v30 τ30 hq30 => ?_)
      obtain ⟨rfl, hF, -, e3, e4⟩ := hq30
      have e2 : vX τ30 = vX σ := Fr_vX hF (by decide)
      have f1 : τ30 10 u = σ 10 u := congrFun (hF 10 (by decide)) _
      have f2 : τ30 1 4 = σ 1 4 := congrFun (hF 1 (by decide)) _
      refine r_aload_n C rfl dX5_shift_33 ?_
      refine r_getR C 4 2 rfl rfl (by decide) rfl uw_X5 fl_X5_28 dX5_shift_34 ?_
      refine r_iload_n C rfl dX5_shift_37 ?_
      refine r_callV (As := [_]) C (c_X1_sortPlainWays (t := u) (y := y) _ _ _ (e2 ▸ hI) (by omega) (fun i i1 => by rw [e2]; exact e3 i (by omega)) (fun s s1 s2 => by rw [e2]; exact e4 s s1 (by omega))) ok_X1_sortPlainWays ln_X5_156 rfl rfl rfl rfl (Nat.le_of_ble_eq_true rfl) (Nat.le_of_ble_eq_true rfl) (Nat.le_of_ble_eq_true rfl) dX5_shift_38 (fun v38 τ38 hq38 => ?_)
      obtain ⟨rfl, hF2, e5⟩ := hq38
      have e6 : vX τ38 = vX σ := (Fr_vX hF2 (by decide)).trans e2
      rw [e2, f1] at e5
      rw [e2, f1]
      refine r_istore_n (ls' := [_, _, _, _]) C (by decide) rfl rfl dX5_shift_41 ?_
      refine r_iload_n C rfl dX5_shift_42 ?_
      refine r_if_ne (tgt := 49) C (by decide) (by omega) dX5_shift_43 (fun c43 => ?_) (fun c43 => ?_)
      · refine r_aload_n C rfl dX5_shift_49 ?_
        refine r_getR C 4 2 rfl rfl (by decide) rfl uw_X5 fl_X5_28 dX5_shift_50 ?_
        refine r_getR C 1 1 rfl rfl (by decide) rfl uw_X1 fl_X5_159 dX5_shift_53 ?_
        refine r_iload_n C rfl dX5_shift_56 ?_
        refine r_iconst C dX5_shift_57 ?_
        refine r_isub C dX5_shift_58 ?_
        refine r_iconst C dX5_shift_59 ?_
        refine r_idiv C (by omega) (by omega) (by omega) dX5_shift_60 ?_
        rw [Int.tdiv_eq_ediv_of_nonneg (show 0 ≤ ((sWs (vX σ) u y (σ 10 u).toNat).2 : Int) - 1 by omega)]
        refine r_iaload C rfl (by decide) (by omega) dX5_shift_61 ?_
        refine r_bipush C (by decide +kernel) dX5_shift_62 ?_
        refine r_iadd C dX5_shift_64 ?_
        refine r_ireturn C rfl ?_ dX5_shift_65
        refine pX_of (a := vX σ) ?_ e6
        have e7 := e5 (((sWs (vX σ) u y (σ 10 u).toNat).2 - 1) / 2) (by omega)
        rw [show ((((sWs (vX σ) u y (σ 10 u).toNat).2 - 1) / 2 : Nat) : Int) = (((sWs (vX σ) u y (σ 10 u).toNat).2 : Int) - 1) / 2 by omega] at e7
        rw [e7]
        simp only [s_shift, c8, c17]
        rw [sTold, if_neg (show ¬ (sWs (vX σ) u y (vX σ 5 u).toNat).2 = 0 from (by omega : ¬ (sWs (vX σ) u y (σ 10 u).toNat).2 = 0))]
        rfl
      · refine r_bipush C (by decide +kernel) dX5_shift_46 ?_
        refine r_ireturn C rfl ?_ dX5_shift_48
        exact pX_of (a := vX σ) (by simp only [s_shift, c8, c17]; rw [sTold, if_pos (show (sWs (vX σ) u y (vX σ 5 u).toNat).2 = 0 from (by omega : (sWs (vX σ) u y (σ 10 u).toNat).2 = 0))]; rfl) e6
    · refine r_bipush C (by decide +kernel) dX5_shift_20 ?_
      refine r_ireturn C rfl ?_ dX5_shift_22
      exact pX_of (by simp [s_shift, *]) rfl
  · refine r_iconst C dX5_shift_11 ?_
    refine r_ireturn C rfl ?_ dX5_shift_12
    exact pX_of (by simp [s_shift, *]) rfl
