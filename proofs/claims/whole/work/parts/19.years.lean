set_option maxRecDepth 100000 in
theorem c_X5_best (l : Launch) (G : pw_G) (σ : pw_H) {t y h : Int} (hI : Inv (vX σ)) (q_t : InI t) (q_y : InI y) (q_h : InI h) : Ct l shX G mX5_best [.ref (G.2.1 0), vI t, vI y, vI h] σ (pX (s_best (vX σ) t y h)) := by
  have h0 : 0 ≤ σ 1 4 ∧ σ 1 4 ≤ 8 := hI.1
  have h5 : 0 ≤ σ 1 5 ∧ σ 1 5 ≤ 6 := hI.2.1
  have h1 : 0 ≤ σ 2 1 ∧ σ 2 1 ≤ 6 := hI.2.2.1
  refine Ct_of (ls := [some (.ref (G.2.1 0)), some (vI t), some (vI y), some (vI h)]) (by decide +kernel) (Nat.le_of_ble_eq_true rfl) rfl (fun X C => ?_)
  refine r_aload_n C rfl dX5_best_0 ?_
  refine r_getR C 4 1 rfl rfl (by decide) rfl uw_X5 fl_X5_19 dX5_best_1 ?_
  refine r_iload_n C rfl dX5_best_4 ?_
  refine r_callV (As := [_]) C (c_X2_has _ _ _ (by omega) hI) ok_X2_has ln_X5_98 rfl rfl rfl rfl (Nat.le_of_ble_eq_true rfl) (Nat.le_of_ble_eq_true rfl) (Nat.le_of_ble_eq_true rfl) dX5_best_5 (fun v5 τ5 hq5 => ?_)
  obtain ⟨rfl, rfl⟩ := hq5
  refine r_ifB_ne (tgt := 13) C (by decide) dX5_best_8 (fun c8 => ?_) (fun c8 => ?_)
  · have h8 : 0 ≤ t ∧ t ≤ σ 2 1 - 1 := bList_t c8
    obtain ⟨u, rfl⟩ := Int.eq_ofNat_of_zero_le h8.1
    refine r_iload_n C rfl dX5_best_13 ?_
    refine r_iload_n C rfl dX5_best_14 ?_
    refine r_callS (As := [_, _]) C (c_X5_isMoment _ _ _ (by omega) (by omega)) ok_X5_isMoment ln_X5_118 rfl rfl (Nat.le_of_ble_eq_true rfl) (Nat.le_of_ble_eq_true rfl) (Nat.le_of_ble_eq_true rfl) dX5_best_15 (fun v15 τ15 hq15 => ?_)
    obtain ⟨rfl, rfl⟩ := hq15
    refine r_ifB_ne (tgt := 24) C (by decide) dX5_best_18 (fun c18 => ?_) (fun c18 => ?_)
    · have h11 := bMom_t c18
      refine r_aload_n C rfl dX5_best_24 ?_
      refine r_getR C 4 2 rfl rfl (by decide) rfl uw_X5 fl_X5_28 dX5_best_25 ?_
      refine r_iload_n C rfl dX5_best_28 ?_
      refine r_iload_n C rfl dX5_best_29 ?_
      refine r_iload_n C rfl dX5_best_30 ?_
      refine r_callV (As := [_, _, _]) C (c_X1_find _ _ _ hI (by omega) h11.1 h11.2) ok_X1_find ln_X5_135 rfl rfl rfl rfl (Nat.le_of_ble_eq_true rfl) (Nat.le_of_ble_eq_true rfl) (Nat.le_of_ble_eq_true rfl) dX5_best_31 (fun v31 τ31 hq31 => ?_)
      obtain ⟨rfl, hF, e1, -, -⟩ := hq31
      have e2 : vX τ31 = vX σ := Fr_vX hF (by decide)
      refine r_aload_n C rfl dX5_best_34 ?_
      refine r_getR C 4 2 rfl rfl (by decide) rfl uw_X5 fl_X5_28 dX5_best_35 ?_
      refine r_getI (jz := 2) C 1 2 rfl rfl (by decide) rfl uw_X1 fl_X5_139 rfl dX5_best_38 ?_
      refine r_ireturn C rfl ?_ dX5_best_41
      exact pX_of (a := vX σ) (by rw [e1]; simp [s_best, c8, c18]; rfl) e2
    · refine r_bipush C (by decide +kernel) dX5_best_21 ?_
      refine r_ireturn C rfl ?_ dX5_best_23
      exact pX_of (by simp [s_best, *]) rfl
  · refine r_iconst C dX5_best_11 ?_
    refine r_ireturn C rfl ?_ dX5_best_12
    exact pX_of (by simp [s_best, *]) rfl
set_option maxRecDepth 100000 in
theorem c_X5_matched (l : Launch) (G : pw_G) (σ : pw_H) {t i y h : Int} (hI : Inv (vX σ)) (q_t : InI t) (q_i : InI i) (q_y : InI y) (q_h : InI h) : Ct l shX G mX5_matched [.ref (G.2.1 0), vI t, vI i, vI y, vI h] σ (pX (s_matched (vX σ) t i y h)) := by
  have h0 : 0 ≤ σ 1 4 ∧ σ 1 4 ≤ 8 := hI.1
  have h5 : 0 ≤ σ 1 5 ∧ σ 1 5 ≤ 6 := hI.2.1
  have h1 : 0 ≤ σ 2 1 ∧ σ 2 1 ≤ 6 := hI.2.2.1
  refine Ct_of (ls := [some (.ref (G.2.1 0)), some (vI t), some (vI i), some (vI y), some (vI h)]) (by decide +kernel) (Nat.le_of_ble_eq_true rfl) rfl (fun X C => ?_)
  refine r_aload_n C rfl dX5_matched_0 ?_
  refine r_getR C 4 1 rfl rfl (by decide) rfl uw_X5 fl_X5_19 dX5_matched_1 ?_
  refine r_iload_n C rfl dX5_matched_4 ?_
  refine r_iload_n C rfl dX5_matched_5 ?_
  refine r_callV (As := [_, _]) C (c_X2_hasLine _ _ _ (by omega) (by omega) hI) ok_X2_hasLine ln_X5_105 rfl rfl rfl rfl (Nat.le_of_ble_eq_true rfl) (Nat.le_of_ble_eq_true rfl) (Nat.le_of_ble_eq_true rfl) dX5_matched_6 (fun v6 τ6 hq6 => ?_)
  obtain ⟨rfl, rfl⟩ := hq6
  refine r_ifB_ne (tgt := 14) C (by decide) dX5_matched_9 (fun c9 => ?_) (fun c9 => ?_)
  · have h8 : (0 ≤ t ∧ t ≤ σ 2 1 - 1) ∧ 0 ≤ i ∧ i ≤ σ 10 t - 1 := bLine_t c9
    have h9 : 0 ≤ σ 10 t ∧ σ 10 t ≤ 8 := hI.2.2.2.2.2.2.2.1 t
    obtain ⟨u, rfl⟩ := Int.eq_ofNat_of_zero_le h8.1.1
    obtain ⟨j, rfl⟩ := Int.eq_ofNat_of_zero_le h8.2.1
    refine r_iload_n C rfl dX5_matched_14 ?_
    refine r_iload C rfl dX5_matched_15 ?_
    refine r_callS (As := [_, _]) C (c_X5_isMoment _ _ _ (by omega) (by omega)) ok_X5_isMoment ln_X5_118 rfl rfl (Nat.le_of_ble_eq_true rfl) (Nat.le_of_ble_eq_true rfl) (Nat.le_of_ble_eq_true rfl) dX5_matched_17 (fun v17 τ17 hq17 => ?_)
    obtain ⟨rfl, rfl⟩ := hq17
    refine r_ifB_ne (tgt := 26) C (by decide) dX5_matched_20 (fun c20 => ?_) (fun c20 => ?_)
    · have h11 := bMom_t c20
      refine r_aload_n C rfl dX5_matched_26 ?_
      refine r_getR C 4 2 rfl rfl (by decide) rfl uw_X5 fl_X5_28 dX5_matched_27 ?_
      refine r_iload_n C rfl dX5_matched_30 ?_
      refine r_iload_n C rfl dX5_matched_31 ?_
      refine r_iload C rfl dX5_matched_32 ?_
      refine r_callV (As := [_, _, _]) C (c_X1_find _ _ _ hI (by omega) h11.1 h11.2) ok_X1_find ln_X5_135 rfl rfl rfl rfl (Nat.le_of_ble_eq_true rfl) (Nat.le_of_ble_eq_true rfl) (Nat.le_of_ble_eq_true rfl) dX5_matched_34 (fun v34 τ34 hq34 => ?_)
      obtain ⟨rfl, hF, -, e1, -⟩ := hq34
      have e2 : vX τ34 = vX σ := Fr_vX hF (by decide)
      have e3 := e1 j (by omega)
      refine r_aload_n C rfl dX5_matched_37 ?_
      refine r_getR C 4 2 rfl rfl (by decide) rfl uw_X5 fl_X5_28 dX5_matched_38 ?_
      refine r_getR C 1 0 rfl rfl (by decide) rfl uw_X1 fl_X5_142 dX5_matched_41 ?_
      refine r_iload_n C rfl dX5_matched_44 ?_
      refine r_iaload C rfl (by decide) (by omega) dX5_matched_45 ?_
      refine r_ireturn C rfl ?_ dX5_matched_46
      exact pX_of (a := vX σ) (by rw [e3]; simp [s_matched, c9, c20]; rfl) e2
    · refine r_bipush C (by decide +kernel) dX5_matched_23 ?_
      refine r_ireturn C rfl ?_ dX5_matched_25
      exact pX_of (by simp [s_matched, *]) rfl
  · refine r_iconst C dX5_matched_12 ?_
    refine r_ireturn C rfl ?_ dX5_matched_13
    exact pX_of (by simp [s_matched, *]) rfl
set_option maxRecDepth 100000 in
theorem c_X5_yearsBetween (l : Launch) (G : pw_G) (σ : pw_H) {f t : Int} (hf : -3000 ≤ f ∧ f ≤ 3000) (ht : -3000 ≤ t ∧ t ≤ 3000) (h : f ≤ t) : Ct l shX G mX5_yearsBetween [vI f, vI t] σ (pv ((sYs f t : Int) + 1) σ) := by
  refine Ct_of (ls := [some (vI f), some (vI t)]) (by decide +kernel) (Nat.le_of_ble_eq_true rfl) rfl (fun X C => ?_)
  refine r_iload_n C rfl dX5_yearsBetween_0 ?_
  refine r_iload_n C rfl dX5_yearsBetween_1 ?_
  refine r_isub C dX5_yearsBetween_2 ?_
  refine r_bipush C (by decide +kernel) dX5_yearsBetween_3 ?_
  refine r_idiv C (by omega) (by omega) (by omega) dX5_yearsBetween_5 ?_
  refine r_iconst C dX5_yearsBetween_6 ?_
  refine r_iadd C dX5_yearsBetween_7 ?_
  refine r_ireturn C rfl ?_ dX5_yearsBetween_8
  refine pv_of ?_ rfl
  rw [Int.tdiv_eq_ediv_of_nonneg (by omega)]
  unfold sYs
  omega
theorem bYrs_t {h f t : Int} (e : bYrs h f t = true) : (-600 ≤ h ∧ h ≤ 600) ∧ (-3000 ≤ f ∧ f ≤ 3000) ∧ (-3000 ≤ t ∧ t ≤ 3000) ∧ f ≤ t ∧ (t - f) / 10 ≤ 40 := by
  simp only [bYrs, Bool.and_eq_true, decide_eq_true_eq] at e
  exact ⟨bIn_iff.mp e.1, bIn_iff.mp e.2.1, bIn_iff.mp e.2.2.1, e.2.2.2⟩
set_option maxRecDepth 100000 in
theorem c_X5_areYears (l : Launch) (G : pw_G) (σ : pw_H) {h f t : Int} (ih : InI h) (i_f : InI f) (it : InI t) : Ct l shX G mX5_areYears [vI h, vI f, vI t] σ (pb (bYrs h f t) σ) := by
  refine Ct_of (ls := [some (vI h), some (vI f), some (vI t)]) (by decide +kernel) (Nat.le_of_ble_eq_true rfl) rfl (fun X C => ?_)
  refine r_iload_n C rfl dX5_areYears_0 ?_
  refine r_callS (As := [_]) C (c_X5_isShift _ _ _ (by omega)) ok_X5_isShift ln_X5_193 rfl rfl (Nat.le_of_ble_eq_true rfl) (Nat.le_of_ble_eq_true rfl) (Nat.le_of_ble_eq_true rfl) dX5_areYears_1 (fun v1 τ1 hq1 => ?_)
  obtain ⟨rfl, rfl⟩ := hq1
  refine r_ifB_eq (tgt := 21) C (by decide) dX5_areYears_4 (fun c4 => ?_) (fun c4 => ?_)
  · refine r_iconst C dX5_areYears_21 ?_
    refine r_zreturn C rfl (by first | exact Or.inl rfl | exact Or.inr rfl) ?_ dX5_areYears_22
    refine pv_of ?_ rfl
    simp [bYrs, *, zB]
  · refine r_iload_n C rfl dX5_areYears_7 ?_
    refine r_callS (As := [_]) C (c_X5_isYear _ _ _ (by omega)) ok_X5_isYear ln_X5_65 rfl rfl (Nat.le_of_ble_eq_true rfl) (Nat.le_of_ble_eq_true rfl) (Nat.le_of_ble_eq_true rfl) dX5_areYears_8 (fun v8 τ8 hq8 => ?_)
    obtain ⟨rfl, rfl⟩ := hq8
    refine r_ifB_eq (tgt := 21) C (by decide) dX5_areYears_11 (fun c11 => ?_) (fun c11 => ?_)
    · refine r_iconst C dX5_areYears_21 ?_
      refine r_zreturn C rfl (by first | exact Or.inl rfl | exact Or.inr rfl) ?_ dX5_areYears_22
      refine pv_of ?_ rfl
      simp [bYrs, *, zB]
    · have q1 := bIn_iff.mp c11
      refine r_iload_n C rfl dX5_areYears_14 ?_
      refine r_callS (As := [_]) C (c_X5_isYear _ _ _ (by omega)) ok_X5_isYear ln_X5_65 rfl rfl (Nat.le_of_ble_eq_true rfl) (Nat.le_of_ble_eq_true rfl) (Nat.le_of_ble_eq_true rfl) dX5_areYears_15 (fun v15 τ15 hq15 => ?_)
      obtain ⟨rfl, rfl⟩ := hq15
      refine r_ifB_ne (tgt := 23) C (by decide) dX5_areYears_18 (fun c18 => ?_) (fun c18 => ?_)
      · have q2 := bIn_iff.mp c18
        refine r_iload_n C rfl dX5_areYears_23 ?_
        refine r_iload_n C rfl dX5_areYears_24 ?_
        refine r_icmp_lt (tgt := 42) C (by decide) (by omega) (by omega) dX5_areYears_25 (fun c25 => ?_) (fun c25 => ?_)
        · refine r_iconst C dX5_areYears_42 ?_
          refine r_zreturn C rfl (by first | exact Or.inl rfl | exact Or.inr rfl) ?_ dX5_areYears_43
          refine pv_of ?_ rfl
          first | exact (zB_t (by simp only [bYrs, *, Bool.true_and, decide_eq_true_eq]; unfold sYs at *; omega)).symm | exact (zB_f (by simp only [bYrs, *, Bool.true_and, decide_eq_false_iff_not]; unfold sYs at *; omega)).symm | exact (zB_f (by simp only [bYrs, *, Bool.true_and, decide_eq_false_iff_not]; omega)).symm
        · refine r_iload_n C rfl dX5_areYears_28 ?_
          refine r_iload_n C rfl dX5_areYears_29 ?_
          refine r_callS (As := [_, _]) C (c_X5_yearsBetween _ _ _ (by omega) (by omega) (by omega)) ok_X5_yearsBetween ln_X5_196 rfl rfl (Nat.le_of_ble_eq_true rfl) (Nat.le_of_ble_eq_true rfl) (Nat.le_of_ble_eq_true rfl) dX5_areYears_30 (fun v30 τ30 hq30 => ?_)
          obtain ⟨rfl, rfl⟩ := hq30
          refine r_bipush C (by decide +kernel) dX5_areYears_33 ?_
          refine r_icmp_gt (tgt := 42) C (by decide) (by unfold sYs; omega) (by omega) dX5_areYears_35 (fun c35 => ?_) (fun c35 => ?_)
          · refine r_iconst C dX5_areYears_42 ?_
            refine r_zreturn C rfl (by first | exact Or.inl rfl | exact Or.inr rfl) ?_ dX5_areYears_43
            refine pv_of ?_ rfl
            first | exact (zB_t (by simp only [bYrs, *, Bool.true_and, decide_eq_true_eq]; unfold sYs at *; omega)).symm | exact (zB_f (by simp only [bYrs, *, Bool.true_and, decide_eq_false_iff_not]; unfold sYs at *; omega)).symm | exact (zB_f (by simp only [bYrs, *, Bool.true_and, decide_eq_false_iff_not]; omega)).symm
          · refine r_iconst C dX5_areYears_38 ?_
            refine r_goto (tgt := 43) C (by decide) dX5_areYears_39 ?_
            refine r_zreturn C rfl (by first | exact Or.inl rfl | exact Or.inr rfl) ?_ dX5_areYears_43
            refine pv_of ?_ rfl
            first | exact (zB_t (by simp only [bYrs, *, Bool.true_and, decide_eq_true_eq]; unfold sYs at *; omega)).symm | exact (zB_f (by simp only [bYrs, *, Bool.true_and, decide_eq_false_iff_not]; unfold sYs at *; omega)).symm | exact (zB_f (by simp only [bYrs, *, Bool.true_and, decide_eq_false_iff_not]; omega)).symm
      · refine r_iconst C dX5_areYears_21 ?_
        refine r_zreturn C rfl (by first | exact Or.inl rfl | exact Or.inr rfl) ?_ dX5_areYears_22
        refine pv_of ?_ rfl
        simp [bYrs, *, zB]
set_option maxRecDepth 100000 in
theorem c_X5_weighYears (l : Launch) (G : pw_G) (σ : pw_H) {t : Nat} {h f e : Int} (hI : Inv (vX σ)) (ht : t < 6) (hy : bYrs h f e = true) : Ct l shX G mX5_weighYears [.ref (G.2.1 0), vI (t : Int), vI h, vI f, vI e] σ (fun r τ => r = some (vI ((sYs f e : Int) + 1)) ∧ Fr [3, 5, 13, 15, 16, 17, 18] σ τ ∧ ∀ i : Nat, i ≤ sYs f e → τ 5 i = sBest (vX σ) t (f + 10 * i) h) := by
  obtain ⟨y1, y2, y3, y4, y5⟩ := bYrs_t hy
  have hs : (sYs f e : Int) = (e - f) / 10 := by unfold sYs; omega
  have hz : zmin ((sYs f e : Int) + 1) 41 = (sYs f e : Int) + 1 := by unfold zmin; rw [if_neg (by omega)]
  refine Ct_of (ls := [some (.ref (G.2.1 0)), some (vI (t : Int)), some (vI h), some (vI f), some (vI e), none, none]) (by decide +kernel) (Nat.le_of_ble_eq_true rfl) rfl (fun X C => ?_)
  have loop : ∀ (k i : Nat) (υ : pw_H), i + k = sYs f e + 1 → Fr [3, 5, 13, 15, 16, 17, 18] σ υ → (∀ j : Nat, j < i → υ 5 j = sBest (vX σ) t (f + 10 * j) h) → PW X shX G 16 [some (.ref (G.2.1 0)), some (vI (t : Int)), some (vI h), some (vI f), some (vI e), some (vI ((sYs f e : Int) + 1)), some (vI (i : Int))] [] υ := by
    intro k
    induction k with
    | zero =>
      intro i υ hi hF hj
      refine r_iload C rfl dX5_weighYears_16 ?_
      refine r_iload C rfl dX5_weighYears_18 ?_
      refine r_icmp_ge (tgt := 59) C (by decide) (by omega) (by omega) dX5_weighYears_20 (fun c20 => ?_) (fun c20 => ?_)
      · refine r_iload C rfl dX5_weighYears_59 ?_
        refine r_ireturn C rfl ?_ dX5_weighYears_61
        exact ⟨rfl, hF, fun j j1 => hj j (by omega)⟩
      · omega
    | succ k ih =>
      intro i υ hi hF hj
      have e2 : vX υ = vX σ := Fr_vX hF (by decide)
      refine r_iload C rfl dX5_weighYears_16 ?_
      refine r_iload C rfl dX5_weighYears_18 ?_
      refine r_icmp_ge (tgt := 59) C (by decide) (by omega) (by omega) dX5_weighYears_20 (fun c20 => ?_) (fun c20 => ?_)
      · omega
      · refine r_aload_n C rfl dX5_weighYears_23 ?_
        refine r_getR C 4 2 rfl rfl (by decide) rfl uw_X5 fl_X5_28 dX5_weighYears_24 ?_
        refine r_iload_n C rfl dX5_weighYears_27 ?_
        refine r_iload_n C rfl dX5_weighYears_28 ?_
        refine r_bipush C (by decide +kernel) dX5_weighYears_29 ?_
        refine r_iload C rfl dX5_weighYears_31 ?_
        refine r_imul C dX5_weighYears_33 ?_
        refine r_iadd C dX5_weighYears_34 ?_
        refine r_iload_n C rfl dX5_weighYears_35 ?_
        refine r_callV (As := [_, _, _]) C (c_X1_find _ _ _ (e2 ▸ hI) ht (by omega) y1) ok_X1_find ln_X5_135 rfl rfl rfl rfl (Nat.le_of_ble_eq_true rfl) (Nat.le_of_ble_eq_true rfl) (Nat.le_of_ble_eq_true rfl) dX5_weighYears_36 (fun v36 τ36 hq36 => ?_)
        obtain ⟨rfl, hF2, e3, -, -⟩ := hq36
        rw [e2] at e3
        refine r_aload_n C rfl dX5_weighYears_39 ?_
        refine r_getR C 4 4 rfl rfl (by decide) rfl uw_X5 fl_X5_41 dX5_weighYears_40 ?_
        refine r_iload C rfl dX5_weighYears_43 ?_
        refine r_aload_n C rfl dX5_weighYears_45 ?_
        refine r_getR C 4 2 rfl rfl (by decide) rfl uw_X5 fl_X5_28 dX5_weighYears_46 ?_
        refine r_getI (jz := 2) C 1 2 rfl rfl (by decide) rfl uw_X1 fl_X5_139 rfl dX5_weighYears_49 ?_
        refine r_iastore C rfl (by decide) (by omega) dX5_weighYears_52 ?_
        refine r_iinc (ls' := [_, _, _, _, _, _, _]) C rfl (by decide) rfl rfl dX5_weighYears_53 ?_
        refine r_goto (tgt := 16) C (by decide) dX5_weighYears_56 ?_
        refine ih (i + 1) _ (by omega) ((hF.tr hF2 (fun _ q => q) (by decide)).tr (Fr.u (by decide)) (fun _ q => q) (fun _ q => q)) (fun j j1 => ?_)
        by_cases q : j = i
        · subst q
          rw [pw_u_s, e3, show υ 1 4 = σ 1 4 from congrFun (hF 1 (by decide)) 4, show υ 10 (t : Int) = σ 10 t from congrFun (hF 10 (by decide)) _]
          rfl
        · rw [pw_u_j (by omega), hF2 5 (by decide)]
          exact hj j (by omega)
  refine r_iload_n C rfl dX5_weighYears_0 ?_
  refine r_iload C rfl dX5_weighYears_1 ?_
  refine r_callS (As := [_, _]) C (c_X5_yearsBetween _ _ _ (by omega) (by omega) (by omega)) ok_X5_yearsBetween ln_X5_196 rfl rfl (Nat.le_of_ble_eq_true rfl) (Nat.le_of_ble_eq_true rfl) (Nat.le_of_ble_eq_true rfl) dX5_weighYears_3 (fun v3 τ3 hq3 => ?_)
  obtain ⟨rfl, rfl⟩ := hq3
  refine r_bipush C (by decide +kernel) dX5_weighYears_6 ?_
  refine r_mmin C (by omega) (by omega) ln_X5_151 st_min in_Math co_min (Nat.le_of_ble_eq_true rfl) (Nat.le_of_ble_eq_true rfl) dX5_weighYears_8 ?_
  rw [hz]
  refine r_istore (ls' := [_, _, _, _, _, _, _]) C (by decide) rfl rfl dX5_weighYears_11 ?_
  refine r_iconst C dX5_weighYears_13 ?_
  refine r_istore (ls' := [_, _, _, _, _, _, _]) C (by decide) rfl rfl dX5_weighYears_14 ?_
  exact loop (sYs f e + 1) 0 σ (by omega) Fr.rf (fun j j1 => by omega)
theorem sB_800 {C : Int → Int → Int} {N n : Nat} (hC : ∀ i s, 0 ≤ C i s) (hn : n ≤ 8) (G : Nat) : 0 ≤ sB C N n n G ∧ sB C N n n G ≤ 800 := by
  have := sB_rng (N := N) (n := n) hC n G
  omega
theorem sBest_r {a : pw_H} (hI : Inv a) (l y h : Int) : 0 ≤ sBest a l y h ∧ sBest a l y h ≤ 800 := by
  have := hI.2.2.2.2.2.2.2.1 l
  exact sB_800 sC_0 (by omega) 0
theorem sDt_r {a : pw_H} (hI : Inv a) (l h f : Int) : ∀ k, (0 ≤ (sDt a l h f k).2 ∧ (sDt a l h f k).2 ≤ 800) ∧ (sDt a l h f k).2 = sBest a l (sDt a l h f k).1 h ∧ f ≤ (sDt a l h f k).1 ∧ (sDt a l h f k).1 ≤ f + 10 * k
  | 0 => ⟨sBest_r hI _ _ _, rfl, Int.le_refl f, by simp [sDt]⟩
  | k + 1 => by
    have h1 := sDt_r hI l h f k
    simp only [sDt]
    split
    · exact ⟨sBest_r hI _ _ _, rfl, by simp only []; omega, Int.le_refl _⟩
    · exact ⟨h1.1, h1.2.1, h1.2.2.1, by omega⟩
set_option maxRecDepth 100000 in
theorem c_X5_dated (l : Launch) (G : pw_G) (σ : pw_H) {t h f e : Int} (hI : Inv (vX σ)) (q_t : InI t) (q_h : InI h) (q_f : InI f) (q_e : InI e) : Ct l shX G mX5_dated [.ref (G.2.1 0), vI t, vI h, vI f, vI e] σ (pX (s_dated (vX σ) t h f e)) := by
  have h0 : 0 ≤ σ 1 4 ∧ σ 1 4 ≤ 8 := hI.1
  have h5 : 0 ≤ σ 1 5 ∧ σ 1 5 ≤ 6 := hI.2.1
  have h1 : 0 ≤ σ 2 1 ∧ σ 2 1 ≤ 6 := hI.2.2.1
  refine Ct_of (ls := [some (.ref (G.2.1 0)), some (vI t), some (vI h), some (vI f), some (vI e), none, none, none]) (by decide +kernel) (Nat.le_of_ble_eq_true rfl) rfl (fun X C => ?_)
  have loop : ∀ (k i g u : Nat) (υ : pw_H), t = u → bList (vX σ) t = true → bYrs h f e = true → i + k = sYs f e + 1 → 1 ≤ i → vX υ = vX σ → (∀ j : Nat, j ≤ sYs f e → υ 5 j = sBest (vX σ) t (f + 10 * j) h) → g < i → (sDt (vX σ) t h f (i - 1)).1 = f + 10 * g → PW X shX G 43 [some (.ref (G.2.1 0)), some (vI t), some (vI h), some (vI f), some (vI e), some (vI ((sYs f e : Int) + 1)), some (vI (g : Int)), some (vI (i : Int))] [] υ := by
    intro k
    induction k with
    | zero =>
      intro i g u υ eu c8 c20 hi i1 e2 hj hg hd
      obtain ⟨y1, y2, y3, y4, y5⟩ := bYrs_t c20
      have hs : (sYs f e : Int) = (e - f) / 10 := by unfold sYs; omega
      refine r_iload C rfl dX5_dated_43 ?_
      refine r_iload C rfl dX5_dated_45 ?_
      refine r_icmp_ge (tgt := 77) C (by decide) (by omega) (by omega) dX5_dated_47 (fun c47 => ?_) (fun c47 => ?_)
      · refine r_iload_n C rfl dX5_dated_77 ?_
        refine r_bipush C (by decide +kernel) dX5_dated_78 ?_
        refine r_iload C rfl dX5_dated_80 ?_
        refine r_imul C dX5_dated_82 ?_
        refine r_iadd C dX5_dated_83 ?_
        refine r_sipush C (by decide +kernel) dX5_dated_84 ?_
        refine r_iadd C dX5_dated_87 ?_
        refine r_ireturn C rfl ?_ dX5_dated_88
        rw [show i - 1 = sYs f e by omega] at hd
        exact pX_of (a := vX σ) (by simp [s_dated, c8, c20, hd]) e2
      · omega
    | succ k ih =>
      intro i g u υ eu c8 c20 hi i1 e2 hj hg hd
      obtain ⟨y1, y2, y3, y4, y5⟩ := bYrs_t c20
      have hs : (sYs f e : Int) = (e - f) / 10 := by unfold sYs; omega
      have r1 := hj i (by omega)
      have r2 := hj g (by omega)
      have r3 := sBest_r hI t (f + 10 * i) h
      have r4 := sBest_r hI t (f + 10 * g) h
      have r5 := (sDt_r hI t h f (i - 1)).2.1
      rw [hd] at r5
      have ei : i = (i - 1) + 1 := by omega
      have ec : ((i - 1 + 1 : Nat) : Int) = (i : Int) := by omega
      refine r_iload C rfl dX5_dated_43 ?_
      refine r_iload C rfl dX5_dated_45 ?_
      refine r_icmp_ge (tgt := 77) C (by decide) (by omega) (by omega) dX5_dated_47 (fun c47 => ?_) (fun c47 => ?_)
      · omega
      · refine r_aload_n C rfl dX5_dated_50 ?_
        refine r_getR C 4 4 rfl rfl (by decide) rfl uw_X5 fl_X5_41 dX5_dated_51 ?_
        refine r_iload C rfl dX5_dated_54 ?_
        refine r_iaload C rfl (by decide) (by omega) dX5_dated_56 ?_
        refine r_aload_n C rfl dX5_dated_57 ?_
        refine r_getR C 4 4 rfl rfl (by decide) rfl uw_X5 fl_X5_41 dX5_dated_58 ?_
        refine r_iload C rfl dX5_dated_61 ?_
        refine r_iaload C rfl (by decide) (by omega) dX5_dated_63 ?_
        rw [r1, r2]
        refine r_icmp_ge (tgt := 71) C (by decide) (by omega) (by omega) dX5_dated_64 (fun c64 => ?_) (fun c64 => ?_)
        · refine r_iinc (ls' := [_, _, _, _, _, _, _, _]) C rfl (by decide) rfl rfl dX5_dated_71 ?_
          refine r_goto (tgt := 43) C (by decide) dX5_dated_74 ?_
          refine ih (i + 1) g u υ eu c8 c20 (by omega) (by omega) e2 hj (by omega) ?_
          rw [show i + 1 - 1 = (i - 1) + 1 by omega]
          simp only [sDt]
          rw [ec, if_neg (by omega)]
          exact hd
        · refine r_iload C rfl dX5_dated_67 ?_
          refine r_istore (ls' := [_, _, _, _, _, _, _, _]) C (by decide) rfl rfl dX5_dated_69 ?_
          refine r_iinc (ls' := [_, _, _, _, _, _, _, _]) C rfl (by decide) rfl rfl dX5_dated_71 ?_
          refine r_goto (tgt := 43) C (by decide) dX5_dated_74 ?_
          refine ih (i + 1) i u υ eu c8 c20 (by omega) (by omega) e2 hj (by omega) ?_
          rw [show i + 1 - 1 = (i - 1) + 1 by omega]
          simp only [sDt]
          rw [ec, if_pos (by omega)]
  refine r_aload_n C rfl dX5_dated_0 ?_
  refine r_getR C 4 1 rfl rfl (by decide) rfl uw_X5 fl_X5_19 dX5_dated_1 ?_
  refine r_iload_n C rfl dX5_dated_4 ?_
  refine r_callV (As := [_]) C (c_X2_has _ _ _ (by omega) hI) ok_X2_has ln_X5_98 rfl rfl rfl rfl (Nat.le_of_ble_eq_true rfl) (Nat.le_of_ble_eq_true rfl) (Nat.le_of_ble_eq_true rfl) dX5_dated_5 (fun v5 τ5 hq5 => ?_)
  obtain ⟨rfl, rfl⟩ := hq5
  refine r_ifB_ne (tgt := 13) C (by decide) dX5_dated_8 (fun c8 => ?_) (fun c8 => ?_)
  · have h8 : 0 ≤ t ∧ t ≤ σ 2 1 - 1 := bList_t c8
    obtain ⟨u, rfl⟩ := Int.eq_ofNat_of_zero_le h8.1
    refine r_iload_n C rfl dX5_dated_13 ?_
    refine r_iload_n C rfl dX5_dated_14 ?_
    refine r_iload C rfl dX5_dated_15 ?_
    refine r_callS (As := [_, _, _]) C (c_X5_areYears _ _ _ (by omega) (by omega) (by omega)) ok_X5_areYears ln_X5_145 rfl rfl (Nat.le_of_ble_eq_true rfl) (Nat.le_of_ble_eq_true rfl) (Nat.le_of_ble_eq_true rfl) dX5_dated_17 (fun v17 τ17 hq17 => ?_)
    obtain ⟨rfl, rfl⟩ := hq17
    refine r_ifB_ne (tgt := 26) C (by decide) dX5_dated_20 (fun c20 => ?_) (fun c20 => ?_)
    · refine r_aload_n C rfl dX5_dated_26 ?_
      refine r_iload_n C rfl dX5_dated_27 ?_
      refine r_iload_n C rfl dX5_dated_28 ?_
      refine r_iload_n C rfl dX5_dated_29 ?_
      refine r_iload C rfl dX5_dated_30 ?_
      refine r_callV (As := [_, _, _, _]) C (c_X5_weighYears _ _ _ hI (by omega) c20) ok_X5_weighYears ln_X5_148 rfl rfl rfl rfl (Nat.le_of_ble_eq_true rfl) (Nat.le_of_ble_eq_true rfl) (Nat.le_of_ble_eq_true rfl) dX5_dated_32 (fun v32 τ32 hq32 => ?_)
      obtain ⟨rfl, hF, hj⟩ := hq32
      have e2 : vX τ32 = vX σ := Fr_vX hF (by decide)
      refine r_istore (ls' := [_, _, _, _, _, _, _, _]) C (by decide) rfl rfl dX5_dated_35 ?_
      refine r_iconst C dX5_dated_37 ?_
      refine r_istore (ls' := [_, _, _, _, _, _, _, _]) C (by decide) rfl rfl dX5_dated_38 ?_
      refine r_iconst C dX5_dated_40 ?_
      refine r_istore (ls' := [_, _, _, _, _, _, _, _]) C (by decide) rfl rfl dX5_dated_41 ?_
      refine loop (sYs f e) 1 0 u _ rfl c8 c20 (by omega) (by omega) e2 hj (by omega) ?_
      simp [sDt]
    · refine r_bipush C (by decide +kernel) dX5_dated_23 ?_
      refine r_ireturn C rfl ?_ dX5_dated_25
      exact pX_of (by simp [s_dated, *]) rfl
  · refine r_iconst C dX5_dated_11 ?_
    refine r_ireturn C rfl ?_ dX5_dated_12
    exact pX_of (by simp [s_dated, *]) rfl
set_option maxRecDepth 100000 in
theorem c_X5_doubt (l : Launch) (G : pw_G) (σ : pw_H) {t h f e k : Int} (hI : Inv (vX σ)) (q_t : InI t) (q_h : InI h) (q_f : InI f) (q_e : InI e) (q_k : InI k) : Ct l shX G mX5_doubt [.ref (G.2.1 0), vI t, vI h, vI f, vI e, vI k] σ (pX (s_doubt (vX σ) t h f e k)) := by
  have h0 : 0 ≤ σ 1 4 ∧ σ 1 4 ≤ 8 := hI.1
  have h5 : 0 ≤ σ 1 5 ∧ σ 1 5 ≤ 6 := hI.2.1
  have h1 : 0 ≤ σ 2 1 ∧ σ 2 1 ≤ 6 := hI.2.2.1
  refine Ct_of (ls := [some (.ref (G.2.1 0)), some (vI t), some (vI h), some (vI f), some (vI e), some (vI k), none, none, none, none]) (by decide +kernel) (Nat.le_of_ble_eq_true rfl) rfl (fun X C => ?_)
  have loop2 : ∀ (n i : Nat) (υ : pw_H), bList (vX σ) t = true → bYrs h f e = true → bIn k 0 800 = true → i + n = sYs f e + 1 → vX υ = vX σ → (∀ j : Nat, j ≤ sYs f e → υ 5 j = sBest (vX σ) t (f + 10 * j) h) → PW X shX G 93 [some (.ref (G.2.1 0)), some (vI t), some (vI h), some (vI f), some (vI e), some (vI k), some (vI ((sYs f e : Int) + 1)), some (vI (sDt (vX σ) t h f (sYs f e)).2), some (vI (sSum (fun i => zB (decide (sBest (vX σ) t (f + 10 * i) h ≤ (sDt (vX σ) t h f (sYs f e)).2 + k))) i)), some (vI (i : Int))] [] υ := by
    intro n
    induction n with
    | zero =>
      intro i υ c8 c20 c32 hi e2 hj
      obtain ⟨y1, y2, y3, y4, y5⟩ := bYrs_t c20
      have hs : (sYs f e : Int) = (e - f) / 10 := by unfold sYs; omega
      refine r_iload C rfl dX5_doubt_93 ?_
      refine r_iload C rfl dX5_doubt_95 ?_
      refine r_icmp_ge (tgt := 124) C (by decide) (by omega) (by omega) dX5_doubt_97 (fun c97 => ?_) (fun c97 => ?_)
      · refine r_iload C rfl dX5_doubt_124 ?_
        refine r_ireturn C rfl ?_ dX5_doubt_126
        rw [show i = sYs f e + 1 by omega]
        exact pX_of (a := vX σ) (by simp [s_doubt, c8, c20, c32]) e2
      · omega
    | succ n ih =>
      intro i υ c8 c20 c32 hi e2 hj
      obtain ⟨y1, y2, y3, y4, y5⟩ := bYrs_t c20
      have hs : (sYs f e : Int) = (e - f) / 10 := by unfold sYs; omega
      have r1 := hj i (by omega)
      have r3 := sBest_r hI t (f + 10 * i) h
      have r5 := (sDt_r hI t h f (sYs f e)).1
      have r6 := bIn_iff.mp c32
      have es : sSum (fun i => zB (decide (sBest (vX σ) t (f + 10 * i) h ≤ (sDt (vX σ) t h f (sYs f e)).2 + k))) (i + 1) = sSum (fun i => zB (decide (sBest (vX σ) t (f + 10 * i) h ≤ (sDt (vX σ) t h f (sYs f e)).2 + k))) i + zB (decide (sBest (vX σ) t (f + 10 * i) h ≤ (sDt (vX σ) t h f (sYs f e)).2 + k)) := rfl
      refine r_iload C rfl dX5_doubt_93 ?_
      refine r_iload C rfl dX5_doubt_95 ?_
      refine r_icmp_ge (tgt := 124) C (by decide) (by omega) (by omega) dX5_doubt_97 (fun c97 => ?_) (fun c97 => ?_)
      · omega
      · refine r_aload_n C rfl dX5_doubt_100 ?_
        refine r_getR C 4 4 rfl rfl (by decide) rfl uw_X5 fl_X5_41 dX5_doubt_101 ?_
        refine r_iload C rfl dX5_doubt_104 ?_
        refine r_iaload C rfl (by decide) (by omega) dX5_doubt_106 ?_
        refine r_iload C rfl dX5_doubt_107 ?_
        refine r_iload C rfl dX5_doubt_109 ?_
        refine r_iadd C dX5_doubt_111 ?_
        rw [r1]
        refine r_icmp_gt (tgt := 118) C (by decide) (by omega) (by omega) dX5_doubt_112 (fun c112 => ?_) (fun c112 => ?_)
        · refine r_iinc (ls' := [_, _, _, _, _, _, _, _, _, _]) C rfl (by decide) rfl rfl dX5_doubt_118 ?_
          refine r_goto (tgt := 93) C (by decide) dX5_doubt_121 ?_
          refine PW_ls (ih (i + 1) υ c8 c20 c32 (by omega) e2 hj) ?_
          rw [es]
          first | rw [zB_t (by rw [decide_eq_true_eq]; omega)]; rfl | rw [zB_f (by rw [decide_eq_false_iff_not]; omega), Int.add_zero]; rfl
        · refine r_iinc (ls' := [_, _, _, _, _, _, _, _, _, _]) C rfl (by decide) rfl rfl dX5_doubt_115 ?_
          refine r_iinc (ls' := [_, _, _, _, _, _, _, _, _, _]) C rfl (by decide) rfl rfl dX5_doubt_118 ?_
          refine r_goto (tgt := 93) C (by decide) dX5_doubt_121 ?_
          refine PW_ls (ih (i + 1) υ c8 c20 c32 (by omega) e2 hj) ?_
          rw [es]
          first | rw [zB_t (by rw [decide_eq_true_eq]; omega)]; rfl | rw [zB_f (by rw [decide_eq_false_iff_not]; omega), Int.add_zero]; rfl
  have loop : ∀ (n i : Nat) (υ : pw_H), bList (vX σ) t = true → bYrs h f e = true → bIn k 0 800 = true → i + n = sYs f e + 1 → 1 ≤ i → vX υ = vX σ → (∀ j : Nat, j ≤ sYs f e → υ 5 j = sBest (vX σ) t (f + 10 * j) h) → PW X shX G 60 [some (.ref (G.2.1 0)), some (vI t), some (vI h), some (vI f), some (vI e), some (vI k), some (vI ((sYs f e : Int) + 1)), some (vI (sDt (vX σ) t h f (i - 1)).2), some (vI (i : Int)), none] [] υ := by
    intro n
    induction n with
    | zero =>
      intro i υ c8 c20 c32 hi i1 e2 hj
      obtain ⟨y1, y2, y3, y4, y5⟩ := bYrs_t c20
      have hs : (sYs f e : Int) = (e - f) / 10 := by unfold sYs; omega
      refine r_iload C rfl dX5_doubt_60 ?_
      refine r_iload C rfl dX5_doubt_62 ?_
      refine r_icmp_ge (tgt := 87) C (by decide) (by omega) (by omega) dX5_doubt_64 (fun c64 => ?_) (fun c64 => ?_)
      · refine r_iconst C dX5_doubt_87 ?_
        refine r_istore (ls' := [_, _, _, _, _, _, _, _, _, _]) C (by decide) rfl rfl dX5_doubt_88 ?_
        refine r_iconst C dX5_doubt_90 ?_
        refine r_istore (ls' := [_, _, _, _, _, _, _, _, _, _]) C (by decide) rfl rfl dX5_doubt_91 ?_
        rw [show i - 1 = sYs f e by omega]
        exact loop2 (sYs f e + 1) 0 υ c8 c20 c32 (by omega) e2 hj
      · omega
    | succ n ih =>
      intro i υ c8 c20 c32 hi i1 e2 hj
      obtain ⟨y1, y2, y3, y4, y5⟩ := bYrs_t c20
      have hs : (sYs f e : Int) = (e - f) / 10 := by unfold sYs; omega
      have r1 := hj i (by omega)
      have r3 := sBest_r hI t (f + 10 * i) h
      have r5 := (sDt_r hI t h f (i - 1)).1
      have ec : ((i - 1 + 1 : Nat) : Int) = (i : Int) := by omega
      have em : (sDt (vX σ) t h f (i + 1 - 1)).2 = zmin (sDt (vX σ) t h f (i - 1)).2 (sBest (vX σ) t (f + 10 * i) h) := by
        rw [show i + 1 - 1 = (i - 1) + 1 by omega]
        simp only [sDt, zmin]
        rw [ec]
        split <;> rfl
      refine r_iload C rfl dX5_doubt_60 ?_
      refine r_iload C rfl dX5_doubt_62 ?_
      refine r_icmp_ge (tgt := 87) C (by decide) (by omega) (by omega) dX5_doubt_64 (fun c64 => ?_) (fun c64 => ?_)
      · omega
      · refine r_iload C rfl dX5_doubt_67 ?_
        refine r_aload_n C rfl dX5_doubt_69 ?_
        refine r_getR C 4 4 rfl rfl (by decide) rfl uw_X5 fl_X5_41 dX5_doubt_70 ?_
        refine r_iload C rfl dX5_doubt_73 ?_
        refine r_iaload C rfl (by decide) (by omega) dX5_doubt_75 ?_
        rw [r1]
        refine r_mmin C (by omega) (by omega) ln_X5_151 st_min in_Math co_min (Nat.le_of_ble_eq_true rfl) (Nat.le_of_ble_eq_true rfl) dX5_doubt_76 ?_
        refine r_istore (ls' := [_, _, _, _, _, _, _, _, _, _]) C (by decide) rfl rfl dX5_doubt_79 ?_
        refine r_iinc (ls' := [_, _, _, _, _, _, _, _, _, _]) C rfl (by decide) rfl rfl dX5_doubt_81 ?_
        refine r_goto (tgt := 60) C (by decide) dX5_doubt_84 ?_
        refine PW_ls (ih (i + 1) υ c8 c20 c32 (by omega) (by omega) e2 hj) ?_
        rw [em]
        rfl
  refine r_aload_n C rfl dX5_doubt_0 ?_
  refine r_getR C 4 1 rfl rfl (by decide) rfl uw_X5 fl_X5_19 dX5_doubt_1 ?_
  refine r_iload_n C rfl dX5_doubt_4 ?_
  refine r_callV (As := [_]) C (c_X2_has _ _ _ (by omega) hI) ok_X2_has ln_X5_98 rfl rfl rfl rfl (Nat.le_of_ble_eq_true rfl) (Nat.le_of_ble_eq_true rfl) (Nat.le_of_ble_eq_true rfl) dX5_doubt_5 (fun v5 τ5 hq5 => ?_)
  obtain ⟨rfl, rfl⟩ := hq5
  refine r_ifB_ne (tgt := 13) C (by decide) dX5_doubt_8 (fun c8 => ?_) (fun c8 => ?_)
  · have h8 : 0 ≤ t ∧ t ≤ σ 2 1 - 1 := bList_t c8
    obtain ⟨u, rfl⟩ := Int.eq_ofNat_of_zero_le h8.1
    refine r_iload_n C rfl dX5_doubt_13 ?_
    refine r_iload_n C rfl dX5_doubt_14 ?_
    refine r_iload C rfl dX5_doubt_15 ?_
    refine r_callS (As := [_, _, _]) C (c_X5_areYears _ _ _ (by omega) (by omega) (by omega)) ok_X5_areYears ln_X5_145 rfl rfl (Nat.le_of_ble_eq_true rfl) (Nat.le_of_ble_eq_true rfl) (Nat.le_of_ble_eq_true rfl) dX5_doubt_17 (fun v17 τ17 hq17 => ?_)
    obtain ⟨rfl, rfl⟩ := hq17
    refine r_ifB_eq (tgt := 35) C (by decide) dX5_doubt_20 (fun c20 => ?_) (fun c20 => ?_)
    · refine r_bipush C (by decide +kernel) dX5_doubt_35 ?_
      refine r_ireturn C rfl ?_ dX5_doubt_37
      exact pX_of (by simp [s_doubt, *]) rfl
    · refine r_iload C rfl dX5_doubt_23 ?_
      refine r_iconst C dX5_doubt_25 ?_
      refine r_sipush C (by decide +kernel) dX5_doubt_26 ?_
      refine r_callS (As := [_, _, _]) C (c_X5_isWithin _ _ _ (by omega) (by omega) (by omega)) ok_X5_isWithin ln_X5_49 rfl rfl (Nat.le_of_ble_eq_true rfl) (Nat.le_of_ble_eq_true rfl) (Nat.le_of_ble_eq_true rfl) dX5_doubt_29 (fun v29 τ29 hq29 => ?_)
      obtain ⟨rfl, rfl⟩ := hq29
      refine r_ifB_ne (tgt := 38) C (by decide) dX5_doubt_32 (fun c32 => ?_) (fun c32 => ?_)
      · refine r_aload_n C rfl dX5_doubt_38 ?_
        refine r_iload_n C rfl dX5_doubt_39 ?_
        refine r_iload_n C rfl dX5_doubt_40 ?_
        refine r_iload_n C rfl dX5_doubt_41 ?_
        refine r_iload C rfl dX5_doubt_42 ?_
        refine r_callV (As := [_, _, _, _]) C (c_X5_weighYears _ _ _ hI (by omega) c20) ok_X5_weighYears ln_X5_148 rfl rfl rfl rfl (Nat.le_of_ble_eq_true rfl) (Nat.le_of_ble_eq_true rfl) (Nat.le_of_ble_eq_true rfl) dX5_doubt_44 (fun v44 τ44 hq44 => ?_)
        obtain ⟨rfl, hF, hj⟩ := hq44
        have e2 : vX τ44 = vX σ := Fr_vX hF (by decide)
        have hj0 := hj 0 (Nat.zero_le _)
        refine r_istore (ls' := [_, _, _, _, _, _, _, _, _, _]) C (by decide) rfl rfl dX5_doubt_47 ?_
        refine r_aload_n C rfl dX5_doubt_49 ?_
        refine r_getR C 4 4 rfl rfl (by decide) rfl uw_X5 fl_X5_41 dX5_doubt_50 ?_
        refine r_iconst C dX5_doubt_53 ?_
        refine r_iaload C rfl (by decide) (by omega) dX5_doubt_54 ?_
        refine r_istore (ls' := [_, _, _, _, _, _, _, _, _, _]) C (by decide) rfl rfl dX5_doubt_55 ?_
        refine r_iconst C dX5_doubt_57 ?_
        refine r_istore (ls' := [_, _, _, _, _, _, _, _, _, _]) C (by decide) rfl rfl dX5_doubt_58 ?_
        refine PW_ls (loop (sYs f e) 1 _ c8 c20 c32 (by omega) (by omega) e2 hj) ?_
        have e5 : (sDt (vX σ) u h f (1 - 1)).2 = sBest (vX σ) u (f + 10 * (0 : Nat)) h := by simp [sDt]
        rw [e5, ← hj0]
        rfl
      · refine r_bipush C (by decide +kernel) dX5_doubt_35 ?_
        refine r_ireturn C rfl ?_ dX5_doubt_37
        exact pX_of (by simp [s_doubt, *]) rfl
  · refine r_iconst C dX5_doubt_11 ?_
    refine r_ireturn C rfl ?_ dX5_doubt_12
    exact pX_of (by simp [s_doubt, *]) rfl
