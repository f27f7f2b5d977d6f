set_option maxRecDepth 100000 in
theorem c_X6_areYears (l : Launch) (G : pw_G) (σ : pw_H) {f t : Int} (i_f : InI f) (it : InI t) : Ct l shM G mX6_areYears [vI f, vI t] σ (pb (bIn f (-3000) 3000 && (bIn t (-3000) 3000 && decide (f ≤ t ∧ (t - f) / 10 ≤ 40))) σ) := by
  refine Ct_of (ls := [some (vI f), some (vI t)]) (by decide +kernel) (Nat.le_of_ble_eq_true rfl) rfl (fun X C => ?_)
  refine r_iload_n C rfl dX6_areYears_0 ?_
  refine r_callS (As := [_]) C (c_X6_isYear _ _ _ (by omega)) ok_X6_isYear ln_X6_90 rfl rfl (Nat.le_of_ble_eq_true rfl) (Nat.le_of_ble_eq_true rfl) (Nat.le_of_ble_eq_true rfl) dX6_areYears_1 (fun v1 τ1 hq1 => ?_)
  obtain ⟨rfl, rfl⟩ := hq1
  refine r_ifB_eq (tgt := 34) C (by decide) dX6_areYears_4 (fun c4 => ?_) (fun c4 => ?_)
  · refine r_iconst C dX6_areYears_34 ?_
    refine r_zreturn C rfl (by first | exact Or.inl rfl | exact Or.inr rfl) ?_ dX6_areYears_35
    refine pv_of ?_ rfl
    first | exact (zB_t (by simp only [*, Bool.true_and, decide_eq_true_eq]; omega)).symm | exact (zB_f (by simp only [*, Bool.true_and, decide_eq_false_iff_not]; omega)).symm | exact (zB_f (by simp [*])).symm
  · have q1 := bIn_iff.mp c4
    refine r_iload_n C rfl dX6_areYears_7 ?_
    refine r_callS (As := [_]) C (c_X6_isYear _ _ _ (by omega)) ok_X6_isYear ln_X6_90 rfl rfl (Nat.le_of_ble_eq_true rfl) (Nat.le_of_ble_eq_true rfl) (Nat.le_of_ble_eq_true rfl) dX6_areYears_8 (fun v8 τ8 hq8 => ?_)
    obtain ⟨rfl, rfl⟩ := hq8
    refine r_ifB_eq (tgt := 34) C (by decide) dX6_areYears_11 (fun c11 => ?_) (fun c11 => ?_)
    · refine r_iconst C dX6_areYears_34 ?_
      refine r_zreturn C rfl (by first | exact Or.inl rfl | exact Or.inr rfl) ?_ dX6_areYears_35
      refine pv_of ?_ rfl
      first | exact (zB_t (by simp only [*, Bool.true_and, decide_eq_true_eq]; omega)).symm | exact (zB_f (by simp only [*, Bool.true_and, decide_eq_false_iff_not]; omega)).symm | exact (zB_f (by simp [*])).symm
    · have q2 := bIn_iff.mp c11
      refine r_iload_n C rfl dX6_areYears_14 ?_
      refine r_iload_n C rfl dX6_areYears_15 ?_
      refine r_icmp_lt (tgt := 34) C (by decide) (by omega) (by omega) dX6_areYears_16 (fun c16 => ?_) (fun c16 => ?_)
      · refine r_iconst C dX6_areYears_34 ?_
        refine r_zreturn C rfl (by first | exact Or.inl rfl | exact Or.inr rfl) ?_ dX6_areYears_35
        refine pv_of ?_ rfl
        first | exact (zB_t (by simp only [*, Bool.true_and, decide_eq_true_eq]; omega)).symm | exact (zB_f (by simp only [*, Bool.true_and, decide_eq_false_iff_not]; omega)).symm | exact (zB_f (by simp [*])).symm
      · refine r_iload_n C rfl dX6_areYears_19 ?_
        refine r_iload_n C rfl dX6_areYears_20 ?_
        refine r_isub C dX6_areYears_21 ?_
        refine r_bipush C (by decide +kernel) dX6_areYears_22 ?_
        refine r_idiv C (by omega) (by omega) (by omega) dX6_areYears_24 ?_
        rw [Int.tdiv_eq_ediv_of_nonneg (by omega)]
        refine r_bipush C (by decide +kernel) dX6_areYears_25 ?_
        refine r_icmp_gt (tgt := 34) C (by decide) (by omega) (by omega) dX6_areYears_27 (fun c27 => ?_) (fun c27 => ?_)
        · refine r_iconst C dX6_areYears_34 ?_
          refine r_zreturn C rfl (by first | exact Or.inl rfl | exact Or.inr rfl) ?_ dX6_areYears_35
          refine pv_of ?_ rfl
          first | exact (zB_t (by simp only [*, Bool.true_and, decide_eq_true_eq]; omega)).symm | exact (zB_f (by simp only [*, Bool.true_and, decide_eq_false_iff_not]; omega)).symm | exact (zB_f (by simp [*])).symm
        · refine r_iconst C dX6_areYears_30 ?_
          refine r_goto (tgt := 35) C (by decide) dX6_areYears_31 ?_
          refine r_zreturn C rfl (by first | exact Or.inl rfl | exact Or.inr rfl) ?_ dX6_areYears_35
          refine pv_of ?_ rfl
          first | exact (zB_t (by simp only [*, Bool.true_and, decide_eq_true_eq]; omega)).symm | exact (zB_f (by simp only [*, Bool.true_and, decide_eq_false_iff_not]; omega)).symm | exact (zB_f (by simp [*])).symm
set_option maxRecDepth 100000 in
theorem c_X6_datedTo (l : Launch) (G : pw_G) (σ : pw_H) {t : Nat} {h f e : Int} (hI : Inv (vM σ)) (ht : t < 6) (hb : bYrs h f e = true) : Ct l shM G mX6_datedTo [.ref (G.2.1 0), vI (t : Int), vI h, vI f, vI e] σ (fun r τ => r = some (vI (sDt (vM σ) t h f (sYs f e)).1) ∧ Fm [8, 9, 10] σ τ) := by
  obtain ⟨y1, y2, y3, y4, y5⟩ := bYrs_t hb
  have hs : (sYs f e : Int) = (e - f) / 10 := by unfold sYs; omega
  refine Ct_of (ls := [some (.ref (G.2.1 0)), some (vI (t : Int)), some (vI h), some (vI f), some (vI e), none, none, none, none]) (by decide +kernel) (Nat.le_of_ble_eq_true rfl) rfl (fun X C => ?_)
  have loop : ∀ (k i : Nat) (υ : pw_H), i + k = sYs f e → Fm [8, 9, 10] σ υ → PW X shM G 18 [some (.ref (G.2.1 0)), some (vI (t : Int)), some (vI h), some (vI f), some (vI e), some (vI (sDt (vM σ) t h f i).1), some (vI (sDt (vM σ) t h f i).2), some (vI (f + 10 + 10 * (i : Int))), none] [] υ := by
    intro k
    induction k with
    | zero =>
      intro i υ hi hF
      have ei : i = sYs f e := by omega
      subst ei
      refine r_iload C rfl dX6_datedTo_18 ?_
      refine r_iload C rfl dX6_datedTo_20 ?_
      refine r_icmp_gt (tgt := 73) C (by decide) (by omega) (by omega) dX6_datedTo_22 (fun c22 => ?_) (fun c22 => ?_)
      · refine r_iload C rfl dX6_datedTo_73 ?_
        refine r_ireturn C rfl ?_ dX6_datedTo_75
        exact ⟨rfl, hF⟩
      · omega
    | succ k ih =>
      intro i υ hi hF
      have e2 : vM υ = vM σ := hF.vM (by decide)
      have r1 := sDt_r hI t h f i
      have r2 := sBest_r hI t (f + 10 + 10 * (i : Int)) h
      have ec : f + 10 * ((i + 1 : Nat) : Int) = f + 10 + 10 * (i : Int) := by omega
      have en : f + 10 + 10 * ((i + 1 : Nat) : Int) = f + 10 + 10 * (i : Int) + 10 := by omega
      refine r_iload C rfl dX6_datedTo_18 ?_
      refine r_iload C rfl dX6_datedTo_20 ?_
      refine r_icmp_gt (tgt := 73) C (by decide) (by omega) (by omega) dX6_datedTo_22 (fun c22 => ?_) (fun c22 => ?_)
      · omega
      · refine r_aload_n C rfl dX6_datedTo_25 ?_
        refine r_iload_n C rfl dX6_datedTo_26 ?_
        refine r_iload C rfl dX6_datedTo_27 ?_
        refine r_iload_n C rfl dX6_datedTo_29 ?_
        refine r_callV (As := [_, _, _]) C (c_X6_lay _ _ _ (e2 ▸ hI) ht (by omega) y1) ok_X6_lay ln_X6_124 rfl rfl rfl rfl (Nat.le_of_ble_eq_true rfl) (Nat.le_of_ble_eq_true rfl) (Nat.le_of_ble_eq_true rfl) dX6_datedTo_30 (fun v30 τ30 hq30 => ?_)
        obtain ⟨rfl, hF2, -, -⟩ := hq30
        rw [e2]
        refine r_istore (ls' := [_, _, _, _, _, _, _, _, _]) C (by decide) rfl rfl dX6_datedTo_33 ?_
        refine r_iload C rfl dX6_datedTo_35 ?_
        refine r_iload C rfl dX6_datedTo_37 ?_
        refine r_icmp_ge (tgt := 47) C (by decide) (by omega) (by omega) dX6_datedTo_39 (fun c39 => ?_) (fun c39 => ?_)
        · refine r_iload C rfl dX6_datedTo_47 ?_
          refine r_istore (ls' := [_, _, _, _, _, _, _, _, _]) C (by decide) rfl rfl dX6_datedTo_49 ?_
          refine r_iload C rfl dX6_datedTo_51 ?_
          refine r_iload C rfl dX6_datedTo_53 ?_
          refine r_icmp_ge (tgt := 63) C (by decide) (by omega) (by omega) dX6_datedTo_55 (fun c55 => ?_) (fun c55 => ?_)
          · refine r_iload C rfl dX6_datedTo_63 ?_
            refine r_istore (ls' := [_, _, _, _, _, _, _, _, _]) C (by decide) rfl rfl dX6_datedTo_65 ?_
            refine r_iinc (ls' := [_, _, _, _, _, _, _, _, _]) C rfl (by decide) rfl rfl dX6_datedTo_67 ?_
            refine r_goto (tgt := 18) C (by decide) dX6_datedTo_70 ?_
            refine PW_lw [true, true, true, true, true, true, true, true, false] (ih (i + 1) _ (by omega) (hF.tr hF2 (fun _ q => q) (fun _ q => q))) ?_
            rw [en]
            simp only [sDt, ec]
            first | (exfalso; omega) | (rw [if_pos (by omega)]; rfl) | (rw [if_neg (by omega)]; rfl)
          · refine r_iload C rfl dX6_datedTo_58 ?_
            refine r_goto (tgt := 65) C (by decide) dX6_datedTo_60 ?_
            refine r_istore (ls' := [_, _, _, _, _, _, _, _, _]) C (by decide) rfl rfl dX6_datedTo_65 ?_
            refine r_iinc (ls' := [_, _, _, _, _, _, _, _, _]) C rfl (by decide) rfl rfl dX6_datedTo_67 ?_
            refine r_goto (tgt := 18) C (by decide) dX6_datedTo_70 ?_
            refine PW_lw [true, true, true, true, true, true, true, true, false] (ih (i + 1) _ (by omega) (hF.tr hF2 (fun _ q => q) (fun _ q => q))) ?_
            rw [en]
            simp only [sDt, ec]
            first | (exfalso; omega) | (rw [if_pos (by omega)]; rfl) | (rw [if_neg (by omega)]; rfl)
        · refine r_iload C rfl dX6_datedTo_42 ?_
          refine r_goto (tgt := 49) C (by decide) dX6_datedTo_44 ?_
          refine r_istore (ls' := [_, _, _, _, _, _, _, _, _]) C (by decide) rfl rfl dX6_datedTo_49 ?_
          refine r_iload C rfl dX6_datedTo_51 ?_
          refine r_iload C rfl dX6_datedTo_53 ?_
          refine r_icmp_ge (tgt := 63) C (by decide) (by omega) (by omega) dX6_datedTo_55 (fun c55 => ?_) (fun c55 => ?_)
          · refine r_iload C rfl dX6_datedTo_63 ?_
            refine r_istore (ls' := [_, _, _, _, _, _, _, _, _]) C (by decide) rfl rfl dX6_datedTo_65 ?_
            refine r_iinc (ls' := [_, _, _, _, _, _, _, _, _]) C rfl (by decide) rfl rfl dX6_datedTo_67 ?_
            refine r_goto (tgt := 18) C (by decide) dX6_datedTo_70 ?_
            refine PW_lw [true, true, true, true, true, true, true, true, false] (ih (i + 1) _ (by omega) (hF.tr hF2 (fun _ q => q) (fun _ q => q))) ?_
            rw [en]
            simp only [sDt, ec]
            first | (exfalso; omega) | (rw [if_pos (by omega)]; rfl) | (rw [if_neg (by omega)]; rfl)
          · refine r_iload C rfl dX6_datedTo_58 ?_
            refine r_goto (tgt := 65) C (by decide) dX6_datedTo_60 ?_
            refine r_istore (ls' := [_, _, _, _, _, _, _, _, _]) C (by decide) rfl rfl dX6_datedTo_65 ?_
            refine r_iinc (ls' := [_, _, _, _, _, _, _, _, _]) C rfl (by decide) rfl rfl dX6_datedTo_67 ?_
            refine r_goto (tgt := 18) C (by decide) dX6_datedTo_70 ?_
            refine PW_lw [true, true, true, true, true, true, true, true, false] (ih (i + 1) _ (by omega) (hF.tr hF2 (fun _ q => q) (fun _ q => q))) ?_
            rw [en]
            simp only [sDt, ec]
            first | (exfalso; omega) | (rw [if_pos (by omega)]; rfl) | (rw [if_neg (by omega)]; rfl)
  refine r_iload_n C rfl dX6_datedTo_0 ?_
  refine r_istore (ls' := [_, _, _, _, _, _, _, _, _]) C (by decide) rfl rfl dX6_datedTo_1 ?_
  refine r_aload_n C rfl dX6_datedTo_3 ?_
  refine r_iload_n C rfl dX6_datedTo_4 ?_
  refine r_iload_n C rfl dX6_datedTo_5 ?_
  refine r_iload_n C rfl dX6_datedTo_6 ?_
  refine r_callV (As := [_, _, _]) C (c_X6_lay _ _ _ hI ht (by omega) y1) ok_X6_lay ln_X6_124 rfl rfl rfl rfl (Nat.le_of_ble_eq_true rfl) (Nat.le_of_ble_eq_true rfl) (Nat.le_of_ble_eq_true rfl) dX6_datedTo_7 (fun v7 τ7 hq7 => ?_)
  obtain ⟨rfl, hF2, -, -⟩ := hq7
  refine r_istore (ls' := [_, _, _, _, _, _, _, _, _]) C (by decide) rfl rfl dX6_datedTo_10 ?_
  refine r_iload_n C rfl dX6_datedTo_12 ?_
  refine r_bipush C (by decide +kernel) dX6_datedTo_13 ?_
  refine r_iadd C dX6_datedTo_15 ?_
  refine r_istore (ls' := [_, _, _, _, _, _, _, _, _]) C (by decide) rfl rfl dX6_datedTo_16 ?_
  refine PW_ls (loop (sYs f e) 0 _ (by omega) hF2) ?_
  rw [show f + 10 + 10 * ((0 : Nat) : Int) = f + 10 by omega]
  rfl
set_option maxRecDepth 100000 in
theorem c_X6_dated (l : Launch) (G : pw_G) (σ : pw_H) {t h f e : Int} (hI : Inv (vM σ)) (q_t : InI t) (q_h : InI h) (q_f : InI f) (q_e : InI e) : Ct l shM G mX6_dated [.ref (G.2.1 0), vI t, vI h, vI f, vI e] σ (pM (s_dated (vM σ) t h f e)) := by
  have h0 : 0 ≤ σ 0 0 ∧ σ 0 0 ≤ 8 := hI.1
  have h5 : 0 ≤ σ 0 5 ∧ σ 0 5 ≤ 6 := hI.2.1
  have h1 : 0 ≤ σ 0 6 ∧ σ 0 6 ≤ 6 := hI.2.2.1
  refine Ct_of (ls := [some (.ref (G.2.1 0)), some (vI t), some (vI h), some (vI f), some (vI e)]) (by decide +kernel) (Nat.le_of_ble_eq_true rfl) rfl (fun X C => ?_)
  refine r_aload_n C rfl dX6_dated_0 ?_
  refine r_iload_n C rfl dX6_dated_1 ?_
  refine r_callV (As := [_]) C (c_X6_isList _ _ _ (by omega) hI) ok_X6_isList ln_X6_69 rfl rfl rfl rfl (Nat.le_of_ble_eq_true rfl) (Nat.le_of_ble_eq_true rfl) (Nat.le_of_ble_eq_true rfl) dX6_dated_2 (fun v2 τ2 hq2 => ?_)
  obtain ⟨rfl, rfl⟩ := hq2
  refine r_ifB_ne (tgt := 10) C (by decide) dX6_dated_5 (fun c5 => ?_) (fun c5 => ?_)
  · have h8 : 0 ≤ t ∧ t ≤ σ 0 6 - 1 := bList_t c5
    obtain ⟨u, rfl⟩ := Int.eq_ofNat_of_zero_le h8.1
    refine r_iload_n C rfl dX6_dated_10 ?_
    refine r_callS (As := [_]) C (c_X6_isShift _ _ _ (by omega)) ok_X6_isShift ln_X6_117 rfl rfl (Nat.le_of_ble_eq_true rfl) (Nat.le_of_ble_eq_true rfl) (Nat.le_of_ble_eq_true rfl) dX6_dated_11 (fun v11 τ11 hq11 => ?_)
    obtain ⟨rfl, rfl⟩ := hq11
    refine r_ifB_eq (tgt := 42) C (by decide) dX6_dated_14 (fun c14 => ?_) (fun c14 => ?_)
    · have hb : bYrs h f e = false := by unfold bYrs; rw [c14, Bool.false_and]
      refine r_bipush C (by decide +kernel) dX6_dated_42 ?_
      refine r_ireturn C rfl ?_ dX6_dated_44
      first | (refine pM_of (a := vM σ) ?_ (by first | exact e2 | rfl); rw [s_dated, if_neg (by simp [c5]), if_neg (by simp [hb])]; done) | exact pM_of (by rw [s_dated, if_neg (by simp [c5]), if_pos hb]) rfl
    · refine r_iload_n C rfl dX6_dated_17 ?_
      refine r_iload C rfl dX6_dated_18 ?_
      refine r_callS (As := [_, _]) C (c_X6_areYears _ _ _ (by omega) (by omega)) ok_X6_areYears ln_X6_135 rfl rfl (Nat.le_of_ble_eq_true rfl) (Nat.le_of_ble_eq_true rfl) (Nat.le_of_ble_eq_true rfl) dX6_dated_20 (fun v20 τ20 hq20 => ?_)
      obtain ⟨rfl, rfl⟩ := hq20
      refine r_ifB_eq (tgt := 42) C (by decide) dX6_dated_23 (fun c23 => ?_) (fun c23 => ?_)
      · have hb : bYrs h f e = false := by unfold bYrs; rw [c23, Bool.and_false]
        refine r_bipush C (by decide +kernel) dX6_dated_42 ?_
        refine r_ireturn C rfl ?_ dX6_dated_44
        first | (refine pM_of (a := vM σ) ?_ (by first | exact e2 | rfl); rw [s_dated, if_neg (by simp [c5]), if_neg (by simp [hb])]; done) | exact pM_of (by rw [s_dated, if_neg (by simp [c5]), if_pos hb]) rfl
      · have hb : bYrs h f e = true := by unfold bYrs; rw [c14, c23]; rfl
        refine r_aload_n C rfl dX6_dated_26 ?_
        refine r_iload_n C rfl dX6_dated_27 ?_
        refine r_iload_n C rfl dX6_dated_28 ?_
        refine r_iload_n C rfl dX6_dated_29 ?_
        refine r_iload C rfl dX6_dated_30 ?_
        refine r_callV (As := [_, _, _, _]) C (c_X6_datedTo _ _ _ hI (by omega) hb) ok_X6_datedTo ln_X6_138 rfl rfl rfl rfl (Nat.le_of_ble_eq_true rfl) (Nat.le_of_ble_eq_true rfl) (Nat.le_of_ble_eq_true rfl) dX6_dated_32 (fun v32 τ32 hq32 => ?_)
        obtain ⟨rfl, hF⟩ := hq32
        have e2 : vM τ32 = vM σ := hF.vM (by decide)
        refine r_sipush C (by decide +kernel) dX6_dated_35 ?_
        refine r_iadd C dX6_dated_38 ?_
        refine r_goto (tgt := 44) C (by decide) dX6_dated_39 ?_
        refine r_ireturn C rfl ?_ dX6_dated_44
        first | (refine pM_of (a := vM σ) ?_ (by first | exact e2 | rfl); rw [s_dated, if_neg (by simp [c5]), if_neg (by simp [hb])]; done) | exact pM_of (by rw [s_dated, if_neg (by simp [c5]), if_pos hb]) rfl
  · refine r_iconst C dX6_dated_8 ?_
    refine r_ireturn C rfl ?_ dX6_dated_9
    exact pM_of (by simp [s_dated, *]) rfl
set_option maxRecDepth 100000 in
theorem c_X6_doubt (l : Launch) (G : pw_G) (σ : pw_H) {t h f e k : Int} (hI : Inv (vM σ)) (q_t : InI t) (q_h : InI h) (q_f : InI f) (q_e : InI e) (q_k : InI k) : Ct l shM G mX6_doubt [.ref (G.2.1 0), vI t, vI h, vI f, vI e, vI k] σ (pM (s_doubt (vM σ) t h f e k)) := by
  have h0 : 0 ≤ σ 0 0 ∧ σ 0 0 ≤ 8 := hI.1
  have h5 : 0 ≤ σ 0 5 ∧ σ 0 5 ≤ 6 := hI.2.1
  have h1 : 0 ≤ σ 0 6 ∧ σ 0 6 ≤ 6 := hI.2.2.1
  refine Ct_of (ls := [some (.ref (G.2.1 0)), some (vI t), some (vI h), some (vI f), some (vI e), some (vI k), none, none, none]) (by decide +kernel) (Nat.le_of_ble_eq_true rfl) rfl (fun X C => ?_)
  have loop : ∀ (w i u : Nat) (υ : pw_H), t = u → bList (vM σ) t = true → bYrs h f e = true → bIn k 0 800 = true → i + w = sYs f e + 1 → Fm [8, 9, 10] σ υ → PW X shM G 64 [some (.ref (G.2.1 0)), some (vI t), some (vI h), some (vI f), some (vI e), some (vI k), some (vI (sDt (vM σ) t h f (sYs f e)).2), some (vI (sSum (fun i => zB (decide (sBest (vM σ) t (f + 10 * i) h ≤ (sDt (vM σ) t h f (sYs f e)).2 + k))) i)), some (vI (f + 10 * (i : Int)))] [] υ := by
    intro w
    induction w with
    | zero =>
      intro i u υ eu c5 hb c35 hi hF
      obtain ⟨y1, y2, y3, y4, y5⟩ := bYrs_t hb
      have hs : (sYs f e : Int) = (e - f) / 10 := by unfold sYs; omega
      have e2 : vM υ = vM σ := hF.vM (by decide)
      refine r_iload C rfl dX6_doubt_64 ?_
      refine r_iload C rfl dX6_doubt_66 ?_
      refine r_icmp_gt (tgt := 103) C (by decide) (by omega) (by omega) dX6_doubt_68 (fun c68 => ?_) (fun c68 => ?_)
      · refine r_iload C rfl dX6_doubt_103 ?_
        refine r_ireturn C rfl ?_ dX6_doubt_105
        rw [show i = sYs f e + 1 by omega]
        exact pM_of (a := vM σ) (by rw [s_doubt, if_neg (by simp [c5]), if_neg (by simp [hb, c35])]) e2
      · omega
    | succ w ih =>
      intro i u υ eu c5 hb c35 hi hF
      obtain ⟨y1, y2, y3, y4, y5⟩ := bYrs_t hb
      have hs : (sYs f e : Int) = (e - f) / 10 := by unfold sYs; omega
      have e2 : vM υ = vM σ := hF.vM (by decide)
      have h8 : 0 ≤ t ∧ t ≤ σ 0 6 - 1 := bList_t c5
      have r3 := sBest_r hI t (f + 10 * i) h
      have r5 := (sDt_r hI t h f (sYs f e)).1
      have r6 := bIn_iff.mp c35
      have es : sSum (fun i => zB (decide (sBest (vM σ) t (f + 10 * i) h ≤ (sDt (vM σ) t h f (sYs f e)).2 + k))) (i + 1) = sSum (fun i => zB (decide (sBest (vM σ) t (f + 10 * i) h ≤ (sDt (vM σ) t h f (sYs f e)).2 + k))) i + zB (decide (sBest (vM σ) t (f + 10 * i) h ≤ (sDt (vM σ) t h f (sYs f e)).2 + k)) := rfl
      subst eu
      refine r_iload C rfl dX6_doubt_64 ?_
      refine r_iload C rfl dX6_doubt_66 ?_
      refine r_icmp_gt (tgt := 103) C (by decide) (by omega) (by omega) dX6_doubt_68 (fun c68 => ?_) (fun c68 => ?_)
      · omega
      · refine r_iload C rfl dX6_doubt_71 ?_
        refine r_aload_n C rfl dX6_doubt_73 ?_
        refine r_iload_n C rfl dX6_doubt_74 ?_
        refine r_iload C rfl dX6_doubt_75 ?_
        refine r_iload_n C rfl dX6_doubt_77 ?_
        refine r_callV (As := [_, _, _]) C (c_X6_lay _ _ _ (e2 ▸ hI) (by omega) (by omega) y1) ok_X6_lay ln_X6_124 rfl rfl rfl rfl (Nat.le_of_ble_eq_true rfl) (Nat.le_of_ble_eq_true rfl) (Nat.le_of_ble_eq_true rfl) dX6_doubt_78 (fun v78 τ78 hq78 => ?_)
        obtain ⟨rfl, hF2, -, -⟩ := hq78
        rw [e2]
        refine r_iload C rfl dX6_doubt_81 ?_
        refine r_iload C rfl dX6_doubt_83 ?_
        refine r_iadd C dX6_doubt_85 ?_
        refine r_icmp_gt (tgt := 93) C (by decide) (by omega) (by omega) dX6_doubt_86 (fun c86 => ?_) (fun c86 => ?_)
        · refine r_iconst C dX6_doubt_93 ?_
          refine r_iadd C dX6_doubt_94 ?_
          refine r_istore (ls' := [_, _, _, _, _, _, _, _, _]) C (by decide) rfl rfl dX6_doubt_95 ?_
          refine r_iinc (ls' := [_, _, _, _, _, _, _, _, _]) C rfl (by decide) rfl rfl dX6_doubt_97 ?_
          refine r_goto (tgt := 64) C (by decide) dX6_doubt_100 ?_
          refine PW_ls (ih (i + 1) u _ rfl c5 hb c35 (by omega) (hF.tr hF2 (fun _ q => q) (fun _ q => q))) ?_
          rw [es, show f + 10 * ((i + 1 : Nat) : Int) = f + 10 * (i : Int) + 10 by omega]
          first | (rw [zB_t (by rw [decide_eq_true_eq]; omega)]; first | done | rfl) | (rw [zB_f (by rw [decide_eq_false_iff_not]; omega)]; first | done | rfl)
        · refine r_iconst C dX6_doubt_89 ?_
          refine r_goto (tgt := 94) C (by decide) dX6_doubt_90 ?_
          refine r_iadd C dX6_doubt_94 ?_
          refine r_istore (ls' := [_, _, _, _, _, _, _, _, _]) C (by decide) rfl rfl dX6_doubt_95 ?_
          refine r_iinc (ls' := [_, _, _, _, _, _, _, _, _]) C rfl (by decide) rfl rfl dX6_doubt_97 ?_
          refine r_goto (tgt := 64) C (by decide) dX6_doubt_100 ?_
          refine PW_ls (ih (i + 1) u _ rfl c5 hb c35 (by omega) (hF.tr hF2 (fun _ q => q) (fun _ q => q))) ?_
          rw [es, show f + 10 * ((i + 1 : Nat) : Int) = f + 10 * (i : Int) + 10 by omega]
          first | (rw [zB_t (by rw [decide_eq_true_eq]; omega)]; first | done | rfl) | (rw [zB_f (by rw [decide_eq_false_iff_not]; omega)]; first | done | rfl)
  refine r_aload_n C rfl dX6_doubt_0 ?_
  refine r_iload_n C rfl dX6_doubt_1 ?_
  refine r_callV (As := [_]) C (c_X6_isList _ _ _ (by omega) hI) ok_X6_isList ln_X6_69 rfl rfl rfl rfl (Nat.le_of_ble_eq_true rfl) (Nat.le_of_ble_eq_true rfl) (Nat.le_of_ble_eq_true rfl) dX6_doubt_2 (fun v2 τ2 hq2 => ?_)
  obtain ⟨rfl, rfl⟩ := hq2
  refine r_ifB_ne (tgt := 10) C (by decide) dX6_doubt_5 (fun c5 => ?_) (fun c5 => ?_)
  · have h8 : 0 ≤ t ∧ t ≤ σ 0 6 - 1 := bList_t c5
    obtain ⟨u, rfl⟩ := Int.eq_ofNat_of_zero_le h8.1
    refine r_iload_n C rfl dX6_doubt_10 ?_
    refine r_callS (As := [_]) C (c_X6_isShift _ _ _ (by omega)) ok_X6_isShift ln_X6_117 rfl rfl (Nat.le_of_ble_eq_true rfl) (Nat.le_of_ble_eq_true rfl) (Nat.le_of_ble_eq_true rfl) dX6_doubt_11 (fun v11 τ11 hq11 => ?_)
    obtain ⟨rfl, rfl⟩ := hq11
    refine r_ifB_eq (tgt := 38) C (by decide) dX6_doubt_14 (fun c14 => ?_) (fun c14 => ?_)
    · have hb : bYrs h f e = false := by unfold bYrs; rw [c14, Bool.false_and]
      refine r_bipush C (by decide +kernel) dX6_doubt_38 ?_
      refine r_ireturn C rfl ?_ dX6_doubt_40
      exact pM_of (by rw [s_doubt, if_neg (by simp [c5]), if_pos (by simp [*])]) rfl
    · refine r_iload_n C rfl dX6_doubt_17 ?_
      refine r_iload C rfl dX6_doubt_18 ?_
      refine r_callS (As := [_, _]) C (c_X6_areYears _ _ _ (by omega) (by omega)) ok_X6_areYears ln_X6_135 rfl rfl (Nat.le_of_ble_eq_true rfl) (Nat.le_of_ble_eq_true rfl) (Nat.le_of_ble_eq_true rfl) dX6_doubt_20 (fun v20 τ20 hq20 => ?_)
      obtain ⟨rfl, rfl⟩ := hq20
      refine r_ifB_eq (tgt := 38) C (by decide) dX6_doubt_23 (fun c23 => ?_) (fun c23 => ?_)
      · have hb : bYrs h f e = false := by unfold bYrs; rw [c23, Bool.and_false]
        refine r_bipush C (by decide +kernel) dX6_doubt_38 ?_
        refine r_ireturn C rfl ?_ dX6_doubt_40
        exact pM_of (by rw [s_doubt, if_neg (by simp [c5]), if_pos (by simp [*])]) rfl
      · have hb : bYrs h f e = true := by unfold bYrs; rw [c14, c23]; rfl
        refine r_iload C rfl dX6_doubt_26 ?_
        refine r_iconst C dX6_doubt_28 ?_
        refine r_sipush C (by decide +kernel) dX6_doubt_29 ?_
        refine r_callS (As := [_, _, _]) C (c_X6_in _ _ _ (by omega) (by omega) (by omega)) ok_X6_in ln_X6_59 rfl rfl (Nat.le_of_ble_eq_true rfl) (Nat.le_of_ble_eq_true rfl) (Nat.le_of_ble_eq_true rfl) dX6_doubt_32 (fun v32 τ32 hq32 => ?_)
        obtain ⟨rfl, rfl⟩ := hq32
        refine r_ifB_ne (tgt := 41) C (by decide) dX6_doubt_35 (fun c35 => ?_) (fun c35 => ?_)
        · refine r_aload_n C rfl dX6_doubt_41 ?_
          refine r_iload_n C rfl dX6_doubt_42 ?_
          refine r_aload_n C rfl dX6_doubt_43 ?_
          refine r_iload_n C rfl dX6_doubt_44 ?_
          refine r_iload_n C rfl dX6_doubt_45 ?_
          refine r_iload_n C rfl dX6_doubt_46 ?_
          refine r_iload C rfl dX6_doubt_47 ?_
          refine r_callV (As := [_, _, _, _]) C (c_X6_datedTo _ _ _ hI (by omega) hb) ok_X6_datedTo ln_X6_138 rfl rfl rfl rfl (Nat.le_of_ble_eq_true rfl) (Nat.le_of_ble_eq_true rfl) (Nat.le_of_ble_eq_true rfl) dX6_doubt_49 (fun v49 τ49 hq49 => ?_)
          obtain ⟨rfl, hF⟩ := hq49
          have e2 : vM τ49 = vM σ := hF.vM (by decide)
          obtain ⟨y1, y2, y3, y4, y5⟩ := bYrs_t hb
          have hs : (sYs f e : Int) = (e - f) / 10 := by unfold sYs; omega
          obtain ⟨-, r1, r2, r3⟩ := sDt_r hI (u : Int) h f (sYs f e)
          refine r_iload_n C rfl dX6_doubt_52 ?_
          refine r_callV (As := [_, _, _]) C (c_X6_lay _ _ _ (e2 ▸ hI) (by omega) (by omega) y1) ok_X6_lay ln_X6_124 rfl rfl rfl rfl (Nat.le_of_ble_eq_true rfl) (Nat.le_of_ble_eq_true rfl) (Nat.le_of_ble_eq_true rfl) dX6_doubt_53 (fun v53 τ53 hq53 => ?_)
          obtain ⟨rfl, hF2, -, -⟩ := hq53
          rw [e2, ← r1]
          refine r_istore (ls' := [_, _, _, _, _, _, _, _, _]) C (by decide) rfl rfl dX6_doubt_56 ?_
          refine r_iconst C dX6_doubt_58 ?_
          refine r_istore (ls' := [_, _, _, _, _, _, _, _, _]) C (by decide) rfl rfl dX6_doubt_59 ?_
          refine r_iload_n C rfl dX6_doubt_61 ?_
          refine r_istore (ls' := [_, _, _, _, _, _, _, _, _]) C (by decide) rfl rfl dX6_doubt_62 ?_
          refine PW_ls (loop (sYs f e + 1) 0 u _ rfl c5 hb c35 (by omega) (hF.tr hF2 (fun _ q => q) (fun _ q => q))) ?_
          rw [show f + 10 * ((0 : Nat) : Int) = f by omega]
          rfl
        · refine r_bipush C (by decide +kernel) dX6_doubt_38 ?_
          refine r_ireturn C rfl ?_ dX6_doubt_40
          exact pM_of (by rw [s_doubt, if_neg (by simp [c5]), if_pos (by simp [*])]) rfl
  · refine r_iconst C dX6_doubt_8 ?_
    refine r_ireturn C rfl ?_ dX6_doubt_9
    exact pM_of (by simp [s_doubt, *]) rfl
