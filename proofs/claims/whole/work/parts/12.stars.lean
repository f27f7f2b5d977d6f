set_option maxRecDepth 100000 in
theorem c_J9_floorMod_7cf53 (l : Launch) (G : pw_G) (σ : pw_H) {x y : Int} (h1 : InI x) (h2 : InI y) (hy : 0 < y) : Ct l shX G mJ9_floorMod_7cf53 [vI x, vI y] σ (pv (x % y) σ) := by
  have k1 := n_tm (x := x) hy
  have k2 := n_xs h1 h2 hy
  have k3 := Int.emod_nonneg x (show y ≠ 0 by omega)
  have k4 := Int.emod_lt_of_pos x hy
  have k5 := iI_rng (iI x ^^^ iI y)
  refine Ct_of (ls := [some (vI x), some (vI y), none]) (by decide +kernel) (Nat.le_of_ble_eq_true rfl) rfl (fun X C => ?_)
  refine r_iload_n C rfl dJ9_floorMod_7cf53_0 ?_
  refine r_iload_n C rfl dJ9_floorMod_7cf53_1 ?_
  refine r_irem C (by omega) (by omega) (by omega) dJ9_floorMod_7cf53_2 ?_
  refine r_istore_n (ls' := [_, _, _]) C (by decide) rfl rfl dJ9_floorMod_7cf53_3 ?_
  refine r_iload_n C rfl dJ9_floorMod_7cf53_4 ?_
  refine r_iload_n C rfl dJ9_floorMod_7cf53_5 ?_
  refine r_ixor C (iI_x _).symm dJ9_floorMod_7cf53_6 ?_
  refine r_if_ge (tgt := 18) C (by decide) k5 dJ9_floorMod_7cf53_7 (fun c7 => ?_) (fun c7 => ?_)
  · refine r_iload_n C rfl dJ9_floorMod_7cf53_18 ?_
    refine r_ireturn C rfl ?_ dJ9_floorMod_7cf53_19
    refine pv_of ?_ rfl
    split at k1 <;> omega
  · refine r_iload_n C rfl dJ9_floorMod_7cf53_10 ?_
    refine r_if_eq (tgt := 18) C (by decide) (by split at k1 <;> omega) dJ9_floorMod_7cf53_11 (fun c11 => ?_) (fun c11 => ?_)
    · refine r_iload_n C rfl dJ9_floorMod_7cf53_18 ?_
      refine r_ireturn C rfl ?_ dJ9_floorMod_7cf53_19
      refine pv_of ?_ rfl
      split at k1 <;> omega
    · refine r_iload_n C rfl dJ9_floorMod_7cf53_14 ?_
      refine r_iload_n C rfl dJ9_floorMod_7cf53_15 ?_
      refine r_iadd C dJ9_floorMod_7cf53_16 ?_
      refine r_ireturn C rfl ?_ dJ9_floorMod_7cf53_17
      refine pv_of ?_ rfl
      split at k1 <;> omega
set_option maxRecDepth 100000 in
theorem c_J9_floorDiv_7cf53 (l : Launch) (G : pw_G) (σ : pw_H) {x y : Int} (h1 : InI x) (h2 : InI y) (hy : 0 < y) : Ct l shX G mJ9_floorDiv_7cf53 [vI x, vI y] σ (pv (x / y) σ) := by
  have k1 := n_td (x := x) hy
  have k6 := n_tm (x := x) hy
  have k2 := n_xs h1 h2 hy
  have k3 := Int.emod_nonneg x (show y ≠ 0 by omega)
  have k4 := Int.emod_lt_of_pos x hy
  have k5 := iI_rng (iI x ^^^ iI y)
  have k7 : x.tdiv y * y = x - x.tmod y := by
    have := Int.tmod_add_tdiv_mul x y
    omega
  refine Ct_of (ls := [some (vI x), some (vI y), none]) (by decide +kernel) (Nat.le_of_ble_eq_true rfl) rfl (fun X C => ?_)
  refine r_iload_n C rfl dJ9_floorDiv_7cf53_0 ?_
  refine r_iload_n C rfl dJ9_floorDiv_7cf53_1 ?_
  refine r_idiv C (by omega) (by omega) (by omega) dJ9_floorDiv_7cf53_2 ?_
  refine r_istore_n (ls' := [_, _, _]) C (by decide) rfl rfl dJ9_floorDiv_7cf53_3 ?_
  refine r_iload_n C rfl dJ9_floorDiv_7cf53_4 ?_
  refine r_iload_n C rfl dJ9_floorDiv_7cf53_5 ?_
  refine r_ixor C (iI_x _).symm dJ9_floorDiv_7cf53_6 ?_
  refine r_if_ge (tgt := 21) C (by decide) k5 dJ9_floorDiv_7cf53_7 (fun c7 => ?_) (fun c7 => ?_)
  · refine r_iload_n C rfl dJ9_floorDiv_7cf53_21 ?_
    refine r_ireturn C rfl ?_ dJ9_floorDiv_7cf53_22
    refine pv_of ?_ rfl
    split at k1 <;> split at k6 <;> omega
  · refine r_iload_n C rfl dJ9_floorDiv_7cf53_10 ?_
    refine r_iload_n C rfl dJ9_floorDiv_7cf53_11 ?_
    refine r_imul C dJ9_floorDiv_7cf53_12 ?_
    refine r_iload_n C rfl dJ9_floorDiv_7cf53_13 ?_
    rw [k7]
    refine r_icmp_eq (tgt := 21) C (by decide) (by split at k6 <;> omega) (by omega) dJ9_floorDiv_7cf53_14 (fun c14 => ?_) (fun c14 => ?_)
    · refine r_iload_n C rfl dJ9_floorDiv_7cf53_21 ?_
      refine r_ireturn C rfl ?_ dJ9_floorDiv_7cf53_22
      refine pv_of ?_ rfl
      split at k1 <;> split at k6 <;> omega
    · refine r_iload_n C rfl dJ9_floorDiv_7cf53_17 ?_
      refine r_iconst C dJ9_floorDiv_7cf53_18 ?_
      refine r_isub C dJ9_floorDiv_7cf53_19 ?_
      refine r_ireturn C rfl ?_ dJ9_floorDiv_7cf53_20
      refine pv_of ?_ rfl
      split at k1 <;> split at k6 <;> omega
set_option maxRecDepth 100000 in
theorem c_X5_leads (l : Launch) (G : pw_G) (σ : pw_H) {x y : Int} (h1 : -100000 ≤ x ∧ x ≤ 100000) (h2 : -100000 ≤ y ∧ y ≤ 100000) : Ct l shX G mX5_leads [vI x, vI y] σ (pv (sWay x y) σ) := by
  refine Ct_of (ls := [some (vI x), some (vI y)]) (by decide +kernel) (Nat.le_of_ble_eq_true rfl) rfl (fun X C => ?_)
  refine r_iload_n C rfl dX5_leads_0 ?_
  refine r_iload_n C rfl dX5_leads_1 ?_
  refine r_isub C dX5_leads_2 ?_
  refine r_sipush C (by decide +kernel) dX5_leads_3 ?_
  refine r_iadd C dX5_leads_6 ?_
  refine r_sipush C (by decide +kernel) dX5_leads_7 ?_
  refine r_callS (As := [_, _]) C (c_J9_floorMod_7cf53 _ _ _ (by omega) (by omega) (by omega)) ok_J9_floorMod_7cf53 ln_X5_199 rfl rfl (Nat.le_of_ble_eq_true rfl) (Nat.le_of_ble_eq_true rfl) (Nat.le_of_ble_eq_true rfl) dX5_leads_10 (fun v10 τ10 hq10 => ?_)
  obtain ⟨rfl, rfl⟩ := hq10
  refine r_sipush C (by decide +kernel) dX5_leads_13 ?_
  refine r_isub C dX5_leads_16 ?_
  refine r_ireturn C rfl ?_ dX5_leads_17
  exact ⟨rfl, rfl⟩
set_option maxRecDepth 100000 in
theorem c_X4_has (l : Launch) (G : pw_G) (σ : pw_H) {s : Int} (h1 : InI s) (hI : Inv (vX σ)) : Ct l shX G mX4_has [.ref (G.2.1 1), vI s] σ (pb (bStar (vX σ) s) σ) := by
  have h8 : 0 ≤ σ 1 4 ∧ σ 1 4 ≤ 8 := hI.1
  refine Ct_of (ls := [some (.ref (G.2.1 1)), some (vI s)]) (by decide +kernel) (Nat.le_of_ble_eq_true rfl) rfl (fun X C => ?_)
  refine r_iload_n C rfl dX4_has_0 ?_
  refine r_if_lt (tgt := 16) C (by decide) (by omega) dX4_has_1 (fun c1 => ?_) (fun c1 => ?_)
  · refine r_iconst C dX4_has_16 ?_
    refine r_zreturn C rfl (by first | exact Or.inl rfl | exact Or.inr rfl) ?_ dX4_has_17
    refine pv_of ?_ rfl
    first | exact (zB_t (bIn_t (by omega) (show s ≤ σ 1 4 - 1 by omega))).symm | exact (zB_f (bIn_f (show s < 0 ∨ σ 1 4 - 1 < s by omega))).symm
  · refine r_iload_n C rfl dX4_has_4 ?_
    refine r_aload_n C rfl dX4_has_5 ?_
    refine r_getI (jz := 4) C 3 4 rfl rfl (by decide) rfl uw_X4 fl_X4_24 rfl dX4_has_6 ?_
    refine r_icmp_ge (tgt := 16) C (by decide) (by omega) (by omega) dX4_has_9 (fun c9 => ?_) (fun c9 => ?_)
    · refine r_iconst C dX4_has_16 ?_
      refine r_zreturn C rfl (by first | exact Or.inl rfl | exact Or.inr rfl) ?_ dX4_has_17
      refine pv_of ?_ rfl
      first | exact (zB_t (bIn_t (by omega) (show s ≤ σ 1 4 - 1 by omega))).symm | exact (zB_f (bIn_f (show s < 0 ∨ σ 1 4 - 1 < s by omega))).symm
    · refine r_iconst C dX4_has_12 ?_
      refine r_goto (tgt := 17) C (by decide) dX4_has_13 ?_
      refine r_zreturn C rfl (by first | exact Or.inl rfl | exact Or.inr rfl) ?_ dX4_has_17
      refine pv_of ?_ rfl
      first | exact (zB_t (bIn_t (by omega) (show s ≤ σ 1 4 - 1 by omega))).symm | exact (zB_f (bIn_f (show s < 0 ∨ σ 1 4 - 1 < s by omega))).symm
set_option maxRecDepth 100000 in
theorem c_X4_add (l : Launch) (G : pw_G) (σ : pw_H) {x w m b : Int} (hI : Inv (vX σ)) (h8 : σ 1 4 < 8) : Ct l shX G mX4_add [.ref (G.2.1 1), vI x, vI w, vI m, vI b] σ (fun r τ => r = some (vI (σ 1 4)) ∧ pw_u (pw_u (pw_u (pw_u (pw_u σ 6 (σ 1 4) x) 7 (σ 1 4) w) 8 (σ 1 4) m) 9 (σ 1 4) b) 1 4 (σ 1 4 + 1) = τ) := by
  have h0 : 0 ≤ σ 1 4 ∧ σ 1 4 ≤ 8 := hI.1
  refine Ct_of (ls := [some (.ref (G.2.1 1)), some (vI x), some (vI w), some (vI m), some (vI b)]) (by decide +kernel) (Nat.le_of_ble_eq_true rfl) rfl (fun X C => ?_)
  refine r_aload_n C rfl dX4_add_0 ?_
  refine r_getR C 3 0 rfl rfl (by decide) rfl uw_X4 fl_X4_9 dX4_add_1 ?_
  refine r_aload_n C rfl dX4_add_4 ?_
  refine r_getI (jz := 4) C 3 4 rfl rfl (by decide) rfl uw_X4 fl_X4_24 rfl dX4_add_5 ?_
  refine r_iload_n C rfl dX4_add_8 ?_
  refine r_iastore C rfl (by decide) (by omega) dX4_add_9 ?_
  refine r_aload_n C rfl dX4_add_10 ?_
  refine r_getR C 3 1 rfl rfl (by decide) rfl uw_X4 fl_X4_15 dX4_add_11 ?_
  refine r_aload_n C rfl dX4_add_14 ?_
  refine r_getI (jz := 4) C 3 4 rfl rfl (by decide) rfl uw_X4 fl_X4_24 rfl dX4_add_15 ?_
  try simp (disch := decide) only [pw_u_k, pw_u_j, pw_u_s]
  refine r_iload_n C rfl dX4_add_18 ?_
  refine r_iastore C rfl (by decide) (by omega) dX4_add_19 ?_
  refine r_aload_n C rfl dX4_add_20 ?_
  refine r_getR C 3 2 rfl rfl (by decide) rfl uw_X4 fl_X4_18 dX4_add_21 ?_
  refine r_aload_n C rfl dX4_add_24 ?_
  refine r_getI (jz := 4) C 3 4 rfl rfl (by decide) rfl uw_X4 fl_X4_24 rfl dX4_add_25 ?_
  try simp (disch := decide) only [pw_u_k, pw_u_j, pw_u_s]
  refine r_iload_n C rfl dX4_add_28 ?_
  refine r_iastore C rfl (by decide) (by omega) dX4_add_29 ?_
  refine r_aload_n C rfl dX4_add_30 ?_
  refine r_getR C 3 3 rfl rfl (by decide) rfl uw_X4 fl_X4_21 dX4_add_31 ?_
  refine r_aload_n C rfl dX4_add_34 ?_
  refine r_getI (jz := 4) C 3 4 rfl rfl (by decide) rfl uw_X4 fl_X4_24 rfl dX4_add_35 ?_
  try simp (disch := decide) only [pw_u_k, pw_u_j, pw_u_s]
  refine r_iload C rfl dX4_add_38 ?_
  refine r_iastore C rfl (by decide) (by omega) dX4_add_40 ?_
  refine r_aload_n C rfl dX4_add_41 ?_
  refine r_dup C rfl dX4_add_42 ?_
  refine r_getI (jz := 4) C 3 4 rfl rfl (by decide) rfl uw_X4 fl_X4_24 rfl dX4_add_43 ?_
  try simp (disch := decide) only [pw_u_k, pw_u_j, pw_u_s]
  refine r_dup_x1 C rfl rfl dX4_add_46 ?_
  refine r_iconst C dX4_add_47 ?_
  refine r_iadd C dX4_add_48 ?_
  refine r_putI (jz := 4) C 3 4 tyX4 tyX4_ok nmX4 rfl rfl (by decide) rfl uw_X4 fl_X4_24 rfl rfl rfl dX4_add_49 ?_
  refine r_ireturn C rfl ?_ dX4_add_52
  exact ⟨rfl, rfl⟩
set_option maxRecDepth 100000 in
theorem c_X4_longIn (l : Launch) (G : pw_G) (σ : pw_H) {s y : Int} (hI : Inv (vX σ)) (hs : 0 ≤ s ∧ s < 8) (hy : -3000 ≤ y ∧ y ≤ 3000) : Ct l shX G mX4_longIn [.ref (G.2.1 1), vI s, vI y] σ (pv (sSky (vX σ) s y) σ) := by
  have h1 : 0 ≤ σ 6 s ∧ σ 6 s ≤ 21599 := hI.2.2.2.1 s
  have h3 : -50 ≤ σ 8 s ∧ σ 8 s ≤ 50 := hI.2.2.2.2.2.1 s
  have h4 := n_mul h3.1 h3.2 hy.1 hy.2
  refine Ct_of (ls := [some (.ref (G.2.1 1)), some (vI s), some (vI y), none, none]) (by decide +kernel) (Nat.le_of_ble_eq_true rfl) rfl (fun X C => ?_)
  refine r_iconst C dX4_longIn_0 ?_
  refine r_iload_n C rfl dX4_longIn_1 ?_
  refine r_imul C dX4_longIn_2 ?_
  refine r_bipush C (by decide +kernel) dX4_longIn_3 ?_
  refine r_callS (As := [_, _]) C (c_J9_floorDiv_7cf53 _ _ _ (by omega) (by omega) (by omega)) ok_J9_floorDiv_7cf53 ln_X4_31 rfl rfl (Nat.le_of_ble_eq_true rfl) (Nat.le_of_ble_eq_true rfl) (Nat.le_of_ble_eq_true rfl) dX4_longIn_5 (fun v5 τ5 hq5 => ?_)
  obtain ⟨rfl, rfl⟩ := hq5
  refine r_istore_n (ls' := [_, _, _, _, _]) C (by decide) rfl rfl dX4_longIn_8 ?_
  refine r_aload_n C rfl dX4_longIn_9 ?_
  refine r_getR C 3 2 rfl rfl (by decide) rfl uw_X4 fl_X4_18 dX4_longIn_10 ?_
  refine r_iload_n C rfl dX4_longIn_13 ?_
  refine r_iaload C rfl (by decide) (by omega) dX4_longIn_14 ?_
  refine r_iload_n C rfl dX4_longIn_15 ?_
  refine r_imul C dX4_longIn_16 ?_
  refine r_bipush C (by decide +kernel) dX4_longIn_17 ?_
  refine r_callS (As := [_, _]) C (c_J9_floorDiv_7cf53 _ _ _ (by omega) (by omega) (by omega)) ok_J9_floorDiv_7cf53 ln_X4_31 rfl rfl (Nat.le_of_ble_eq_true rfl) (Nat.le_of_ble_eq_true rfl) (Nat.le_of_ble_eq_true rfl) dX4_longIn_19 (fun v19 τ19 hq19 => ?_)
  obtain ⟨rfl, rfl⟩ := hq19
  refine r_istore (ls' := [_, _, _, _, _]) C (by decide) rfl rfl dX4_longIn_22 ?_
  refine r_aload_n C rfl dX4_longIn_24 ?_
  refine r_getR C 3 0 rfl rfl (by decide) rfl uw_X4 fl_X4_9 dX4_longIn_25 ?_
  refine r_iload_n C rfl dX4_longIn_28 ?_
  refine r_iaload C rfl (by decide) (by omega) dX4_longIn_29 ?_
  refine r_iload_n C rfl dX4_longIn_30 ?_
  refine r_iadd C dX4_longIn_31 ?_
  refine r_iload C rfl dX4_longIn_32 ?_
  refine r_iadd C dX4_longIn_34 ?_
  refine r_sipush C (by decide +kernel) dX4_longIn_35 ?_
  refine r_callS (As := [_, _]) C (c_J9_floorMod_7cf53 _ _ _ (by omega) (by omega) (by omega)) ok_J9_floorMod_7cf53 ln_X4_37 rfl rfl (Nat.le_of_ble_eq_true rfl) (Nat.le_of_ble_eq_true rfl) (Nat.le_of_ble_eq_true rfl) dX4_longIn_38 (fun v38 τ38 hq38 => ?_)
  obtain ⟨rfl, rfl⟩ := hq38
  refine r_ireturn C rfl ?_ dX4_longIn_41
  exact ⟨rfl, rfl⟩
set_option maxRecDepth 100000 in
theorem c_X4_counts (l : Launch) (G : pw_G) (σ : pw_H) {s : Int} (hI : Inv (vX σ)) (hs : 0 ≤ s ∧ s < 8) : Ct l shX G mX4_counts [.ref (G.2.1 1), vI s] σ (pb (decide (vX σ 4 s ≤ vX σ 0 1)) σ) := by
  have h1 : 0 ≤ σ 9 s ∧ σ 9 s ≤ 6 := hI.2.2.2.2.2.2.1 s
  have h2 : 0 ≤ σ 1 5 ∧ σ 1 5 ≤ 6 := hI.2.1
  refine Ct_of (ls := [some (.ref (G.2.1 1)), some (vI s)]) (by decide +kernel) (Nat.le_of_ble_eq_true rfl) rfl (fun X C => ?_)
  refine r_aload_n C rfl dX4_counts_0 ?_
  refine r_getR C 3 3 rfl rfl (by decide) rfl uw_X4 fl_X4_21 dX4_counts_1 ?_
  refine r_iload_n C rfl dX4_counts_4 ?_
  refine r_iaload C rfl (by decide) (by omega) dX4_counts_5 ?_
  refine r_aload_n C rfl dX4_counts_6 ?_
  refine r_getI (jz := 5) C 3 5 rfl rfl (by decide) rfl uw_X4 fl_X4_28 rfl dX4_counts_7 ?_
  refine r_icmp_gt (tgt := 17) C (by decide) (by omega) (by omega) dX4_counts_10 (fun c10 => ?_) (fun c10 => ?_)
  · refine r_iconst C dX4_counts_17 ?_
    refine r_zreturn C rfl (by first | exact Or.inl rfl | exact Or.inr rfl) ?_ dX4_counts_18
    refine pv_of ?_ rfl
    first | exact (zB_t (decide_eq_true (show σ 9 s ≤ σ 1 5 by omega))).symm | exact (zB_f (decide_eq_false (show ¬ σ 9 s ≤ σ 1 5 by omega))).symm
  · refine r_iconst C dX4_counts_13 ?_
    refine r_goto (tgt := 18) C (by decide) dX4_counts_14 ?_
    refine r_zreturn C rfl (by first | exact Or.inl rfl | exact Or.inr rfl) ?_ dX4_counts_18
    refine pv_of ?_ rfl
    first | exact (zB_t (decide_eq_true (show σ 9 s ≤ σ 1 5 by omega))).symm | exact (zB_f (decide_eq_false (show ¬ σ 9 s ≤ σ 1 5 by omega))).symm
set_option maxRecDepth 100000 in
theorem c_X2_has (l : Launch) (G : pw_G) (σ : pw_H) {s : Int} (h1 : InI s) (hI : Inv (vX σ)) : Ct l shX G mX2_has [.ref (G.2.1 2), vI s] σ (pb (bList (vX σ) s) σ) := by
  have h8 : 0 ≤ σ 2 1 ∧ σ 2 1 ≤ 6 := hI.2.2.1
  refine Ct_of (ls := [some (.ref (G.2.1 2)), some (vI s)]) (by decide +kernel) (Nat.le_of_ble_eq_true rfl) rfl (fun X C => ?_)
  refine r_iload_n C rfl dX2_has_0 ?_
  refine r_if_lt (tgt := 16) C (by decide) (by omega) dX2_has_1 (fun c1 => ?_) (fun c1 => ?_)
  · refine r_iconst C dX2_has_16 ?_
    refine r_zreturn C rfl (by first | exact Or.inl rfl | exact Or.inr rfl) ?_ dX2_has_17
    refine pv_of ?_ rfl
    first | exact (zB_t (bIn_t (by omega) (show s ≤ σ 2 1 - 1 by omega))).symm | exact (zB_f (bIn_f (show s < 0 ∨ σ 2 1 - 1 < s by omega))).symm
  · refine r_iload_n C rfl dX2_has_4 ?_
    refine r_aload_n C rfl dX2_has_5 ?_
    refine r_getI (jz := 1) C 2 1 rfl rfl (by decide) rfl uw_X2 fl_X2_15 rfl dX2_has_6 ?_
    refine r_icmp_ge (tgt := 16) C (by decide) (by omega) (by omega) dX2_has_9 (fun c9 => ?_) (fun c9 => ?_)
    · refine r_iconst C dX2_has_16 ?_
      refine r_zreturn C rfl (by first | exact Or.inl rfl | exact Or.inr rfl) ?_ dX2_has_17
      refine pv_of ?_ rfl
      first | exact (zB_t (bIn_t (by omega) (show s ≤ σ 2 1 - 1 by omega))).symm | exact (zB_f (bIn_f (show s < 0 ∨ σ 2 1 - 1 < s by omega))).symm
    · refine r_iconst C dX2_has_12 ?_
      refine r_goto (tgt := 17) C (by decide) dX2_has_13 ?_
      refine r_zreturn C rfl (by first | exact Or.inl rfl | exact Or.inr rfl) ?_ dX2_has_17
      refine pv_of ?_ rfl
      first | exact (zB_t (bIn_t (by omega) (show s ≤ σ 2 1 - 1 by omega))).symm | exact (zB_f (bIn_f (show s < 0 ∨ σ 2 1 - 1 < s by omega))).symm
theorem bLine_1 {a : pw_H} {l i : Int} {b : Bool} (h : bList a l = true) (h2 : bIn i 0 (a 5 l - 1) = b) : bLine a l i = b := by unfold bLine; rw [h, h2]; rfl
theorem bLine_0 {a : pw_H} {l i : Int} (h : bList a l = false) : bLine a l i = false := by unfold bLine; rw [h]; rfl
theorem bList_t {a : pw_H} {s : Int} (h : bList a s = true) : 0 ≤ s ∧ s ≤ a 0 2 - 1 := bIn_iff.mp h
theorem bStar_t {a : pw_H} {s : Int} (h : bStar a s = true) : 0 ≤ s ∧ s ≤ a 0 0 - 1 := bIn_iff.mp h
theorem bLine_t {a : pw_H} {l i : Int} (h : bLine a l i = true) : (0 ≤ l ∧ l ≤ a 0 2 - 1) ∧ 0 ≤ i ∧ i ≤ a 5 l - 1 := by
  unfold bLine at h
  rw [Bool.and_eq_true] at h
  exact ⟨bList_t h.1, bIn_iff.mp h.2⟩
theorem bMom_t {y h : Int} (e : bMom y h = true) : (-3000 ≤ y ∧ y ≤ 3000) ∧ -600 ≤ h ∧ h ≤ 600 := by
  unfold bMom at e
  rw [Bool.and_eq_true] at e
  exact ⟨bIn_iff.mp e.1, bIn_iff.mp e.2⟩
theorem bPlace_t {y h : Int} (e : bPlace y h = true) : (0 ≤ y ∧ y ≤ 21599) ∧ -5400 ≤ h ∧ h ≤ 5400 := by
  unfold bPlace at e
  rw [Bool.and_eq_true] at e
  exact ⟨bIn_iff.mp e.1, bIn_iff.mp e.2⟩
set_option maxRecDepth 100000 in
theorem c_X2_hasLine (l : Launch) (G : pw_G) (σ : pw_H) {s i : Int} (h1 : InI s) (h2 : InI i) (hI : Inv (vX σ)) : Ct l shX G mX2_hasLine [.ref (G.2.1 2), vI s, vI i] σ (pb (bLine (vX σ) s i) σ) := by
  have h8 : 0 ≤ σ 2 1 ∧ σ 2 1 ≤ 6 := hI.2.2.1
  have h9 : 0 ≤ σ 10 s ∧ σ 10 s ≤ 8 := hI.2.2.2.2.2.2.2.1 s
  refine Ct_of (ls := [some (.ref (G.2.1 2)), some (vI s), some (vI i)]) (by decide +kernel) (Nat.le_of_ble_eq_true rfl) rfl (fun X C => ?_)
  refine r_aload_n C rfl dX2_hasLine_0 ?_
  refine r_iload_n C rfl dX2_hasLine_1 ?_
  refine r_callV (As := [_]) C (c_X2_has _ _ _ (by omega) hI) ok_X2_has ln_X2_25 rfl rfl rfl rfl (Nat.le_of_ble_eq_true rfl) (Nat.le_of_ble_eq_true rfl) (Nat.le_of_ble_eq_true rfl) dX2_hasLine_2 (fun v2 τ2 hq2 => ?_)
  obtain ⟨rfl, rfl⟩ := hq2
  refine r_ifB_eq (tgt := 26) C (by decide) dX2_hasLine_5 (fun c5 => ?_) (fun c5 => ?_)
  · refine r_iconst C dX2_hasLine_26 ?_
    refine r_zreturn C rfl (by first | exact Or.inl rfl | exact Or.inr rfl) ?_ dX2_hasLine_27
    refine pv_of ?_ rfl
    first | exact (zB_t (bLine_1 c5 (bIn_t (by omega) (show i ≤ σ 10 s - 1 by omega)))).symm | exact (zB_f (bLine_1 c5 (bIn_f (show i < 0 ∨ σ 10 s - 1 < i by omega)))).symm | exact (zB_f (bLine_0 c5)).symm
  · have h10 : 0 ≤ s ∧ s ≤ σ 2 1 - 1 := bList_t c5
    refine r_iload_n C rfl dX2_hasLine_8 ?_
    refine r_if_lt (tgt := 26) C (by decide) (by omega) dX2_hasLine_9 (fun c9 => ?_) (fun c9 => ?_)
    · refine r_iconst C dX2_hasLine_26 ?_
      refine r_zreturn C rfl (by first | exact Or.inl rfl | exact Or.inr rfl) ?_ dX2_hasLine_27
      refine pv_of ?_ rfl
      first | exact (zB_t (bLine_1 c5 (bIn_t (by omega) (show i ≤ σ 10 s - 1 by omega)))).symm | exact (zB_f (bLine_1 c5 (bIn_f (show i < 0 ∨ σ 10 s - 1 < i by omega)))).symm | exact (zB_f (bLine_0 c5)).symm
    · refine r_iload_n C rfl dX2_hasLine_12 ?_
      refine r_aload_n C rfl dX2_hasLine_13 ?_
      refine r_getR C 2 0 rfl rfl (by decide) rfl uw_X2 fl_X2_9 dX2_hasLine_14 ?_
      refine r_iload_n C rfl dX2_hasLine_17 ?_
      refine r_iaload C rfl (by decide) (by omega) dX2_hasLine_18 ?_
      refine r_icmp_ge (tgt := 26) C (by decide) (by omega) (by omega) dX2_hasLine_19 (fun c19 => ?_) (fun c19 => ?_)
      · refine r_iconst C dX2_hasLine_26 ?_
        refine r_zreturn C rfl (by first | exact Or.inl rfl | exact Or.inr rfl) ?_ dX2_hasLine_27
        refine pv_of ?_ rfl
        first | exact (zB_t (bLine_1 c5 (bIn_t (by omega) (show i ≤ σ 10 s - 1 by omega)))).symm | exact (zB_f (bLine_1 c5 (bIn_f (show i < 0 ∨ σ 10 s - 1 < i by omega)))).symm | exact (zB_f (bLine_0 c5)).symm
      · refine r_iconst C dX2_hasLine_22 ?_
        refine r_goto (tgt := 27) C (by decide) dX2_hasLine_23 ?_
        refine r_zreturn C rfl (by first | exact Or.inl rfl | exact Or.inr rfl) ?_ dX2_hasLine_27
        refine pv_of ?_ rfl
        first | exact (zB_t (bLine_1 c5 (bIn_t (by omega) (show i ≤ σ 10 s - 1 by omega)))).symm | exact (zB_f (bLine_1 c5 (bIn_f (show i < 0 ∨ σ 10 s - 1 < i by omega)))).symm | exact (zB_f (bLine_0 c5)).symm
set_option maxRecDepth 100000 in
theorem c_X2_open (l : Launch) (G : pw_G) (σ : pw_H) : Ct l shX G mX2_open [.ref (G.2.1 2)] σ (fun r τ => r = some (vI (σ 2 1)) ∧ pw_u σ 2 1 (σ 2 1 + 1) = τ) := by
  refine Ct_of (ls := [some (.ref (G.2.1 2))]) (by decide +kernel) (Nat.le_of_ble_eq_true rfl) rfl (fun X C => ?_)
  refine r_aload_n C rfl dX2_open_0 ?_
  refine r_dup C rfl dX2_open_1 ?_
  refine r_getI (jz := 1) C 2 1 rfl rfl (by decide) rfl uw_X2 fl_X2_15 rfl dX2_open_2 ?_
  refine r_dup_x1 C rfl rfl dX2_open_5 ?_
  refine r_iconst C dX2_open_6 ?_
  refine r_iadd C dX2_open_7 ?_
  refine r_putI (jz := 1) C 2 1 tyX2 tyX2_ok nmX2 rfl rfl (by decide) rfl uw_X2 fl_X2_15 rfl rfl rfl dX2_open_8 ?_
  refine r_ireturn C rfl ?_ dX2_open_11
  exact ⟨rfl, rfl⟩
set_option maxRecDepth 100000 in
theorem c_X2_write (l : Launch) (G : pw_G) (σ : pw_H) {s i x w : Int} (hs : 0 ≤ s ∧ s < 6) (hi : 0 ≤ i ∧ i < 8) : Ct l shX G mX2_write [.ref (G.2.1 2), vI s, vI i, vI x, vI w] σ (fun r τ => r = none ∧ pw_u (pw_u σ 11 (s * 8 + i) x) 12 (s * 8 + i) w = τ) := by
  refine Ct_of (ls := [some (.ref (G.2.1 2)), some (vI s), some (vI i), some (vI x), some (vI w)]) (by decide +kernel) (Nat.le_of_ble_eq_true rfl) rfl (fun X C => ?_)
  refine r_aload_n C rfl dX2_write_0 ?_
  refine r_getR C 2 2 rfl rfl (by decide) rfl uw_X2 fl_X2_19 dX2_write_1 ?_
  refine r_iload_n C rfl dX2_write_4 ?_
  refine r_bipush C (by decide +kernel) dX2_write_5 ?_
  refine r_imul C dX2_write_7 ?_
  refine r_iload_n C rfl dX2_write_8 ?_
  refine r_iadd C dX2_write_9 ?_
  refine r_iload_n C rfl dX2_write_10 ?_
  refine r_iastore C rfl (by decide) (by omega) dX2_write_11 ?_
  refine r_aload_n C rfl dX2_write_12 ?_
  refine r_getR C 2 3 rfl rfl (by decide) rfl uw_X2 fl_X2_22 dX2_write_13 ?_
  refine r_iload_n C rfl dX2_write_16 ?_
  refine r_bipush C (by decide +kernel) dX2_write_17 ?_
  refine r_imul C dX2_write_19 ?_
  refine r_iload_n C rfl dX2_write_20 ?_
  refine r_iadd C dX2_write_21 ?_
  refine r_iload C rfl dX2_write_22 ?_
  refine r_iastore C rfl (by decide) (by omega) dX2_write_24 ?_
  refine r_return C rfl ?_ dX2_write_25
  exact ⟨rfl, rfl⟩
set_option maxRecDepth 100000 in
theorem c_X2_add (l : Launch) (G : pw_G) (σ : pw_H) {s x w : Int} (hs : 0 ≤ s ∧ s < 6) (hi : 0 ≤ σ 10 s ∧ σ 10 s < 8) : Ct l shX G mX2_add [.ref (G.2.1 2), vI s, vI x, vI w] σ (fun r τ => r = some (vI (σ 10 s)) ∧ pw_u (pw_u (pw_u σ 10 s (σ 10 s + 1)) 11 (s * 8 + σ 10 s) x) 12 (s * 8 + σ 10 s) w = τ) := by
  refine Ct_of (ls := [some (.ref (G.2.1 2)), some (vI s), some (vI x), some (vI w), none]) (by decide +kernel) (Nat.le_of_ble_eq_true rfl) rfl (fun X C => ?_)
  refine r_aload_n C rfl dX2_add_0 ?_
  refine r_getR C 2 0 rfl rfl (by decide) rfl uw_X2 fl_X2_9 dX2_add_1 ?_
  refine r_iload_n C rfl dX2_add_4 ?_
  refine r_iaload C rfl (by decide) (by omega) dX2_add_5 ?_
  refine r_istore (ls' := [_, _, _, _, _]) C (by decide) rfl rfl dX2_add_6 ?_
  refine r_aload_n C rfl dX2_add_8 ?_
  refine r_getR C 2 0 rfl rfl (by decide) rfl uw_X2 fl_X2_9 dX2_add_9 ?_
  refine r_iload_n C rfl dX2_add_12 ?_
  refine r_iload C rfl dX2_add_13 ?_
  refine r_iconst C dX2_add_15 ?_
  refine r_iadd C dX2_add_16 ?_
  refine r_iastore C rfl (by decide) (by omega) dX2_add_17 ?_
  refine r_aload_n C rfl dX2_add_18 ?_
  refine r_iload_n C rfl dX2_add_19 ?_
  refine r_iload C rfl dX2_add_20 ?_
  refine r_iload_n C rfl dX2_add_22 ?_
  refine r_iload_n C rfl dX2_add_23 ?_
  refine r_callV (As := [_, _, _, _]) C (c_X2_write _ _ _ (by omega) (by omega)) ok_X2_write ln_X2_29 rfl rfl rfl rfl (Nat.le_of_ble_eq_true rfl) (Nat.le_of_ble_eq_true rfl) (Nat.le_of_ble_eq_true rfl) dX2_add_24 (fun v24 τ24 hq24 => ?_)
  obtain ⟨rfl, rfl⟩ := hq24
  refine r_iload C rfl dX2_add_27 ?_
  refine r_ireturn C rfl ?_ dX2_add_29
  exact ⟨rfl, rfl⟩
set_option maxRecDepth 100000 in
theorem c_X2_longOf (l : Launch) (G : pw_G) (σ : pw_H) {s i : Int} (hs : 0 ≤ s ∧ s < 6) (hi : 0 ≤ i ∧ i < 8) : Ct l shX G mX2_longOf [.ref (G.2.1 2), vI s, vI i] σ (pv (σ 11 (s * 8 + i)) σ) := by
  refine Ct_of (ls := [some (.ref (G.2.1 2)), some (vI s), some (vI i)]) (by decide +kernel) (Nat.le_of_ble_eq_true rfl) rfl (fun X C => ?_)
  refine r_aload_n C rfl dX2_longOf_0 ?_
  refine r_getR C 2 2 rfl rfl (by decide) rfl uw_X2 fl_X2_19 dX2_longOf_1 ?_
  refine r_iload_n C rfl dX2_longOf_4 ?_
  refine r_bipush C (by decide +kernel) dX2_longOf_5 ?_
  refine r_imul C dX2_longOf_7 ?_
  refine r_iload_n C rfl dX2_longOf_8 ?_
  refine r_iadd C dX2_longOf_9 ?_
  refine r_iaload C rfl (by decide) (by omega) dX2_longOf_10 ?_
  refine r_ireturn C rfl ?_ dX2_longOf_11
  exact ⟨rfl, rfl⟩
set_option maxRecDepth 100000 in
theorem c_X2_wideOf (l : Launch) (G : pw_G) (σ : pw_H) {s i : Int} (hs : 0 ≤ s ∧ s < 6) (hi : 0 ≤ i ∧ i < 8) : Ct l shX G mX2_wideOf [.ref (G.2.1 2), vI s, vI i] σ (pv (σ 12 (s * 8 + i)) σ) := by
  refine Ct_of (ls := [some (.ref (G.2.1 2)), some (vI s), some (vI i)]) (by decide +kernel) (Nat.le_of_ble_eq_true rfl) rfl (fun X C => ?_)
  refine r_aload_n C rfl dX2_wideOf_0 ?_
  refine r_getR C 2 3 rfl rfl (by decide) rfl uw_X2 fl_X2_22 dX2_wideOf_1 ?_
  refine r_iload_n C rfl dX2_wideOf_4 ?_
  refine r_bipush C (by decide +kernel) dX2_wideOf_5 ?_
  refine r_imul C dX2_wideOf_7 ?_
  refine r_iload_n C rfl dX2_wideOf_8 ?_
  refine r_iadd C dX2_wideOf_9 ?_
  refine r_iaload C rfl (by decide) (by omega) dX2_wideOf_10 ?_
  refine r_ireturn C rfl ?_ dX2_wideOf_11
  exact ⟨rfl, rfl⟩
set_option maxRecDepth 100000 in
theorem c_X3_kindOf (l : Launch) (G : pw_G) (σ : pw_H) {r : Int} (hr : 0 ≤ r ∧ r ≤ 1048576) : Ct l shX G mX3_kindOf [vI r] σ (pv (r % 4) σ) := by
  refine Ct_of (ls := [some (vI r)]) (by decide +kernel) (Nat.le_of_ble_eq_true rfl) rfl (fun X C => ?_)
  refine r_iload_n C rfl dX3_kindOf_0 ?_
  refine r_iconst C dX3_kindOf_1 ?_
  refine r_irem C (by omega) (by omega) (by omega) dX3_kindOf_2 ?_
  refine r_ireturn C rfl ?_ dX3_kindOf_3
  exact pv_of (Int.tmod_eq_emod_of_nonneg hr.1) rfl
set_option maxRecDepth 100000 in
theorem c_X3_costOf (l : Launch) (G : pw_G) (σ : pw_H) {r : Int} (hr : 0 ≤ r ∧ r ≤ 1048576) : Ct l shX G mX3_costOf [vI r] σ (pv (r / 4) σ) := by
  refine Ct_of (ls := [some (vI r)]) (by decide +kernel) (Nat.le_of_ble_eq_true rfl) rfl (fun X C => ?_)
  refine r_iload_n C rfl dX3_costOf_0 ?_
  refine r_iconst C dX3_costOf_1 ?_
  refine r_idiv C (by omega) (by omega) (by omega) dX3_costOf_2 ?_
  refine r_ireturn C rfl ?_ dX3_costOf_3
  exact pv_of (Int.tdiv_eq_ediv_of_nonneg hr.1) rfl
set_option maxRecDepth 100000 in
theorem c_X3_lesser (l : Launch) (G : pw_G) (σ : pw_H) {r k x y m : Int} (hr : 0 ≤ r ∧ r ≤ 1048576) (hk : 0 ≤ k ∧ k ≤ 3) (hx : 0 ≤ x ∧ x ≤ 100000) (hy : 0 ≤ y ∧ y ≤ 100000) (hm : 0 ≤ m ∧ m ≤ 100) : Ct l shX G mX3_lesser [vI r, vI k, vI x, vI y, vI m] σ (pv (sLess r k x y m) σ) := by
  refine Ct_of (ls := [some (vI r), some (vI k), some (vI x), some (vI y), some (vI m), none]) (by decide +kernel) (Nat.le_of_ble_eq_true rfl) rfl (fun X C => ?_)
  refine r_iload_n C rfl dX3_lesser_0 ?_
  refine r_bipush C (by decide +kernel) dX3_lesser_1 ?_
  refine r_icmp_gt (tgt := 12) C (by decide) (by omega) (by omega) dX3_lesser_3 (fun c3 => ?_) (fun c3 => ?_)
  · refine r_iload_n C rfl dX3_lesser_12 ?_
    refine r_ireturn C rfl ?_ dX3_lesser_13
    refine pv_of ?_ rfl
    unfold sLess; split <;> (try split) <;> omega
  · refine r_iload_n C rfl dX3_lesser_6 ?_
    refine r_bipush C (by decide +kernel) dX3_lesser_7 ?_
    refine r_icmp_le (tgt := 14) C (by decide) (by omega) (by omega) dX3_lesser_9 (fun c9 => ?_) (fun c9 => ?_)
    · refine r_iconst C dX3_lesser_14 ?_
      refine r_iload_n C rfl dX3_lesser_15 ?_
      refine r_iload_n C rfl dX3_lesser_16 ?_
      refine r_iadd C dX3_lesser_17 ?_
      refine r_iload C rfl dX3_lesser_18 ?_
      refine r_iadd C dX3_lesser_20 ?_
      refine r_imul C dX3_lesser_21 ?_
      refine r_iload_n C rfl dX3_lesser_22 ?_
      refine r_iadd C dX3_lesser_23 ?_
      refine r_istore (ls' := [_, _, _, _, _, _]) C (by decide) rfl rfl dX3_lesser_24 ?_
      refine r_iload C rfl dX3_lesser_26 ?_
      refine r_iload_n C rfl dX3_lesser_28 ?_
      refine r_icmp_ge (tgt := 37) C (by decide) (by omega) (by omega) dX3_lesser_29 (fun c29 => ?_) (fun c29 => ?_)
      · refine r_iload_n C rfl dX3_lesser_37 ?_
        refine r_ireturn C rfl ?_ dX3_lesser_38
        refine pv_of ?_ rfl
        unfold sLess; split <;> (try split) <;> omega
      · refine r_iload C rfl dX3_lesser_32 ?_
        refine r_goto (tgt := 38) C (by decide) dX3_lesser_34 ?_
        refine r_ireturn C rfl ?_ dX3_lesser_38
        refine pv_of ?_ rfl
        unfold sLess; split <;> (try split) <;> omega
    · refine r_iload_n C rfl dX3_lesser_12 ?_
      refine r_ireturn C rfl ?_ dX3_lesser_13
      refine pv_of ?_ rfl
      unfold sLess; split <;> (try split) <;> omega
set_option maxRecDepth 100000 in
theorem c_X3_rank (l : Launch) (G : pw_G) (σ : pw_H) {d w v : Int} (hd : -10800 ≤ d ∧ d ≤ 10800) (hw : -5400 ≤ w ∧ w ≤ 5400) (hv : -5400 ≤ v ∧ v ≤ 5400) : Ct l shX G mX3_rank [vI d, vI w, vI v] σ (pv (sRank d w v) σ) := by
  have a1 := n_absb hd.1 hd.2
  have a2 := n_absb (x := w - v) (b := 10800) (by omega) (by omega)
  have a3 := n_absb (x := w + v) (b := 10800) (by omega) (by omega)
  have a4 := n_absb (x := zabs d - 1800) (b := 10800) (by omega) (by omega)
  have a5 := n_absb (x := zabs d - 600) (b := 10800) (by omega) (by omega)
  have a6 := n_absb (x := zabs (w - v) - 600) (b := 10800) (by omega) (by omega)
  have b1 := n_sLess (least := 1048576) (kind := 0) (more := 0) (by omega) a1.1 a2.1 (by omega) (by omega)
  have b2 := n_sLess (kind := 1) (more := 40) b1 a1.1 a3.1 (by omega) (by omega)
  have b3 := n_sLess (kind := 2) (more := 50) b2 a4.1 a2.1 (by omega) (by omega)
  have b4 := n_sLess (kind := 3) (more := 45) b3 a5.1 a2.1 (by omega) (by omega)
  refine Ct_of (ls := [some (vI d), some (vI w), some (vI v), none, none, none, none]) (by decide +kernel) (Nat.le_of_ble_eq_true rfl) rfl (fun X C => ?_)
  refine r_iload_n C rfl dX3_rank_0 ?_
  refine r_mabs C (by omega) ln_X3_7 st_abs in_Math co_abs (Nat.le_of_ble_eq_true rfl) (Nat.le_of_ble_eq_true rfl) dX3_rank_1 ?_
  refine r_istore_n (ls' := [_, _, _, _, _, _, _]) C (by decide) rfl rfl dX3_rank_4 ?_
  refine r_iload_n C rfl dX3_rank_5 ?_
  refine r_iload_n C rfl dX3_rank_6 ?_
  refine r_isub C dX3_rank_7 ?_
  refine r_mabs C (by omega) ln_X3_7 st_abs in_Math co_abs (Nat.le_of_ble_eq_true rfl) (Nat.le_of_ble_eq_true rfl) dX3_rank_8 ?_
  refine r_istore (ls' := [_, _, _, _, _, _, _]) C (by decide) rfl rfl dX3_rank_11 ?_
  refine r_iload_n C rfl dX3_rank_13 ?_
  refine r_iload_n C rfl dX3_rank_14 ?_
  refine r_iadd C dX3_rank_15 ?_
  refine r_mabs C (by omega) ln_X3_7 st_abs in_Math co_abs (Nat.le_of_ble_eq_true rfl) (Nat.le_of_ble_eq_true rfl) dX3_rank_16 ?_
  refine r_istore (ls' := [_, _, _, _, _, _, _]) C (by decide) rfl rfl dX3_rank_19 ?_
  refine r_ldc C (z := 1048576) cn_X3_15 (by decide +kernel) dX3_rank_21 ?_
  refine r_iconst C dX3_rank_23 ?_
  refine r_iload_n C rfl dX3_rank_24 ?_
  refine r_iload C rfl dX3_rank_25 ?_
  refine r_iconst C dX3_rank_27 ?_
  refine r_callS (As := [_, _, _, _, _]) C (c_X3_lesser _ _ _ (by omega) (by omega) (by omega) (by omega) (by omega)) ok_X3_lesser ln_X3_16 rfl rfl (Nat.le_of_ble_eq_true rfl) (Nat.le_of_ble_eq_true rfl) (Nat.le_of_ble_eq_true rfl) dX3_rank_28 (fun v28 τ28 hq28 => ?_)
  obtain ⟨rfl, rfl⟩ := hq28
  refine r_istore (ls' := [_, _, _, _, _, _, _]) C (by decide) rfl rfl dX3_rank_31 ?_
  refine r_iload C rfl dX3_rank_33 ?_
  refine r_iconst C dX3_rank_35 ?_
  refine r_iload_n C rfl dX3_rank_36 ?_
  refine r_iload C rfl dX3_rank_37 ?_
  refine r_bipush C (by decide +kernel) dX3_rank_39 ?_
  refine r_callS (As := [_, _, _, _, _]) C (c_X3_lesser _ _ _ (by omega) (by omega) (by omega) (by omega) (by omega)) ok_X3_lesser ln_X3_16 rfl rfl (Nat.le_of_ble_eq_true rfl) (Nat.le_of_ble_eq_true rfl) (Nat.le_of_ble_eq_true rfl) dX3_rank_41 (fun v41 τ41 hq41 => ?_)
  obtain ⟨rfl, rfl⟩ := hq41
  refine r_istore (ls' := [_, _, _, _, _, _, _]) C (by decide) rfl rfl dX3_rank_44 ?_
  refine r_iload C rfl dX3_rank_46 ?_
  refine r_iconst C dX3_rank_48 ?_
  refine r_iload_n C rfl dX3_rank_49 ?_
  refine r_sipush C (by decide +kernel) dX3_rank_50 ?_
  refine r_isub C dX3_rank_53 ?_
  refine r_mabs C (by omega) ln_X3_7 st_abs in_Math co_abs (Nat.le_of_ble_eq_true rfl) (Nat.le_of_ble_eq_true rfl) dX3_rank_54 ?_
  refine r_iload C rfl dX3_rank_57 ?_
  refine r_bipush C (by decide +kernel) dX3_rank_59 ?_
  refine r_callS (As := [_, _, _, _, _]) C (c_X3_lesser _ _ _ (by omega) (by omega) (by omega) (by omega) (by omega)) ok_X3_lesser ln_X3_16 rfl rfl (Nat.le_of_ble_eq_true rfl) (Nat.le_of_ble_eq_true rfl) (Nat.le_of_ble_eq_true rfl) dX3_rank_61 (fun v61 τ61 hq61 => ?_)
  obtain ⟨rfl, rfl⟩ := hq61
  refine r_istore (ls' := [_, _, _, _, _, _, _]) C (by decide) rfl rfl dX3_rank_64 ?_
  refine r_iload C rfl dX3_rank_66 ?_
  refine r_iconst C dX3_rank_68 ?_
  refine r_iload_n C rfl dX3_rank_69 ?_
  refine r_sipush C (by decide +kernel) dX3_rank_70 ?_
  refine r_isub C dX3_rank_73 ?_
  refine r_mabs C (by omega) ln_X3_7 st_abs in_Math co_abs (Nat.le_of_ble_eq_true rfl) (Nat.le_of_ble_eq_true rfl) dX3_rank_74 ?_
  refine r_iload C rfl dX3_rank_77 ?_
  refine r_bipush C (by decide +kernel) dX3_rank_79 ?_
  refine r_callS (As := [_, _, _, _, _]) C (c_X3_lesser _ _ _ (by omega) (by omega) (by omega) (by omega) (by omega)) ok_X3_lesser ln_X3_16 rfl rfl (Nat.le_of_ble_eq_true rfl) (Nat.le_of_ble_eq_true rfl) (Nat.le_of_ble_eq_true rfl) dX3_rank_81 (fun v81 τ81 hq81 => ?_)
  obtain ⟨rfl, rfl⟩ := hq81
  refine r_istore (ls' := [_, _, _, _, _, _, _]) C (by decide) rfl rfl dX3_rank_84 ?_
  refine r_iload C rfl dX3_rank_86 ?_
  refine r_iconst C dX3_rank_88 ?_
  refine r_iload_n C rfl dX3_rank_89 ?_
  refine r_iload C rfl dX3_rank_90 ?_
  refine r_sipush C (by decide +kernel) dX3_rank_92 ?_
  refine r_isub C dX3_rank_95 ?_
  refine r_mabs C (by omega) ln_X3_7 st_abs in_Math co_abs (Nat.le_of_ble_eq_true rfl) (Nat.le_of_ble_eq_true rfl) dX3_rank_96 ?_
  refine r_bipush C (by decide +kernel) dX3_rank_99 ?_
  refine r_callS (As := [_, _, _, _, _]) C (c_X3_lesser _ _ _ (by omega) (by omega) (by omega) (by omega) (by omega)) ok_X3_lesser ln_X3_16 rfl rfl (Nat.le_of_ble_eq_true rfl) (Nat.le_of_ble_eq_true rfl) (Nat.le_of_ble_eq_true rfl) dX3_rank_101 (fun v101 τ101 hq101 => ?_)
  obtain ⟨rfl, rfl⟩ := hq101
  refine r_ireturn C rfl ?_ dX3_rank_104
  exact ⟨rfl, rfl⟩
