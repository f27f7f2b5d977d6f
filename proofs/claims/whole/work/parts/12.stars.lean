set_option maxRecDepth 100000 in
theorem c_J9_floorMod_7cf53 (l : Launch) (G : pw_G) (σ : pw_H) {x y : Int} (h1 : InI x) (h2 : InI y) (hy : 0 < y) : Ct l shX G mJ9_floorMod_7cf53 [vI x, vI y] σ (pv (x % y) σ) := by
  have k1 := n_tm (x := x) hy
  have k2 := n_xs h1 h2 hy
  have k3 := Int.emod_nonneg x (show y ≠ 0 by omega)
  have k4 := Int.emod_lt_of_pos x hy
  have k5 := iI_rng (iI x ^^^ iI y)
  refine Ct_of (ls := [some (vI x), some (vI y), none]) (by decide +kernel) (Nat.le_of_ble_eq_true rfl) rfl (fun X C => ?_)
  refine r_iload_n C rfl dJ9_floorMod_7cf53_0 ?_
  refine r_iload_n C rfl dJ9_floorMod_7cf53_1 ?_
  refine r_irem C (by omega) (by omega) (by omega) dJ9_floorMod_7cf53_2 ?_
  refine r_istore_n (ls' := [_, _, _]) C (by decide) rfl rfl dJ9_floorMod_7cf53_3 ?_
  refine r_iload_n C rfl dJ9_floorMod_7cf53_4 ?_
  refine r_iload_n C rfl dJ9_floorMod_7cf53_5 ?_
  refine r_ixor C (iI_x _).symm dJ9_floorMod_7cf53_6 ?_
  refine r_if_ge (tgt := 18) C (by decide) k5 dJ9_floorMod_7cf53_7 (fun c7 => ?_) (fun c7 => ?_)
  · refine r_iload_n C rfl dJ9_floorMod_7cf53_18 ?_
    refine r_ireturn C rfl ?_ dJ9_floorMod_7cf53_19
    refine pv_of ?_ rfl
    split at k1 <;> omega
  · refine r_iload_n C rfl dJ9_floorMod_7cf53_10 ?_
    refine r_if_eq (tgt := 18) C (by decide) (by split at k1 <;> omega) dJ9_floorMod_7cf53_11 (fun c11 => ?_) (fun c11 => ?_)
    · refine r_iload_n C rfl dJ9_floorMod_7cf53_18 ?_
      refine r_ireturn C rfl ?_ dJ9_floorMod_7cf53_19
      refine pv_of ?_ rfl
      split at k1 <;> omega
    · refine r_iload_n C rfl dJ9_floorMod_7cf53_14 ?_
      refine r_iload_n C rfl dJ9_floorMod_7cf53_15 ?_
      refine r_iadd C dJ9_floorMod_7cf53_16 ?_
      refine r_ireturn C rfl ?_ dJ9_floorMod_7cf53_17
      refine pv_of ?_ rfl
      split at k1 <;> omega
set_option maxRecDepth 100000 in
theorem c_J9_floorDiv_7cf53 (l : Launch) (G : pw_G) (σ : pw_H) {x y : Int} (h1 : InI x) (h2 : InI y) (hy : 0 < y) : Ct l shX G mJ9_floorDiv_7cf53 [vI x, vI y] σ (pv (x / y) σ) := by
  have k1 := n_td (x := x) hy
  have k6 := n_tm (x := x) hy
  have k2 := n_xs h1 h2 hy
  have k3 := Int.emod_nonneg x (show y ≠ 0 by omega)
  have k4 := Int.emod_lt_of_pos x hy
  have k5 := iI_rng (iI x ^^^ iI y)
  have k7 : x.tdiv y * y = x - x.tmod y := by
    have := Int.tmod_add_tdiv_mul x y
    omega
  refine Ct_of (ls := [some (vI x), some (vI y), none]) (by decide +kernel) (Nat.le_of_ble_eq_true rfl) rfl (fun X C => ?_)
  refine r_iload_n C rfl dJ9_floorDiv_7cf53_0 ?_
  refine r_iload_n C rfl dJ9_floorDiv_7cf53_1 ?_
  refine r_idiv C (by omega) (by omega) (by omega) dJ9_floorDiv_7cf53_2 ?_
  refine r_istore_n (ls' := [_, _, _]) C (by decide) rfl rfl dJ9_floorDiv_7cf53_3 ?_
  refine r_iload_n C rfl dJ9_floorDiv_7cf53_4 ?_
  refine r_iload_n C rfl dJ9_floorDiv_7cf53_5 ?_
  refine r_ixor C (iI_x _).symm dJ9_floorDiv_7cf53_6 ?_
  refine r_if_ge (tgt := 21) C (by decide) k5 dJ9_floorDiv_7cf53_7 (fun c7 => ?_) (fun c7 => ?_)
  · refine r_iload_n C rfl dJ9_floorDiv_7cf53_21 ?_
    refine r_ireturn C rfl ?_ dJ9_floorDiv_7cf53_22
    refine pv_of ?_ rfl
    split at k1 <;> split at k6 <;> omega
  · refine r_iload_n C rfl dJ9_floorDiv_7cf53_10 ?_
    refine r_iload_n C rfl dJ9_floorDiv_7cf53_11 ?_
    refine r_imul C dJ9_floorDiv_7cf53_12 ?_
    refine r_iload_n C rfl dJ9_floorDiv_7cf53_13 ?_
    rw [k7]
    refine r_icmp_eq (tgt := 21) C (by decide) (by split at k6 <;> omega) (by omega) dJ9_floorDiv_7cf53_14 (fun c14 => ?_) (fun c14 => ?_)
    · refine r_iload_n C rfl dJ9_floorDiv_7cf53_21 ?_
      refine r_ireturn C rfl ?_ dJ9_floorDiv_7cf53_22
      refine pv_of ?_ rfl
      split at k1 <;> split at k6 <;> omega
    · refine r_iload_n C rfl dJ9_floorDiv_7cf53_17 ?_
      refine r_iconst C dJ9_floorDiv_7cf53_18 ?_
      refine r_isub C dJ9_floorDiv_7cf53_19 ?_
      refine r_ireturn C rfl ?_ dJ9_floorDiv_7cf53_20
      refine pv_of ?_ rfl
      split at k1 <;> split at k6 <;> omega
set_option maxRecDepth 100000 in
theorem c_X5_leads (l : Launch) (G : pw_G) (σ : pw_H) {x y : Int} (h1 : -100000 ≤ x ∧ x ≤ 100000) (h2 : -100000 ≤ y ∧ y ≤ 100000) : Ct l shX G mX5_leads [vI x, vI y] σ (pv (sWay x y) σ) := by
  refine Ct_of (ls := [some (vI x), some (vI y)]) (by decide +kernel) (Nat.le_of_ble_eq_true rfl) rfl (fun X C => ?_)
  refine r_iload_n C rfl dX5_leads_0 ?_
  refine r_iload_n C rfl dX5_leads_1 ?_
  refine r_isub C dX5_leads_2 ?_
  refine r_sipush C (by decide +kernel) dX5_leads_3 ?_
  refine r_iadd C dX5_leads_6 ?_
  refine r_sipush C (by decide +kernel) dX5_leads_7 ?_
  refine r_callS (As := [_, _]) C (c_J9_floorMod_7cf53 _ _ _ (by omega) (by omega) (by omega)) ok_J9_floorMod_7cf53 ln_X5_199 rfl rfl (Nat.le_of_ble_eq_true rfl) (Nat.le_of_ble_eq_true rfl) (Nat.le_of_ble_eq_true rfl) dX5_leads_10 (fun v10 τ10 hq10 => ?_)
  obtain ⟨rfl, rfl⟩ := hq10
  refine r_sipush C (by decide +kernel) dX5_leads_13 ?_
  refine r_isub C dX5_leads_16 ?_
  refine r_ireturn C rfl ?_ dX5_leads_17
  exact ⟨rfl, rfl⟩
set_option maxRecDepth 100000 in
theorem c_X4_has (l : Launch) (G : pw_G) (σ : pw_H) {s : Int} (h1 : InI s) (hI : Inv (vX σ)) : Ct l shX G mX4_has [.ref (G.2.1 1), vI s] σ (pb (bStar (vX σ) s) σ) := by
  have h8 : 0 ≤ σ 1 4 ∧ σ 1 4 ≤ 8 := hI.1
  refine Ct_of (ls := [some (.ref (G.2.1 1)), some (vI s)]) (by decide +kernel) (Nat.le_of_ble_eq_true rfl) rfl (fun X C => ?_)
  refine r_iload_n C rfl dX4_has_0 ?_
  refine r_if_lt (tgt := 16) C (by decide) (by omega) dX4_has_1 (fun c1 => ?_) (fun c1 => ?_)
  · refine r_iconst C dX4_has_16 ?_
    refine r_zreturn C rfl (by first | exact Or.inl rfl | exact Or.inr rfl) ?_ dX4_has_17
    refine pv_of ?_ rfl
    first | exact (zB_t (bIn_t (by omega) (show s ≤ σ 1 4 - 1 by omega))).symm | exact (zB_f (bIn_f (show s < 0 ∨ σ 1 4 - 1 < s by omega))).symm
  · refine r_iload_n C rfl dX4_has_4 ?_
    refine r_aload_n C rfl dX4_has_5 ?_
    refine r_getI (jz := 4) C 3 4 rfl rfl (by decide) rfl uw_X4 fl_X4_24 rfl dX4_has_6 ?_
    refine r_icmp_ge (tgt := 16) C (by decide) (by omega) (by omega) dX4_has_9 (fun c9 => ?_) (fun c9 => ?_)
    · refine r_iconst C dX4_has_16 ?_
      refine r_zreturn C rfl (by first | exact Or.inl rfl | exact Or.inr rfl) ?_ dX4_has_17
      refine pv_of ?_ rfl
      first | exact (zB_t (bIn_t (by omega) (show s ≤ σ 1 4 - 1 by omega))).symm | exact (zB_f (bIn_f (show s < 0 ∨ σ 1 4 - 1 < s by omega))).symm
    · refine r_iconst C dX4_has_12 ?_
      refine r_goto (tgt := 17) C (by decide) dX4_has_13 ?_
      refine r_zreturn C rfl (by first | exact Or.inl rfl | exact Or.inr rfl) ?_ dX4_has_17
      refine pv_of ?_ rfl
      first | exact (zB_t (bIn_t (by omega) (show s ≤ σ 1 4 - 1 by omega))).symm | exact (zB_f (bIn_f (show s < 0 ∨ σ 1 4 - 1 < s by omega))).symm
