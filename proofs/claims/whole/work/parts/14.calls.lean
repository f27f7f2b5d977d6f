theorem pX_of {S : sR} {v : Int} {τ a : pw_H} (h : S = (v, a)) (h2 : vX τ = a) : pX S (some (vI v)) τ := by rw [h]; exact ⟨rfl, h2⟩
theorem vX_star (σ : pw_H) (n x w m b z : Int) : vX (pw_u (pw_u (pw_u (pw_u (pw_u σ 6 n x) 7 n w) 8 n m) 9 n b) 1 4 z) = pw_u (pw_u (pw_u (pw_u (pw_u (vX σ) 1 n x) 2 n w) 3 n m) 4 n b) 0 0 z := by
  funext k j
  match k with
  | 0 => by_cases h : j = 0 <;> by_cases h2 : j = 1 <;> by_cases h3 : j = 2 <;> simp [vX, pw_u, h, h2, h3]
  | 1 => simp [vX, pw_u]
  | 2 => simp [vX, pw_u]
  | 3 => simp [vX, pw_u]
  | 4 => simp [vX, pw_u]
  | 5 => simp [vX, pw_u]
  | 6 => simp [vX, pw_u]
  | 7 => simp [vX, pw_u]
  | k + 8 => simp [vX, pw_u]
theorem vX_limit (σ : pw_H) (z : Int) : vX (pw_u σ 1 5 z) = pw_u (vX σ) 0 1 z := by
  funext k j
  match k with
  | 0 => by_cases h : j = 0 <;> by_cases h2 : j = 1 <;> by_cases h3 : j = 2 <;> simp [vX, pw_u, h, h2, h3]
  | 1 => simp [vX, pw_u]
  | 2 => simp [vX, pw_u]
  | 3 => simp [vX, pw_u]
  | 4 => simp [vX, pw_u]
  | 5 => simp [vX, pw_u]
  | 6 => simp [vX, pw_u]
  | 7 => simp [vX, pw_u]
  | k + 8 => simp [vX, pw_u]
theorem vX_list (σ : pw_H) (z : Int) : vX (pw_u σ 2 1 z) = pw_u (vX σ) 0 2 z := by
  funext k j
  match k with
  | 0 => by_cases h : j = 0 <;> by_cases h2 : j = 1 <;> by_cases h3 : j = 2 <;> simp [vX, pw_u, h, h2, h3]
  | 1 => simp [vX, pw_u]
  | 2 => simp [vX, pw_u]
  | 3 => simp [vX, pw_u]
  | 4 => simp [vX, pw_u]
  | 5 => simp [vX, pw_u]
  | 6 => simp [vX, pw_u]
  | 7 => simp [vX, pw_u]
  | k + 8 => simp [vX, pw_u]
theorem vX_line (σ : pw_H) (t i x w z : Int) : vX (pw_u (pw_u (pw_u σ 10 t z) 11 i x) 12 i w) = pw_u (pw_u (pw_u (vX σ) 5 t z) 6 i x) 7 i w := by
  funext k j
  match k with
  | 0 => by_cases h : j = 0 <;> by_cases h2 : j = 1 <;> by_cases h3 : j = 2 <;> simp [vX, pw_u, h, h2, h3]
  | 1 => simp [vX, pw_u]
  | 2 => simp [vX, pw_u]
  | 3 => simp [vX, pw_u]
  | 4 => simp [vX, pw_u]
  | 5 => simp [vX, pw_u]
  | 6 => simp [vX, pw_u]
  | 7 => simp [vX, pw_u]
  | k + 8 => simp [vX, pw_u]
theorem vX_mend (σ : pw_H) (i x w : Int) : vX (pw_u (pw_u σ 11 i x) 12 i w) = pw_u (pw_u (vX σ) 6 i x) 7 i w := by
  funext k j
  match k with
  | 0 => by_cases h : j = 0 <;> by_cases h2 : j = 1 <;> by_cases h3 : j = 2 <;> simp [vX, pw_u, h, h2, h3]
  | 1 => simp [vX, pw_u]
  | 2 => simp [vX, pw_u]
  | 3 => simp [vX, pw_u]
  | 4 => simp [vX, pw_u]
  | 5 => simp [vX, pw_u]
  | 6 => simp [vX, pw_u]
  | 7 => simp [vX, pw_u]
  | k + 8 => simp [vX, pw_u]
set_option maxRecDepth 100000 in
theorem c_X5_star (l : Launch) (G : pw_G) (σ : pw_H) {x w m b : Int} (hI : Inv (vX σ)) (q_x : InI x) (q_w : InI w) (q_m : InI m) (q_b : InI b) : Ct l shX G mX5_star [.ref (G.2.1 0), vI x, vI w, vI m, vI b] σ (pX (s_star (vX σ) x w m b)) := by
  have h0 : 0 ≤ σ 1 4 ∧ σ 1 4 ≤ 8 := hI.1
  have h5 : 0 ≤ σ 1 5 ∧ σ 1 5 ≤ 6 := hI.2.1
  have h1 : 0 ≤ σ 2 1 ∧ σ 2 1 ≤ 6 := hI.2.2.1
  refine Ct_of (ls := [some (.ref (G.2.1 0)), some (vI x), some (vI w), some (vI m), some (vI b)]) (by decide +kernel) (Nat.le_of_ble_eq_true rfl) rfl (fun X C => ?_)
  refine r_iload_n C rfl dX5_star_0 ?_
  refine r_iload_n C rfl dX5_star_1 ?_
  refine r_callS (As := [_, _]) C (c_X5_isPlace _ _ _ (by omega) (by omega)) ok_X5_isPlace ln_X5_45 rfl rfl (Nat.le_of_ble_eq_true rfl) (Nat.le_of_ble_eq_true rfl) (Nat.le_of_ble_eq_true rfl) dX5_star_2 (fun v2 τ2 hq2 => ?_)
  obtain ⟨rfl, rfl⟩ := hq2
  refine r_ifB_ne (tgt := 11) C (by decide) dX5_star_5 (fun c5 => ?_) (fun c5 => ?_)
  · refine r_iload_n C rfl dX5_star_11 ?_
    refine r_bipush C (by decide +kernel) dX5_star_12 ?_
    refine r_bipush C (by decide +kernel) dX5_star_14 ?_
    refine r_callS (As := [_, _, _]) C (c_X5_isWithin _ _ _ (by omega) (by omega) (by omega)) ok_X5_isWithin ln_X5_49 rfl rfl (Nat.le_of_ble_eq_true rfl) (Nat.le_of_ble_eq_true rfl) (Nat.le_of_ble_eq_true rfl) dX5_star_16 (fun v16 τ16 hq16 => ?_)
    obtain ⟨rfl, rfl⟩ := hq16
    refine r_ifB_ne (tgt := 25) C (by decide) dX5_star_19 (fun c19 => ?_) (fun c19 => ?_)
    · refine r_iload C rfl dX5_star_25 ?_
      refine r_iconst C dX5_star_27 ?_
      refine r_bipush C (by decide +kernel) dX5_star_28 ?_
      refine r_callS (As := [_, _, _]) C (c_X5_isWithin _ _ _ (by omega) (by omega) (by omega)) ok_X5_isWithin ln_X5_49 rfl rfl (Nat.le_of_ble_eq_true rfl) (Nat.le_of_ble_eq_true rfl) (Nat.le_of_ble_eq_true rfl) dX5_star_30 (fun v30 τ30 hq30 => ?_)
      obtain ⟨rfl, rfl⟩ := hq30
      refine r_ifB_ne (tgt := 39) C (by decide) dX5_star_33 (fun c33 => ?_) (fun c33 => ?_)
      · refine r_aload_n C rfl dX5_star_39 ?_
        refine r_getR C 4 0 rfl rfl (by decide) rfl uw_X5 fl_X5_10 dX5_star_40 ?_
        refine r_getI (jz := 4) C 3 4 rfl rfl (by decide) rfl uw_X4 fl_X5_53 rfl dX5_star_43 ?_
        refine r_bipush C (by decide +kernel) dX5_star_46 ?_
        refine r_icmp_lt (tgt := 54) C (by decide) (by omega) (by omega) dX5_star_48 (fun c48 => ?_) (fun c48 => ?_)
        · refine r_aload_n C rfl dX5_star_54 ?_
          refine r_getR C 4 0 rfl rfl (by decide) rfl uw_X5 fl_X5_10 dX5_star_55 ?_
          refine r_iload_n C rfl dX5_star_58 ?_
          refine r_iload_n C rfl dX5_star_59 ?_
          refine r_iload_n C rfl dX5_star_60 ?_
          refine r_iload C rfl dX5_star_61 ?_
          refine r_callV (As := [_, _, _, _]) C (c_X4_add _ _ _ hI (by omega)) ok_X4_add ln_X5_57 rfl rfl rfl rfl (Nat.le_of_ble_eq_true rfl) (Nat.le_of_ble_eq_true rfl) (Nat.le_of_ble_eq_true rfl) dX5_star_63 (fun v63 τ63 hq63 => ?_)
          obtain ⟨rfl, rfl⟩ := hq63
          refine r_ireturn C rfl ?_ dX5_star_66
          exact pX_of (by rw [s_star, if_neg (by simp [c5, c19, c33]), if_neg (show ¬ vX σ 0 0 = 8 from (show ¬ σ 1 4 = 8 by omega))]; rfl) (vX_star σ _ _ _ _ _ _)
        · refine r_bipush C (by decide +kernel) dX5_star_51 ?_
          refine r_ireturn C rfl ?_ dX5_star_53
          exact pX_of (by rw [s_star, if_neg (by simp [c5, c19, c33]), if_pos (show vX σ 0 0 = 8 from (show σ 1 4 = 8 by omega))]) rfl
      · refine r_bipush C (by decide +kernel) dX5_star_36 ?_
        refine r_ireturn C rfl ?_ dX5_star_38
        exact pX_of (by simp [s_star, c5, c19, c33]) rfl
    · refine r_bipush C (by decide +kernel) dX5_star_22 ?_
      refine r_ireturn C rfl ?_ dX5_star_24
      exact pX_of (by simp [s_star, c5, c19]) rfl
  · refine r_bipush C (by decide +kernel) dX5_star_8 ?_
    refine r_ireturn C rfl ?_ dX5_star_10
    exact pX_of (by simp [s_star, c5]) rfl
set_option maxRecDepth 100000 in
theorem c_X5_sky (l : Launch) (G : pw_G) (σ : pw_H) {s y : Int} (hI : Inv (vX σ)) (q_s : InI s) (q_y : InI y) : Ct l shX G mX5_sky [.ref (G.2.1 0), vI s, vI y] σ (pX (s_sky (vX σ) s y)) := by
  have h0 : 0 ≤ σ 1 4 ∧ σ 1 4 ≤ 8 := hI.1
  have h5 : 0 ≤ σ 1 5 ∧ σ 1 5 ≤ 6 := hI.2.1
  have h1 : 0 ≤ σ 2 1 ∧ σ 2 1 ≤ 6 := hI.2.2.1
  refine Ct_of (ls := [some (.ref (G.2.1 0)), some (vI s), some (vI y)]) (by decide +kernel) (Nat.le_of_ble_eq_true rfl) rfl (fun X C => ?_)
  refine r_aload_n C rfl dX5_sky_0 ?_
  refine r_getR C 4 0 rfl rfl (by decide) rfl uw_X5 fl_X5_10 dX5_sky_1 ?_
  refine r_iload_n C rfl dX5_sky_4 ?_
  refine r_callV (As := [_]) C (c_X4_has _ _ _ (by omega) hI) ok_X4_has ln_X5_61 rfl rfl rfl rfl (Nat.le_of_ble_eq_true rfl) (Nat.le_of_ble_eq_true rfl) (Nat.le_of_ble_eq_true rfl) dX5_sky_5 (fun v5 τ5 hq5 => ?_)
  obtain ⟨rfl, rfl⟩ := hq5
  refine r_ifB_ne (tgt := 13) C (by decide) dX5_sky_8 (fun c8 => ?_) (fun c8 => ?_)
  · have h8 : 0 ≤ s ∧ s ≤ σ 1 4 - 1 := bStar_t c8
    refine r_iload_n C rfl dX5_sky_13 ?_
    refine r_callS (As := [_]) C (c_X5_isYear _ _ _ (by omega)) ok_X5_isYear ln_X5_65 rfl rfl (Nat.le_of_ble_eq_true rfl) (Nat.le_of_ble_eq_true rfl) (Nat.le_of_ble_eq_true rfl) dX5_sky_14 (fun v14 τ14 hq14 => ?_)
    obtain ⟨rfl, rfl⟩ := hq14
    refine r_ifB_ne (tgt := 23) C (by decide) dX5_sky_17 (fun c17 => ?_) (fun c17 => ?_)
    · have h9 := bIn_iff.mp c17
      refine r_aload_n C rfl dX5_sky_23 ?_
      refine r_getR C 4 0 rfl rfl (by decide) rfl uw_X5 fl_X5_10 dX5_sky_24 ?_
      refine r_iload_n C rfl dX5_sky_27 ?_
      refine r_iload_n C rfl dX5_sky_28 ?_
      refine r_callV (As := [_, _]) C (c_X4_longIn _ _ _ hI (by omega) (by omega)) ok_X4_longIn ln_X5_68 rfl rfl rfl rfl (Nat.le_of_ble_eq_true rfl) (Nat.le_of_ble_eq_true rfl) (Nat.le_of_ble_eq_true rfl) dX5_sky_29 (fun v29 τ29 hq29 => ?_)
      obtain ⟨rfl, rfl⟩ := hq29
      refine r_ireturn C rfl ?_ dX5_sky_32
      exact pX_of (by simp [s_sky, *]) rfl
    · refine r_bipush C (by decide +kernel) dX5_sky_20 ?_
      refine r_ireturn C rfl ?_ dX5_sky_22
      exact pX_of (by simp [s_sky, *]) rfl
  · refine r_iconst C dX5_sky_11 ?_
    refine r_ireturn C rfl ?_ dX5_sky_12
    exact pX_of (by simp [s_sky, *]) rfl
set_option maxRecDepth 100000 in
theorem c_X5_about (l : Launch) (G : pw_G) (σ : pw_H) {s w : Int} (hI : Inv (vX σ)) (q_s : InI s) (q_w : InI w) : Ct l shX G mX5_about [.ref (G.2.1 0), vI s, vI w] σ (pX (s_about (vX σ) s w)) := by
  have h0 : 0 ≤ σ 1 4 ∧ σ 1 4 ≤ 8 := hI.1
  have h5 : 0 ≤ σ 1 5 ∧ σ 1 5 ≤ 6 := hI.2.1
  have h1 : 0 ≤ σ 2 1 ∧ σ 2 1 ≤ 6 := hI.2.2.1
  refine Ct_of (ls := [some (.ref (G.2.1 0)), some (vI s), some (vI w)]) (by decide +kernel) (Nat.le_of_ble_eq_true rfl) rfl (fun X C => ?_)
  refine r_aload_n C rfl dX5_about_0 ?_
  refine r_getR C 4 0 rfl rfl (by decide) rfl uw_X5 fl_X5_10 dX5_about_1 ?_
  refine r_iload_n C rfl dX5_about_4 ?_
  refine r_callV (As := [_]) C (c_X4_has _ _ _ (by omega) hI) ok_X4_has ln_X5_61 rfl rfl rfl rfl (Nat.le_of_ble_eq_true rfl) (Nat.le_of_ble_eq_true rfl) (Nat.le_of_ble_eq_true rfl) dX5_about_5 (fun v5 τ5 hq5 => ?_)
  obtain ⟨rfl, rfl⟩ := hq5
  refine r_ifB_ne (tgt := 13) C (by decide) dX5_about_8 (fun c8 => ?_) (fun c8 => ?_)
  · have h8 : 0 ≤ s ∧ s ≤ σ 1 4 - 1 := bStar_t c8
    refine r_iload_n C rfl dX5_about_13 ?_
    by_cases w14 : w < 0 ∨ 3 < w
    · refine r_tableOut (tgt := 88) C (by omega) w14 (by decide) dX5_about_14 ?_
      refine r_bipush C (by decide +kernel) dX5_about_88 ?_
      refine r_ireturn C rfl ?_ dX5_about_90
      exact pX_of (by rw [s_about, if_neg (by simp [c8]), if_neg (by omega), if_neg (by omega), if_neg (by omega), if_neg (by omega)]) rfl
    · rcases (show w = 0 ∨ w = 1 ∨ w = 2 ∨ w = 3 by omega) with e14 | e14 | e14 | e14
      · refine r_tableIn (off := 30) (tgt := 44) C (by omega) (by omega) (by omega) (by rw [e14]; rfl) (by decide) dX5_about_14 ?_
        refine r_aload_n C rfl dX5_about_44 ?_
        refine r_getR C 4 0 rfl rfl (by decide) rfl uw_X5 fl_X5_10 dX5_about_45 ?_
        refine r_getR C 3 0 rfl rfl (by decide) rfl uw_X4 fl_X5_72 dX5_about_48 ?_
        refine r_iload_n C rfl dX5_about_51 ?_
        refine r_iaload C rfl (by decide) (by omega) dX5_about_52 ?_
        refine r_ireturn C rfl ?_ dX5_about_53
        exact pX_of (by simp [s_about, *]; rfl) rfl
      · refine r_tableIn (off := 40) (tgt := 54) C (by omega) (by omega) (by omega) (by rw [e14]; rfl) (by decide) dX5_about_14 ?_
        refine r_aload_n C rfl dX5_about_54 ?_
        refine r_getR C 4 0 rfl rfl (by decide) rfl uw_X5 fl_X5_10 dX5_about_55 ?_
        refine r_getR C 3 2 rfl rfl (by decide) rfl uw_X4 fl_X5_75 dX5_about_58 ?_
        refine r_iload_n C rfl dX5_about_61 ?_
        refine r_iaload C rfl (by decide) (by omega) dX5_about_62 ?_
        refine r_ireturn C rfl ?_ dX5_about_63
        exact pX_of (by simp [s_about, *]; rfl) rfl
      · refine r_tableIn (off := 50) (tgt := 64) C (by omega) (by omega) (by omega) (by rw [e14]; rfl) (by decide) dX5_about_14 ?_
        refine r_aload_n C rfl dX5_about_64 ?_
        refine r_getR C 4 0 rfl rfl (by decide) rfl uw_X5 fl_X5_10 dX5_about_65 ?_
        refine r_getR C 3 3 rfl rfl (by decide) rfl uw_X4 fl_X5_78 dX5_about_68 ?_
        refine r_iload_n C rfl dX5_about_71 ?_
        refine r_iaload C rfl (by decide) (by omega) dX5_about_72 ?_
        refine r_ireturn C rfl ?_ dX5_about_73
        exact pX_of (by simp [s_about, *]; rfl) rfl
      · refine r_tableIn (off := 60) (tgt := 74) C (by omega) (by omega) (by omega) (by rw [e14]; rfl) (by decide) dX5_about_14 ?_
        refine r_aload_n C rfl dX5_about_74 ?_
        refine r_getR C 4 0 rfl rfl (by decide) rfl uw_X5 fl_X5_10 dX5_about_75 ?_
        refine r_getR C 3 1 rfl rfl (by decide) rfl uw_X4 fl_X5_81 dX5_about_78 ?_
        refine r_iload_n C rfl dX5_about_81 ?_
        refine r_iaload C rfl (by decide) (by omega) dX5_about_82 ?_
        refine r_sipush C (by decide +kernel) dX5_about_83 ?_
        refine r_iadd C dX5_about_86 ?_
        refine r_ireturn C rfl ?_ dX5_about_87
        exact pX_of (by simp [s_about, *]; rfl) rfl
  · refine r_iconst C dX5_about_11 ?_
    refine r_ireturn C rfl ?_ dX5_about_12
    exact pX_of (by simp [s_about, *]) rfl
set_option maxRecDepth 100000 in
theorem c_X5_limit (l : Launch) (G : pw_G) (σ : pw_H) {n : Int} (hI : Inv (vX σ)) (q_n : InI n) : Ct l shX G mX5_limit [.ref (G.2.1 0), vI n] σ (pX (s_limit (vX σ) n)) := by
  have h0 : 0 ≤ σ 1 4 ∧ σ 1 4 ≤ 8 := hI.1
  have h5 : 0 ≤ σ 1 5 ∧ σ 1 5 ≤ 6 := hI.2.1
  have h1 : 0 ≤ σ 2 1 ∧ σ 2 1 ≤ 6 := hI.2.2.1
  refine Ct_of (ls := [some (.ref (G.2.1 0)), some (vI n), none]) (by decide +kernel) (Nat.le_of_ble_eq_true rfl) rfl (fun X C => ?_)
  refine r_iload_n C rfl dX5_limit_0 ?_
  refine r_iconst C dX5_limit_1 ?_
  refine r_bipush C (by decide +kernel) dX5_limit_2 ?_
  refine r_callS (As := [_, _, _]) C (c_X5_isWithin _ _ _ (by omega) (by omega) (by omega)) ok_X5_isWithin ln_X5_49 rfl rfl (Nat.le_of_ble_eq_true rfl) (Nat.le_of_ble_eq_true rfl) (Nat.le_of_ble_eq_true rfl) dX5_limit_4 (fun v4 τ4 hq4 => ?_)
  obtain ⟨rfl, rfl⟩ := hq4
  refine r_ifB_ne (tgt := 13) C (by decide) dX5_limit_7 (fun c7 => ?_) (fun c7 => ?_)
  · refine r_aload_n C rfl dX5_limit_13 ?_
    refine r_getR C 4 0 rfl rfl (by decide) rfl uw_X5 fl_X5_10 dX5_limit_14 ?_
    refine r_getI (jz := 5) C 3 5 rfl rfl (by decide) rfl uw_X4 fl_X5_84 rfl dX5_limit_17 ?_
    refine r_istore_n (ls' := [_, _, _]) C (by decide) rfl rfl dX5_limit_20 ?_
    refine r_aload_n C rfl dX5_limit_21 ?_
    refine r_getR C 4 0 rfl rfl (by decide) rfl uw_X5 fl_X5_10 dX5_limit_22 ?_
    refine r_iload_n C rfl dX5_limit_25 ?_
    refine r_putI (jz := 5) C 3 5 tyX4 tyX4_ok nmX4 rfl rfl (by decide) rfl uw_X4 fl_X5_84 rfl rfl rfl dX5_limit_26 ?_
    refine r_iload_n C rfl dX5_limit_29 ?_
    refine r_ireturn C rfl ?_ dX5_limit_30
    exact pX_of (by simp [s_limit, *]; rfl) (vX_limit σ _)
  · refine r_bipush C (by decide +kernel) dX5_limit_10 ?_
    refine r_ireturn C rfl ?_ dX5_limit_12
    exact pX_of (by simp [s_limit, *]) rfl
set_option maxRecDepth 100000 in
theorem c_X5_way (l : Launch) (G : pw_G) (σ : pw_H) {f t : Int} (hI : Inv (vX σ)) (q_f : InI f) (q_t : InI t) : Ct l shX G mX5_way [.ref (G.2.1 0), vI f, vI t] σ (pX (s_way (vX σ) f t)) := by
  have h0 : 0 ≤ σ 1 4 ∧ σ 1 4 ≤ 8 := hI.1
  have h5 : 0 ≤ σ 1 5 ∧ σ 1 5 ≤ 6 := hI.2.1
  have h1 : 0 ≤ σ 2 1 ∧ σ 2 1 ≤ 6 := hI.2.2.1
  refine Ct_of (ls := [some (.ref (G.2.1 0)), some (vI f), some (vI t)]) (by decide +kernel) (Nat.le_of_ble_eq_true rfl) rfl (fun X C => ?_)
  refine r_iload_n C rfl dX5_way_0 ?_
  refine r_callS (As := [_]) C (c_X5_isLong _ _ _ (by omega)) ok_X5_isLong ln_X5_87 rfl rfl (Nat.le_of_ble_eq_true rfl) (Nat.le_of_ble_eq_true rfl) (Nat.le_of_ble_eq_true rfl) dX5_way_1 (fun v1 τ1 hq1 => ?_)
  obtain ⟨rfl, rfl⟩ := hq1
  refine r_ifB_eq (tgt := 14) C (by decide) dX5_way_4 (fun c4 => ?_) (fun c4 => ?_)
  · refine r_bipush C (by decide +kernel) dX5_way_14 ?_
    refine r_ireturn C rfl ?_ dX5_way_16
    exact pX_of (by simp [s_way, *]) rfl
  · refine r_iload_n C rfl dX5_way_7 ?_
    refine r_callS (As := [_]) C (c_X5_isLong _ _ _ (by omega)) ok_X5_isLong ln_X5_87 rfl rfl (Nat.le_of_ble_eq_true rfl) (Nat.le_of_ble_eq_true rfl) (Nat.le_of_ble_eq_true rfl) dX5_way_8 (fun v8 τ8 hq8 => ?_)
    obtain ⟨rfl, rfl⟩ := hq8
    refine r_ifB_ne (tgt := 17) C (by decide) dX5_way_11 (fun c11 => ?_) (fun c11 => ?_)
    · refine r_iload_n C rfl dX5_way_17 ?_
      refine r_iload_n C rfl dX5_way_18 ?_
      refine r_callS (As := [_, _]) C (c_X5_leads _ _ _ (by have := bIn_iff.mp ‹bIn f 0 21599 = true›; omega) (by have := bIn_iff.mp ‹bIn t 0 21599 = true›; omega)) ok_X5_leads ln_X5_90 rfl rfl (Nat.le_of_ble_eq_true rfl) (Nat.le_of_ble_eq_true rfl) (Nat.le_of_ble_eq_true rfl) dX5_way_19 (fun v19 τ19 hq19 => ?_)
      obtain ⟨rfl, rfl⟩ := hq19
      refine r_sipush C (by decide +kernel) dX5_way_22 ?_
      refine r_iadd C dX5_way_25 ?_
      refine r_ireturn C rfl ?_ dX5_way_26
      exact pX_of (by simp [s_way, *]) rfl
    · refine r_bipush C (by decide +kernel) dX5_way_14 ?_
      refine r_ireturn C rfl ?_ dX5_way_16
      exact pX_of (by simp [s_way, *]) rfl
set_option maxRecDepth 100000 in
theorem c_X5_list (l : Launch) (G : pw_G) (σ : pw_H) (hI : Inv (vX σ))  : Ct l shX G mX5_list [.ref (G.2.1 0)] σ (pX (s_list (vX σ) )) := by
  have h0 : 0 ≤ σ 1 4 ∧ σ 1 4 ≤ 8 := hI.1
  have h5 : 0 ≤ σ 1 5 ∧ σ 1 5 ≤ 6 := hI.2.1
  have h1 : 0 ≤ σ 2 1 ∧ σ 2 1 ≤ 6 := hI.2.2.1
  refine Ct_of (ls := [some (.ref (G.2.1 0))]) (by decide +kernel) (Nat.le_of_ble_eq_true rfl) rfl (fun X C => ?_)
  refine r_aload_n C rfl dX5_list_0 ?_
  refine r_getR C 4 1 rfl rfl (by decide) rfl uw_X5 fl_X5_19 dX5_list_1 ?_
  refine r_getI (jz := 1) C 2 1 rfl rfl (by decide) rfl uw_X2 fl_X5_93 rfl dX5_list_4 ?_
  refine r_bipush C (by decide +kernel) dX5_list_7 ?_
  refine r_icmp_lt (tgt := 15) C (by decide) (by omega) (by omega) dX5_list_9 (fun c9 => ?_) (fun c9 => ?_)
  · refine r_aload_n C rfl dX5_list_15 ?_
    refine r_getR C 4 1 rfl rfl (by decide) rfl uw_X5 fl_X5_19 dX5_list_16 ?_
    refine r_callV (As := []) C (c_X2_open _ _ _) ok_X2_open ln_X5_94 rfl rfl rfl rfl (Nat.le_of_ble_eq_true rfl) (Nat.le_of_ble_eq_true rfl) (Nat.le_of_ble_eq_true rfl) dX5_list_19 (fun v19 τ19 hq19 => ?_)
    obtain ⟨rfl, rfl⟩ := hq19
    refine r_ireturn C rfl ?_ dX5_list_22
    exact pX_of (by rw [s_list, if_neg (show ¬ vX σ 0 2 = 6 from (show ¬ σ 2 1 = 6 by omega))]; rfl) (vX_list σ _)
  · refine r_bipush C (by decide +kernel) dX5_list_12 ?_
    refine r_ireturn C rfl ?_ dX5_list_14
    exact pX_of (by rw [s_list, if_pos (show vX σ 0 2 = 6 from (show σ 2 1 = 6 by omega))]) rfl
set_option maxRecDepth 100000 in
theorem c_X5_line (l : Launch) (G : pw_G) (σ : pw_H) {t x w : Int} (hI : Inv (vX σ)) (q_t : InI t) (q_x : InI x) (q_w : InI w) : Ct l shX G mX5_line [.ref (G.2.1 0), vI t, vI x, vI w] σ (pX (s_line (vX σ) t x w)) := by
  have h0 : 0 ≤ σ 1 4 ∧ σ 1 4 ≤ 8 := hI.1
  have h5 : 0 ≤ σ 1 5 ∧ σ 1 5 ≤ 6 := hI.2.1
  have h1 : 0 ≤ σ 2 1 ∧ σ 2 1 ≤ 6 := hI.2.2.1
  refine Ct_of (ls := [some (.ref (G.2.1 0)), some (vI t), some (vI x), some (vI w)]) (by decide +kernel) (Nat.le_of_ble_eq_true rfl) rfl (fun X C => ?_)
  refine r_aload_n C rfl dX5_line_0 ?_
  refine r_getR C 4 1 rfl rfl (by decide) rfl uw_X5 fl_X5_19 dX5_line_1 ?_
  refine r_iload_n C rfl dX5_line_4 ?_
  refine r_callV (As := [_]) C (c_X2_has _ _ _ (by omega) hI) ok_X2_has ln_X5_98 rfl rfl rfl rfl (Nat.le_of_ble_eq_true rfl) (Nat.le_of_ble_eq_true rfl) (Nat.le_of_ble_eq_true rfl) dX5_line_5 (fun v5 τ5 hq5 => ?_)
  obtain ⟨rfl, rfl⟩ := hq5
  refine r_ifB_ne (tgt := 13) C (by decide) dX5_line_8 (fun c8 => ?_) (fun c8 => ?_)
  · have h8 : 0 ≤ t ∧ t ≤ σ 2 1 - 1 := bList_t c8
    have h9 : 0 ≤ σ 10 t ∧ σ 10 t ≤ 8 := hI.2.2.2.2.2.2.2.1 t
    refine r_iload_n C rfl dX5_line_13 ?_
    refine r_iload_n C rfl dX5_line_14 ?_
    refine r_callS (As := [_, _]) C (c_X5_isPlace _ _ _ (by omega) (by omega)) ok_X5_isPlace ln_X5_45 rfl rfl (Nat.le_of_ble_eq_true rfl) (Nat.le_of_ble_eq_true rfl) (Nat.le_of_ble_eq_true rfl) dX5_line_15 (fun v15 τ15 hq15 => ?_)
    obtain ⟨rfl, rfl⟩ := hq15
    refine r_ifB_ne (tgt := 24) C (by decide) dX5_line_18 (fun c18 => ?_) (fun c18 => ?_)
    · refine r_aload_n C rfl dX5_line_24 ?_
      refine r_getR C 4 1 rfl rfl (by decide) rfl uw_X5 fl_X5_19 dX5_line_25 ?_
      refine r_getR C 2 0 rfl rfl (by decide) rfl uw_X2 fl_X5_99 dX5_line_28 ?_
      refine r_iload_n C rfl dX5_line_31 ?_
      refine r_iaload C rfl (by decide) (by omega) dX5_line_32 ?_
      refine r_bipush C (by decide +kernel) dX5_line_33 ?_
      refine r_icmp_lt (tgt := 41) C (by decide) (by omega) (by omega) dX5_line_35 (fun c35 => ?_) (fun c35 => ?_)
      · refine r_aload_n C rfl dX5_line_41 ?_
        refine r_getR C 4 1 rfl rfl (by decide) rfl uw_X5 fl_X5_19 dX5_line_42 ?_
        refine r_iload_n C rfl dX5_line_45 ?_
        refine r_iload_n C rfl dX5_line_46 ?_
        refine r_iload_n C rfl dX5_line_47 ?_
        refine r_callV (As := [_, _, _]) C (c_X2_add _ _ _ (by omega) (by omega)) ok_X2_add ln_X5_102 rfl rfl rfl rfl (Nat.le_of_ble_eq_true rfl) (Nat.le_of_ble_eq_true rfl) (Nat.le_of_ble_eq_true rfl) dX5_line_48 (fun v48 τ48 hq48 => ?_)
        obtain ⟨rfl, rfl⟩ := hq48
        refine r_ireturn C rfl ?_ dX5_line_51
        exact pX_of (by rw [s_line, if_neg (by simp [c8]), if_neg (by simp [c18]), if_neg (show ¬ vX σ 5 t = 8 from (show ¬ σ 10 t = 8 by omega))]; rfl) (vX_line σ _ _ _ _ _)
      · refine r_bipush C (by decide +kernel) dX5_line_38 ?_
        refine r_ireturn C rfl ?_ dX5_line_40
        exact pX_of (by rw [s_line, if_neg (by simp [c8]), if_neg (by simp [c18]), if_pos (show vX σ 5 t = 8 from (show σ 10 t = 8 by omega))]) rfl
    · refine r_bipush C (by decide +kernel) dX5_line_21 ?_
      refine r_ireturn C rfl ?_ dX5_line_23
      exact pX_of (by simp [s_line, *]) rfl
  · refine r_iconst C dX5_line_11 ?_
    refine r_ireturn C rfl ?_ dX5_line_12
    exact pX_of (by simp [s_line, *]) rfl
set_option maxRecDepth 100000 in
theorem c_X5_written (l : Launch) (G : pw_G) (σ : pw_H) {t i w : Int} (hI : Inv (vX σ)) (q_t : InI t) (q_i : InI i) (q_w : InI w) : Ct l shX G mX5_written [.ref (G.2.1 0), vI t, vI i, vI w] σ (pX (s_written (vX σ) t i w)) := by
  have h0 : 0 ≤ σ 1 4 ∧ σ 1 4 ≤ 8 := hI.1
  have h5 : 0 ≤ σ 1 5 ∧ σ 1 5 ≤ 6 := hI.2.1
  have h1 : 0 ≤ σ 2 1 ∧ σ 2 1 ≤ 6 := hI.2.2.1
  refine Ct_of (ls := [some (.ref (G.2.1 0)), some (vI t), some (vI i), some (vI w)]) (by decide +kernel) (Nat.le_of_ble_eq_true rfl) rfl (fun X C => ?_)
  refine r_aload_n C rfl dX5_written_0 ?_
  refine r_getR C 4 1 rfl rfl (by decide) rfl uw_X5 fl_X5_19 dX5_written_1 ?_
  refine r_iload_n C rfl dX5_written_4 ?_
  refine r_iload_n C rfl dX5_written_5 ?_
  refine r_callV (As := [_, _]) C (c_X2_hasLine _ _ _ (by omega) (by omega) hI) ok_X2_hasLine ln_X5_105 rfl rfl rfl rfl (Nat.le_of_ble_eq_true rfl) (Nat.le_of_ble_eq_true rfl) (Nat.le_of_ble_eq_true rfl) dX5_written_6 (fun v6 τ6 hq6 => ?_)
  obtain ⟨rfl, rfl⟩ := hq6
  refine r_ifB_ne (tgt := 14) C (by decide) dX5_written_9 (fun c9 => ?_) (fun c9 => ?_)
  · have h8 : (0 ≤ t ∧ t ≤ σ 2 1 - 1) ∧ 0 ≤ i ∧ i ≤ σ 10 t - 1 := bLine_t c9
    have h9 : 0 ≤ σ 10 t ∧ σ 10 t ≤ 8 := hI.2.2.2.2.2.2.2.1 t
    refine r_iload_n C rfl dX5_written_14 ?_
    by_cases w15_0 : w = 0
    · refine r_lookup (off := 25) (tgt := 40) C (by omega) (by decide) (by rw [w15_0]; decide +kernel) (by decide) dX5_written_15 ?_
      refine r_aload_n C rfl dX5_written_40 ?_
      refine r_getR C 4 1 rfl rfl (by decide) rfl uw_X5 fl_X5_19 dX5_written_41 ?_
      refine r_iload_n C rfl dX5_written_44 ?_
      refine r_iload_n C rfl dX5_written_45 ?_
      refine r_callV (As := [_, _]) C (c_X2_longOf _ _ _ (by omega) (by omega)) ok_X2_longOf ln_X5_108 rfl rfl rfl rfl (Nat.le_of_ble_eq_true rfl) (Nat.le_of_ble_eq_true rfl) (Nat.le_of_ble_eq_true rfl) dX5_written_46 (fun v46 τ46 hq46 => ?_)
      obtain ⟨rfl, rfl⟩ := hq46
      refine r_ireturn C rfl ?_ dX5_written_49
      exact pX_of (by simp [s_written, *]; rfl) rfl
    by_cases w15_1 : w = 1
    · refine r_lookup (off := 35) (tgt := 50) C (by omega) (by decide) (by rw [w15_1]; decide +kernel) (by decide) dX5_written_15 ?_
      refine r_aload_n C rfl dX5_written_50 ?_
      refine r_getR C 4 1 rfl rfl (by decide) rfl uw_X5 fl_X5_19 dX5_written_51 ?_
      refine r_iload_n C rfl dX5_written_54 ?_
      refine r_iload_n C rfl dX5_written_55 ?_
      refine r_callV (As := [_, _]) C (c_X2_wideOf _ _ _ (by omega) (by omega)) ok_X2_wideOf ln_X5_111 rfl rfl rfl rfl (Nat.le_of_ble_eq_true rfl) (Nat.le_of_ble_eq_true rfl) (Nat.le_of_ble_eq_true rfl) dX5_written_56 (fun v56 τ56 hq56 => ?_)
      obtain ⟨rfl, rfl⟩ := hq56
      refine r_sipush C (by decide +kernel) dX5_written_59 ?_
      refine r_iadd C dX5_written_62 ?_
      refine r_ireturn C rfl ?_ dX5_written_63
      exact pX_of (by simp [s_written, *]; rfl) rfl
    refine r_lookup (off := 49) (tgt := 64) C (by omega) (by decide) (by simp [Op.lookupswitch.offset, show ¬ (0 : Int) = w from fun q => w15_0 q.symm, show ¬ (1 : Int) = w from fun q => w15_1 q.symm]) (by decide) dX5_written_15 ?_
    refine r_bipush C (by decide +kernel) dX5_written_64 ?_
    refine r_ireturn C rfl ?_ dX5_written_66
    exact pX_of (by simp [s_written, *]) rfl
  · refine r_iconst C dX5_written_12 ?_
    refine r_ireturn C rfl ?_ dX5_written_13
    exact pX_of (by simp [s_written, *]) rfl
set_option maxRecDepth 100000 in
theorem c_X5_mend (l : Launch) (G : pw_G) (σ : pw_H) {t i x w : Int} (hI : Inv (vX σ)) (q_t : InI t) (q_i : InI i) (q_x : InI x) (q_w : InI w) : Ct l shX G mX5_mend [.ref (G.2.1 0), vI t, vI i, vI x, vI w] σ (pX (s_mend (vX σ) t i x w)) := by
  have h0 : 0 ≤ σ 1 4 ∧ σ 1 4 ≤ 8 := hI.1
  have h5 : 0 ≤ σ 1 5 ∧ σ 1 5 ≤ 6 := hI.2.1
  have h1 : 0 ≤ σ 2 1 ∧ σ 2 1 ≤ 6 := hI.2.2.1
  refine Ct_of (ls := [some (.ref (G.2.1 0)), some (vI t), some (vI i), some (vI x), some (vI w), none]) (by decide +kernel) (Nat.le_of_ble_eq_true rfl) rfl (fun X C => ?_)
  refine r_aload_n C rfl dX5_mend_0 ?_
  refine r_getR C 4 1 rfl rfl (by decide) rfl uw_X5 fl_X5_19 dX5_mend_1 ?_
  refine r_iload_n C rfl dX5_mend_4 ?_
  refine r_iload_n C rfl dX5_mend_5 ?_
  refine r_callV (As := [_, _]) C (c_X2_hasLine _ _ _ (by omega) (by omega) hI) ok_X2_hasLine ln_X5_105 rfl rfl rfl rfl (Nat.le_of_ble_eq_true rfl) (Nat.le_of_ble_eq_true rfl) (Nat.le_of_ble_eq_true rfl) dX5_mend_6 (fun v6 τ6 hq6 => ?_)
  obtain ⟨rfl, rfl⟩ := hq6
  refine r_ifB_ne (tgt := 14) C (by decide) dX5_mend_9 (fun c9 => ?_) (fun c9 => ?_)
  · have h8 : (0 ≤ t ∧ t ≤ σ 2 1 - 1) ∧ 0 ≤ i ∧ i ≤ σ 10 t - 1 := bLine_t c9
    have h9 : 0 ≤ σ 10 t ∧ σ 10 t ≤ 8 := hI.2.2.2.2.2.2.2.1 t
    refine r_iload_n C rfl dX5_mend_14 ?_
    refine r_iload C rfl dX5_mend_15 ?_
    refine r_callS (As := [_, _]) C (c_X5_isPlace _ _ _ (by omega) (by omega)) ok_X5_isPlace ln_X5_45 rfl rfl (Nat.le_of_ble_eq_true rfl) (Nat.le_of_ble_eq_true rfl) (Nat.le_of_ble_eq_true rfl) dX5_mend_17 (fun v17 τ17 hq17 => ?_)
    obtain ⟨rfl, rfl⟩ := hq17
    refine r_ifB_ne (tgt := 26) C (by decide) dX5_mend_20 (fun c20 => ?_) (fun c20 => ?_)
    · refine r_aload_n C rfl dX5_mend_26 ?_
      refine r_getR C 4 1 rfl rfl (by decide) rfl uw_X5 fl_X5_19 dX5_mend_27 ?_
      refine r_iload_n C rfl dX5_mend_30 ?_
      refine r_iload_n C rfl dX5_mend_31 ?_
      refine r_callV (As := [_, _]) C (c_X2_longOf _ _ _ (by omega) (by omega)) ok_X2_longOf ln_X5_108 rfl rfl rfl rfl (Nat.le_of_ble_eq_true rfl) (Nat.le_of_ble_eq_true rfl) (Nat.le_of_ble_eq_true rfl) dX5_mend_32 (fun v32 τ32 hq32 => ?_)
      obtain ⟨rfl, rfl⟩ := hq32
      refine r_istore (ls' := [_, _, _, _, _, _]) C (by decide) rfl rfl dX5_mend_35 ?_
      refine r_aload_n C rfl dX5_mend_37 ?_
      refine r_getR C 4 1 rfl rfl (by decide) rfl uw_X5 fl_X5_19 dX5_mend_38 ?_
      refine r_iload_n C rfl dX5_mend_41 ?_
      refine r_iload_n C rfl dX5_mend_42 ?_
      refine r_iload_n C rfl dX5_mend_43 ?_
      refine r_iload C rfl dX5_mend_44 ?_
      refine r_callV (As := [_, _, _, _]) C (c_X2_write _ _ _ (by omega) (by omega)) ok_X2_write ln_X5_114 rfl rfl rfl rfl (Nat.le_of_ble_eq_true rfl) (Nat.le_of_ble_eq_true rfl) (Nat.le_of_ble_eq_true rfl) dX5_mend_46 (fun v46 τ46 hq46 => ?_)
      obtain ⟨rfl, rfl⟩ := hq46
      refine r_iload C rfl dX5_mend_49 ?_
      refine r_ireturn C rfl ?_ dX5_mend_51
      exact pX_of (by simp [s_mend, *]; rfl) (vX_mend σ _ _ _)
    · refine r_bipush C (by decide +kernel) dX5_mend_23 ?_
      refine r_ireturn C rfl ?_ dX5_mend_25
      exact pX_of (by simp [s_mend, *]) rfl
  · refine r_iconst C dX5_mend_12 ?_
    refine r_ireturn C rfl ?_ dX5_mend_13
    exact pX_of (by simp [s_mend, *]) rfl
set_option maxRecDepth 100000 in
theorem c_X5_slip (l : Launch) (G : pw_G) (σ : pw_H) {t i s y h : Int} (hI : Inv (vX σ)) (q_t : InI t) (q_i : InI i) (q_s : InI s) (q_y : InI y) (q_h : InI h) : Ct l shX G mX5_slip [.ref (G.2.1 0), vI t, vI i, vI s, vI y, vI h] σ (pX (s_slip (vX σ) t i s y h)) := by
  have h0 : 0 ≤ σ 1 4 ∧ σ 1 4 ≤ 8 := hI.1
  have h5 : 0 ≤ σ 1 5 ∧ σ 1 5 ≤ 6 := hI.2.1
  have h1 : 0 ≤ σ 2 1 ∧ σ 2 1 ≤ 6 := hI.2.2.1
  refine Ct_of (ls := [some (.ref (G.2.1 0)), some (vI t), some (vI i), some (vI s), some (vI y), some (vI h), none]) (by decide +kernel) (Nat.le_of_ble_eq_true rfl) rfl (fun X C => ?_)
  refine r_aload_n C rfl dX5_slip_0 ?_
  refine r_getR C 4 1 rfl rfl (by decide) rfl uw_X5 fl_X5_19 dX5_slip_1 ?_
  refine r_iload_n C rfl dX5_slip_4 ?_
  refine r_iload_n C rfl dX5_slip_5 ?_
  refine r_callV (As := [_, _]) C (c_X2_hasLine _ _ _ (by omega) (by omega) hI) ok_X2_hasLine ln_X5_105 rfl rfl rfl rfl (Nat.le_of_ble_eq_true rfl) (Nat.le_of_ble_eq_true rfl) (Nat.le_of_ble_eq_true rfl) dX5_slip_6 (fun v6 τ6 hq6 => ?_)
  obtain ⟨rfl, rfl⟩ := hq6
  refine r_ifB_eq (tgt := 23) C (by decide) dX5_slip_9 (fun c9 => ?_) (fun c9 => ?_)
  · refine r_iconst C dX5_slip_23 ?_
    refine r_ireturn C rfl ?_ dX5_slip_24
    exact pX_of (by simp [s_slip, *]) rfl
  · have h8 : (0 ≤ t ∧ t ≤ σ 2 1 - 1) ∧ 0 ≤ i ∧ i ≤ σ 10 t - 1 := bLine_t c9
    have h9 : 0 ≤ σ 10 t ∧ σ 10 t ≤ 8 := hI.2.2.2.2.2.2.2.1 t
    refine r_aload_n C rfl dX5_slip_12 ?_
    refine r_getR C 4 0 rfl rfl (by decide) rfl uw_X5 fl_X5_10 dX5_slip_13 ?_
    refine r_iload_n C rfl dX5_slip_16 ?_
    refine r_callV (As := [_]) C (c_X4_has _ _ _ (by omega) hI) ok_X4_has ln_X5_61 rfl rfl rfl rfl (Nat.le_of_ble_eq_true rfl) (Nat.le_of_ble_eq_true rfl) (Nat.le_of_ble_eq_true rfl) dX5_slip_17 (fun v17 τ17 hq17 => ?_)
    obtain ⟨rfl, rfl⟩ := hq17
    refine r_ifB_ne (tgt := 25) C (by decide) dX5_slip_20 (fun c20 => ?_) (fun c20 => ?_)
    · have h10 : 0 ≤ s ∧ s ≤ σ 1 4 - 1 := bStar_t c20
      refine r_iload C rfl dX5_slip_25 ?_
      refine r_iload C rfl dX5_slip_27 ?_
      refine r_callS (As := [_, _]) C (c_X5_isMoment _ _ _ (by omega) (by omega)) ok_X5_isMoment ln_X5_118 rfl rfl (Nat.le_of_ble_eq_true rfl) (Nat.le_of_ble_eq_true rfl) (Nat.le_of_ble_eq_true rfl) dX5_slip_29 (fun v29 τ29 hq29 => ?_)
      obtain ⟨rfl, rfl⟩ := hq29
      refine r_ifB_ne (tgt := 38) C (by decide) dX5_slip_32 (fun c32 => ?_) (fun c32 => ?_)
      · have h11 := bMom_t c32
        refine r_aload_n C rfl dX5_slip_38 ?_
        refine r_getR C 4 2 rfl rfl (by decide) rfl uw_X5 fl_X5_28 dX5_slip_39 ?_
        refine r_iload_n C rfl dX5_slip_42 ?_
        refine r_iload_n C rfl dX5_slip_43 ?_
        refine r_iload_n C rfl dX5_slip_44 ?_
        refine r_iload C rfl dX5_slip_45 ?_
        refine r_iload C rfl dX5_slip_47 ?_
        refine r_callV (As := [_, _, _, _, _]) C (c_X1_rankOf _ _ _ hI (by omega) (by omega) (by omega) (by omega) (by omega)) ok_X1_rankOf ln_X5_121 rfl rfl rfl rfl (Nat.le_of_ble_eq_true rfl) (Nat.le_of_ble_eq_true rfl) (Nat.le_of_ble_eq_true rfl) dX5_slip_49 (fun v49 τ49 hq49 => ?_)
        obtain ⟨rfl, hF⟩ := hq49
        have e2 : vX τ49 = vX σ := Fr_vX hF (by decide)
        have e3 : 0 ≤ sRk (vX σ) t i s y h ∧ sRk (vX σ) t i s y h ≤ 1048576 := n_sRank _ _ _
        refine r_istore (ls' := [_, _, _, _, _, _, _]) C (by decide) rfl rfl dX5_slip_52 ?_
        refine r_iload C rfl dX5_slip_54 ?_
        refine r_ldc C (z := 1048576) cn_X5_127 (by decide +kernel) dX5_slip_56 ?_
        refine r_icmp_ne (tgt := 66) C (by decide) (by omega) (by omega) dX5_slip_58 (fun c58 => ?_) (fun c58 => ?_)
        · refine r_iload C rfl dX5_slip_66 ?_
          refine r_callS (As := [_]) C (c_X3_kindOf _ _ _ (by omega)) ok_X3_kindOf ln_X5_128 rfl rfl (Nat.le_of_ble_eq_true rfl) (Nat.le_of_ble_eq_true rfl) (Nat.le_of_ble_eq_true rfl) dX5_slip_68 (fun v68 τ68 hq68 => ?_)
          obtain ⟨rfl, rfl⟩ := hq68
          refine r_ireturn C rfl ?_ dX5_slip_71
          exact pX_of (a := vX σ) (by simp [s_slip, *]) e2
        · refine r_bipush C (by decide +kernel) dX5_slip_61 ?_
          refine r_goto (tgt := 71) C (by decide) dX5_slip_63 ?_
          refine r_ireturn C rfl ?_ dX5_slip_71
          exact pX_of (a := vX σ) (by simp [s_slip, *]) e2
      · refine r_bipush C (by decide +kernel) dX5_slip_35 ?_
        refine r_ireturn C rfl ?_ dX5_slip_37
        exact pX_of (by simp [s_slip, *]) rfl
    · refine r_iconst C dX5_slip_23 ?_
      refine r_ireturn C rfl ?_ dX5_slip_24
      exact pX_of (by simp [s_slip, *]) rfl
set_option maxRecDepth 100000 in
theorem c_X5_cost (l : Launch) (G : pw_G) (σ : pw_H) {t i s y h : Int} (hI : Inv (vX σ)) (q_t : InI t) (q_i : InI i) (q_s : InI s) (q_y : InI y) (q_h : InI h) : Ct l shX G mX5_cost [.ref (G.2.1 0), vI t, vI i, vI s, vI y, vI h] σ (pX (s_cost (vX σ) t i s y h)) := by
  have h0 : 0 ≤ σ 1 4 ∧ σ 1 4 ≤ 8 := hI.1
  have h5 : 0 ≤ σ 1 5 ∧ σ 1 5 ≤ 6 := hI.2.1
  have h1 : 0 ≤ σ 2 1 ∧ σ 2 1 ≤ 6 := hI.2.2.1
  refine Ct_of (ls := [some (.ref (G.2.1 0)), some (vI t), some (vI i), some (vI s), some (vI y), some (vI h), none]) (by decide +kernel) (Nat.le_of_ble_eq_true rfl) rfl (fun X C => ?_)
  refine r_aload_n C rfl dX5_cost_0 ?_
  refine r_getR C 4 1 rfl rfl (by decide) rfl uw_X5 fl_X5_19 dX5_cost_1 ?_
  refine r_iload_n C rfl dX5_cost_4 ?_
  refine r_iload_n C rfl dX5_cost_5 ?_
  refine r_callV (As := [_, _]) C (c_X2_hasLine _ _ _ (by omega) (by omega) hI) ok_X2_hasLine ln_X5_105 rfl rfl rfl rfl (Nat.le_of_ble_eq_true rfl) (Nat.le_of_ble_eq_true rfl) (Nat.le_of_ble_eq_true rfl) dX5_cost_6 (fun v6 τ6 hq6 => ?_)
  obtain ⟨rfl, rfl⟩ := hq6
  refine r_ifB_eq (tgt := 23) C (by decide) dX5_cost_9 (fun c9 => ?_) (fun c9 => ?_)
  · refine r_iconst C dX5_cost_23 ?_
    refine r_ireturn C rfl ?_ dX5_cost_24
    exact pX_of (by simp [s_cost, *]) rfl
  · have h8 : (0 ≤ t ∧ t ≤ σ 2 1 - 1) ∧ 0 ≤ i ∧ i ≤ σ 10 t - 1 := bLine_t c9
    have h9 : 0 ≤ σ 10 t ∧ σ 10 t ≤ 8 := hI.2.2.2.2.2.2.2.1 t
    refine r_aload_n C rfl dX5_cost_12 ?_
    refine r_getR C 4 0 rfl rfl (by decide) rfl uw_X5 fl_X5_10 dX5_cost_13 ?_
    refine r_iload_n C rfl dX5_cost_16 ?_
    refine r_callV (As := [_]) C (c_X4_has _ _ _ (by omega) hI) ok_X4_has ln_X5_61 rfl rfl rfl rfl (Nat.le_of_ble_eq_true rfl) (Nat.le_of_ble_eq_true rfl) (Nat.le_of_ble_eq_true rfl) dX5_cost_17 (fun v17 τ17 hq17 => ?_)
    obtain ⟨rfl, rfl⟩ := hq17
    refine r_ifB_ne (tgt := 25) C (by decide) dX5_cost_20 (fun c20 => ?_) (fun c20 => ?_)
    · have h10 : 0 ≤ s ∧ s ≤ σ 1 4 - 1 := bStar_t c20
      refine r_iload C rfl dX5_cost_25 ?_
      refine r_iload C rfl dX5_cost_27 ?_
      refine r_callS (As := [_, _]) C (c_X5_isMoment _ _ _ (by omega) (by omega)) ok_X5_isMoment ln_X5_118 rfl rfl (Nat.le_of_ble_eq_true rfl) (Nat.le_of_ble_eq_true rfl) (Nat.le_of_ble_eq_true rfl) dX5_cost_29 (fun v29 τ29 hq29 => ?_)
      obtain ⟨rfl, rfl⟩ := hq29
      refine r_ifB_ne (tgt := 38) C (by decide) dX5_cost_32 (fun c32 => ?_) (fun c32 => ?_)
      · have h11 := bMom_t c32
        refine r_aload_n C rfl dX5_cost_38 ?_
        refine r_getR C 4 2 rfl rfl (by decide) rfl uw_X5 fl_X5_28 dX5_cost_39 ?_
        refine r_iload_n C rfl dX5_cost_42 ?_
        refine r_iload_n C rfl dX5_cost_43 ?_
        refine r_iload_n C rfl dX5_cost_44 ?_
        refine r_iload C rfl dX5_cost_45 ?_
        refine r_iload C rfl dX5_cost_47 ?_
        refine r_callV (As := [_, _, _, _, _]) C (c_X1_rankOf _ _ _ hI (by omega) (by omega) (by omega) (by omega) (by omega)) ok_X1_rankOf ln_X5_121 rfl rfl rfl rfl (Nat.le_of_ble_eq_true rfl) (Nat.le_of_ble_eq_true rfl) (Nat.le_of_ble_eq_true rfl) dX5_cost_49 (fun v49 τ49 hq49 => ?_)
        obtain ⟨rfl, hF⟩ := hq49
        have e2 : vX τ49 = vX σ := Fr_vX hF (by decide)
        have e3 : 0 ≤ sRk (vX σ) t i s y h ∧ sRk (vX σ) t i s y h ≤ 1048576 := n_sRank _ _ _
        refine r_istore (ls' := [_, _, _, _, _, _, _]) C (by decide) rfl rfl dX5_cost_52 ?_
        refine r_iload C rfl dX5_cost_54 ?_
        refine r_ldc C (z := 1048576) cn_X5_127 (by decide +kernel) dX5_cost_56 ?_
        refine r_icmp_ne (tgt := 66) C (by decide) (by omega) (by omega) dX5_cost_58 (fun c58 => ?_) (fun c58 => ?_)
        · refine r_iload C rfl dX5_cost_66 ?_
          refine r_callS (As := [_]) C (c_X3_costOf _ _ _ (by omega)) ok_X3_costOf ln_X5_132 rfl rfl (Nat.le_of_ble_eq_true rfl) (Nat.le_of_ble_eq_true rfl) (Nat.le_of_ble_eq_true rfl) dX5_cost_68 (fun v68 τ68 hq68 => ?_)
          obtain ⟨rfl, rfl⟩ := hq68
          refine r_ireturn C rfl ?_ dX5_cost_71
          exact pX_of (a := vX σ) (by simp [s_cost, *]) e2
        · refine r_bipush C (by decide +kernel) dX5_cost_61 ?_
          refine r_goto (tgt := 71) C (by decide) dX5_cost_63 ?_
          refine r_ireturn C rfl ?_ dX5_cost_71
          exact pX_of (a := vX σ) (by simp [s_cost, *]) e2
      · refine r_bipush C (by decide +kernel) dX5_cost_35 ?_
        refine r_ireturn C rfl ?_ dX5_cost_37
        exact pX_of (by simp [s_cost, *]) rfl
    · refine r_iconst C dX5_cost_23 ?_
      refine r_ireturn C rfl ?_ dX5_cost_24
      exact pX_of (by simp [s_cost, *]) rfl
set_option maxRecDepth 100000 in
theorem c_X5_count (l : Launch) (G : pw_G) (σ : pw_H) {w : Int} (hI : Inv (vX σ)) (q_w : InI w) : Ct l shX G mX5_count [.ref (G.2.1 0), vI w] σ (pX (s_count (vX σ) w)) := by
  have h0 : 0 ≤ σ 1 4 ∧ σ 1 4 ≤ 8 := hI.1
  have h5 : 0 ≤ σ 1 5 ∧ σ 1 5 ≤ 6 := hI.2.1
  have h1 : 0 ≤ σ 2 1 ∧ σ 2 1 ≤ 6 := hI.2.2.1
  refine Ct_of (ls := [some (.ref (G.2.1 0)), some (vI w)]) (by decide +kernel) (Nat.le_of_ble_eq_true rfl) rfl (fun X C => ?_)
  refine r_iload_n C rfl dX5_count_0 ?_
  by_cases w1 : w < 0 ∨ 3 < w
  · refine r_tableOut (tgt := 64) C (by omega) w1 (by decide) dX5_count_1 ?_
    refine r_bipush C (by decide +kernel) dX5_count_64 ?_
    refine r_ireturn C rfl ?_ dX5_count_66
    exact pX_of (by rw [s_count, if_neg (by omega), if_neg (by omega), if_neg (by omega), if_neg (by omega)]) rfl
  · rcases (show w = 0 ∨ w = 1 ∨ w = 2 ∨ w = 3 by omega) with e1 | e1 | e1 | e1
    · refine r_tableIn (off := 31) (tgt := 32) C (by omega) (by omega) (by omega) (by rw [e1]; rfl) (by decide) dX5_count_1 ?_
      refine r_aload_n C rfl dX5_count_32 ?_
      refine r_getR C 4 0 rfl rfl (by decide) rfl uw_X5 fl_X5_10 dX5_count_33 ?_
      refine r_getI (jz := 4) C 3 4 rfl rfl (by decide) rfl uw_X4 fl_X5_53 rfl dX5_count_36 ?_
      refine r_ireturn C rfl ?_ dX5_count_39
      exact pX_of (by simp [s_count, *]; rfl) rfl
    · refine r_tableIn (off := 39) (tgt := 40) C (by omega) (by omega) (by omega) (by rw [e1]; rfl) (by decide) dX5_count_1 ?_
      refine r_aload_n C rfl dX5_count_40 ?_
      refine r_getR C 4 1 rfl rfl (by decide) rfl uw_X5 fl_X5_19 dX5_count_41 ?_
      refine r_getI (jz := 1) C 2 1 rfl rfl (by decide) rfl uw_X2 fl_X5_93 rfl dX5_count_44 ?_
      refine r_ireturn C rfl ?_ dX5_count_47
      exact pX_of (by simp [s_count, *]; rfl) rfl
    · refine r_tableIn (off := 47) (tgt := 48) C (by omega) (by omega) (by omega) (by rw [e1]; rfl) (by decide) dX5_count_1 ?_
      refine r_aload_n C rfl dX5_count_48 ?_
      refine r_getR C 4 1 rfl rfl (by decide) rfl uw_X5 fl_X5_19 dX5_count_49 ?_
      refine r_callV (As := []) C (c_X2_allLines _ _ _ hI) ok_X2_allLines ln_X5_187 rfl rfl rfl rfl (Nat.le_of_ble_eq_true rfl) (Nat.le_of_ble_eq_true rfl) (Nat.le_of_ble_eq_true rfl) dX5_count_52 (fun v52 τ52 hq52 => ?_)
      obtain ⟨rfl, rfl⟩ := hq52
      refine r_ireturn C rfl ?_ dX5_count_55
      exact pX_of (by simp [s_count, *]; rfl) rfl
    · refine r_tableIn (off := 55) (tgt := 56) C (by omega) (by omega) (by omega) (by rw [e1]; rfl) (by decide) dX5_count_1 ?_
      refine r_aload_n C rfl dX5_count_56 ?_
      refine r_getR C 4 0 rfl rfl (by decide) rfl uw_X5 fl_X5_10 dX5_count_57 ?_
      refine r_callV (As := []) C (c_X4_bright _ _ _ hI) ok_X4_bright ln_X5_190 rfl rfl rfl rfl (Nat.le_of_ble_eq_true rfl) (Nat.le_of_ble_eq_true rfl) (Nat.le_of_ble_eq_true rfl) dX5_count_60 (fun v60 τ60 hq60 => ?_)
      obtain ⟨rfl, rfl⟩ := hq60
      refine r_ireturn C rfl ?_ dX5_count_63
      exact pX_of (by simp [s_count, *]; rfl) rfl
set_option maxRecDepth 100000 in
theorem c_X5_round (l : Launch) (G : pw_G) (σ : pw_H) {t p : Int} (hI : Inv (vX σ)) (q_t : InI t) (q_p : InI p) : Ct l shX G mX5_round [.ref (G.2.1 0), vI t, vI p] σ (pX (s_round (vX σ) t p)) := by
  have h0 : 0 ≤ σ 1 4 ∧ σ 1 4 ≤ 8 := hI.1
  have h5 : 0 ≤ σ 1 5 ∧ σ 1 5 ≤ 6 := hI.2.1
  have h1 : 0 ≤ σ 2 1 ∧ σ 2 1 ≤ 6 := hI.2.2.1
  refine Ct_of (ls := [some (.ref (G.2.1 0)), some (vI t), some (vI p), none, none]) (by decide +kernel) (Nat.le_of_ble_eq_true rfl) rfl (fun X C => ?_)
  have loop : ∀ (n i : Nat), bList (vX σ) t = true → 2 ≤ p → p ≤ 1800 → i + n = (σ 10 t).toNat → bIn p 2 1800 = true → PW X shX G 32 [some (.ref (G.2.1 0)), some (vI t), some (vI p), some (vI (sSum (fun i => zB (decide (vX σ 6 (t * 8 + i) % p = 0))) i)), some (vI i)] [] σ := by
    intro n
    induction n with
    | zero =>
      intro i c8 p1 p2 hi c21
      have h8 : 0 ≤ t ∧ t ≤ σ 2 1 - 1 := bList_t c8
      have h9 : 0 ≤ σ 10 t ∧ σ 10 t ≤ 8 := hI.2.2.2.2.2.2.2.1 t
      refine r_iload C rfl dX5_round_32 ?_
      refine r_aload_n C rfl dX5_round_34 ?_
      refine r_getR C 4 1 rfl rfl (by decide) rfl uw_X5 fl_X5_19 dX5_round_35 ?_
      refine r_getR C 2 0 rfl rfl (by decide) rfl uw_X2 fl_X5_99 dX5_round_38 ?_
      refine r_iload_n C rfl dX5_round_41 ?_
      refine r_iaload C rfl (by decide) (by omega) dX5_round_42 ?_
      refine r_icmp_ge (tgt := 70) C (by decide) (by omega) (by omega) dX5_round_43 (fun c43 => ?_) (fun c43 => ?_)
      · refine r_iload_n C rfl dX5_round_70 ?_
        refine r_ireturn C rfl ?_ dX5_round_71
        exact pX_of (by simp [s_round, *]; rw [show i = (σ 10 t).toNat by omega]; rfl) rfl
      · omega
    | succ n ih =>
      intro i c8 p1 p2 hi c21
      have h8 : 0 ≤ t ∧ t ≤ σ 2 1 - 1 := bList_t c8
      have h9 : 0 ≤ σ 10 t ∧ σ 10 t ≤ 8 := hI.2.2.2.2.2.2.2.1 t
      have h10 : 0 ≤ σ 11 (t * 8 + i) ∧ σ 11 (t * 8 + i) ≤ 21599 := hI.2.2.2.2.2.2.2.2.2.1 _
      have h11 : (σ 11 (t * 8 + i)).tmod p = σ 11 (t * 8 + i) % p := Int.tmod_eq_emod_of_nonneg h10.1
      have h12 := Int.emod_nonneg (σ 11 (t * 8 + i)) (show p ≠ 0 by omega)
      have h13 := Int.emod_lt_of_pos (σ 11 (t * 8 + i)) (show 0 < p by omega)
      refine r_iload C rfl dX5_round_32 ?_
      refine r_aload_n C rfl dX5_round_34 ?_
      refine r_getR C 4 1 rfl rfl (by decide) rfl uw_X5 fl_X5_19 dX5_round_35 ?_
      refine r_getR C 2 0 rfl rfl (by decide) rfl uw_X2 fl_X5_99 dX5_round_38 ?_
      refine r_iload_n C rfl dX5_round_41 ?_
      refine r_iaload C rfl (by decide) (by omega) dX5_round_42 ?_
      refine r_icmp_ge (tgt := 70) C (by decide) (by omega) (by omega) dX5_round_43 (fun c43 => ?_) (fun c43 => ?_)
      · omega
      · refine r_aload_n C rfl dX5_round_46 ?_
        refine r_getR C 4 1 rfl rfl (by decide) rfl uw_X5 fl_X5_19 dX5_round_47 ?_
        refine r_iload_n C rfl dX5_round_50 ?_
        refine r_iload C rfl dX5_round_51 ?_
        refine r_callV (As := [_, _]) C (c_X2_longOf _ _ _ (by omega) (by omega)) ok_X2_longOf ln_X5_108 rfl rfl rfl rfl (Nat.le_of_ble_eq_true rfl) (Nat.le_of_ble_eq_true rfl) (Nat.le_of_ble_eq_true rfl) dX5_round_53 (fun v53 τ53 hq53 => ?_)
        obtain ⟨rfl, rfl⟩ := hq53
        refine r_iload_n C rfl dX5_round_56 ?_
        refine r_irem C (by omega) (by omega) (by omega) dX5_round_57 ?_
        refine r_if_ne (tgt := 64) C (by decide) (by omega) dX5_round_58 (fun c58 => ?_) (fun c58 => ?_)
        · refine r_iinc (ls' := [_, _, _, _, _]) C rfl (by decide) rfl rfl dX5_round_64 ?_
          refine r_goto (tgt := 32) C (by decide) dX5_round_67 ?_
          refine PW_ls (ih (i + 1) c8 p1 p2 (by omega) c21) ?_
          have e : sSum (fun i => zB (decide (vX σ 6 (t * 8 + i) % p = 0))) (i + 1) = sSum (fun i => zB (decide (vX σ 6 (t * 8 + i) % p = 0))) i + zB (decide (σ 11 (t * 8 + i) % p = 0)) := rfl
          rw [e]
          first | rw [zB_t (by rw [decide_eq_true_eq]; omega)]; rfl | rw [zB_f (by rw [decide_eq_false_iff_not]; omega), Int.add_zero]; rfl
        · refine r_iinc (ls' := [_, _, _, _, _]) C rfl (by decide) rfl rfl dX5_round_61 ?_
          refine r_iinc (ls' := [_, _, _, _, _]) C rfl (by decide) rfl rfl dX5_round_64 ?_
          refine r_goto (tgt := 32) C (by decide) dX5_round_67 ?_
          refine PW_ls (ih (i + 1) c8 p1 p2 (by omega) c21) ?_
          have e : sSum (fun i => zB (decide (vX σ 6 (t * 8 + i) % p = 0))) (i + 1) = sSum (fun i => zB (decide (vX σ 6 (t * 8 + i) % p = 0))) i + zB (decide (σ 11 (t * 8 + i) % p = 0)) := rfl
          rw [e]
          first | rw [zB_t (by rw [decide_eq_true_eq]; omega)]; rfl | rw [zB_f (by rw [decide_eq_false_iff_not]; omega), Int.add_zero]; rfl
  refine r_aload_n C rfl dX5_round_0 ?_
  refine r_getR C 4 1 rfl rfl (by decide) rfl uw_X5 fl_X5_19 dX5_round_1 ?_
  refine r_iload_n C rfl dX5_round_4 ?_
  refine r_callV (As := [_]) C (c_X2_has _ _ _ (by omega) hI) ok_X2_has ln_X5_98 rfl rfl rfl rfl (Nat.le_of_ble_eq_true rfl) (Nat.le_of_ble_eq_true rfl) (Nat.le_of_ble_eq_true rfl) dX5_round_5 (fun v5 τ5 hq5 => ?_)
  obtain ⟨rfl, rfl⟩ := hq5
  refine r_ifB_ne (tgt := 13) C (by decide) dX5_round_8 (fun c8 => ?_) (fun c8 => ?_)
  · refine r_iload_n C rfl dX5_round_13 ?_
    refine r_iconst C dX5_round_14 ?_
    refine r_sipush C (by decide +kernel) dX5_round_15 ?_
    refine r_callS (As := [_, _, _]) C (c_X5_isWithin _ _ _ (by omega) (by omega) (by omega)) ok_X5_isWithin ln_X5_49 rfl rfl (Nat.le_of_ble_eq_true rfl) (Nat.le_of_ble_eq_true rfl) (Nat.le_of_ble_eq_true rfl) dX5_round_18 (fun v18 τ18 hq18 => ?_)
    obtain ⟨rfl, rfl⟩ := hq18
    refine r_ifB_ne (tgt := 27) C (by decide) dX5_round_21 (fun c21 => ?_) (fun c21 => ?_)
    · have h11 := bIn_iff.mp c21
      refine r_iconst C dX5_round_27 ?_
      refine r_istore_n (ls' := [_, _, _, _, _]) C (by decide) rfl rfl dX5_round_28 ?_
      refine r_iconst C dX5_round_29 ?_
      refine r_istore (ls' := [_, _, _, _, _]) C (by decide) rfl rfl dX5_round_30 ?_
      have h9 : 0 ≤ σ 10 t ∧ σ 10 t ≤ 8 := hI.2.2.2.2.2.2.2.1 t
      exact loop (σ 10 t).toNat 0 c8 (by omega) (by omega) (by omega) c21
    · refine r_bipush C (by decide +kernel) dX5_round_24 ?_
      refine r_ireturn C rfl ?_ dX5_round_26
      exact pX_of (by simp [s_round, *]) rfl
  · refine r_iconst C dX5_round_11 ?_
    refine r_ireturn C rfl ?_ dX5_round_12
    exact pX_of (by simp [s_round, *]) rfl
