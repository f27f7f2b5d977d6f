set_option maxRecDepth 100000 in
theorem c_X6_in (l : Launch) (G : pw_G) (σ : pw_H) {n a b : Int} (h1 : InI n) (h2 : InI a) (h3 : InI b) : Ct l shM G mX6_in [vI n, vI a, vI b] σ (pb (bIn n a b) σ) := by
  refine Ct_of (ls := [some (vI n), some (vI a), some (vI b)]) (by decide +kernel) (Nat.le_of_ble_eq_true rfl) rfl (fun X C => ?_)
  refine r_iload_n C rfl dX6_in_0 ?_
  refine r_iload_n C rfl dX6_in_1 ?_
  refine r_icmp_lt (tgt := 14) C (by decide) (by omega) (by omega) dX6_in_2 (fun c2 => ?_) (fun c2 => ?_)
  · refine r_iconst C dX6_in_14 ?_
    refine r_zreturn C rfl (by first | exact Or.inl rfl | exact Or.inr rfl) ?_ dX6_in_15
    refine pv_of ?_ rfl
    first | exact (zB_t (bIn_t (by omega) (by omega))).symm | exact (zB_f (bIn_f (by omega))).symm
  · refine r_iload_n C rfl dX6_in_5 ?_
    refine r_iload_n C rfl dX6_in_6 ?_
    refine r_icmp_gt (tgt := 14) C (by decide) (by omega) (by omega) dX6_in_7 (fun c7 => ?_) (fun c7 => ?_)
    · refine r_iconst C dX6_in_14 ?_
      refine r_zreturn C rfl (by first | exact Or.inl rfl | exact Or.inr rfl) ?_ dX6_in_15
      refine pv_of ?_ rfl
      first | exact (zB_t (bIn_t (by omega) (by omega))).symm | exact (zB_f (bIn_f (by omega))).symm
    · refine r_iconst C dX6_in_10 ?_
      refine r_goto (tgt := 15) C (by decide) dX6_in_11 ?_
      refine r_zreturn C rfl (by first | exact Or.inl rfl | exact Or.inr rfl) ?_ dX6_in_15
      refine pv_of ?_ rfl
      first | exact (zB_t (bIn_t (by omega) (by omega))).symm | exact (zB_f (bIn_f (by omega))).symm
set_option maxRecDepth 100000 in
theorem c_X6_size (l : Launch) (G : pw_G) (σ : pw_H) {n : Int} (h1 : InI n) : Ct l shM G mX6_size [vI n] σ (pv (zabs n) σ) := by
  refine Ct_of (ls := [some (vI n)]) (by decide +kernel) (Nat.le_of_ble_eq_true rfl) rfl (fun X C => ?_)
  refine r_iload_n C rfl dX6_size_0 ?_
  refine r_if_ge (tgt := 9) C (by decide) (by omega) dX6_size_1 (fun c1 => ?_) (fun c1 => ?_)
  · refine r_iload_n C rfl dX6_size_9 ?_
    refine r_ireturn C rfl ?_ dX6_size_10
    refine pv_of ?_ rfl
    unfold zabs; split <;> omega
  · refine r_iload_n C rfl dX6_size_4 ?_
    refine r_ineg C dX6_size_5 ?_
    refine r_goto (tgt := 10) C (by decide) dX6_size_6 ?_
    refine r_ireturn C rfl ?_ dX6_size_10
    refine pv_of ?_ rfl
    unfold zabs; split <;> omega
theorem n_rnd (x : Int) : (x.tmod 21600 + 21600).tmod 21600 = x % 21600 := by
  have h1 := n_tm (x := x) (y := 21600) (by decide)
  have h2 := n_tm (x := x.tmod 21600 + 21600) (y := 21600) (by decide)
  split at h1 <;> split at h2 <;> omega
set_option maxRecDepth 100000 in
theorem c_X6_round (l : Launch) (G : pw_G) (σ : pw_H) {x : Int} (h1 : -1000000 ≤ x ∧ x ≤ 1000000) : Ct l shM G mX6_round [vI x] σ (pv (x % 21600) σ) := by
  have h2 := n_tm (x := x) (y := 21600) (by decide)
  refine Ct_of (ls := [some (vI x)]) (by decide +kernel) (Nat.le_of_ble_eq_true rfl) rfl (fun X C => ?_)
  refine r_iload_n C rfl dX6_round_0 ?_
  refine r_sipush C (by decide +kernel) dX6_round_1 ?_
  refine r_irem C (by omega) (by omega) (by omega) dX6_round_4 ?_
  refine r_sipush C (by decide +kernel) dX6_round_5 ?_
  refine r_iadd C dX6_round_8 ?_
  refine r_sipush C (by decide +kernel) dX6_round_9 ?_
  refine r_irem C (by split at h2 <;> omega) (by omega) (by omega) dX6_round_12 ?_
  refine r_ireturn C rfl ?_ dX6_round_13
  exact pv_of (n_rnd x) rfl
set_option maxRecDepth 100000 in
theorem c_X6_by (l : Launch) (G : pw_G) (σ : pw_H) {v n : Int} (h1 : -1000000 ≤ v ∧ v ≤ 1000000) (hn : 0 < n ∧ n ≤ 1000) : Ct l shM G mX6_by [vI v, vI n] σ (pv (v / n) σ) := by
  have h2 := n_tm (x := v) hn.1
  have k3 := Int.emod_nonneg v (show n ≠ 0 by omega)
  have k4 := Int.emod_lt_of_pos v hn.1
  have h3 : (v.tmod n + n).tmod n = v % n := by
    rw [Int.tmod_eq_emod_of_nonneg (by split at h2 <;> omega), Int.add_emod_right]
    split at h2
    · rw [h2, Int.emod_emod_of_dvd _ (Int.dvd_refl n)]
    · rw [h2, Int.sub_emod_right, Int.emod_emod_of_dvd _ (Int.dvd_refl n)]
  have h4 : (v - v % n).tdiv n = v / n := by
    have e : v - v % n = n * (v / n) := by have := Int.mul_ediv_add_emod v n; omega
    rw [e, Int.mul_tdiv_cancel_left _ (by omega)]
  refine Ct_of (ls := [some (vI v), some (vI n), none]) (by decide +kernel) (Nat.le_of_ble_eq_true rfl) rfl (fun X C => ?_)
  refine r_iload_n C rfl dX6_by_0 ?_
  refine r_iload_n C rfl dX6_by_1 ?_
  refine r_irem C (by omega) (by omega) (by omega) dX6_by_2 ?_
  refine r_iload_n C rfl dX6_by_3 ?_
  refine r_iadd C dX6_by_4 ?_
  refine r_iload_n C rfl dX6_by_5 ?_
  refine r_irem C (by split at h2 <;> omega) (by omega) (by omega) dX6_by_6 ?_
  rw [h3]
  refine r_istore_n (ls' := [_, _, _]) C (by decide) rfl rfl dX6_by_7 ?_
  refine r_iload_n C rfl dX6_by_8 ?_
  refine r_iload_n C rfl dX6_by_9 ?_
  refine r_isub C dX6_by_10 ?_
  refine r_iload_n C rfl dX6_by_11 ?_
  refine r_idiv C (by omega) (by omega) (by omega) dX6_by_12 ?_
  refine r_ireturn C rfl ?_ dX6_by_13
  exact pv_of h4 rfl
set_option maxRecDepth 100000 in
theorem c_X6_isLong (l : Launch) (G : pw_G) (σ : pw_H) {n : Int} (h1 : InI n) : Ct l shM G mX6_isLong [vI n] σ (pb (bIn n 0 21599) σ) := by
  refine Ct_of (ls := [some (vI n)]) (by decide +kernel) (Nat.le_of_ble_eq_true rfl) rfl (fun X C => ?_)
  refine r_iload_n C rfl dX6_isLong_0 ?_
  refine r_iconst C dX6_isLong_1 ?_
  refine r_sipush C (by decide +kernel) dX6_isLong_2 ?_
  refine r_callS (As := [_, _, _]) C (c_X6_in _ _ _ (by omega) (by omega) (by omega)) ok_X6_in ln_X6_59 rfl rfl (Nat.le_of_ble_eq_true rfl) (Nat.le_of_ble_eq_true rfl) (Nat.le_of_ble_eq_true rfl) dX6_isLong_5 (fun v5 τ5 hq5 => ?_)
  obtain ⟨rfl, rfl⟩ := hq5
  refine r_breturn C rfl ?_ dX6_isLong_8
  exact ⟨rfl, rfl⟩
set_option maxRecDepth 100000 in
theorem c_X6_isWide (l : Launch) (G : pw_G) (σ : pw_H) {n : Int} (h1 : InI n) : Ct l shM G mX6_isWide [vI n] σ (pb (bIn n (-5400) 5400) σ) := by
  refine Ct_of (ls := [some (vI n)]) (by decide +kernel) (Nat.le_of_ble_eq_true rfl) rfl (fun X C => ?_)
  refine r_iload_n C rfl dX6_isWide_0 ?_
  refine r_sipush C (by decide +kernel) dX6_isWide_1 ?_
  refine r_sipush C (by decide +kernel) dX6_isWide_4 ?_
  refine r_callS (As := [_, _, _]) C (c_X6_in _ _ _ (by omega) (by omega) (by omega)) ok_X6_in ln_X6_59 rfl rfl (Nat.le_of_ble_eq_true rfl) (Nat.le_of_ble_eq_true rfl) (Nat.le_of_ble_eq_true rfl) dX6_isWide_7 (fun v7 τ7 hq7 => ?_)
  obtain ⟨rfl, rfl⟩ := hq7
  refine r_breturn C rfl ?_ dX6_isWide_10
  exact ⟨rfl, rfl⟩
set_option maxRecDepth 100000 in
theorem c_X6_isYear (l : Launch) (G : pw_G) (σ : pw_H) {n : Int} (h1 : InI n) : Ct l shM G mX6_isYear [vI n] σ (pb (bIn n (-3000) 3000) σ) := by
  refine Ct_of (ls := [some (vI n)]) (by decide +kernel) (Nat.le_of_ble_eq_true rfl) rfl (fun X C => ?_)
  refine r_iload_n C rfl dX6_isYear_0 ?_
  refine r_sipush C (by decide +kernel) dX6_isYear_1 ?_
  refine r_sipush C (by decide +kernel) dX6_isYear_4 ?_
  refine r_callS (As := [_, _, _]) C (c_X6_in _ _ _ (by omega) (by omega) (by omega)) ok_X6_in ln_X6_59 rfl rfl (Nat.le_of_ble_eq_true rfl) (Nat.le_of_ble_eq_true rfl) (Nat.le_of_ble_eq_true rfl) dX6_isYear_7 (fun v7 τ7 hq7 => ?_)
  obtain ⟨rfl, rfl⟩ := hq7
  refine r_breturn C rfl ?_ dX6_isYear_10
  exact ⟨rfl, rfl⟩
set_option maxRecDepth 100000 in
theorem c_X6_isShift (l : Launch) (G : pw_G) (σ : pw_H) {n : Int} (h1 : InI n) : Ct l shM G mX6_isShift [vI n] σ (pb (bIn n (-600) 600) σ) := by
  refine Ct_of (ls := [some (vI n)]) (by decide +kernel) (Nat.le_of_ble_eq_true rfl) rfl (fun X C => ?_)
  refine r_iload_n C rfl dX6_isShift_0 ?_
  refine r_sipush C (by decide +kernel) dX6_isShift_1 ?_
  refine r_sipush C (by decide +kernel) dX6_isShift_4 ?_
  refine r_callS (As := [_, _, _]) C (c_X6_in _ _ _ (by omega) (by omega) (by omega)) ok_X6_in ln_X6_59 rfl rfl (Nat.le_of_ble_eq_true rfl) (Nat.le_of_ble_eq_true rfl) (Nat.le_of_ble_eq_true rfl) dX6_isShift_7 (fun v7 τ7 hq7 => ?_)
  obtain ⟨rfl, rfl⟩ := hq7
  refine r_breturn C rfl ?_ dX6_isShift_10
  exact ⟨rfl, rfl⟩
set_option maxRecDepth 100000 in
theorem c_X6_wayOf (l : Launch) (G : pw_G) (σ : pw_H) {x y : Int} (h1 : -100000 ≤ x ∧ x ≤ 100000) (h2 : -100000 ≤ y ∧ y ≤ 100000) : Ct l shM G mX6_wayOf [vI x, vI y] σ (pv (sWay x y) σ) := by
  refine Ct_of (ls := [some (vI x), some (vI y)]) (by decide +kernel) (Nat.le_of_ble_eq_true rfl) rfl (fun X C => ?_)
  refine r_iload_n C rfl dX6_wayOf_0 ?_
  refine r_iload_n C rfl dX6_wayOf_1 ?_
  refine r_isub C dX6_wayOf_2 ?_
  refine r_sipush C (by decide +kernel) dX6_wayOf_3 ?_
  refine r_iadd C dX6_wayOf_6 ?_
  refine r_callS (As := [_]) C (c_X6_round _ _ _ (by omega)) ok_X6_round ln_X6_83 rfl rfl (Nat.le_of_ble_eq_true rfl) (Nat.le_of_ble_eq_true rfl) (Nat.le_of_ble_eq_true rfl) dX6_wayOf_7 (fun v7 τ7 hq7 => ?_)
  obtain ⟨rfl, rfl⟩ := hq7
  refine r_sipush C (by decide +kernel) dX6_wayOf_10 ?_
  refine r_isub C dX6_wayOf_13 ?_
  refine r_ireturn C rfl ?_ dX6_wayOf_14
  exact ⟨rfl, rfl⟩
set_option maxRecDepth 100000 in
theorem c_X6_isStar (l : Launch) (G : pw_G) (σ : pw_H) {s : Int} (h1 : InI s) (hI : Inv (vM σ)) : Ct l shM G mX6_isStar [.ref (G.2.1 0), vI s] σ (pb (bStar (vM σ) s) σ) := by
  have h8 : 0 ≤ σ 0 0 ∧ σ 0 0 ≤ 8 := hI.1
  refine Ct_of (ls := [some (.ref (G.2.1 0)), some (vI s)]) (by decide +kernel) (Nat.le_of_ble_eq_true rfl) rfl (fun X C => ?_)
  refine r_iload_n C rfl dX6_isStar_0 ?_
  refine r_iconst C dX6_isStar_1 ?_
  refine r_aload_n C rfl dX6_isStar_2 ?_
  refine r_getI (jz := 0) C 5 0 rfl rfl (by decide) rfl uw_X6 fl_X6_63 rfl dX6_isStar_3 ?_
  refine r_iconst C dX6_isStar_6 ?_
  refine r_isub C dX6_isStar_7 ?_
  refine r_callS (As := [_, _, _]) C (c_X6_in _ _ _ (by omega) (by omega) (by omega)) ok_X6_in ln_X6_59 rfl rfl (Nat.le_of_ble_eq_true rfl) (Nat.le_of_ble_eq_true rfl) (Nat.le_of_ble_eq_true rfl) dX6_isStar_8 (fun v8 τ8 hq8 => ?_)
  obtain ⟨rfl, rfl⟩ := hq8
  refine r_breturn C rfl ?_ dX6_isStar_11
  exact ⟨rfl, rfl⟩
set_option maxRecDepth 100000 in
theorem c_X6_isList (l : Launch) (G : pw_G) (σ : pw_H) {s : Int} (h1 : InI s) (hI : Inv (vM σ)) : Ct l shM G mX6_isList [.ref (G.2.1 0), vI s] σ (pb (bList (vM σ) s) σ) := by
  have h8 : 0 ≤ σ 0 6 ∧ σ 0 6 ≤ 6 := hI.2.2.1
  refine Ct_of (ls := [some (.ref (G.2.1 0)), some (vI s)]) (by decide +kernel) (Nat.le_of_ble_eq_true rfl) rfl (fun X C => ?_)
  refine r_iload_n C rfl dX6_isList_0 ?_
  refine r_iconst C dX6_isList_1 ?_
  refine r_aload_n C rfl dX6_isList_2 ?_
  refine r_getI (jz := 6) C 5 6 rfl rfl (by decide) rfl uw_X6 fl_X6_66 rfl dX6_isList_3 ?_
  refine r_iconst C dX6_isList_6 ?_
  refine r_isub C dX6_isList_7 ?_
  refine r_callS (As := [_, _, _]) C (c_X6_in _ _ _ (by omega) (by omega) (by omega)) ok_X6_in ln_X6_59 rfl rfl (Nat.le_of_ble_eq_true rfl) (Nat.le_of_ble_eq_true rfl) (Nat.le_of_ble_eq_true rfl) dX6_isList_8 (fun v8 τ8 hq8 => ?_)
  obtain ⟨rfl, rfl⟩ := hq8
  refine r_breturn C rfl ?_ dX6_isList_11
  exact ⟨rfl, rfl⟩
set_option maxRecDepth 100000 in
theorem c_X6_isLine (l : Launch) (G : pw_G) (σ : pw_H) {s i : Int} (h1 : InI s) (h2 : InI i) (hI : Inv (vM σ)) : Ct l shM G mX6_isLine [.ref (G.2.1 0), vI s, vI i] σ (pb (bLine (vM σ) s i) σ) := by
  have h8 : 0 ≤ σ 0 6 ∧ σ 0 6 ≤ 6 := hI.2.2.1
  have h9 : 0 ≤ σ 5 s ∧ σ 5 s ≤ 8 := hI.2.2.2.2.2.2.2.1 s
  refine Ct_of (ls := [some (.ref (G.2.1 0)), some (vI s), some (vI i)]) (by decide +kernel) (Nat.le_of_ble_eq_true rfl) rfl (fun X C => ?_)
  refine r_aload_n C rfl dX6_isLine_0 ?_
  refine r_iload_n C rfl dX6_isLine_1 ?_
  refine r_callV (As := [_]) C (c_X6_isList _ _ _ (by omega) hI) ok_X6_isList ln_X6_69 rfl rfl rfl rfl (Nat.le_of_ble_eq_true rfl) (Nat.le_of_ble_eq_true rfl) (Nat.le_of_ble_eq_true rfl) dX6_isLine_2 (fun v2 τ2 hq2 => ?_)
  obtain ⟨rfl, rfl⟩ := hq2
  refine r_ifB_eq (tgt := 28) C (by decide) dX6_isLine_5 (fun c5 => ?_) (fun c5 => ?_)
  · refine r_iconst C dX6_isLine_28 ?_
    refine r_zreturn C rfl (by first | exact Or.inl rfl | exact Or.inr rfl) ?_ dX6_isLine_29
    refine pv_of ?_ rfl
    first | exact (zB_t (bLine_1 c5 c21)).symm | exact (zB_f (bLine_1 c5 c21)).symm | exact (zB_f (bLine_0 c5)).symm
  · have h10 : 0 ≤ s ∧ s ≤ σ 0 6 - 1 := bList_t c5
    refine r_iload_n C rfl dX6_isLine_8 ?_
    refine r_iconst C dX6_isLine_9 ?_
    refine r_aload_n C rfl dX6_isLine_10 ?_
    refine r_getR C 5 7 rfl rfl (by decide) rfl uw_X6 fl_X6_26 dX6_isLine_11 ?_
    refine r_iload_n C rfl dX6_isLine_14 ?_
    refine r_iaload C rfl (by decide) (by omega) dX6_isLine_15 ?_
    refine r_iconst C dX6_isLine_16 ?_
    refine r_isub C dX6_isLine_17 ?_
    refine r_callS (As := [_, _, _]) C (c_X6_in _ _ _ (by omega) (by omega) (by omega)) ok_X6_in ln_X6_59 rfl rfl (Nat.le_of_ble_eq_true rfl) (Nat.le_of_ble_eq_true rfl) (Nat.le_of_ble_eq_true rfl) dX6_isLine_18 (fun v18 τ18 hq18 => ?_)
    obtain ⟨rfl, rfl⟩ := hq18
    refine r_ifB_eq (tgt := 28) C (by decide) dX6_isLine_21 (fun c21 => ?_) (fun c21 => ?_)
    · refine r_iconst C dX6_isLine_28 ?_
      refine r_zreturn C rfl (by first | exact Or.inl rfl | exact Or.inr rfl) ?_ dX6_isLine_29
      refine pv_of ?_ rfl
      first | exact (zB_t (bLine_1 c5 c21)).symm | exact (zB_f (bLine_1 c5 c21)).symm | exact (zB_f (bLine_0 c5)).symm
    · refine r_iconst C dX6_isLine_24 ?_
      refine r_goto (tgt := 29) C (by decide) dX6_isLine_25 ?_
      refine r_zreturn C rfl (by first | exact Or.inl rfl | exact Or.inr rfl) ?_ dX6_isLine_29
      refine pv_of ?_ rfl
      first | exact (zB_t (bLine_1 c5 c21)).symm | exact (zB_f (bLine_1 c5 c21)).symm | exact (zB_f (bLine_0 c5)).symm
set_option maxRecDepth 100000 in
theorem c_X6_skyOf (l : Launch) (G : pw_G) (σ : pw_H) {s y : Int} (hI : Inv (vM σ)) (hs : 0 ≤ s ∧ s < 8) (hy : -3000 ≤ y ∧ y ≤ 3000) : Ct l shM G mX6_skyOf [.ref (G.2.1 0), vI s, vI y] σ (pv (sSky (vM σ) s y) σ) := by
  have h1 : 0 ≤ σ 1 s ∧ σ 1 s ≤ 21599 := hI.2.2.2.1 s
  have h3 : -50 ≤ σ 3 s ∧ σ 3 s ≤ 50 := hI.2.2.2.2.2.1 s
  have h4 := n_mul h3.1 h3.2 hy.1 hy.2
  refine Ct_of (ls := [some (.ref (G.2.1 0)), some (vI s), some (vI y)]) (by decide +kernel) (Nat.le_of_ble_eq_true rfl) rfl (fun X C => ?_)
  refine r_aload_n C rfl dX6_skyOf_0 ?_
  refine r_getR C 5 1 rfl rfl (by decide) rfl uw_X6 fl_X6_7 dX6_skyOf_1 ?_
  refine r_iload_n C rfl dX6_skyOf_4 ?_
  refine r_iaload C rfl (by decide) (by omega) dX6_skyOf_5 ?_
  refine r_iconst C dX6_skyOf_6 ?_
  refine r_iload_n C rfl dX6_skyOf_7 ?_
  refine r_imul C dX6_skyOf_8 ?_
  refine r_bipush C (by decide +kernel) dX6_skyOf_9 ?_
  refine r_callS (As := [_, _]) C (c_X6_by _ _ _ (by omega) (by omega)) ok_X6_by ln_X6_79 rfl rfl (Nat.le_of_ble_eq_true rfl) (Nat.le_of_ble_eq_true rfl) (Nat.le_of_ble_eq_true rfl) dX6_skyOf_11 (fun v11 τ11 hq11 => ?_)
  obtain ⟨rfl, rfl⟩ := hq11
  refine r_iadd C dX6_skyOf_14 ?_
  refine r_aload_n C rfl dX6_skyOf_15 ?_
  refine r_getR C 5 3 rfl rfl (by decide) rfl uw_X6 fl_X6_16 dX6_skyOf_16 ?_
  refine r_iload_n C rfl dX6_skyOf_19 ?_
  refine r_iaload C rfl (by decide) (by omega) dX6_skyOf_20 ?_
  refine r_iload_n C rfl dX6_skyOf_21 ?_
  refine r_imul C dX6_skyOf_22 ?_
  refine r_bipush C (by decide +kernel) dX6_skyOf_23 ?_
  refine r_callS (As := [_, _]) C (c_X6_by _ _ _ (by omega) (by omega)) ok_X6_by ln_X6_79 rfl rfl (Nat.le_of_ble_eq_true rfl) (Nat.le_of_ble_eq_true rfl) (Nat.le_of_ble_eq_true rfl) dX6_skyOf_25 (fun v25 τ25 hq25 => ?_)
  obtain ⟨rfl, rfl⟩ := hq25
  refine r_iadd C dX6_skyOf_28 ?_
  refine r_callS (As := [_]) C (c_X6_round _ _ _ (by omega)) ok_X6_round ln_X6_83 rfl rfl (Nat.le_of_ble_eq_true rfl) (Nat.le_of_ble_eq_true rfl) (Nat.le_of_ble_eq_true rfl) dX6_skyOf_29 (fun v29 τ29 hq29 => ?_)
  obtain ⟨rfl, rfl⟩ := hq29
  refine r_ireturn C rfl ?_ dX6_skyOf_32
  exact ⟨rfl, rfl⟩
theorem pM_of {S : sR} {v : Int} {τ a : pw_H} (h : S = (v, a)) (h2 : vM τ = a) : pM S (some (vI v)) τ := by rw [h]; exact ⟨rfl, h2⟩
theorem vM_star (σ : pw_H) (n x w m b z : Int) : vM (pw_u (pw_u (pw_u (pw_u (pw_u σ 1 n x) 2 n w) 3 n m) 4 n b) 0 0 z) = pw_u (pw_u (pw_u (pw_u (pw_u (vM σ) 1 n x) 2 n w) 3 n m) 4 n b) 0 0 z := by
  funext k j
  match k with
  | 0 => by_cases h : j = 0 <;> by_cases h2 : j = 1 <;> by_cases h3 : j = 2 <;> simp [vM, pw_u, h, h2, h3]
  | 1 => simp [vM, pw_u]
  | 2 => simp [vM, pw_u]
  | 3 => simp [vM, pw_u]
  | 4 => simp [vM, pw_u]
  | 5 => simp [vM, pw_u]
  | 6 => simp [vM, pw_u]
  | 7 => simp [vM, pw_u]
  | k + 8 => simp [vM, pw_u]
theorem vM_limit (σ : pw_H) (z : Int) : vM (pw_u σ 0 5 z) = pw_u (vM σ) 0 1 z := by
  funext k j
  match k with
  | 0 => by_cases h : j = 0 <;> by_cases h2 : j = 1 <;> by_cases h3 : j = 2 <;> simp [vM, pw_u, h, h2, h3]
  | 1 => simp [vM, pw_u]
  | 2 => simp [vM, pw_u]
  | 3 => simp [vM, pw_u]
  | 4 => simp [vM, pw_u]
  | 5 => simp [vM, pw_u]
  | 6 => simp [vM, pw_u]
  | 7 => simp [vM, pw_u]
  | k + 8 => simp [vM, pw_u]
theorem vM_list0 (σ : pw_H) (z : Int) : vM (pw_u σ 0 6 z) = pw_u (vM σ) 0 2 z := by
  funext k j
  match k with
  | 0 => by_cases h : j = 0 <;> by_cases h2 : j = 1 <;> by_cases h3 : j = 2 <;> simp [vM, pw_u, h, h2, h3]
  | 1 => simp [vM, pw_u]
  | 2 => simp [vM, pw_u]
  | 3 => simp [vM, pw_u]
  | 4 => simp [vM, pw_u]
  | 5 => simp [vM, pw_u]
  | 6 => simp [vM, pw_u]
  | 7 => simp [vM, pw_u]
  | k + 8 => simp [vM, pw_u]
theorem pw_u_id {σ : pw_H} {k : Nat} {j v : Int} (h : σ k j = v) : pw_u σ k j v = σ := by
  funext k' j'
  unfold pw_u
  split
  · rename_i q; rw [q.1, q.2, h]
  · rfl
theorem vM_line (σ : pw_H) (t i x w z : Int) : vM (pw_u (pw_u (pw_u σ 6 i x) 7 i w) 5 t z) = pw_u (pw_u (pw_u (vM σ) 5 t z) 6 i x) 7 i w := by
  funext k j
  match k with
  | 0 => by_cases h : j = 0 <;> by_cases h2 : j = 1 <;> by_cases h3 : j = 2 <;> simp [vM, pw_u, h, h2, h3]
  | 1 => simp [vM, pw_u]
  | 2 => simp [vM, pw_u]
  | 3 => simp [vM, pw_u]
  | 4 => simp [vM, pw_u]
  | 5 => simp [vM, pw_u]
  | 6 => simp [vM, pw_u]
  | 7 => simp [vM, pw_u]
  | k + 8 => simp [vM, pw_u]
theorem vM_mend (σ : pw_H) (i x w : Int) : vM (pw_u (pw_u σ 6 i x) 7 i w) = pw_u (pw_u (vM σ) 6 i x) 7 i w := by
  funext k j
  match k with
  | 0 => by_cases h : j = 0 <;> by_cases h2 : j = 1 <;> by_cases h3 : j = 2 <;> simp [vM, pw_u, h, h2, h3]
  | 1 => simp [vM, pw_u]
  | 2 => simp [vM, pw_u]
  | 3 => simp [vM, pw_u]
  | 4 => simp [vM, pw_u]
  | 5 => simp [vM, pw_u]
  | 6 => simp [vM, pw_u]
  | 7 => simp [vM, pw_u]
  | k + 8 => simp [vM, pw_u]
set_option maxRecDepth 100000 in
theorem c_X6_star (l : Launch) (G : pw_G) (σ : pw_H) {x w m b : Int} (hI : Inv (vM σ)) (q_x : InI x) (q_w : InI w) (q_m : InI m) (q_b : InI b) : Ct l shM G mX6_star [.ref (G.2.1 0), vI x, vI w, vI m, vI b] σ (pM (s_star (vM σ) x w m b)) := by
  have h0 : 0 ≤ σ 0 0 ∧ σ 0 0 ≤ 8 := hI.1
  have h5 : 0 ≤ σ 0 5 ∧ σ 0 5 ≤ 6 := hI.2.1
  have h1 : 0 ≤ σ 0 6 ∧ σ 0 6 ≤ 6 := hI.2.2.1
  refine Ct_of (ls := [some (.ref (G.2.1 0)), some (vI x), some (vI w), some (vI m), some (vI b)]) (by decide +kernel) (Nat.le_of_ble_eq_true rfl) rfl (fun X C => ?_)
  refine r_iload_n C rfl dX6_star_0 ?_
  refine r_callS (As := [_]) C (c_X6_isLong _ _ _ (by omega)) ok_X6_isLong ln_X6_73 rfl rfl (Nat.le_of_ble_eq_true rfl) (Nat.le_of_ble_eq_true rfl) (Nat.le_of_ble_eq_true rfl) dX6_star_1 (fun v1 τ1 hq1 => ?_)
  obtain ⟨rfl, rfl⟩ := hq1
  refine r_ifB_eq (tgt := 36) C (by decide) dX6_star_4 (fun c4 => ?_) (fun c4 => ?_)
  · refine r_bipush C (by decide +kernel) dX6_star_36 ?_
    refine r_ireturn C rfl ?_ dX6_star_38
    exact pM_of (by simp [s_star, bPlace, *]) rfl
  · refine r_iload_n C rfl dX6_star_7 ?_
    refine r_callS (As := [_]) C (c_X6_isWide _ _ _ (by omega)) ok_X6_isWide ln_X6_76 rfl rfl (Nat.le_of_ble_eq_true rfl) (Nat.le_of_ble_eq_true rfl) (Nat.le_of_ble_eq_true rfl) dX6_star_8 (fun v8 τ8 hq8 => ?_)
    obtain ⟨rfl, rfl⟩ := hq8
    refine r_ifB_eq (tgt := 36) C (by decide) dX6_star_11 (fun c11 => ?_) (fun c11 => ?_)
    · refine r_bipush C (by decide +kernel) dX6_star_36 ?_
      refine r_ireturn C rfl ?_ dX6_star_38
      exact pM_of (by simp [s_star, bPlace, *]) rfl
    · refine r_iload_n C rfl dX6_star_14 ?_
      refine r_bipush C (by decide +kernel) dX6_star_15 ?_
      refine r_bipush C (by decide +kernel) dX6_star_17 ?_
      refine r_callS (As := [_, _, _]) C (c_X6_in _ _ _ (by omega) (by omega) (by omega)) ok_X6_in ln_X6_59 rfl rfl (Nat.le_of_ble_eq_true rfl) (Nat.le_of_ble_eq_true rfl) (Nat.le_of_ble_eq_true rfl) dX6_star_19 (fun v19 τ19 hq19 => ?_)
      obtain ⟨rfl, rfl⟩ := hq19
      refine r_ifB_eq (tgt := 36) C (by decide) dX6_star_22 (fun c22 => ?_) (fun c22 => ?_)
      · refine r_bipush C (by decide +kernel) dX6_star_36 ?_
        refine r_ireturn C rfl ?_ dX6_star_38
        exact pM_of (by simp [s_star, bPlace, *]) rfl
      · refine r_iload C rfl dX6_star_25 ?_
        refine r_iconst C dX6_star_27 ?_
        refine r_bipush C (by decide +kernel) dX6_star_28 ?_
        refine r_callS (As := [_, _, _]) C (c_X6_in _ _ _ (by omega) (by omega) (by omega)) ok_X6_in ln_X6_59 rfl rfl (Nat.le_of_ble_eq_true rfl) (Nat.le_of_ble_eq_true rfl) (Nat.le_of_ble_eq_true rfl) dX6_star_30 (fun v30 τ30 hq30 => ?_)
        obtain ⟨rfl, rfl⟩ := hq30
        refine r_ifB_ne (tgt := 39) C (by decide) dX6_star_33 (fun c33 => ?_) (fun c33 => ?_)
        · refine r_aload_n C rfl dX6_star_39 ?_
          refine r_getI (jz := 0) C 5 0 rfl rfl (by decide) rfl uw_X6 fl_X6_63 rfl dX6_star_40 ?_
          refine r_bipush C (by decide +kernel) dX6_star_43 ?_
          refine r_icmp_ne (tgt := 51) C (by decide) (by omega) (by omega) dX6_star_45 (fun c45 => ?_) (fun c45 => ?_)
          · refine r_aload_n C rfl dX6_star_51 ?_
            refine r_getR C 5 1 rfl rfl (by decide) rfl uw_X6 fl_X6_7 dX6_star_52 ?_
            refine r_aload_n C rfl dX6_star_55 ?_
            refine r_getI (jz := 0) C 5 0 rfl rfl (by decide) rfl uw_X6 fl_X6_63 rfl dX6_star_56 ?_
            refine r_iload_n C rfl dX6_star_59 ?_
            refine r_iastore C rfl (by decide) (by omega) dX6_star_60 ?_
            refine r_aload_n C rfl dX6_star_61 ?_
            refine r_getR C 5 2 rfl rfl (by decide) rfl uw_X6 fl_X6_13 dX6_star_62 ?_
            refine r_aload_n C rfl dX6_star_65 ?_
            refine r_getI (jz := 0) C 5 0 rfl rfl (by decide) rfl uw_X6 fl_X6_63 rfl dX6_star_66 ?_
            try simp (disch := decide) only [pw_u_k, pw_u_j, pw_u_s]
            refine r_iload_n C rfl dX6_star_69 ?_
            refine r_iastore C rfl (by decide) (by omega) dX6_star_70 ?_
            refine r_aload_n C rfl dX6_star_71 ?_
            refine r_getR C 5 3 rfl rfl (by decide) rfl uw_X6 fl_X6_16 dX6_star_72 ?_
            refine r_aload_n C rfl dX6_star_75 ?_
            refine r_getI (jz := 0) C 5 0 rfl rfl (by decide) rfl uw_X6 fl_X6_63 rfl dX6_star_76 ?_
            try simp (disch := decide) only [pw_u_k, pw_u_j, pw_u_s]
            refine r_iload_n C rfl dX6_star_79 ?_
            refine r_iastore C rfl (by decide) (by omega) dX6_star_80 ?_
            refine r_aload_n C rfl dX6_star_81 ?_
            refine r_getR C 5 4 rfl rfl (by decide) rfl uw_X6 fl_X6_19 dX6_star_82 ?_
            refine r_aload_n C rfl dX6_star_85 ?_
            refine r_getI (jz := 0) C 5 0 rfl rfl (by decide) rfl uw_X6 fl_X6_63 rfl dX6_star_86 ?_
            try simp (disch := decide) only [pw_u_k, pw_u_j, pw_u_s]
            refine r_iload C rfl dX6_star_89 ?_
            refine r_iastore C rfl (by decide) (by omega) dX6_star_91 ?_
            refine r_aload_n C rfl dX6_star_92 ?_
            refine r_dup C rfl dX6_star_93 ?_
            refine r_getI (jz := 0) C 5 0 rfl rfl (by decide) rfl uw_X6 fl_X6_63 rfl dX6_star_94 ?_
            try simp (disch := decide) only [pw_u_k, pw_u_j, pw_u_s]
            refine r_iconst C dX6_star_97 ?_
            refine r_iadd C dX6_star_98 ?_
            refine r_putI (jz := 0) C 5 0 tyX6 tyX6_ok nmX6 rfl rfl (by decide) rfl uw_X6 fl_X6_63 rfl rfl rfl dX6_star_99 ?_
            refine r_aload_n C rfl dX6_star_102 ?_
            refine r_getI (jz := 0) C 5 0 rfl rfl (by decide) rfl uw_X6 fl_X6_63 rfl dX6_star_103 ?_
            try simp (disch := decide) only [pw_u_k, pw_u_j, pw_u_s]
            refine r_iconst C dX6_star_106 ?_
            refine r_isub C dX6_star_107 ?_
            refine r_ireturn C rfl ?_ dX6_star_108
            exact pM_of (a := pw_u (pw_u (pw_u (pw_u (pw_u (vM σ) 1 (σ 0 0) x) 2 (σ 0 0) w) 3 (σ 0 0) m) 4 (σ 0 0) b) 0 0 (σ 0 0 + 1)) (by rw [s_star, if_neg (by simp [bPlace, *]), if_neg (show ¬ vM σ 0 0 = 8 from (show ¬ σ 0 0 = 8 by omega)), show σ 0 0 + 1 - 1 = σ 0 0 by omega]; rfl) (vM_star σ _ _ _ _ _ _)
          · refine r_bipush C (by decide +kernel) dX6_star_48 ?_
            refine r_ireturn C rfl ?_ dX6_star_50
            exact pM_of (by rw [s_star, if_neg (by simp [bPlace, *]), if_pos (show vM σ 0 0 = 8 from (show σ 0 0 = 8 by omega))]) rfl
        · refine r_bipush C (by decide +kernel) dX6_star_36 ?_
          refine r_ireturn C rfl ?_ dX6_star_38
          exact pM_of (by simp [s_star, bPlace, *]) rfl
set_option maxRecDepth 100000 in
theorem c_X6_sky (l : Launch) (G : pw_G) (σ : pw_H) {s y : Int} (hI : Inv (vM σ)) (q_s : InI s) (q_y : InI y) : Ct l shM G mX6_sky [.ref (G.2.1 0), vI s, vI y] σ (pM (s_sky (vM σ) s y)) := by
  have h0 : 0 ≤ σ 0 0 ∧ σ 0 0 ≤ 8 := hI.1
  have h5 : 0 ≤ σ 0 5 ∧ σ 0 5 ≤ 6 := hI.2.1
  have h1 : 0 ≤ σ 0 6 ∧ σ 0 6 ≤ 6 := hI.2.2.1
  refine Ct_of (ls := [some (.ref (G.2.1 0)), some (vI s), some (vI y)]) (by decide +kernel) (Nat.le_of_ble_eq_true rfl) rfl (fun X C => ?_)
  refine r_aload_n C rfl dX6_sky_0 ?_
  refine r_iload_n C rfl dX6_sky_1 ?_
  refine r_callV (As := [_]) C (c_X6_isStar _ _ _ (by omega) hI) ok_X6_isStar ln_X6_87 rfl rfl rfl rfl (Nat.le_of_ble_eq_true rfl) (Nat.le_of_ble_eq_true rfl) (Nat.le_of_ble_eq_true rfl) dX6_sky_2 (fun v2 τ2 hq2 => ?_)
  obtain ⟨rfl, rfl⟩ := hq2
  refine r_ifB_ne (tgt := 10) C (by decide) dX6_sky_5 (fun c5 => ?_) (fun c5 => ?_)
  · have h8 : 0 ≤ s ∧ s ≤ σ 0 0 - 1 := bStar_t c5
    refine r_iload_n C rfl dX6_sky_10 ?_
    refine r_callS (As := [_]) C (c_X6_isYear _ _ _ (by omega)) ok_X6_isYear ln_X6_90 rfl rfl (Nat.le_of_ble_eq_true rfl) (Nat.le_of_ble_eq_true rfl) (Nat.le_of_ble_eq_true rfl) dX6_sky_11 (fun v11 τ11 hq11 => ?_)
    obtain ⟨rfl, rfl⟩ := hq11
    refine r_ifB_eq (tgt := 26) C (by decide) dX6_sky_14 (fun c14 => ?_) (fun c14 => ?_)
    · refine r_bipush C (by decide +kernel) dX6_sky_26 ?_
      refine r_ireturn C rfl ?_ dX6_sky_28
      exact pM_of (by simp [s_sky, *]) rfl
    · have h9 := bIn_iff.mp c14
      refine r_aload_n C rfl dX6_sky_17 ?_
      refine r_iload_n C rfl dX6_sky_18 ?_
      refine r_iload_n C rfl dX6_sky_19 ?_
      refine r_callV (As := [_, _]) C (c_X6_skyOf _ _ _ hI (by omega) (by omega)) ok_X6_skyOf ln_X6_93 rfl rfl rfl rfl (Nat.le_of_ble_eq_true rfl) (Nat.le_of_ble_eq_true rfl) (Nat.le_of_ble_eq_true rfl) dX6_sky_20 (fun v20 τ20 hq20 => ?_)
      obtain ⟨rfl, rfl⟩ := hq20
      refine r_goto (tgt := 28) C (by decide) dX6_sky_23 ?_
      refine r_ireturn C rfl ?_ dX6_sky_28
      exact pM_of (by simp [s_sky, *]) rfl
  · refine r_iconst C dX6_sky_8 ?_
    refine r_ireturn C rfl ?_ dX6_sky_9
    exact pM_of (by simp [s_sky, *]) rfl
set_option maxRecDepth 100000 in
theorem c_X6_about (l : Launch) (G : pw_G) (σ : pw_H) {s w : Int} (hI : Inv (vM σ)) (q_s : InI s) (q_w : InI w) : Ct l shM G mX6_about [.ref (G.2.1 0), vI s, vI w] σ (pM (s_about (vM σ) s w)) := by
  have h0 : 0 ≤ σ 0 0 ∧ σ 0 0 ≤ 8 := hI.1
  have h5 : 0 ≤ σ 0 5 ∧ σ 0 5 ≤ 6 := hI.2.1
  have h1 : 0 ≤ σ 0 6 ∧ σ 0 6 ≤ 6 := hI.2.2.1
  refine Ct_of (ls := [some (.ref (G.2.1 0)), some (vI s), some (vI w)]) (by decide +kernel) (Nat.le_of_ble_eq_true rfl) rfl (fun X C => ?_)
  refine r_aload_n C rfl dX6_about_0 ?_
  refine r_iload_n C rfl dX6_about_1 ?_
  refine r_callV (As := [_]) C (c_X6_isStar _ _ _ (by omega) hI) ok_X6_isStar ln_X6_87 rfl rfl rfl rfl (Nat.le_of_ble_eq_true rfl) (Nat.le_of_ble_eq_true rfl) (Nat.le_of_ble_eq_true rfl) dX6_about_2 (fun v2 τ2 hq2 => ?_)
  obtain ⟨rfl, rfl⟩ := hq2
  refine r_ifB_ne (tgt := 10) C (by decide) dX6_about_5 (fun c5 => ?_) (fun c5 => ?_)
  · have h8 : 0 ≤ s ∧ s ≤ σ 0 0 - 1 := bStar_t c5
    refine r_iload_n C rfl dX6_about_10 ?_
    by_cases w11 : w < 0 ∨ 3 < w
    · refine r_tableOut (tgt := 72) C (by omega) w11 (by decide) dX6_about_11 ?_
      refine r_bipush C (by decide +kernel) dX6_about_72 ?_
      refine r_ireturn C rfl ?_ dX6_about_74
      exact pM_of (by rw [s_about, if_neg (by simp [c5]), if_neg (by omega), if_neg (by omega), if_neg (by omega), if_neg (by omega)]) rfl
    · rcases (show w = 0 ∨ w = 1 ∨ w = 2 ∨ w = 3 by omega) with e11 | e11 | e11 | e11
      · refine r_tableIn (off := 29) (tgt := 40) C (by omega) (by omega) (by omega) (by rw [e11]; rfl) (by decide) dX6_about_11 ?_
        refine r_aload_n C rfl dX6_about_40 ?_
        refine r_getR C 5 1 rfl rfl (by decide) rfl uw_X6 fl_X6_7 dX6_about_41 ?_
        refine r_iload_n C rfl dX6_about_44 ?_
        refine r_iaload C rfl (by decide) (by omega) dX6_about_45 ?_
        refine r_ireturn C rfl ?_ dX6_about_46
        exact pM_of (by simp [s_about, *]; rfl) rfl
      · refine r_tableIn (off := 36) (tgt := 47) C (by omega) (by omega) (by omega) (by rw [e11]; rfl) (by decide) dX6_about_11 ?_
        refine r_aload_n C rfl dX6_about_47 ?_
        refine r_getR C 5 3 rfl rfl (by decide) rfl uw_X6 fl_X6_16 dX6_about_48 ?_
        refine r_iload_n C rfl dX6_about_51 ?_
        refine r_iaload C rfl (by decide) (by omega) dX6_about_52 ?_
        refine r_ireturn C rfl ?_ dX6_about_53
        exact pM_of (by simp [s_about, *]; rfl) rfl
      · refine r_tableIn (off := 43) (tgt := 54) C (by omega) (by omega) (by omega) (by rw [e11]; rfl) (by decide) dX6_about_11 ?_
        refine r_aload_n C rfl dX6_about_54 ?_
        refine r_getR C 5 4 rfl rfl (by decide) rfl uw_X6 fl_X6_19 dX6_about_55 ?_
        refine r_iload_n C rfl dX6_about_58 ?_
        refine r_iaload C rfl (by decide) (by omega) dX6_about_59 ?_
        refine r_ireturn C rfl ?_ dX6_about_60
        exact pM_of (by simp [s_about, *]; rfl) rfl
      · refine r_tableIn (off := 50) (tgt := 61) C (by omega) (by omega) (by omega) (by rw [e11]; rfl) (by decide) dX6_about_11 ?_
        refine r_aload_n C rfl dX6_about_61 ?_
        refine r_getR C 5 2 rfl rfl (by decide) rfl uw_X6 fl_X6_13 dX6_about_62 ?_
        refine r_iload_n C rfl dX6_about_65 ?_
        refine r_iaload C rfl (by decide) (by omega) dX6_about_66 ?_
        refine r_sipush C (by decide +kernel) dX6_about_67 ?_
        refine r_iadd C dX6_about_70 ?_
        refine r_ireturn C rfl ?_ dX6_about_71
        exact pM_of (by simp [s_about, *]; rfl) rfl
  · refine r_iconst C dX6_about_8 ?_
    refine r_ireturn C rfl ?_ dX6_about_9
    exact pM_of (by simp [s_about, *]) rfl
set_option maxRecDepth 100000 in
theorem c_X6_limit (l : Launch) (G : pw_G) (σ : pw_H) {n : Int} (hI : Inv (vM σ)) (q_n : InI n) : Ct l shM G mX6_limit [.ref (G.2.1 0), vI n] σ (pM (s_limit (vM σ) n)) := by
  have h0 : 0 ≤ σ 0 0 ∧ σ 0 0 ≤ 8 := hI.1
  have h5 : 0 ≤ σ 0 5 ∧ σ 0 5 ≤ 6 := hI.2.1
  have h1 : 0 ≤ σ 0 6 ∧ σ 0 6 ≤ 6 := hI.2.2.1
  refine Ct_of (ls := [some (.ref (G.2.1 0)), some (vI n), none]) (by decide +kernel) (Nat.le_of_ble_eq_true rfl) rfl (fun X C => ?_)
  refine r_iload_n C rfl dX6_limit_0 ?_
  refine r_iconst C dX6_limit_1 ?_
  refine r_bipush C (by decide +kernel) dX6_limit_2 ?_
  refine r_callS (As := [_, _, _]) C (c_X6_in _ _ _ (by omega) (by omega) (by omega)) ok_X6_in ln_X6_59 rfl rfl (Nat.le_of_ble_eq_true rfl) (Nat.le_of_ble_eq_true rfl) (Nat.le_of_ble_eq_true rfl) dX6_limit_4 (fun v4 τ4 hq4 => ?_)
  obtain ⟨rfl, rfl⟩ := hq4
  refine r_ifB_ne (tgt := 13) C (by decide) dX6_limit_7 (fun c7 => ?_) (fun c7 => ?_)
  · refine r_aload_n C rfl dX6_limit_13 ?_
    refine r_getI (jz := 5) C 5 5 rfl rfl (by decide) rfl uw_X6 fl_X6_22 rfl dX6_limit_14 ?_
    refine r_istore_n (ls' := [_, _, _]) C (by decide) rfl rfl dX6_limit_17 ?_
    refine r_aload_n C rfl dX6_limit_18 ?_
    refine r_iload_n C rfl dX6_limit_19 ?_
    refine r_putI (jz := 5) C 5 5 tyX6 tyX6_ok nmX6 rfl rfl (by decide) rfl uw_X6 fl_X6_22 rfl rfl rfl dX6_limit_20 ?_
    refine r_iload_n C rfl dX6_limit_23 ?_
    refine r_ireturn C rfl ?_ dX6_limit_24
    exact pM_of (by simp [s_limit, *]; rfl) (vM_limit σ _)
  · refine r_bipush C (by decide +kernel) dX6_limit_10 ?_
    refine r_ireturn C rfl ?_ dX6_limit_12
    exact pM_of (by simp [s_limit, *]) rfl
set_option maxRecDepth 100000 in
theorem c_X6_way (l : Launch) (G : pw_G) (σ : pw_H) {f t : Int} (hI : Inv (vM σ)) (q_f : InI f) (q_t : InI t) : Ct l shM G mX6_way [.ref (G.2.1 0), vI f, vI t] σ (pM (s_way (vM σ) f t)) := by
  have h0 : 0 ≤ σ 0 0 ∧ σ 0 0 ≤ 8 := hI.1
  have h5 : 0 ≤ σ 0 5 ∧ σ 0 5 ≤ 6 := hI.2.1
  have h1 : 0 ≤ σ 0 6 ∧ σ 0 6 ≤ 6 := hI.2.2.1
  refine Ct_of (ls := [some (.ref (G.2.1 0)), some (vI f), some (vI t)]) (by decide +kernel) (Nat.le_of_ble_eq_true rfl) rfl (fun X C => ?_)
  refine r_iload_n C rfl dX6_way_0 ?_
  refine r_callS (As := [_]) C (c_X6_isLong _ _ _ (by omega)) ok_X6_isLong ln_X6_73 rfl rfl (Nat.le_of_ble_eq_true rfl) (Nat.le_of_ble_eq_true rfl) (Nat.le_of_ble_eq_true rfl) dX6_way_1 (fun v1 τ1 hq1 => ?_)
  obtain ⟨rfl, rfl⟩ := hq1
  refine r_ifB_eq (tgt := 26) C (by decide) dX6_way_4 (fun c4 => ?_) (fun c4 => ?_)
  · refine r_bipush C (by decide +kernel) dX6_way_26 ?_
    refine r_ireturn C rfl ?_ dX6_way_28
    exact pM_of (by simp [s_way, *]) rfl
  · refine r_iload_n C rfl dX6_way_7 ?_
    refine r_callS (As := [_]) C (c_X6_isLong _ _ _ (by omega)) ok_X6_isLong ln_X6_73 rfl rfl (Nat.le_of_ble_eq_true rfl) (Nat.le_of_ble_eq_true rfl) (Nat.le_of_ble_eq_true rfl) dX6_way_8 (fun v8 τ8 hq8 => ?_)
    obtain ⟨rfl, rfl⟩ := hq8
    refine r_ifB_eq (tgt := 26) C (by decide) dX6_way_11 (fun c11 => ?_) (fun c11 => ?_)
    · refine r_bipush C (by decide +kernel) dX6_way_26 ?_
      refine r_ireturn C rfl ?_ dX6_way_28
      exact pM_of (by simp [s_way, *]) rfl
    · refine r_iload_n C rfl dX6_way_14 ?_
      refine r_iload_n C rfl dX6_way_15 ?_
      refine r_callS (As := [_, _]) C (c_X6_wayOf _ _ _ (by have := bIn_iff.mp ‹bIn f 0 21599 = true›; omega) (by have := bIn_iff.mp ‹bIn t 0 21599 = true›; omega)) ok_X6_wayOf ln_X6_96 rfl rfl (Nat.le_of_ble_eq_true rfl) (Nat.le_of_ble_eq_true rfl) (Nat.le_of_ble_eq_true rfl) dX6_way_16 (fun v16 τ16 hq16 => ?_)
      obtain ⟨rfl, rfl⟩ := hq16
      refine r_sipush C (by decide +kernel) dX6_way_19 ?_
      refine r_iadd C dX6_way_22 ?_
      refine r_goto (tgt := 28) C (by decide) dX6_way_23 ?_
      refine r_ireturn C rfl ?_ dX6_way_28
      exact pM_of (by simp [s_way, *]) rfl
set_option maxRecDepth 100000 in
theorem c_X6_list (l : Launch) (G : pw_G) (σ : pw_H) (hI : Inv (vM σ))  : Ct l shM G mX6_list [.ref (G.2.1 0)] σ (pM (s_list (vM σ) )) := by
  have h0 : 0 ≤ σ 0 0 ∧ σ 0 0 ≤ 8 := hI.1
  have h5 : 0 ≤ σ 0 5 ∧ σ 0 5 ≤ 6 := hI.2.1
  have h1 : 0 ≤ σ 0 6 ∧ σ 0 6 ≤ 6 := hI.2.2.1
  refine Ct_of (ls := [some (.ref (G.2.1 0))]) (by decide +kernel) (Nat.le_of_ble_eq_true rfl) rfl (fun X C => ?_)
  refine r_aload_n C rfl dX6_list_0 ?_
  refine r_getI (jz := 6) C 5 6 rfl rfl (by decide) rfl uw_X6 fl_X6_66 rfl dX6_list_1 ?_
  refine r_bipush C (by decide +kernel) dX6_list_4 ?_
  refine r_icmp_ne (tgt := 12) C (by decide) (by omega) (by omega) dX6_list_6 (fun c6 => ?_) (fun c6 => ?_)
  · refine r_aload_n C rfl dX6_list_12 ?_
    refine r_getR C 5 7 rfl rfl (by decide) rfl uw_X6 fl_X6_26 dX6_list_13 ?_
    refine r_aload_n C rfl dX6_list_16 ?_
    refine r_getI (jz := 6) C 5 6 rfl rfl (by decide) rfl uw_X6 fl_X6_66 rfl dX6_list_17 ?_
    refine r_iconst C dX6_list_20 ?_
    refine r_iastore C rfl (by decide) (by omega) dX6_list_21 ?_
    refine r_aload_n C rfl dX6_list_22 ?_
    refine r_dup C rfl dX6_list_23 ?_
    refine r_getI (jz := 6) C 5 6 rfl rfl (by decide) rfl uw_X6 fl_X6_66 rfl dX6_list_24 ?_
    try simp (disch := decide) only [pw_u_k, pw_u_j, pw_u_s]
    refine r_iconst C dX6_list_27 ?_
    refine r_iadd C dX6_list_28 ?_
    refine r_putI (jz := 6) C 5 6 tyX6 tyX6_ok nmX6 rfl rfl (by decide) rfl uw_X6 fl_X6_66 rfl rfl rfl dX6_list_29 ?_
    refine r_aload_n C rfl dX6_list_32 ?_
    refine r_getI (jz := 6) C 5 6 rfl rfl (by decide) rfl uw_X6 fl_X6_66 rfl dX6_list_33 ?_
    try simp (disch := decide) only [pw_u_k, pw_u_j, pw_u_s]
    refine r_iconst C dX6_list_36 ?_
    refine r_isub C dX6_list_37 ?_
    refine r_ireturn C rfl ?_ dX6_list_38
    have h9 : σ 5 (σ 0 6) = 0 := hI.2.2.2.2.2.2.2.2.1 (σ 0 6) (Int.le_refl _)
    refine pM_of (a := pw_u (vM σ) 0 2 (σ 0 6 + 1)) (by rw [s_list, if_neg (show ¬ vM σ 0 2 = 6 from (show ¬ σ 0 6 = 6 by omega)), show σ 0 6 + 1 - 1 = σ 0 6 by omega]; rfl) ?_
    rw [pw_u_id h9]
    exact vM_list0 σ _
  · refine r_bipush C (by decide +kernel) dX6_list_9 ?_
    refine r_ireturn C rfl ?_ dX6_list_11
    exact pM_of (by rw [s_list, if_pos (show vM σ 0 2 = 6 from (show σ 0 6 = 6 by omega))]) rfl
set_option maxRecDepth 100000 in
theorem c_X6_line (l : Launch) (G : pw_G) (σ : pw_H) {t x w : Int} (hI : Inv (vM σ)) (q_t : InI t) (q_x : InI x) (q_w : InI w) : Ct l shM G mX6_line [.ref (G.2.1 0), vI t, vI x, vI w] σ (pM (s_line (vM σ) t x w)) := by
  have h0 : 0 ≤ σ 0 0 ∧ σ 0 0 ≤ 8 := hI.1
  have h5 : 0 ≤ σ 0 5 ∧ σ 0 5 ≤ 6 := hI.2.1
  have h1 : 0 ≤ σ 0 6 ∧ σ 0 6 ≤ 6 := hI.2.2.1
  refine Ct_of (ls := [some (.ref (G.2.1 0)), some (vI t), some (vI x), some (vI w)]) (by decide +kernel) (Nat.le_of_ble_eq_true rfl) rfl (fun X C => ?_)
  refine r_aload_n C rfl dX6_line_0 ?_
  refine r_iload_n C rfl dX6_line_1 ?_
  refine r_callV (As := [_]) C (c_X6_isList _ _ _ (by omega) hI) ok_X6_isList ln_X6_69 rfl rfl rfl rfl (Nat.le_of_ble_eq_true rfl) (Nat.le_of_ble_eq_true rfl) (Nat.le_of_ble_eq_true rfl) dX6_line_2 (fun v2 τ2 hq2 => ?_)
  obtain ⟨rfl, rfl⟩ := hq2
  refine r_ifB_ne (tgt := 10) C (by decide) dX6_line_5 (fun c5 => ?_) (fun c5 => ?_)
  · have h8 : 0 ≤ t ∧ t ≤ σ 0 6 - 1 := bList_t c5
    have h9 : 0 ≤ σ 5 t ∧ σ 5 t ≤ 8 := hI.2.2.2.2.2.2.2.1 t
    refine r_iload_n C rfl dX6_line_10 ?_
    refine r_callS (As := [_]) C (c_X6_isLong _ _ _ (by omega)) ok_X6_isLong ln_X6_73 rfl rfl (Nat.le_of_ble_eq_true rfl) (Nat.le_of_ble_eq_true rfl) (Nat.le_of_ble_eq_true rfl) dX6_line_11 (fun v11 τ11 hq11 => ?_)
    obtain ⟨rfl, rfl⟩ := hq11
    refine r_ifB_eq (tgt := 24) C (by decide) dX6_line_14 (fun c14 => ?_) (fun c14 => ?_)
    · refine r_bipush C (by decide +kernel) dX6_line_24 ?_
      refine r_ireturn C rfl ?_ dX6_line_26
      exact pM_of (by simp [s_line, bPlace, *]) rfl
    · refine r_iload_n C rfl dX6_line_17 ?_
      refine r_callS (As := [_]) C (c_X6_isWide _ _ _ (by omega)) ok_X6_isWide ln_X6_76 rfl rfl (Nat.le_of_ble_eq_true rfl) (Nat.le_of_ble_eq_true rfl) (Nat.le_of_ble_eq_true rfl) dX6_line_18 (fun v18 τ18 hq18 => ?_)
      obtain ⟨rfl, rfl⟩ := hq18
      refine r_ifB_ne (tgt := 27) C (by decide) dX6_line_21 (fun c21 => ?_) (fun c21 => ?_)
      · refine r_aload_n C rfl dX6_line_27 ?_
        refine r_getR C 5 7 rfl rfl (by decide) rfl uw_X6 fl_X6_26 dX6_line_28 ?_
        refine r_iload_n C rfl dX6_line_31 ?_
        refine r_iaload C rfl (by decide) (by omega) dX6_line_32 ?_
        refine r_bipush C (by decide +kernel) dX6_line_33 ?_
        refine r_icmp_ne (tgt := 41) C (by decide) (by omega) (by omega) dX6_line_35 (fun c35 => ?_) (fun c35 => ?_)
        · refine r_aload_n C rfl dX6_line_41 ?_
          refine r_getR C 5 8 rfl rfl (by decide) rfl uw_X6 fl_X6_29 dX6_line_42 ?_
          refine r_bipush C (by decide +kernel) dX6_line_45 ?_
          refine r_iload_n C rfl dX6_line_47 ?_
          refine r_imul C dX6_line_48 ?_
          rw [Int.mul_comm (8 : Int)]
          refine r_aload_n C rfl dX6_line_49 ?_
          refine r_getR C 5 7 rfl rfl (by decide) rfl uw_X6 fl_X6_26 dX6_line_50 ?_
          refine r_iload_n C rfl dX6_line_53 ?_
          refine r_iaload C rfl (by decide) (by omega) dX6_line_54 ?_
          refine r_iadd C dX6_line_55 ?_
          refine r_iload_n C rfl dX6_line_56 ?_
          refine r_iastore C rfl (by decide) (by omega) dX6_line_57 ?_
          refine r_aload_n C rfl dX6_line_58 ?_
          refine r_getR C 5 9 rfl rfl (by decide) rfl uw_X6 fl_X6_32 dX6_line_59 ?_
          refine r_bipush C (by decide +kernel) dX6_line_62 ?_
          refine r_iload_n C rfl dX6_line_64 ?_
          refine r_imul C dX6_line_65 ?_
          rw [Int.mul_comm (8 : Int)]
          refine r_aload_n C rfl dX6_line_66 ?_
          refine r_getR C 5 7 rfl rfl (by decide) rfl uw_X6 fl_X6_26 dX6_line_67 ?_
          refine r_iload_n C rfl dX6_line_70 ?_
          refine r_iaload C rfl (by decide) (by omega) dX6_line_71 ?_
          try simp (disch := decide) only [pw_u_k, pw_u_j, pw_u_s]
          refine r_iadd C dX6_line_72 ?_
          refine r_iload_n C rfl dX6_line_73 ?_
          refine r_iastore C rfl (by decide) (by omega) dX6_line_74 ?_
          refine r_aload_n C rfl dX6_line_75 ?_
          refine r_getR C 5 7 rfl rfl (by decide) rfl uw_X6 fl_X6_26 dX6_line_76 ?_
          refine r_iload_n C rfl dX6_line_79 ?_
          refine r_dup2 C rfl rfl dX6_line_80 ?_
          refine r_iaload C rfl (by decide) (by omega) dX6_line_81 ?_
          try simp (disch := decide) only [pw_u_k, pw_u_j, pw_u_s]
          refine r_iconst C dX6_line_82 ?_
          refine r_iadd C dX6_line_83 ?_
          refine r_iastore C rfl (by decide) (by omega) dX6_line_84 ?_
          refine r_aload_n C rfl dX6_line_85 ?_
          refine r_getR C 5 7 rfl rfl (by decide) rfl uw_X6 fl_X6_26 dX6_line_86 ?_
          refine r_iload_n C rfl dX6_line_89 ?_
          refine r_iaload C rfl (by decide) (by omega) dX6_line_90 ?_
          try simp (disch := decide) only [pw_u_k, pw_u_j, pw_u_s]
          refine r_iconst C dX6_line_91 ?_
          refine r_isub C dX6_line_92 ?_
          refine r_ireturn C rfl ?_ dX6_line_93
          exact pM_of (a := pw_u (pw_u (pw_u (vM σ) 5 t (σ 5 t + 1)) 6 (t * 8 + σ 5 t) x) 7 (t * 8 + σ 5 t) w) (by rw [s_line, if_neg (by simp [c5]), if_neg (by simp [bPlace, *]), if_neg (show ¬ vM σ 5 t = 8 from (show ¬ σ 5 t = 8 by omega)), show σ 5 t + 1 - 1 = σ 5 t by omega]; rfl) (vM_line σ _ _ _ _ _)
        · refine r_bipush C (by decide +kernel) dX6_line_38 ?_
          refine r_ireturn C rfl ?_ dX6_line_40
          exact pM_of (by rw [s_line, if_neg (by simp [c5]), if_neg (by simp [bPlace, *]), if_pos (show vM σ 5 t = 8 from (show σ 5 t = 8 by omega))]) rfl
      · refine r_bipush C (by decide +kernel) dX6_line_24 ?_
        refine r_ireturn C rfl ?_ dX6_line_26
        exact pM_of (by simp [s_line, bPlace, *]) rfl
  · refine r_iconst C dX6_line_8 ?_
    refine r_ireturn C rfl ?_ dX6_line_9
    exact pM_of (by simp [s_line, *]) rfl
set_option maxRecDepth 100000 in
theorem c_X6_written (l : Launch) (G : pw_G) (σ : pw_H) {t i w : Int} (hI : Inv (vM σ)) (q_t : InI t) (q_i : InI i) (q_w : InI w) : Ct l shM G mX6_written [.ref (G.2.1 0), vI t, vI i, vI w] σ (pM (s_written (vM σ) t i w)) := by
  have h0 : 0 ≤ σ 0 0 ∧ σ 0 0 ≤ 8 := hI.1
  have h5 : 0 ≤ σ 0 5 ∧ σ 0 5 ≤ 6 := hI.2.1
  have h1 : 0 ≤ σ 0 6 ∧ σ 0 6 ≤ 6 := hI.2.2.1
  refine Ct_of (ls := [some (.ref (G.2.1 0)), some (vI t), some (vI i), some (vI w)]) (by decide +kernel) (Nat.le_of_ble_eq_true rfl) rfl (fun X C => ?_)
  refine r_aload_n C rfl dX6_written_0 ?_
  refine r_iload_n C rfl dX6_written_1 ?_
  refine r_iload_n C rfl dX6_written_2 ?_
  refine r_callV (As := [_, _]) C (c_X6_isLine _ _ _ (by omega) (by omega) hI) ok_X6_isLine ln_X6_99 rfl rfl rfl rfl (Nat.le_of_ble_eq_true rfl) (Nat.le_of_ble_eq_true rfl) (Nat.le_of_ble_eq_true rfl) dX6_written_3 (fun v3 τ3 hq3 => ?_)
  obtain ⟨rfl, rfl⟩ := hq3
  refine r_ifB_ne (tgt := 11) C (by decide) dX6_written_6 (fun c6 => ?_) (fun c6 => ?_)
  · have h8 : (0 ≤ t ∧ t ≤ σ 0 6 - 1) ∧ 0 ≤ i ∧ i ≤ σ 5 t - 1 := bLine_t c6
    have h9 : 0 ≤ σ 5 t ∧ σ 5 t ≤ 8 := hI.2.2.2.2.2.2.2.1 t
    refine r_iload_n C rfl dX6_written_11 ?_
    refine r_if_ne (tgt := 29) C (by decide) (by omega) dX6_written_12 (fun c12 => ?_) (fun c12 => ?_)
    · refine r_iload_n C rfl dX6_written_29 ?_
      refine r_iconst C dX6_written_30 ?_
      refine r_icmp_ne (tgt := 52) C (by decide) (by omega) (by omega) dX6_written_31 (fun c31 => ?_) (fun c31 => ?_)
      · refine r_bipush C (by decide +kernel) dX6_written_52 ?_
        refine r_ireturn C rfl ?_ dX6_written_54
        first | (refine pM_of (a := vM σ) ?_ rfl; rw [s_written, if_neg (by simp [c6]), if_pos (by omega)]; rfl) | (refine pM_of (a := vM σ) ?_ rfl; rw [s_written, if_neg (by simp [c6]), if_neg (by omega), if_pos (by omega)]; rfl) | (refine pM_of (a := vM σ) ?_ rfl; rw [s_written, if_neg (by simp [c6]), if_neg (by omega), if_neg (by omega)])
      · refine r_aload_n C rfl dX6_written_34 ?_
        refine r_getR C 5 9 rfl rfl (by decide) rfl uw_X6 fl_X6_32 dX6_written_35 ?_
        refine r_bipush C (by decide +kernel) dX6_written_38 ?_
        refine r_iload_n C rfl dX6_written_40 ?_
        refine r_imul C dX6_written_41 ?_
        rw [Int.mul_comm (8 : Int)]
        refine r_iload_n C rfl dX6_written_42 ?_
        refine r_iadd C dX6_written_43 ?_
        refine r_iaload C rfl (by decide) (by omega) dX6_written_44 ?_
        refine r_sipush C (by decide +kernel) dX6_written_45 ?_
        refine r_iadd C dX6_written_48 ?_
        refine r_goto (tgt := 54) C (by decide) dX6_written_49 ?_
        refine r_ireturn C rfl ?_ dX6_written_54
        first | (refine pM_of (a := vM σ) ?_ rfl; rw [s_written, if_neg (by simp [c6]), if_pos (by omega)]; rfl) | (refine pM_of (a := vM σ) ?_ rfl; rw [s_written, if_neg (by simp [c6]), if_neg (by omega), if_pos (by omega)]; rfl) | (refine pM_of (a := vM σ) ?_ rfl; rw [s_written, if_neg (by simp [c6]), if_neg (by omega), if_neg (by omega)])
    · refine r_aload_n C rfl dX6_written_15 ?_
      refine r_getR C 5 8 rfl rfl (by decide) rfl uw_X6 fl_X6_29 dX6_written_16 ?_
      refine r_bipush C (by decide +kernel) dX6_written_19 ?_
      refine r_iload_n C rfl dX6_written_21 ?_
      refine r_imul C dX6_written_22 ?_
      rw [Int.mul_comm (8 : Int)]
      refine r_iload_n C rfl dX6_written_23 ?_
      refine r_iadd C dX6_written_24 ?_
      refine r_iaload C rfl (by decide) (by omega) dX6_written_25 ?_
      refine r_goto (tgt := 54) C (by decide) dX6_written_26 ?_
      refine r_ireturn C rfl ?_ dX6_written_54
      first | (refine pM_of (a := vM σ) ?_ rfl; rw [s_written, if_neg (by simp [c6]), if_pos (by omega)]; rfl) | (refine pM_of (a := vM σ) ?_ rfl; rw [s_written, if_neg (by simp [c6]), if_neg (by omega), if_pos (by omega)]; rfl) | (refine pM_of (a := vM σ) ?_ rfl; rw [s_written, if_neg (by simp [c6]), if_neg (by omega), if_neg (by omega)])
  · refine r_iconst C dX6_written_9 ?_
    refine r_ireturn C rfl ?_ dX6_written_10
    exact pM_of (by simp [s_written, *]) rfl
set_option maxRecDepth 100000 in
theorem c_X6_mend (l : Launch) (G : pw_G) (σ : pw_H) {t i x w : Int} (hI : Inv (vM σ)) (q_t : InI t) (q_i : InI i) (q_x : InI x) (q_w : InI w) : Ct l shM G mX6_mend [.ref (G.2.1 0), vI t, vI i, vI x, vI w] σ (pM (s_mend (vM σ) t i x w)) := by
  have h0 : 0 ≤ σ 0 0 ∧ σ 0 0 ≤ 8 := hI.1
  have h5 : 0 ≤ σ 0 5 ∧ σ 0 5 ≤ 6 := hI.2.1
  have h1 : 0 ≤ σ 0 6 ∧ σ 0 6 ≤ 6 := hI.2.2.1
  refine Ct_of (ls := [some (.ref (G.2.1 0)), some (vI t), some (vI i), some (vI x), some (vI w), none]) (by decide +kernel) (Nat.le_of_ble_eq_true rfl) rfl (fun X C => ?_)
  refine r_aload_n C rfl dX6_mend_0 ?_
  refine r_iload_n C rfl dX6_mend_1 ?_
  refine r_iload_n C rfl dX6_mend_2 ?_
  refine r_callV (As := [_, _]) C (c_X6_isLine _ _ _ (by omega) (by omega) hI) ok_X6_isLine ln_X6_99 rfl rfl rfl rfl (Nat.le_of_ble_eq_true rfl) (Nat.le_of_ble_eq_true rfl) (Nat.le_of_ble_eq_true rfl) dX6_mend_3 (fun v3 τ3 hq3 => ?_)
  obtain ⟨rfl, rfl⟩ := hq3
  refine r_ifB_ne (tgt := 11) C (by decide) dX6_mend_6 (fun c6 => ?_) (fun c6 => ?_)
  · have h8 : (0 ≤ t ∧ t ≤ σ 0 6 - 1) ∧ 0 ≤ i ∧ i ≤ σ 5 t - 1 := bLine_t c6
    have h9 : 0 ≤ σ 5 t ∧ σ 5 t ≤ 8 := hI.2.2.2.2.2.2.2.1 t
    refine r_iload_n C rfl dX6_mend_11 ?_
    refine r_callS (As := [_]) C (c_X6_isLong _ _ _ (by omega)) ok_X6_isLong ln_X6_73 rfl rfl (Nat.le_of_ble_eq_true rfl) (Nat.le_of_ble_eq_true rfl) (Nat.le_of_ble_eq_true rfl) dX6_mend_12 (fun v12 τ12 hq12 => ?_)
    obtain ⟨rfl, rfl⟩ := hq12
    refine r_ifB_eq (tgt := 26) C (by decide) dX6_mend_15 (fun c15 => ?_) (fun c15 => ?_)
    · refine r_bipush C (by decide +kernel) dX6_mend_26 ?_
      refine r_ireturn C rfl ?_ dX6_mend_28
      exact pM_of (by simp [s_mend, bPlace, *]) rfl
    · refine r_iload C rfl dX6_mend_18 ?_
      refine r_callS (As := [_]) C (c_X6_isWide _ _ _ (by omega)) ok_X6_isWide ln_X6_76 rfl rfl (Nat.le_of_ble_eq_true rfl) (Nat.le_of_ble_eq_true rfl) (Nat.le_of_ble_eq_true rfl) dX6_mend_20 (fun v20 τ20 hq20 => ?_)
      obtain ⟨rfl, rfl⟩ := hq20
      refine r_ifB_ne (tgt := 29) C (by decide) dX6_mend_23 (fun c23 => ?_) (fun c23 => ?_)
      · refine r_aload_n C rfl dX6_mend_29 ?_
        refine r_getR C 5 8 rfl rfl (by decide) rfl uw_X6 fl_X6_29 dX6_mend_30 ?_
        refine r_bipush C (by decide +kernel) dX6_mend_33 ?_
        refine r_iload_n C rfl dX6_mend_35 ?_
        refine r_imul C dX6_mend_36 ?_
        rw [Int.mul_comm (8 : Int)]
        refine r_iload_n C rfl dX6_mend_37 ?_
        refine r_iadd C dX6_mend_38 ?_
        refine r_iaload C rfl (by decide) (by omega) dX6_mend_39 ?_
        refine r_istore (ls' := [_, _, _, _, _, _]) C (by decide) rfl rfl dX6_mend_40 ?_
        refine r_aload_n C rfl dX6_mend_42 ?_
        refine r_getR C 5 8 rfl rfl (by decide) rfl uw_X6 fl_X6_29 dX6_mend_43 ?_
        refine r_bipush C (by decide +kernel) dX6_mend_46 ?_
        refine r_iload_n C rfl dX6_mend_48 ?_
        refine r_imul C dX6_mend_49 ?_
        rw [Int.mul_comm (8 : Int)]
        refine r_iload_n C rfl dX6_mend_50 ?_
        refine r_iadd C dX6_mend_51 ?_
        refine r_iload_n C rfl dX6_mend_52 ?_
        refine r_iastore C rfl (by decide) (by omega) dX6_mend_53 ?_
        refine r_aload_n C rfl dX6_mend_54 ?_
        refine r_getR C 5 9 rfl rfl (by decide) rfl uw_X6 fl_X6_32 dX6_mend_55 ?_
        refine r_bipush C (by decide +kernel) dX6_mend_58 ?_
        refine r_iload_n C rfl dX6_mend_60 ?_
        refine r_imul C dX6_mend_61 ?_
        rw [Int.mul_comm (8 : Int)]
        refine r_iload_n C rfl dX6_mend_62 ?_
        refine r_iadd C dX6_mend_63 ?_
        refine r_iload C rfl dX6_mend_64 ?_
        refine r_iastore C rfl (by decide) (by omega) dX6_mend_66 ?_
        refine r_iload C rfl dX6_mend_67 ?_
        refine r_ireturn C rfl ?_ dX6_mend_69
        exact pM_of (by rw [s_mend, if_neg (by simp [c6]), if_neg (by simp [bPlace, *])]; rfl) (vM_mend σ _ _ _)
      · refine r_bipush C (by decide +kernel) dX6_mend_26 ?_
        refine r_ireturn C rfl ?_ dX6_mend_28
        exact pM_of (by simp [s_mend, bPlace, *]) rfl
  · refine r_iconst C dX6_mend_9 ?_
    refine r_ireturn C rfl ?_ dX6_mend_10
    exact pM_of (by simp [s_mend, *]) rfl
set_option maxRecDepth 100000 in
theorem c_X6_round_ (l : Launch) (G : pw_G) (σ : pw_H) {t p : Int} (hI : Inv (vM σ)) (q_t : InI t) (q_p : InI p) : Ct l shM G mX6_round_ [.ref (G.2.1 0), vI t, vI p] σ (pM (s_round (vM σ) t p)) := by
  have h0 : 0 ≤ σ 0 0 ∧ σ 0 0 ≤ 8 := hI.1
  have h5 : 0 ≤ σ 0 5 ∧ σ 0 5 ≤ 6 := hI.2.1
  have h1 : 0 ≤ σ 0 6 ∧ σ 0 6 ≤ 6 := hI.2.2.1
  refine Ct_of (ls := [some (.ref (G.2.1 0)), some (vI t), some (vI p), none, none]) (by decide +kernel) (Nat.le_of_ble_eq_true rfl) rfl (fun X C => ?_)
  have loop : ∀ (n i : Nat), bList (vM σ) t = true → 2 ≤ p → p ≤ 1800 → i + n = (σ 5 t).toNat → bIn p 2 1800 = true → PW X shM G 29 [some (.ref (G.2.1 0)), some (vI t), some (vI p), some (vI (sSum (fun i => zB (decide (vM σ 6 (t * 8 + i) % p = 0))) i)), some (vI i)] [] σ := by
    intro n
    induction n with
    | zero =>
      intro i c8 p1 p2 hi c21
      have h8 : 0 ≤ t ∧ t ≤ σ 0 6 - 1 := bList_t c8
      have h9 : 0 ≤ σ 5 t ∧ σ 5 t ≤ 8 := hI.2.2.2.2.2.2.2.1 t
      refine r_iload C rfl dX6_round__29 ?_
      refine r_aload_n C rfl dX6_round__31 ?_
      refine r_getR C 5 7 rfl rfl (by decide) rfl uw_X6 fl_X6_26 dX6_round__32 ?_
      refine r_iload_n C rfl dX6_round__35 ?_
      refine r_iaload C rfl (by decide) (by omega) dX6_round__36 ?_
      refine r_icmp_ge (tgt := 71) C (by decide) (by omega) (by omega) dX6_round__37 (fun c37 => ?_) (fun c37 => ?_)
      · refine r_iload_n C rfl dX6_round__71 ?_
        refine r_ireturn C rfl ?_ dX6_round__72
        exact pM_of (by simp [s_round, *]; rw [show i = (σ 5 t).toNat by omega]; rfl) rfl
      · omega
    | succ n ih =>
      intro i c8 p1 p2 hi c21
      have h8 : 0 ≤ t ∧ t ≤ σ 0 6 - 1 := bList_t c8
      have h9 : 0 ≤ σ 5 t ∧ σ 5 t ≤ 8 := hI.2.2.2.2.2.2.2.1 t
      have h10 : 0 ≤ σ 6 (t * 8 + i) ∧ σ 6 (t * 8 + i) ≤ 21599 := hI.2.2.2.2.2.2.2.2.2.1 _
      have h11 : (σ 6 (t * 8 + i)).tmod p = σ 6 (t * 8 + i) % p := Int.tmod_eq_emod_of_nonneg h10.1
      have h12 := Int.emod_nonneg (σ 6 (t * 8 + i)) (show p ≠ 0 by omega)
      have h13 := Int.emod_lt_of_pos (σ 6 (t * 8 + i)) (show 0 < p by omega)
      refine r_iload C rfl dX6_round__29 ?_
      refine r_aload_n C rfl dX6_round__31 ?_
      refine r_getR C 5 7 rfl rfl (by decide) rfl uw_X6 fl_X6_26 dX6_round__32 ?_
      refine r_iload_n C rfl dX6_round__35 ?_
      refine r_iaload C rfl (by decide) (by omega) dX6_round__36 ?_
      refine r_icmp_ge (tgt := 71) C (by decide) (by omega) (by omega) dX6_round__37 (fun c37 => ?_) (fun c37 => ?_)
      · omega
      · refine r_iload_n C rfl dX6_round__40 ?_
        refine r_aload_n C rfl dX6_round__41 ?_
        refine r_getR C 5 8 rfl rfl (by decide) rfl uw_X6 fl_X6_29 dX6_round__42 ?_
        refine r_bipush C (by decide +kernel) dX6_round__45 ?_
        refine r_iload_n C rfl dX6_round__47 ?_
        refine r_imul C dX6_round__48 ?_
        rw [Int.mul_comm (8 : Int)]
        refine r_iload C rfl dX6_round__49 ?_
        refine r_iadd C dX6_round__51 ?_
        refine r_iaload C rfl (by decide) (by omega) dX6_round__52 ?_
        refine r_iload_n C rfl dX6_round__53 ?_
        refine r_irem C (by omega) (by omega) (by omega) dX6_round__54 ?_
        refine r_if_ne (tgt := 62) C (by decide) (by omega) dX6_round__55 (fun c55 => ?_) (fun c55 => ?_)
        · refine r_iconst C dX6_round__62 ?_
          refine r_iadd C dX6_round__63 ?_
          refine r_istore_n (ls' := [_, _, _, _, _]) C (by decide) rfl rfl dX6_round__64 ?_
          refine r_iinc (ls' := [_, _, _, _, _]) C rfl (by decide) rfl rfl dX6_round__65 ?_
          refine r_goto (tgt := 29) C (by decide) dX6_round__68 ?_
          refine PW_ls (ih (i + 1) c8 p1 p2 (by omega) c21) ?_
          have e : sSum (fun i => zB (decide (vM σ 6 (t * 8 + i) % p = 0))) (i + 1) = sSum (fun i => zB (decide (vM σ 6 (t * 8 + i) % p = 0))) i + zB (decide (σ 6 (t * 8 + i) % p = 0)) := rfl
          rw [e]
          first | rw [zB_t (by rw [decide_eq_true_eq]; omega)]; rfl | rw [zB_f (by rw [decide_eq_false_iff_not]; omega)]; rfl
        · refine r_iconst C dX6_round__58 ?_
          refine r_goto (tgt := 63) C (by decide) dX6_round__59 ?_
          refine r_iadd C dX6_round__63 ?_
          refine r_istore_n (ls' := [_, _, _, _, _]) C (by decide) rfl rfl dX6_round__64 ?_
          refine r_iinc (ls' := [_, _, _, _, _]) C rfl (by decide) rfl rfl dX6_round__65 ?_
          refine r_goto (tgt := 29) C (by decide) dX6_round__68 ?_
          refine PW_ls (ih (i + 1) c8 p1 p2 (by omega) c21) ?_
          have e : sSum (fun i => zB (decide (vM σ 6 (t * 8 + i) % p = 0))) (i + 1) = sSum (fun i => zB (decide (vM σ 6 (t * 8 + i) % p = 0))) i + zB (decide (σ 6 (t * 8 + i) % p = 0)) := rfl
          rw [e]
          first | rw [zB_t (by rw [decide_eq_true_eq]; omega)]; rfl | rw [zB_f (by rw [decide_eq_false_iff_not]; omega)]; rfl
  refine r_aload_n C rfl dX6_round__0 ?_
  refine r_iload_n C rfl dX6_round__1 ?_
  refine r_callV (As := [_]) C (c_X6_isList _ _ _ (by omega) hI) ok_X6_isList ln_X6_69 rfl rfl rfl rfl (Nat.le_of_ble_eq_true rfl) (Nat.le_of_ble_eq_true rfl) (Nat.le_of_ble_eq_true rfl) dX6_round__2 (fun v2 τ2 hq2 => ?_)
  obtain ⟨rfl, rfl⟩ := hq2
  refine r_ifB_ne (tgt := 10) C (by decide) dX6_round__5 (fun c5 => ?_) (fun c5 => ?_)
  · refine r_iload_n C rfl dX6_round__10 ?_
    refine r_iconst C dX6_round__11 ?_
    refine r_sipush C (by decide +kernel) dX6_round__12 ?_
    refine r_callS (As := [_, _, _]) C (c_X6_in _ _ _ (by omega) (by omega) (by omega)) ok_X6_in ln_X6_59 rfl rfl (Nat.le_of_ble_eq_true rfl) (Nat.le_of_ble_eq_true rfl) (Nat.le_of_ble_eq_true rfl) dX6_round__15 (fun v15 τ15 hq15 => ?_)
    obtain ⟨rfl, rfl⟩ := hq15
    refine r_ifB_ne (tgt := 24) C (by decide) dX6_round__18 (fun c18 => ?_) (fun c18 => ?_)
    · have h11 := bIn_iff.mp c18
      refine r_iconst C dX6_round__24 ?_
      refine r_istore_n (ls' := [_, _, _, _, _]) C (by decide) rfl rfl dX6_round__25 ?_
      refine r_iconst C dX6_round__26 ?_
      refine r_istore (ls' := [_, _, _, _, _]) C (by decide) rfl rfl dX6_round__27 ?_
      have h9 : 0 ≤ σ 5 t ∧ σ 5 t ≤ 8 := hI.2.2.2.2.2.2.2.1 t
      exact loop (σ 5 t).toNat 0 c5 (by omega) (by omega) (by omega) c18
    · refine r_bipush C (by decide +kernel) dX6_round__21 ?_
      refine r_ireturn C rfl ?_ dX6_round__23
      exact pM_of (by simp [s_round, *]) rfl
  · refine r_iconst C dX6_round__8 ?_
    refine r_ireturn C rfl ?_ dX6_round__9
    exact pM_of (by simp [s_round, *]) rfl
set_option maxRecDepth 100000 in
theorem c_X6_count (l : Launch) (G : pw_G) (σ : pw_H) {w : Int} (hI : Inv (vM σ)) (q_w : InI w) : Ct l shM G mX6_count [.ref (G.2.1 0), vI w] σ (pM (s_count (vM σ) w)) := by
  have h0 : 0 ≤ σ 0 0 ∧ σ 0 0 ≤ 8 := hI.1
  have h5 : 0 ≤ σ 0 5 ∧ σ 0 5 ≤ 6 := hI.2.1
  have h1 : 0 ≤ σ 0 6 ∧ σ 0 6 ≤ 6 := hI.2.2.1
  refine Ct_of (ls := [some (.ref (G.2.1 0)), some (vI w), none, none, none]) (by decide +kernel) (Nat.le_of_ble_eq_true rfl) rfl (fun X C => ?_)
  have fin : PW X shM G 72 [some (.ref (G.2.1 0)), some (vI w), some (vI (sSum (vM σ 5) (σ 0 6).toNat)), some (vI (sSum (fun s => zB (decide (vM σ 4 s ≤ vM σ 0 1))) (σ 0 0).toNat)), none] [] σ := by
    refine r_iload_n C rfl dX6_count_72 ?_
    refine r_if_ne (tgt := 83) C (by decide) (by omega) dX6_count_73 (fun c73 => ?_) (fun c73 => ?_)
    · refine r_iload_n C rfl dX6_count_83 ?_
      refine r_iconst C dX6_count_84 ?_
      refine r_icmp_ne (tgt := 95) C (by decide) (by omega) (by omega) dX6_count_85 (fun c85 => ?_) (fun c85 => ?_)
      · refine r_iload_n C rfl dX6_count_95 ?_
        refine r_iconst C dX6_count_96 ?_
        refine r_icmp_ne (tgt := 104) C (by decide) (by omega) (by omega) dX6_count_97 (fun c97 => ?_) (fun c97 => ?_)
        · refine r_iload_n C rfl dX6_count_104 ?_
          refine r_iconst C dX6_count_105 ?_
          refine r_icmp_ne (tgt := 113) C (by decide) (by omega) (by omega) dX6_count_106 (fun c106 => ?_) (fun c106 => ?_)
          · refine r_bipush C (by decide +kernel) dX6_count_113 ?_
            refine r_ireturn C rfl ?_ dX6_count_115
            first | (refine pM_of (a := vM σ) ?_ rfl; rw [s_count, if_pos (by omega)]; rfl) | (refine pM_of (a := vM σ) ?_ rfl; rw [s_count, if_neg (by omega), if_pos (by omega)]; rfl) | (refine pM_of (a := vM σ) ?_ rfl; rw [s_count, if_neg (by omega), if_neg (by omega), if_pos (by omega)]; rfl) | (refine pM_of (a := vM σ) ?_ rfl; rw [s_count, if_neg (by omega), if_neg (by omega), if_neg (by omega), if_pos (by omega)]; rfl) | (refine pM_of (a := vM σ) ?_ rfl; rw [s_count, if_neg (by omega), if_neg (by omega), if_neg (by omega), if_neg (by omega)])
          · refine r_iload_n C rfl dX6_count_109 ?_
            refine r_goto (tgt := 115) C (by decide) dX6_count_110 ?_
            refine r_ireturn C rfl ?_ dX6_count_115
            first | (refine pM_of (a := vM σ) ?_ rfl; rw [s_count, if_pos (by omega)]; rfl) | (refine pM_of (a := vM σ) ?_ rfl; rw [s_count, if_neg (by omega), if_pos (by omega)]; rfl) | (refine pM_of (a := vM σ) ?_ rfl; rw [s_count, if_neg (by omega), if_neg (by omega), if_pos (by omega)]; rfl) | (refine pM_of (a := vM σ) ?_ rfl; rw [s_count, if_neg (by omega), if_neg (by omega), if_neg (by omega), if_pos (by omega)]; rfl) | (refine pM_of (a := vM σ) ?_ rfl; rw [s_count, if_neg (by omega), if_neg (by omega), if_neg (by omega), if_neg (by omega)])
        · refine r_iload_n C rfl dX6_count_100 ?_
          refine r_goto (tgt := 115) C (by decide) dX6_count_101 ?_
          refine r_ireturn C rfl ?_ dX6_count_115
          first | (refine pM_of (a := vM σ) ?_ rfl; rw [s_count, if_pos (by omega)]; rfl) | (refine pM_of (a := vM σ) ?_ rfl; rw [s_count, if_neg (by omega), if_pos (by omega)]; rfl) | (refine pM_of (a := vM σ) ?_ rfl; rw [s_count, if_neg (by omega), if_neg (by omega), if_pos (by omega)]; rfl) | (refine pM_of (a := vM σ) ?_ rfl; rw [s_count, if_neg (by omega), if_neg (by omega), if_neg (by omega), if_pos (by omega)]; rfl) | (refine pM_of (a := vM σ) ?_ rfl; rw [s_count, if_neg (by omega), if_neg (by omega), if_neg (by omega), if_neg (by omega)])
      · refine r_aload_n C rfl dX6_count_88 ?_
        refine r_getI (jz := 6) C 5 6 rfl rfl (by decide) rfl uw_X6 fl_X6_66 rfl dX6_count_89 ?_
        refine r_goto (tgt := 115) C (by decide) dX6_count_92 ?_
        refine r_ireturn C rfl ?_ dX6_count_115
        first | (refine pM_of (a := vM σ) ?_ rfl; rw [s_count, if_pos (by omega)]; rfl) | (refine pM_of (a := vM σ) ?_ rfl; rw [s_count, if_neg (by omega), if_pos (by omega)]; rfl) | (refine pM_of (a := vM σ) ?_ rfl; rw [s_count, if_neg (by omega), if_neg (by omega), if_pos (by omega)]; rfl) | (refine pM_of (a := vM σ) ?_ rfl; rw [s_count, if_neg (by omega), if_neg (by omega), if_neg (by omega), if_pos (by omega)]; rfl) | (refine pM_of (a := vM σ) ?_ rfl; rw [s_count, if_neg (by omega), if_neg (by omega), if_neg (by omega), if_neg (by omega)])
    · refine r_aload_n C rfl dX6_count_76 ?_
      refine r_getI (jz := 0) C 5 0 rfl rfl (by decide) rfl uw_X6 fl_X6_63 rfl dX6_count_77 ?_
      refine r_goto (tgt := 115) C (by decide) dX6_count_80 ?_
      refine r_ireturn C rfl ?_ dX6_count_115
      first | (refine pM_of (a := vM σ) ?_ rfl; rw [s_count, if_pos (by omega)]; rfl) | (refine pM_of (a := vM σ) ?_ rfl; rw [s_count, if_neg (by omega), if_pos (by omega)]; rfl) | (refine pM_of (a := vM σ) ?_ rfl; rw [s_count, if_neg (by omega), if_neg (by omega), if_pos (by omega)]; rfl) | (refine pM_of (a := vM σ) ?_ rfl; rw [s_count, if_neg (by omega), if_neg (by omega), if_neg (by omega), if_pos (by omega)]; rfl) | (refine pM_of (a := vM σ) ?_ rfl; rw [s_count, if_neg (by omega), if_neg (by omega), if_neg (by omega), if_neg (by omega)])
  have loop2 : ∀ (n i : Nat), i + n = (σ 0 0).toNat → PW X shM G 35 [some (.ref (G.2.1 0)), some (vI w), some (vI (sSum (vM σ 5) (σ 0 6).toNat)), some (vI (sSum (fun s => zB (decide (vM σ 4 s ≤ vM σ 0 1))) i)), some (vI (i : Int))] [] σ := by
    intro n
    induction n with
    | zero =>
      intro i hi
      refine r_iload C rfl dX6_count_35 ?_
      refine r_aload_n C rfl dX6_count_37 ?_
      refine r_getI (jz := 0) C 5 0 rfl rfl (by decide) rfl uw_X6 fl_X6_63 rfl dX6_count_38 ?_
      refine r_icmp_ge (tgt := 72) C (by decide) (by omega) (by omega) dX6_count_41 (fun c41 => ?_) (fun c41 => ?_)
      · refine PW_lw [true, true, true, true, false] fin ?_
        rw [show i = (σ 0 0).toNat by omega]
        rfl
      · omega
    | succ n ih =>
      intro i hi
      have h10 : 0 ≤ σ 4 i ∧ σ 4 i ≤ 6 := hI.2.2.2.2.2.2.1 i
      refine r_iload C rfl dX6_count_35 ?_
      refine r_aload_n C rfl dX6_count_37 ?_
      refine r_getI (jz := 0) C 5 0 rfl rfl (by decide) rfl uw_X6 fl_X6_63 rfl dX6_count_38 ?_
      refine r_icmp_ge (tgt := 72) C (by decide) (by omega) (by omega) dX6_count_41 (fun c41 => ?_) (fun c41 => ?_)
      · omega
      · refine r_iload_n C rfl dX6_count_44 ?_
        refine r_aload_n C rfl dX6_count_45 ?_
        refine r_getR C 5 4 rfl rfl (by decide) rfl uw_X6 fl_X6_19 dX6_count_46 ?_
        refine r_iload C rfl dX6_count_49 ?_
        refine r_iaload C rfl (by decide) (by omega) dX6_count_51 ?_
        refine r_aload_n C rfl dX6_count_52 ?_
        refine r_getI (jz := 5) C 5 5 rfl rfl (by decide) rfl uw_X6 fl_X6_22 rfl dX6_count_53 ?_
        refine r_icmp_gt (tgt := 63) C (by decide) (by omega) (by omega) dX6_count_56 (fun c56 => ?_) (fun c56 => ?_)
        · refine r_iconst C dX6_count_63 ?_
          refine r_iadd C dX6_count_64 ?_
          refine r_istore_n (ls' := [_, _, _, _, _]) C (by decide) rfl rfl dX6_count_65 ?_
          refine r_iinc (ls' := [_, _, _, _, _]) C rfl (by decide) rfl rfl dX6_count_66 ?_
          refine r_goto (tgt := 35) C (by decide) dX6_count_69 ?_
          refine PW_ls (ih (i + 1) (by omega)) ?_
          have e : sSum (fun s => zB (decide (vM σ 4 s ≤ vM σ 0 1))) (i + 1) = sSum (fun s => zB (decide (vM σ 4 s ≤ vM σ 0 1))) i + zB (decide (σ 4 i ≤ σ 0 5)) := rfl
          rw [e]
          first | rw [zB_t (by rw [decide_eq_true_eq]; omega)]; rfl | rw [zB_f (by rw [decide_eq_false_iff_not]; omega)]; rfl
        · refine r_iconst C dX6_count_59 ?_
          refine r_goto (tgt := 64) C (by decide) dX6_count_60 ?_
          refine r_iadd C dX6_count_64 ?_
          refine r_istore_n (ls' := [_, _, _, _, _]) C (by decide) rfl rfl dX6_count_65 ?_
          refine r_iinc (ls' := [_, _, _, _, _]) C rfl (by decide) rfl rfl dX6_count_66 ?_
          refine r_goto (tgt := 35) C (by decide) dX6_count_69 ?_
          refine PW_ls (ih (i + 1) (by omega)) ?_
          have e : sSum (fun s => zB (decide (vM σ 4 s ≤ vM σ 0 1))) (i + 1) = sSum (fun s => zB (decide (vM σ 4 s ≤ vM σ 0 1))) i + zB (decide (σ 4 i ≤ σ 0 5)) := rfl
          rw [e]
          first | rw [zB_t (by rw [decide_eq_true_eq]; omega)]; rfl | rw [zB_f (by rw [decide_eq_false_iff_not]; omega)]; rfl
  have loop : ∀ (n i : Nat), i + n = (σ 0 6).toNat → PW X shM G 7 [some (.ref (G.2.1 0)), some (vI w), some (vI (sSum (vM σ 5) i)), some (vI 0), some (vI (i : Int))] [] σ := by
    intro n
    induction n with
    | zero =>
      intro i hi
      refine r_iload C rfl dX6_count_7 ?_
      refine r_aload_n C rfl dX6_count_9 ?_
      refine r_getI (jz := 6) C 5 6 rfl rfl (by decide) rfl uw_X6 fl_X6_66 rfl dX6_count_10 ?_
      refine r_icmp_ge (tgt := 32) C (by decide) (by omega) (by omega) dX6_count_13 (fun c13 => ?_) (fun c13 => ?_)
      · refine r_iconst C dX6_count_32 ?_
        refine r_istore (ls' := [_, _, _, _, _]) C (by decide) rfl rfl dX6_count_33 ?_
        refine PW_ls (loop2 (σ 0 0).toNat 0 (by omega)) ?_
        rw [show i = (σ 0 6).toNat by omega]
        rfl
      · omega
    | succ n ih =>
      intro i hi
      refine r_iload C rfl dX6_count_7 ?_
      refine r_aload_n C rfl dX6_count_9 ?_
      refine r_getI (jz := 6) C 5 6 rfl rfl (by decide) rfl uw_X6 fl_X6_66 rfl dX6_count_10 ?_
      refine r_icmp_ge (tgt := 32) C (by decide) (by omega) (by omega) dX6_count_13 (fun c13 => ?_) (fun c13 => ?_)
      · omega
      · refine r_iload_n C rfl dX6_count_16 ?_
        refine r_aload_n C rfl dX6_count_17 ?_
        refine r_getR C 5 7 rfl rfl (by decide) rfl uw_X6 fl_X6_26 dX6_count_18 ?_
        refine r_iload C rfl dX6_count_21 ?_
        refine r_iaload C rfl (by decide) (by omega) dX6_count_23 ?_
        refine r_iadd C dX6_count_24 ?_
        refine r_istore_n (ls' := [_, _, _, _, _]) C (by decide) rfl rfl dX6_count_25 ?_
        refine r_iinc (ls' := [_, _, _, _, _]) C rfl (by decide) rfl rfl dX6_count_26 ?_
        refine r_goto (tgt := 7) C (by decide) dX6_count_29 ?_
        exact ih (i + 1) (by omega)
  refine r_iconst C dX6_count_0 ?_
  refine r_istore_n (ls' := [_, _, _, _, _]) C (by decide) rfl rfl dX6_count_1 ?_
  refine r_iconst C dX6_count_2 ?_
  refine r_istore_n (ls' := [_, _, _, _, _]) C (by decide) rfl rfl dX6_count_3 ?_
  refine r_iconst C dX6_count_4 ?_
  refine r_istore (ls' := [_, _, _, _, _]) C (by decide) rfl rfl dX6_count_5 ?_
  exact loop (σ 0 6).toNat 0 (by omega)
