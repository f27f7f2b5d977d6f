theorem bIn_t {n a b : Int} (h1 : a ≤ n) (h2 : n ≤ b) : bIn n a b = true := by simp [bIn, h1, h2]
theorem bIn_f {n a b : Int} (h : n < a ∨ b < n) : bIn n a b = false := by simp only [bIn, decide_eq_false_iff_not]; omega
theorem bIn_iff {n a b : Int} : bIn n a b = true ↔ a ≤ n ∧ n ≤ b := by simp [bIn]
theorem bIn_niff {n a b : Int} : bIn n a b = false ↔ ¬ (a ≤ n ∧ n ≤ b) := by simp [bIn]
/-- a plain answer: the world stays -/
abbrev pv (v : Int) (σ : pw_H) : Option Value → pw_H → Prop := fun r τ => r = some (vI v) ∧ σ = τ
abbrev pb (b : Bool) (σ : pw_H) : Option Value → pw_H → Prop := fun r τ => r = some (vI (zB b)) ∧ σ = τ
theorem zB_t {b : Bool} (h : b = true) : zB b = 1 := by rw [h]; rfl
theorem zB_f {b : Bool} (h : b = false) : zB b = 0 := by rw [h]; rfl
theorem pv_of {v w : Int} {σ τ : pw_H} (h : v = w) (h2 : τ = σ) : pv w σ (some (vI v)) τ := ⟨by rw [h], h2.symm⟩
set_option maxRecDepth 100000 in
theorem c_X5_isWithin (l : Launch) (G : pw_G) (σ : pw_H) {n a b : Int} (h1 : InI n) (h2 : InI a) (h3 : InI b) : Ct l shX G mX5_isWithin [vI n, vI a, vI b] σ (pb (bIn n a b) σ) := by
  refine Ct_of (ls := [some (vI n), some (vI a), some (vI b)]) (by decide +kernel) (Nat.le_of_ble_eq_true rfl) rfl (fun X C => ?_)
  refine r_iload_n C rfl dX5_isWithin_0 ?_
  refine r_iload_n C rfl dX5_isWithin_1 ?_
  refine r_icmp_lt (tgt := 14) C (by decide) (by omega) (by omega) dX5_isWithin_2 (fun c2 => ?_) (fun c2 => ?_)
  · refine r_iconst C dX5_isWithin_14 ?_
    refine r_zreturn C rfl (by first | exact Or.inl rfl | exact Or.inr rfl) ?_ dX5_isWithin_15
    refine pv_of ?_ rfl
    first | exact (zB_t (bIn_t (by omega) (by omega))).symm | exact (zB_f (bIn_f (by omega))).symm
  · refine r_iload_n C rfl dX5_isWithin_5 ?_
    refine r_iload_n C rfl dX5_isWithin_6 ?_
    refine r_icmp_gt (tgt := 14) C (by decide) (by omega) (by omega) dX5_isWithin_7 (fun c7 => ?_) (fun c7 => ?_)
    · refine r_iconst C dX5_isWithin_14 ?_
      refine r_zreturn C rfl (by first | exact Or.inl rfl | exact Or.inr rfl) ?_ dX5_isWithin_15
      refine pv_of ?_ rfl
      first | exact (zB_t (bIn_t (by omega) (by omega))).symm | exact (zB_f (bIn_f (by omega))).symm
    · refine r_iconst C dX5_isWithin_10 ?_
      refine r_goto (tgt := 15) C (by decide) dX5_isWithin_11 ?_
      refine r_zreturn C rfl (by first | exact Or.inl rfl | exact Or.inr rfl) ?_ dX5_isWithin_15
      refine pv_of ?_ rfl
      first | exact (zB_t (bIn_t (by omega) (by omega))).symm | exact (zB_f (bIn_f (by omega))).symm
set_option maxRecDepth 100000 in
theorem c_X5_isLong (l : Launch) (G : pw_G) (σ : pw_H) {n : Int} (h1 : InI n) : Ct l shX G mX5_isLong [vI n] σ (pb (bIn n 0 21599) σ) := by
  refine Ct_of (ls := [some (vI n)]) (by decide +kernel) (Nat.le_of_ble_eq_true rfl) rfl (fun X C => ?_)
  refine r_iload_n C rfl dX5_isLong_0 ?_
  refine r_iconst C dX5_isLong_1 ?_
  refine r_sipush C (by decide +kernel) dX5_isLong_2 ?_
  refine r_callS (As := [_, _, _]) C (c_X5_isWithin _ _ _ (by omega) (by omega) (by omega)) ok_X5_isWithin ln_X5_49 rfl rfl (Nat.le_of_ble_eq_true rfl) (Nat.le_of_ble_eq_true rfl) (Nat.le_of_ble_eq_true rfl) dX5_isLong_5 (fun v5 τ5 hq5 => ?_)
  obtain ⟨rfl, rfl⟩ := hq5
  refine r_breturn C rfl ?_ dX5_isLong_8
  exact ⟨rfl, rfl⟩
set_option maxRecDepth 100000 in
theorem c_X5_isYear (l : Launch) (G : pw_G) (σ : pw_H) {n : Int} (h1 : InI n) : Ct l shX G mX5_isYear [vI n] σ (pb (bIn n (-3000) 3000) σ) := by
  refine Ct_of (ls := [some (vI n)]) (by decide +kernel) (Nat.le_of_ble_eq_true rfl) rfl (fun X C => ?_)
  refine r_iload_n C rfl dX5_isYear_0 ?_
  refine r_sipush C (by decide +kernel) dX5_isYear_1 ?_
  refine r_sipush C (by decide +kernel) dX5_isYear_4 ?_
  refine r_callS (As := [_, _, _]) C (c_X5_isWithin _ _ _ (by omega) (by omega) (by omega)) ok_X5_isWithin ln_X5_49 rfl rfl (Nat.le_of_ble_eq_true rfl) (Nat.le_of_ble_eq_true rfl) (Nat.le_of_ble_eq_true rfl) dX5_isYear_7 (fun v7 τ7 hq7 => ?_)
  obtain ⟨rfl, rfl⟩ := hq7
  refine r_breturn C rfl ?_ dX5_isYear_10
  exact ⟨rfl, rfl⟩
set_option maxRecDepth 100000 in
theorem c_X5_isShift (l : Launch) (G : pw_G) (σ : pw_H) {n : Int} (h1 : InI n) : Ct l shX G mX5_isShift [vI n] σ (pb (bIn n (-600) 600) σ) := by
  refine Ct_of (ls := [some (vI n)]) (by decide +kernel) (Nat.le_of_ble_eq_true rfl) rfl (fun X C => ?_)
  refine r_iload_n C rfl dX5_isShift_0 ?_
  refine r_sipush C (by decide +kernel) dX5_isShift_1 ?_
  refine r_sipush C (by decide +kernel) dX5_isShift_4 ?_
  refine r_callS (As := [_, _, _]) C (c_X5_isWithin _ _ _ (by omega) (by omega) (by omega)) ok_X5_isWithin ln_X5_49 rfl rfl (Nat.le_of_ble_eq_true rfl) (Nat.le_of_ble_eq_true rfl) (Nat.le_of_ble_eq_true rfl) dX5_isShift_7 (fun v7 τ7 hq7 => ?_)
  obtain ⟨rfl, rfl⟩ := hq7
  refine r_breturn C rfl ?_ dX5_isShift_10
  exact ⟨rfl, rfl⟩
set_option maxRecDepth 100000 in
theorem c_X5_isPlace (l : Launch) (G : pw_G) (σ : pw_H) {n w : Int} (h1 : InI n) (h2 : InI w) : Ct l shX G mX5_isPlace [vI n, vI w] σ (pb (bPlace n w) σ) := by
  refine Ct_of (ls := [some (vI n), some (vI w)]) (by decide +kernel) (Nat.le_of_ble_eq_true rfl) rfl (fun X C => ?_)
  refine r_iload_n C rfl dX5_isPlace_0 ?_
  refine r_callS (As := [_]) C (c_X5_isLong _ _ _ (by omega)) ok_X5_isLong ln_X5_87 rfl rfl (Nat.le_of_ble_eq_true rfl) (Nat.le_of_ble_eq_true rfl) (Nat.le_of_ble_eq_true rfl) dX5_isPlace_1 (fun v1 τ1 hq1 => ?_)
  obtain ⟨rfl, rfl⟩ := hq1
  refine r_ifB_eq (tgt := 24) C (by decide) dX5_isPlace_4 (fun c4 => ?_) (fun c4 => ?_)
  · refine r_iconst C dX5_isPlace_24 ?_
    refine r_zreturn C rfl (by first | exact Or.inl rfl | exact Or.inr rfl) ?_ dX5_isPlace_25
    refine pv_of ?_ rfl
    simp [bPlace, *, zB]
  · refine r_iload_n C rfl dX5_isPlace_7 ?_
    refine r_sipush C (by decide +kernel) dX5_isPlace_8 ?_
    refine r_sipush C (by decide +kernel) dX5_isPlace_11 ?_
    refine r_callS (As := [_, _, _]) C (c_X5_isWithin _ _ _ (by omega) (by omega) (by omega)) ok_X5_isWithin ln_X5_49 rfl rfl (Nat.le_of_ble_eq_true rfl) (Nat.le_of_ble_eq_true rfl) (Nat.le_of_ble_eq_true rfl) dX5_isPlace_14 (fun v14 τ14 hq14 => ?_)
    obtain ⟨rfl, rfl⟩ := hq14
    refine r_ifB_eq (tgt := 24) C (by decide) dX5_isPlace_17 (fun c17 => ?_) (fun c17 => ?_)
    · refine r_iconst C dX5_isPlace_24 ?_
      refine r_zreturn C rfl (by first | exact Or.inl rfl | exact Or.inr rfl) ?_ dX5_isPlace_25
      refine pv_of ?_ rfl
      simp [bPlace, *, zB]
    · refine r_iconst C dX5_isPlace_20 ?_
      refine r_goto (tgt := 25) C (by decide) dX5_isPlace_21 ?_
      refine r_zreturn C rfl (by first | exact Or.inl rfl | exact Or.inr rfl) ?_ dX5_isPlace_25
      refine pv_of ?_ rfl
      simp [bPlace, *, zB]
set_option maxRecDepth 100000 in
theorem c_X5_isMoment (l : Launch) (G : pw_G) (σ : pw_H) {n w : Int} (h1 : InI n) (h2 : InI w) : Ct l shX G mX5_isMoment [vI n, vI w] σ (pb (bMom n w) σ) := by
  refine Ct_of (ls := [some (vI n), some (vI w)]) (by decide +kernel) (Nat.le_of_ble_eq_true rfl) rfl (fun X C => ?_)
  refine r_iload_n C rfl dX5_isMoment_0 ?_
  refine r_callS (As := [_]) C (c_X5_isYear _ _ _ (by omega)) ok_X5_isYear ln_X5_65 rfl rfl (Nat.le_of_ble_eq_true rfl) (Nat.le_of_ble_eq_true rfl) (Nat.le_of_ble_eq_true rfl) dX5_isMoment_1 (fun v1 τ1 hq1 => ?_)
  obtain ⟨rfl, rfl⟩ := hq1
  refine r_ifB_eq (tgt := 18) C (by decide) dX5_isMoment_4 (fun c4 => ?_) (fun c4 => ?_)
  · refine r_iconst C dX5_isMoment_18 ?_
    refine r_zreturn C rfl (by first | exact Or.inl rfl | exact Or.inr rfl) ?_ dX5_isMoment_19
    refine pv_of ?_ rfl
    simp [bMom, *, zB]
  · refine r_iload_n C rfl dX5_isMoment_7 ?_
    refine r_callS (As := [_]) C (c_X5_isShift _ _ _ (by omega)) ok_X5_isShift ln_X5_193 rfl rfl (Nat.le_of_ble_eq_true rfl) (Nat.le_of_ble_eq_true rfl) (Nat.le_of_ble_eq_true rfl) dX5_isMoment_8 (fun v8 τ8 hq8 => ?_)
    obtain ⟨rfl, rfl⟩ := hq8
    refine r_ifB_eq (tgt := 18) C (by decide) dX5_isMoment_11 (fun c11 => ?_) (fun c11 => ?_)
    · refine r_iconst C dX5_isMoment_18 ?_
      refine r_zreturn C rfl (by first | exact Or.inl rfl | exact Or.inr rfl) ?_ dX5_isMoment_19
      refine pv_of ?_ rfl
      simp [bMom, *, zB]
    · refine r_iconst C dX5_isMoment_14 ?_
      refine r_goto (tgt := 19) C (by decide) dX5_isMoment_15 ?_
      refine r_zreturn C rfl (by first | exact Or.inl rfl | exact Or.inr rfl) ?_ dX5_isMoment_19
      refine pv_of ?_ rfl
      simp [bMom, *, zB]
