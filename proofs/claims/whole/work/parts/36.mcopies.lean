set_option maxRecDepth 100000 in
set_option maxHeartbeats 4000000 in
theorem c_X6_layFaults (l : Launch) (G : pw_G) (σ : pw_H) {t : Nat} {y h : Int} (hI : Inv (vM σ)) (ht : t < 6) (hy : -3000 ≤ y ∧ y ≤ 3000) (hh : -600 ≤ h ∧ h ≤ 600) : Ct l shM G mX6_layFaults [.ref (G.2.1 0), vI (t : Int), vI y, vI h] σ (fun r τ => r = none ∧ Fm [8, 9, 10, 11, 13] σ τ ∧ (∀ s : Int, 0 ≤ s → s < 8 → τ 13 (t * 8 + s) = sFault (vM σ) t y h s) ∧ ∀ j : Int, (j < t * 8 ∨ t * 8 + 8 ≤ j) → τ 13 j = σ 13 j) := by
  have h0 : 0 ≤ σ 0 0 ∧ σ 0 0 ≤ 8 := hI.1
  have h9 : 0 ≤ σ 5 t ∧ σ 5 t ≤ 8 := hI.2.2.2.2.2.2.2.1 t
  refine Ct_of (ls := [some (.ref (G.2.1 0)), some (vI (t : Int)), some (vI y), some (vI h), none]) (by decide +kernel) (Nat.le_of_ble_eq_true rfl) rfl (fun X C => ?_)
  have loop2 : ∀ (k i : Nat) (υ : pw_H), i + k = (σ 5 t).toNat → Fm [8, 9, 10, 11, 13] σ υ → hPt υ (vM σ) t y h (σ 0 0).toNat (σ 5 t).toNat → (∀ i : Nat, i < (σ 5 t).toNat → υ 11 i = sStar (vM σ) t y h i) → (∀ s : Int, 0 ≤ s → s < 8 → υ 13 (t * 8 + s) = sFs (vM σ) t y h i s) → (∀ j : Int, (j < t * 8 ∨ t * 8 + 8 ≤ j) → υ 13 j = σ 13 j) → PW X shM G 39 [some (.ref (G.2.1 0)), some (vI (t : Int)), some (vI y), some (vI h), some (vI (i : Int))] [] υ := by
    intro k
    induction k with
    | zero =>
      intro i υ hi hF hP h11 h13 ho
      have e1 : υ 5 t = σ 5 t := congrFun (hF.1 5 (by decide) (by decide)) _
      have ei : i = (σ 5 t).toNat := by omega
      subst ei
      refine r_iload C rfl dX6_layFaults_39 ?_
      refine r_aload_n C rfl dX6_layFaults_41 ?_
      refine r_getR C 5 7 rfl rfl (by decide) rfl uw_X6 fl_X6_26 dX6_layFaults_42 ?_
      refine r_iload_n C rfl dX6_layFaults_45 ?_
      refine r_iaload C rfl (by decide) (by omega) dX6_layFaults_46 ?_
      refine r_icmp_ge (tgt := 103) C (by decide) (by omega) (by omega) dX6_layFaults_47 (fun c47 => ?_) (fun c47 => ?_)
      · refine r_return C rfl ?_ dX6_layFaults_103
        exact ⟨rfl, hF, h13, ho⟩
      · omega
    | succ k ih =>
      intro i υ hi hF hP h11 h13 ho
      have e1 : υ 5 t = σ 5 t := congrFun (hF.1 5 (by decide) (by decide)) _
      have e3 := h11 i (by omega)
      have hs3 := sStar_r (y := y) (h := h) hI (l := t) (i := i) (show i < (σ 5 t).toNat by omega)
      have hs4 : sStar (vM σ) t y h i = -9 ∨ (0 ≤ sStar (vM σ) t y h i ∧ sStar (vM σ) t y h i < σ 0 0) := by
        rcases hs3 with q | ⟨q1, q2, -⟩
        · exact Or.inl q
        · exact Or.inr ⟨q1, q2⟩
      have e10 : 0 ≤ sStar (vM σ) t y h i → υ 10 ((i : Int) * 8 + sStar (vM σ) t y h i) = sRk (vM σ) t i (sStar (vM σ) t y h i) y h % 4 := fun q => by
        have := (hP i (by omega) (sStar (vM σ) t y h i).toNat (by omega)).2
        rw [show (((sStar (vM σ) t y h i).toNat : Nat) : Int) = sStar (vM σ) t y h i by omega] at this
        rw [this]
        rcases hs3 with z | ⟨-, -, z⟩
        · omega
        · unfold sSl; rw [if_pos z]
      refine r_iload C rfl dX6_layFaults_39 ?_
      refine r_aload_n C rfl dX6_layFaults_41 ?_
      refine r_getR C 5 7 rfl rfl (by decide) rfl uw_X6 fl_X6_26 dX6_layFaults_42 ?_
      refine r_iload_n C rfl dX6_layFaults_45 ?_
      refine r_iaload C rfl (by decide) (by omega) dX6_layFaults_46 ?_
      refine r_icmp_ge (tgt := 103) C (by decide) (by omega) (by omega) dX6_layFaults_47 (fun c47 => ?_) (fun c47 => ?_)
      · omega
      · refine r_aload_n C rfl dX6_layFaults_50 ?_
        refine r_getR C 5 15 rfl rfl (by decide) rfl uw_X6 fl_X6_44 dX6_layFaults_51 ?_
        refine r_iload C rfl dX6_layFaults_54 ?_
        refine r_iaload C rfl (by decide) (by omega) dX6_layFaults_56 ?_
        rw [e3]
        refine r_bipush C (by decide +kernel) dX6_layFaults_57 ?_
        refine r_icmp_eq (tgt := 97) C (by decide) (by omega) (by omega) dX6_layFaults_59 (fun c59 => ?_) (fun c59 => ?_)
        · refine r_iinc (ls' := [_, _, _, _, _]) C rfl (by decide) rfl rfl dX6_layFaults_97 ?_
          refine r_goto (tgt := 39) C (by decide) dX6_layFaults_100 ?_
          refine ih (i + 1) υ (by omega) hF hP h11 (fun s s1 s2 => ?_) ho
          rw [h13 s s1 s2]
          simp only [sFs]
          rw [if_pos (by omega)]
        · refine r_aload_n C rfl dX6_layFaults_62 ?_
          refine r_getR C 5 17 rfl rfl (by decide) rfl uw_X6 fl_X6_50 dX6_layFaults_63 ?_
          refine r_bipush C (by decide +kernel) dX6_layFaults_66 ?_
          refine r_iload_n C rfl dX6_layFaults_68 ?_
          refine r_imul C dX6_layFaults_69 ?_
          rw [Int.mul_comm (8 : Int)]
          refine r_aload_n C rfl dX6_layFaults_70 ?_
          refine r_getR C 5 15 rfl rfl (by decide) rfl uw_X6 fl_X6_44 dX6_layFaults_71 ?_
          refine r_iload C rfl dX6_layFaults_74 ?_
          refine r_iaload C rfl (by decide) (by omega) dX6_layFaults_76 ?_
          rw [e3]
          refine r_iadd C dX6_layFaults_77 ?_
          refine r_aload_n C rfl dX6_layFaults_78 ?_
          refine r_getR C 5 14 rfl rfl (by decide) rfl uw_X6 fl_X6_41 dX6_layFaults_79 ?_
          refine r_bipush C (by decide +kernel) dX6_layFaults_82 ?_
          refine r_iload C rfl dX6_layFaults_84 ?_
          refine r_imul C dX6_layFaults_86 ?_
          rw [Int.mul_comm (8 : Int)]
          refine r_aload_n C rfl dX6_layFaults_87 ?_
          refine r_getR C 5 15 rfl rfl (by decide) rfl uw_X6 fl_X6_44 dX6_layFaults_88 ?_
          refine r_iload C rfl dX6_layFaults_91 ?_
          refine r_iaload C rfl (by decide) (by omega) dX6_layFaults_93 ?_
          rw [e3]
          refine r_iadd C dX6_layFaults_94 ?_
          refine r_iaload C rfl (by decide) (by omega) dX6_layFaults_95 ?_
          rw [e10 (by omega)]
          refine r_iastore C rfl (by decide) (by omega) dX6_layFaults_96 ?_
          refine r_iinc (ls' := [_, _, _, _, _]) C rfl (by decide) rfl rfl dX6_layFaults_97 ?_
          refine r_goto (tgt := 39) C (by decide) dX6_layFaults_100 ?_
          refine ih (i + 1) _ (by omega) (hF.tr (Fm.u (by decide) (by decide)) (fun _ q => q) (fun _ q => q)) (fun j j1 s s1 => by rw [pw_u_k (by decide), pw_u_k (by decide)]; exact hP j j1 s s1) (fun j j1 => by rw [pw_u_k (by decide)]; exact h11 j j1) (fun s s1 s2 => ?_) (fun j j1 => by rw [pw_u_j (by omega)]; exact ho j j1)
          simp only [sFs]
          rw [if_neg (by omega)]
          by_cases q : s = sStar (vM σ) t y h i
          · rw [q, pw_u_s, if_pos rfl]
          · rw [if_neg q, pw_u_j (by omega)]
            exact h13 s s1 s2
  have loop : ∀ (k i : Nat) (υ : pw_H), i + k = 8 → Fm [8, 9, 10, 11, 13] σ υ → hPt υ (vM σ) t y h (σ 0 0).toNat (σ 5 t).toNat → (∀ i : Nat, i < (σ 5 t).toNat → υ 11 i = sStar (vM σ) t y h i) → (∀ s : Int, 0 ≤ s → s < i → υ 13 (t * 8 + s) = 0) → (∀ j : Int, (j < t * 8 ∨ t * 8 + 8 ≤ j) → υ 13 j = σ 13 j) → PW X shM G 10 [some (.ref (G.2.1 0)), some (vI (t : Int)), some (vI y), some (vI h), some (vI (i : Int))] [] υ := by
    intro k
    induction k with
    | zero =>
      intro i υ hi hF hP h11 hz ho
      refine r_iload C rfl dX6_layFaults_10 ?_
      refine r_bipush C (by decide +kernel) dX6_layFaults_12 ?_
      refine r_icmp_ge (tgt := 36) C (by decide) (by omega) (by omega) dX6_layFaults_14 (fun c14 => ?_) (fun c14 => ?_)
      · refine r_iconst C dX6_layFaults_36 ?_
        refine r_istore (ls' := [_, _, _, _, _]) C (by decide) rfl rfl dX6_layFaults_37 ?_
        exact loop2 (σ 5 t).toNat 0 υ (by omega) hF hP h11 (fun s s1 s2 => hz s s1 (by omega)) ho
      · omega
    | succ k ih =>
      intro i υ hi hF hP h11 hz ho
      refine r_iload C rfl dX6_layFaults_10 ?_
      refine r_bipush C (by decide +kernel) dX6_layFaults_12 ?_
      refine r_icmp_ge (tgt := 36) C (by decide) (by omega) (by omega) dX6_layFaults_14 (fun c14 => ?_) (fun c14 => ?_)
      · omega
      · refine r_aload_n C rfl dX6_layFaults_17 ?_
        refine r_getR C 5 17 rfl rfl (by decide) rfl uw_X6 fl_X6_50 dX6_layFaults_18 ?_
        refine r_bipush C (by decide +kernel) dX6_layFaults_21 ?_
        refine r_iload_n C rfl dX6_layFaults_23 ?_
        refine r_imul C dX6_layFaults_24 ?_
        rw [Int.mul_comm (8 : Int)]
        refine r_iload C rfl dX6_layFaults_25 ?_
        refine r_iadd C dX6_layFaults_27 ?_
        refine r_iconst C dX6_layFaults_28 ?_
        refine r_iastore C rfl (by decide) (by omega) dX6_layFaults_29 ?_
        refine r_iinc (ls' := [_, _, _, _, _]) C rfl (by decide) rfl rfl dX6_layFaults_30 ?_
        refine r_goto (tgt := 10) C (by decide) dX6_layFaults_33 ?_
        refine ih (i + 1) _ (by omega) (hF.tr (Fm.u (by decide) (by decide)) (fun _ q => q) (fun _ q => q)) (fun j j1 s s1 => by rw [pw_u_k (by decide), pw_u_k (by decide)]; exact hP j j1 s s1) (fun j j1 => by rw [pw_u_k (by decide)]; exact h11 j j1) (fun s s1 s2 => ?_) (fun j j1 => by rw [pw_u_j (by omega)]; exact ho j j1)
        by_cases q : s = i
        · rw [q, pw_u_s]
        · rw [pw_u_j (by omega)]; exact hz s s1 (by omega)
  refine r_aload_n C rfl dX6_layFaults_0 ?_
  refine r_iload_n C rfl dX6_layFaults_1 ?_
  refine r_iload_n C rfl dX6_layFaults_2 ?_
  refine r_iload_n C rfl dX6_layFaults_3 ?_
  refine r_callV (As := [_, _, _]) C (c_X6_match _ _ _ hI ht hy hh) ok_X6_match ln_X6_131 rfl rfl rfl rfl (Nat.le_of_ble_eq_true rfl) (Nat.le_of_ble_eq_true rfl) (Nat.le_of_ble_eq_true rfl) dX6_layFaults_4 (fun v4 τ4 hq4 => ?_)
  obtain ⟨rfl, hF, hP, h11⟩ := hq4
  refine r_iconst C dX6_layFaults_7 ?_
  refine r_istore (ls' := [_, _, _, _, _]) C (by decide) rfl rfl dX6_layFaults_8 ?_
  exact loop 8 0 _ (by omega) (hF.tr (Fm.rf (ks := [])) (ks := [8, 9, 10, 11, 13]) (by decide) (by decide)) hP h11 (fun s s1 s2 => by omega) (fun j j1 => by rw [hF.1 13 (by decide) (by decide)])
set_option maxRecDepth 100000 in
theorem c_X6_fault (l : Launch) (G : pw_G) (σ : pw_H) {t s y h : Int} (hI : Inv (vM σ)) (q_t : InI t) (q_s : InI s) (q_y : InI y) (q_h : InI h) : Ct l shM G mX6_fault [.ref (G.2.1 0), vI t, vI s, vI y, vI h] σ (pM (s_fault (vM σ) t s y h)) := by
  have h0 : 0 ≤ σ 0 0 ∧ σ 0 0 ≤ 8 := hI.1
  have h5 : 0 ≤ σ 0 5 ∧ σ 0 5 ≤ 6 := hI.2.1
  have h1 : 0 ≤ σ 0 6 ∧ σ 0 6 ≤ 6 := hI.2.2.1
  refine Ct_of (ls := [some (.ref (G.2.1 0)), some (vI t), some (vI s), some (vI y), some (vI h)]) (by decide +kernel) (Nat.le_of_ble_eq_true rfl) rfl (fun X C => ?_)
  refine r_aload_n C rfl dX6_fault_0 ?_
  refine r_iload_n C rfl dX6_fault_1 ?_
  refine r_callV (As := [_]) C (c_X6_isList _ _ _ (by omega) hI) ok_X6_isList ln_X6_69 rfl rfl rfl rfl (Nat.le_of_ble_eq_true rfl) (Nat.le_of_ble_eq_true rfl) (Nat.le_of_ble_eq_true rfl) dX6_fault_2 (fun v2 τ2 hq2 => ?_)
  obtain ⟨rfl, rfl⟩ := hq2
  refine r_ifB_eq (tgt := 16) C (by decide) dX6_fault_5 (fun c5 => ?_) (fun c5 => ?_)
  · refine r_iconst C dX6_fault_16 ?_
    refine r_ireturn C rfl ?_ dX6_fault_17
    exact pM_of (by simp [s_fault, *]) rfl
  · have h8 : 0 ≤ t ∧ t ≤ σ 0 6 - 1 := bList_t c5
    obtain ⟨u, rfl⟩ := Int.eq_ofNat_of_zero_le h8.1
    refine r_aload_n C rfl dX6_fault_8 ?_
    refine r_iload_n C rfl dX6_fault_9 ?_
    refine r_callV (As := [_]) C (c_X6_isStar _ _ _ (by omega) hI) ok_X6_isStar ln_X6_87 rfl rfl rfl rfl (Nat.le_of_ble_eq_true rfl) (Nat.le_of_ble_eq_true rfl) (Nat.le_of_ble_eq_true rfl) dX6_fault_10 (fun v10 τ10 hq10 => ?_)
    obtain ⟨rfl, rfl⟩ := hq10
    refine r_ifB_ne (tgt := 18) C (by decide) dX6_fault_13 (fun c13 => ?_) (fun c13 => ?_)
    · have h9 : 0 ≤ s ∧ s ≤ σ 0 0 - 1 := bStar_t c13
      refine r_iload_n C rfl dX6_fault_18 ?_
      refine r_callS (As := [_]) C (c_X6_isYear _ _ _ (by omega)) ok_X6_isYear ln_X6_90 rfl rfl (Nat.le_of_ble_eq_true rfl) (Nat.le_of_ble_eq_true rfl) (Nat.le_of_ble_eq_true rfl) dX6_fault_19 (fun v19 τ19 hq19 => ?_)
      obtain ⟨rfl, rfl⟩ := hq19
      refine r_ifB_eq (tgt := 33) C (by decide) dX6_fault_22 (fun c22 => ?_) (fun c22 => ?_)
      · refine r_bipush C (by decide +kernel) dX6_fault_33 ?_
        refine r_ireturn C rfl ?_ dX6_fault_35
        exact pM_of (by simp [s_fault, bMom, *]) rfl
      · have h11 := bIn_iff.mp c22
        refine r_iload C rfl dX6_fault_25 ?_
        refine r_callS (As := [_]) C (c_X6_isShift _ _ _ (by omega)) ok_X6_isShift ln_X6_117 rfl rfl (Nat.le_of_ble_eq_true rfl) (Nat.le_of_ble_eq_true rfl) (Nat.le_of_ble_eq_true rfl) dX6_fault_27 (fun v27 τ27 hq27 => ?_)
        obtain ⟨rfl, rfl⟩ := hq27
        refine r_ifB_ne (tgt := 36) C (by decide) dX6_fault_30 (fun c30 => ?_) (fun c30 => ?_)
        · have h12 := bIn_iff.mp c30
          refine r_aload_n C rfl dX6_fault_36 ?_
          refine r_iload_n C rfl dX6_fault_37 ?_
          refine r_iload_n C rfl dX6_fault_38 ?_
          refine r_iload C rfl dX6_fault_39 ?_
          refine r_callV (As := [_, _, _]) C (c_X6_layFaults _ _ _ hI (by omega) (by omega) (by omega)) ok_X6_layFaults ln_X6_142 rfl rfl rfl rfl (Nat.le_of_ble_eq_true rfl) (Nat.le_of_ble_eq_true rfl) (Nat.le_of_ble_eq_true rfl) dX6_fault_41 (fun v41 τ41 hq41 => ?_)
          obtain ⟨rfl, hF, e3, -⟩ := hq41
          have e2 : vM τ41 = vM σ := hF.vM (by decide)
          have e4 := e3 s h9.1 (by omega)
          refine r_aload_n C rfl dX6_fault_44 ?_
          refine r_getR C 5 17 rfl rfl (by decide) rfl uw_X6 fl_X6_50 dX6_fault_45 ?_
          refine r_bipush C (by decide +kernel) dX6_fault_48 ?_
          refine r_iload_n C rfl dX6_fault_50 ?_
          refine r_imul C dX6_fault_51 ?_
          rw [Int.mul_comm (8 : Int)]
          refine r_iload_n C rfl dX6_fault_52 ?_
          refine r_iadd C dX6_fault_53 ?_
          refine r_iaload C rfl (by decide) (by omega) dX6_fault_54 ?_
          rw [e4]
          refine r_ireturn C rfl ?_ dX6_fault_55
          exact pM_of (a := vM σ) (by simp [s_fault, bMom, *]) e2
        · refine r_bipush C (by decide +kernel) dX6_fault_33 ?_
          refine r_ireturn C rfl ?_ dX6_fault_35
          exact pM_of (by simp [s_fault, bMom, *]) rfl
    · refine r_iconst C dX6_fault_16 ?_
      refine r_ireturn C rfl ?_ dX6_fault_17
      exact pM_of (by simp [s_fault, *]) rfl
set_option maxRecDepth 100000 in
theorem c_X6_apartOf (l : Launch) (G : pw_G) (σ : pw_H) {p q : Int} (hI : Inv (vM σ)) (hp : 0 ≤ p ∧ p < 6) (hq : 0 ≤ q ∧ q < 6) (hr : ∀ s : Int, 0 ≤ s → s < 8 → (0 ≤ σ 13 (p * 8 + s) ∧ σ 13 (p * 8 + s) ≤ 3) ∧ 0 ≤ σ 13 (q * 8 + s) ∧ σ 13 (q * 8 + s) ≤ 3) : Ct l shM G mX6_apartOf [.ref (G.2.1 0), vI p, vI q] σ (pv (sSum (fun s => zB (decide (¬ σ 13 (p * 8 + s) = σ 13 (q * 8 + s)))) (σ 0 0).toNat) σ) := by
  have h0 : 0 ≤ σ 0 0 ∧ σ 0 0 ≤ 8 := hI.1
  refine Ct_of (ls := [some (.ref (G.2.1 0)), some (vI p), some (vI q), none, none]) (by decide +kernel) (Nat.le_of_ble_eq_true rfl) rfl (fun X C => ?_)
  have loop : ∀ (k i : Nat), i + k = (σ 0 0).toNat → PW X shM G 5 [some (.ref (G.2.1 0)), some (vI p), some (vI q), some (vI (sSum (fun s => zB (decide (¬ σ 13 (p * 8 + s) = σ 13 (q * 8 + s)))) i)), some (vI (i : Int))] [] σ := by
    intro k
    induction k with
    | zero =>
      intro i hi
      refine r_iload C rfl dX6_apartOf_5 ?_
      refine r_aload_n C rfl dX6_apartOf_7 ?_
      refine r_getI (jz := 0) C 5 0 rfl rfl (by decide) rfl uw_X6 fl_X6_63 rfl dX6_apartOf_8 ?_
      refine r_icmp_ge (tgt := 55) C (by decide) (by omega) (by omega) dX6_apartOf_11 (fun c11 => ?_) (fun c11 => ?_)
      · refine r_iload_n C rfl dX6_apartOf_55 ?_
        refine r_ireturn C rfl ?_ dX6_apartOf_56
        exact pv_of (by rw [show i = (σ 0 0).toNat by omega]) rfl
      · omega
    | succ k ih =>
      intro i hi
      have hri := hr i (by omega) (by omega)
      have es : sSum (fun s => zB (decide (¬ σ 13 (p * 8 + s) = σ 13 (q * 8 + s)))) (i + 1) = sSum (fun s => zB (decide (¬ σ 13 (p * 8 + s) = σ 13 (q * 8 + s)))) i + zB (decide (¬ σ 13 (p * 8 + i) = σ 13 (q * 8 + i))) := rfl
      refine r_iload C rfl dX6_apartOf_5 ?_
      refine r_aload_n C rfl dX6_apartOf_7 ?_
      refine r_getI (jz := 0) C 5 0 rfl rfl (by decide) rfl uw_X6 fl_X6_63 rfl dX6_apartOf_8 ?_
      refine r_icmp_ge (tgt := 55) C (by decide) (by omega) (by omega) dX6_apartOf_11 (fun c11 => ?_) (fun c11 => ?_)
      · omega
      · refine r_iload_n C rfl dX6_apartOf_14 ?_
        refine r_aload_n C rfl dX6_apartOf_15 ?_
        refine r_getR C 5 17 rfl rfl (by decide) rfl uw_X6 fl_X6_50 dX6_apartOf_16 ?_
        refine r_bipush C (by decide +kernel) dX6_apartOf_19 ?_
        refine r_iload_n C rfl dX6_apartOf_21 ?_
        refine r_imul C dX6_apartOf_22 ?_
        rw [Int.mul_comm (8 : Int)]
        refine r_iload C rfl dX6_apartOf_23 ?_
        refine r_iadd C dX6_apartOf_25 ?_
        refine r_iaload C rfl (by decide) (by omega) dX6_apartOf_26 ?_
        refine r_aload_n C rfl dX6_apartOf_27 ?_
        refine r_getR C 5 17 rfl rfl (by decide) rfl uw_X6 fl_X6_50 dX6_apartOf_28 ?_
        refine r_bipush C (by decide +kernel) dX6_apartOf_31 ?_
        refine r_iload_n C rfl dX6_apartOf_33 ?_
        refine r_imul C dX6_apartOf_34 ?_
        rw [Int.mul_comm (8 : Int)]
        refine r_iload C rfl dX6_apartOf_35 ?_
        refine r_iadd C dX6_apartOf_37 ?_
        refine r_iaload C rfl (by decide) (by omega) dX6_apartOf_38 ?_
        refine r_icmp_eq (tgt := 46) C (by decide) (by omega) (by omega) dX6_apartOf_39 (fun c39 => ?_) (fun c39 => ?_)
        · refine r_iconst C dX6_apartOf_46 ?_
          refine r_iadd C dX6_apartOf_47 ?_
          refine r_istore_n (ls' := [_, _, _, _, _]) C (by decide) rfl rfl dX6_apartOf_48 ?_
          refine r_iinc (ls' := [_, _, _, _, _]) C rfl (by decide) rfl rfl dX6_apartOf_49 ?_
          refine r_goto (tgt := 5) C (by decide) dX6_apartOf_52 ?_
          refine PW_ls (ih (i + 1) (by omega)) ?_
          rw [es]
          first | (rw [zB_t (by rw [decide_eq_true_eq]; omega)]; first | done | rfl) | (rw [zB_f (by rw [decide_eq_false_iff_not]; omega)]; first | done | rfl)
        · refine r_iconst C dX6_apartOf_42 ?_
          refine r_goto (tgt := 47) C (by decide) dX6_apartOf_43 ?_
          refine r_iadd C dX6_apartOf_47 ?_
          refine r_istore_n (ls' := [_, _, _, _, _]) C (by decide) rfl rfl dX6_apartOf_48 ?_
          refine r_iinc (ls' := [_, _, _, _, _]) C rfl (by decide) rfl rfl dX6_apartOf_49 ?_
          refine r_goto (tgt := 5) C (by decide) dX6_apartOf_52 ?_
          refine PW_ls (ih (i + 1) (by omega)) ?_
          rw [es]
          first | (rw [zB_t (by rw [decide_eq_true_eq]; omega)]; first | done | rfl) | (rw [zB_f (by rw [decide_eq_false_iff_not]; omega)]; first | done | rfl)
  refine r_iconst C dX6_apartOf_0 ?_
  refine r_istore_n (ls' := [_, _, _, _, _]) C (by decide) rfl rfl dX6_apartOf_1 ?_
  refine r_iconst C dX6_apartOf_2 ?_
  refine r_istore (ls' := [_, _, _, _, _]) C (by decide) rfl rfl dX6_apartOf_3 ?_
  exact loop (σ 0 0).toNat 0 (by omega)
/-- the faults of a list are laid -/
def hFm (σ : pw_H) (a : pw_H) (t y h : Int) : Prop := ∀ s : Int, 0 ≤ s → s < 8 → σ 13 (t * 8 + s) = sFault a t y h s
set_option maxRecDepth 100000 in
theorem c_X6_mayCompare (l : Launch) (G : pw_G) (σ : pw_H) {p q y h : Int} (hI : Inv (vM σ)) (q_p : InI p) (q_q : InI q) (q_y : InI y) (q_h : InI h) : Ct l shM G mX6_mayCompare [.ref (G.2.1 0), vI p, vI q, vI y, vI h] σ (fun r τ => vM τ = vM σ ∧ ((r = some (vI (-1)) ∧ (bList (vM σ) p && bList (vM σ) q) = false) ∨ (r = some (vI (-2)) ∧ (bList (vM σ) p && bList (vM σ) q) = true ∧ bMom y h = false) ∨ (r = some (vI 0) ∧ bList (vM σ) p = true ∧ bList (vM σ) q = true ∧ bMom y h = true ∧ hFm τ (vM σ) p y h ∧ hFm τ (vM σ) q y h))) := by
  have h1 : 0 ≤ σ 0 6 ∧ σ 0 6 ≤ 6 := hI.2.2.1
  refine Ct_of (ls := [some (.ref (G.2.1 0)), some (vI p), some (vI q), some (vI y), some (vI h)]) (by decide +kernel) (Nat.le_of_ble_eq_true rfl) rfl (fun X C => ?_)
  refine r_aload_n C rfl dX6_mayCompare_0 ?_
  refine r_iload_n C rfl dX6_mayCompare_1 ?_
  refine r_callV (As := [_]) C (c_X6_isList _ _ _ (by omega) hI) ok_X6_isList ln_X6_69 rfl rfl rfl rfl (Nat.le_of_ble_eq_true rfl) (Nat.le_of_ble_eq_true rfl) (Nat.le_of_ble_eq_true rfl) dX6_mayCompare_2 (fun v2 τ2 hq2 => ?_)
  obtain ⟨rfl, rfl⟩ := hq2
  refine r_ifB_eq (tgt := 16) C (by decide) dX6_mayCompare_5 (fun c5 => ?_) (fun c5 => ?_)
  · refine r_iconst C dX6_mayCompare_16 ?_
    refine r_ireturn C rfl ?_ dX6_mayCompare_17
    exact ⟨rfl, Or.inl ⟨rfl, by simp [*]⟩⟩
  · have h8 : 0 ≤ p ∧ p ≤ σ 0 6 - 1 := bList_t c5
    obtain ⟨u, rfl⟩ := Int.eq_ofNat_of_zero_le h8.1
    refine r_aload_n C rfl dX6_mayCompare_8 ?_
    refine r_iload_n C rfl dX6_mayCompare_9 ?_
    refine r_callV (As := [_]) C (c_X6_isList _ _ _ (by omega) hI) ok_X6_isList ln_X6_69 rfl rfl rfl rfl (Nat.le_of_ble_eq_true rfl) (Nat.le_of_ble_eq_true rfl) (Nat.le_of_ble_eq_true rfl) dX6_mayCompare_10 (fun v10 τ10 hq10 => ?_)
    obtain ⟨rfl, rfl⟩ := hq10
    refine r_ifB_ne (tgt := 18) C (by decide) dX6_mayCompare_13 (fun c13 => ?_) (fun c13 => ?_)
    · have h9 : 0 ≤ q ∧ q ≤ σ 0 6 - 1 := bList_t c13
      obtain ⟨w, rfl⟩ := Int.eq_ofNat_of_zero_le h9.1
      refine r_iload_n C rfl dX6_mayCompare_18 ?_
      refine r_callS (As := [_]) C (c_X6_isYear _ _ _ (by omega)) ok_X6_isYear ln_X6_90 rfl rfl (Nat.le_of_ble_eq_true rfl) (Nat.le_of_ble_eq_true rfl) (Nat.le_of_ble_eq_true rfl) dX6_mayCompare_19 (fun v19 τ19 hq19 => ?_)
      obtain ⟨rfl, rfl⟩ := hq19
      refine r_ifB_eq (tgt := 33) C (by decide) dX6_mayCompare_22 (fun c22 => ?_) (fun c22 => ?_)
      · refine r_bipush C (by decide +kernel) dX6_mayCompare_33 ?_
        refine r_ireturn C rfl ?_ dX6_mayCompare_35
        exact ⟨rfl, Or.inr (Or.inl ⟨rfl, by simp [*], by simp [bMom, *]⟩)⟩
      · have h11 := bIn_iff.mp c22
        refine r_iload C rfl dX6_mayCompare_25 ?_
        refine r_callS (As := [_]) C (c_X6_isShift _ _ _ (by omega)) ok_X6_isShift ln_X6_117 rfl rfl (Nat.le_of_ble_eq_true rfl) (Nat.le_of_ble_eq_true rfl) (Nat.le_of_ble_eq_true rfl) dX6_mayCompare_27 (fun v27 τ27 hq27 => ?_)
        obtain ⟨rfl, rfl⟩ := hq27
        refine r_ifB_ne (tgt := 36) C (by decide) dX6_mayCompare_30 (fun c30 => ?_) (fun c30 => ?_)
        · have h12 := bIn_iff.mp c30
          refine r_aload_n C rfl dX6_mayCompare_36 ?_
          refine r_iload_n C rfl dX6_mayCompare_37 ?_
          refine r_iload_n C rfl dX6_mayCompare_38 ?_
          refine r_iload C rfl dX6_mayCompare_39 ?_
          refine r_callV (As := [_, _, _]) C (c_X6_layFaults _ _ _ hI (by omega) (by omega) (by omega)) ok_X6_layFaults ln_X6_142 rfl rfl rfl rfl (Nat.le_of_ble_eq_true rfl) (Nat.le_of_ble_eq_true rfl) (Nat.le_of_ble_eq_true rfl) dX6_mayCompare_41 (fun v41 τ41 hq41 => ?_)
          obtain ⟨rfl, hF, e3, -⟩ := hq41
          have e2 : vM τ41 = vM σ := hF.vM (by decide)
          refine r_aload_n C rfl dX6_mayCompare_44 ?_
          refine r_iload_n C rfl dX6_mayCompare_45 ?_
          refine r_iload_n C rfl dX6_mayCompare_46 ?_
          refine r_iload C rfl dX6_mayCompare_47 ?_
          refine r_callV (As := [_, _, _]) C (c_X6_layFaults _ _ _ (e2 ▸ hI) (by omega) (by omega) (by omega)) ok_X6_layFaults ln_X6_142 rfl rfl rfl rfl (Nat.le_of_ble_eq_true rfl) (Nat.le_of_ble_eq_true rfl) (Nat.le_of_ble_eq_true rfl) dX6_mayCompare_49 (fun v49 τ49 hq49 => ?_)
          obtain ⟨rfl, hF2, e4, e5⟩ := hq49
          have e6 : vM τ49 = vM σ := (hF2.vM (by decide)).trans e2
          rw [e2] at e4
          have e7 : hFm τ49 (vM σ) u y h := fun s s1 s2 => by
            by_cases z : u = w
            · subst z; exact e4 s s1 s2
            · rw [e5 _ (by omega)]; exact e3 s s1 s2
          refine r_iconst C dX6_mayCompare_52 ?_
          refine r_ireturn C rfl ?_ dX6_mayCompare_53
          exact ⟨e6, Or.inr (Or.inr ⟨rfl, c5, c13, by simp [bMom, *], e7, e4⟩)⟩
        · refine r_bipush C (by decide +kernel) dX6_mayCompare_33 ?_
          refine r_ireturn C rfl ?_ dX6_mayCompare_35
          exact ⟨rfl, Or.inr (Or.inl ⟨rfl, by simp [*], by simp [bMom, *]⟩)⟩
    · refine r_iconst C dX6_mayCompare_16 ?_
      refine r_ireturn C rfl ?_ dX6_mayCompare_17
      exact ⟨rfl, Or.inl ⟨rfl, by simp [*]⟩⟩
theorem hFm_r {σ a : pw_H} {t y h : Int} (H : hFm σ a t y h) (s : Int) (s1 : 0 ≤ s) (s2 : s < 8) : 0 ≤ σ 13 (t * 8 + s) ∧ σ 13 (t * 8 + s) ≤ 3 := by
  rw [H s s1 s2]
  exact sFs_r _ _ _ _ _ _
set_option maxRecDepth 100000 in
theorem c_X6_share (l : Launch) (G : pw_G) (σ : pw_H) {p q y h : Int} (hI : Inv (vM σ)) (q_p : InI p) (q_q : InI q) (q_y : InI y) (q_h : InI h) : Ct l shM G mX6_share [.ref (G.2.1 0), vI p, vI q, vI y, vI h] σ (pM (s_share (vM σ) p q y h)) := by
  have h0 : 0 ≤ σ 0 0 ∧ σ 0 0 ≤ 8 := hI.1
  have h5 : 0 ≤ σ 0 5 ∧ σ 0 5 ≤ 6 := hI.2.1
  have h1 : 0 ≤ σ 0 6 ∧ σ 0 6 ≤ 6 := hI.2.2.1
  refine Ct_of (ls := [some (.ref (G.2.1 0)), some (vI p), some (vI q), some (vI y), some (vI h), none, none, none]) (by decide +kernel) (Nat.le_of_ble_eq_true rfl) rfl (fun X C => ?_)
  have loop : ∀ (k i : Nat) (υ : pw_H) (z : Int), i + k = (σ 0 0).toNat → vM υ = vM σ → bList (vM σ) p = true → bList (vM σ) q = true → bMom y h = true → hFm υ (vM σ) p y h → hFm υ (vM σ) q y h → PW X shM G 25 [some (.ref (G.2.1 0)), some (vI p), some (vI q), some (vI y), some (vI h), some (vI z), some (vI (sSum (fun s => zB (decide (¬ sFault (vM σ) p y h s = 0 ∧ sFault (vM σ) p y h s = sFault (vM σ) q y h s))) i)), some (vI (i : Int))] [] υ := by
    intro k
    induction k with
    | zero =>
      intro i υ z hi e2 cp cq cm hp hq
      have e1 : υ 0 0 = σ 0 0 := congrFun (congrFun e2 0) 0
      refine r_iload C rfl dX6_share_25 ?_
      refine r_aload_n C rfl dX6_share_27 ?_
      refine r_getI (jz := 0) C 5 0 rfl rfl (by decide) rfl uw_X6 fl_X6_63 rfl dX6_share_28 ?_
      refine r_icmp_ge (tgt := 92) C (by decide) (by omega) (by omega) dX6_share_31 (fun c31 => ?_) (fun c31 => ?_)
      · refine r_iload C rfl dX6_share_92 ?_
        refine r_ireturn C rfl ?_ dX6_share_94
        refine pM_of (a := vM σ) ?_ e2
        rw [s_share, if_neg (by simp [cp, cq]), if_neg (by simp [cm]), show i = (σ 0 0).toNat by omega]
        rfl
      · omega
    | succ k ih =>
      intro i υ z hi e2 cp cq cm hp hq
      have e1 : υ 0 0 = σ 0 0 := congrFun (congrFun e2 0) 0
      have hpl : 0 ≤ p ∧ p ≤ σ 0 6 - 1 := bList_t cp
      have hql : 0 ≤ q ∧ q ≤ σ 0 6 - 1 := bList_t cq
      have r1 := hp i (by omega) (by omega)
      have r2 := hq i (by omega) (by omega)
      have r3 := hFm_r hp i (by omega) (by omega)
      have r4 := hFm_r hq i (by omega) (by omega)
      have es : sSum (fun s => zB (decide (¬ sFault (vM σ) p y h s = 0 ∧ sFault (vM σ) p y h s = sFault (vM σ) q y h s))) (i + 1) = sSum (fun s => zB (decide (¬ sFault (vM σ) p y h s = 0 ∧ sFault (vM σ) p y h s = sFault (vM σ) q y h s))) i + zB (decide (¬ sFault (vM σ) p y h i = 0 ∧ sFault (vM σ) p y h i = sFault (vM σ) q y h i)) := rfl
      refine r_iload C rfl dX6_share_25 ?_
      refine r_aload_n C rfl dX6_share_27 ?_
      refine r_getI (jz := 0) C 5 0 rfl rfl (by decide) rfl uw_X6 fl_X6_63 rfl dX6_share_28 ?_
      refine r_icmp_ge (tgt := 92) C (by decide) (by omega) (by omega) dX6_share_31 (fun c31 => ?_) (fun c31 => ?_)
      · omega
      · refine r_iload C rfl dX6_share_34 ?_
        refine r_aload_n C rfl dX6_share_36 ?_
        refine r_getR C 5 17 rfl rfl (by decide) rfl uw_X6 fl_X6_50 dX6_share_37 ?_
        refine r_bipush C (by decide +kernel) dX6_share_40 ?_
        refine r_iload_n C rfl dX6_share_42 ?_
        refine r_imul C dX6_share_43 ?_
        rw [Int.mul_comm (8 : Int)]
        refine r_iload C rfl dX6_share_44 ?_
        refine r_iadd C dX6_share_46 ?_
        refine r_iaload C rfl (by decide) (by omega) dX6_share_47 ?_
        refine r_if_eq (tgt := 82) C (by decide) (by omega) dX6_share_48 (fun c48 => ?_) (fun c48 => ?_)
        · refine r_iconst C dX6_share_82 ?_
          refine r_iadd C dX6_share_83 ?_
          refine r_istore (ls' := [_, _, _, _, _, _, _, _]) C (by decide) rfl rfl dX6_share_84 ?_
          refine r_iinc (ls' := [_, _, _, _, _, _, _, _]) C rfl (by decide) rfl rfl dX6_share_86 ?_
          refine r_goto (tgt := 25) C (by decide) dX6_share_89 ?_
          refine PW_ls (ih (i + 1) υ z (by omega) e2 cp cq cm hp hq) ?_
          rw [es, ← r1, ← r2]
          first | (rw [zB_t (by rw [decide_eq_true_eq]; omega)]; first | done | rfl) | (rw [zB_f (by rw [decide_eq_false_iff_not]; omega)]; first | done | rfl)
        · refine r_aload_n C rfl dX6_share_51 ?_
          refine r_getR C 5 17 rfl rfl (by decide) rfl uw_X6 fl_X6_50 dX6_share_52 ?_
          refine r_bipush C (by decide +kernel) dX6_share_55 ?_
          refine r_iload_n C rfl dX6_share_57 ?_
          refine r_imul C dX6_share_58 ?_
          rw [Int.mul_comm (8 : Int)]
          refine r_iload C rfl dX6_share_59 ?_
          refine r_iadd C dX6_share_61 ?_
          refine r_iaload C rfl (by decide) (by omega) dX6_share_62 ?_
          refine r_aload_n C rfl dX6_share_63 ?_
          refine r_getR C 5 17 rfl rfl (by decide) rfl uw_X6 fl_X6_50 dX6_share_64 ?_
          refine r_bipush C (by decide +kernel) dX6_share_67 ?_
          refine r_iload_n C rfl dX6_share_69 ?_
          refine r_imul C dX6_share_70 ?_
          rw [Int.mul_comm (8 : Int)]
          refine r_iload C rfl dX6_share_71 ?_
          refine r_iadd C dX6_share_73 ?_
          refine r_iaload C rfl (by decide) (by omega) dX6_share_74 ?_
          refine r_icmp_ne (tgt := 82) C (by decide) (by omega) (by omega) dX6_share_75 (fun c75 => ?_) (fun c75 => ?_)
          · refine r_iconst C dX6_share_82 ?_
            refine r_iadd C dX6_share_83 ?_
            refine r_istore (ls' := [_, _, _, _, _, _, _, _]) C (by decide) rfl rfl dX6_share_84 ?_
            refine r_iinc (ls' := [_, _, _, _, _, _, _, _]) C rfl (by decide) rfl rfl dX6_share_86 ?_
            refine r_goto (tgt := 25) C (by decide) dX6_share_89 ?_
            refine PW_ls (ih (i + 1) υ z (by omega) e2 cp cq cm hp hq) ?_
            rw [es, ← r1, ← r2]
            first | (rw [zB_t (by rw [decide_eq_true_eq]; omega)]; first | done | rfl) | (rw [zB_f (by rw [decide_eq_false_iff_not]; omega)]; first | done | rfl)
          · refine r_iconst C dX6_share_78 ?_
            refine r_goto (tgt := 83) C (by decide) dX6_share_79 ?_
            refine r_iadd C dX6_share_83 ?_
            refine r_istore (ls' := [_, _, _, _, _, _, _, _]) C (by decide) rfl rfl dX6_share_84 ?_
            refine r_iinc (ls' := [_, _, _, _, _, _, _, _]) C rfl (by decide) rfl rfl dX6_share_86 ?_
            refine r_goto (tgt := 25) C (by decide) dX6_share_89 ?_
            refine PW_ls (ih (i + 1) υ z (by omega) e2 cp cq cm hp hq) ?_
            rw [es, ← r1, ← r2]
            first | (rw [zB_t (by rw [decide_eq_true_eq]; omega)]; first | done | rfl) | (rw [zB_f (by rw [decide_eq_false_iff_not]; omega)]; first | done | rfl)
  have kA : ∀ υ : pw_H, vM υ = vM σ → (bList (vM σ) p && bList (vM σ) q) = false → PW X shM G 9 [some (.ref (G.2.1 0)), some (vI p), some (vI q), some (vI y), some (vI h), none, none, none] [vI (-1)] υ := by
    intro υ e2 f1
    refine r_istore (ls' := [_, _, _, _, _, _, _, _]) C (by decide) rfl rfl dX6_share_9 ?_
    refine r_iload C rfl dX6_share_11 ?_
    refine r_if_ge (tgt := 19) C (by decide) (by omega) dX6_share_13 (fun c13 => ?_) (fun c13 => ?_)
    · omega
    · refine r_iload C rfl dX6_share_16 ?_
      refine r_ireturn C rfl ?_ dX6_share_18
      exact pM_of (a := vM σ) (by rw [s_share, if_pos f1]) e2
  have kB : ∀ υ : pw_H, vM υ = vM σ → (bList (vM σ) p && bList (vM σ) q) = true → bMom y h = false → PW X shM G 9 [some (.ref (G.2.1 0)), some (vI p), some (vI q), some (vI y), some (vI h), none, none, none] [vI (-2)] υ := by
    intro υ e2 f1 f2
    refine r_istore (ls' := [_, _, _, _, _, _, _, _]) C (by decide) rfl rfl dX6_share_9 ?_
    refine r_iload C rfl dX6_share_11 ?_
    refine r_if_ge (tgt := 19) C (by decide) (by omega) dX6_share_13 (fun c13 => ?_) (fun c13 => ?_)
    · omega
    · refine r_iload C rfl dX6_share_16 ?_
      refine r_ireturn C rfl ?_ dX6_share_18
      exact pM_of (a := vM σ) (by rw [s_share, if_neg (by simp [f1]), if_pos f2]) e2
  have kC : ∀ υ : pw_H, vM υ = vM σ → bList (vM σ) p = true → bList (vM σ) q = true → bMom y h = true → hFm υ (vM σ) p y h → hFm υ (vM σ) q y h → PW X shM G 9 [some (.ref (G.2.1 0)), some (vI p), some (vI q), some (vI y), some (vI h), none, none, none] [vI 0] υ := by
    intro υ e2 f1 f2 f3 f4 f5
    refine r_istore (ls' := [_, _, _, _, _, _, _, _]) C (by decide) rfl rfl dX6_share_9 ?_
    refine r_iload C rfl dX6_share_11 ?_
    refine r_if_ge (tgt := 19) C (by decide) (by omega) dX6_share_13 (fun c13 => ?_) (fun c13 => ?_)
    · refine r_iconst C dX6_share_19 ?_
      refine r_istore (ls' := [_, _, _, _, _, _, _, _]) C (by decide) rfl rfl dX6_share_20 ?_
      refine r_iconst C dX6_share_22 ?_
      refine r_istore (ls' := [_, _, _, _, _, _, _, _]) C (by decide) rfl rfl dX6_share_23 ?_
      exact loop (σ 0 0).toNat 0 υ _ (by omega) e2 f1 f2 f3 f4 f5
    · omega
  refine r_aload_n C rfl dX6_share_0 ?_
  refine r_iload_n C rfl dX6_share_1 ?_
  refine r_iload_n C rfl dX6_share_2 ?_
  refine r_iload_n C rfl dX6_share_3 ?_
  refine r_iload C rfl dX6_share_4 ?_
  refine r_callV (As := [_, _, _, _]) C (c_X6_mayCompare _ _ _ hI (by omega) (by omega) (by omega) (by omega)) ok_X6_mayCompare ln_X6_145 rfl rfl rfl rfl (Nat.le_of_ble_eq_true rfl) (Nat.le_of_ble_eq_true rfl) (Nat.le_of_ble_eq_true rfl) dX6_share_6 (fun v6 τ6 hq6 => ?_)
  have e2 := hq6.1
  rcases hq6.2 with ⟨rfl, f1⟩ | ⟨rfl, f1, f2⟩ | ⟨rfl, f1, f2, f3, f4, f5⟩
  · exact kA _ e2 f1
  · exact kB _ e2 f1 f2
  · exact kC _ e2 f1 f2 f3 f4 f5
set_option maxRecDepth 100000 in
theorem c_X6_apart (l : Launch) (G : pw_G) (σ : pw_H) {p q y h : Int} (hI : Inv (vM σ)) (q_p : InI p) (q_q : InI q) (q_y : InI y) (q_h : InI h) : Ct l shM G mX6_apart [.ref (G.2.1 0), vI p, vI q, vI y, vI h] σ (pM (s_apart (vM σ) p q y h)) := by
  have h0 : 0 ≤ σ 0 0 ∧ σ 0 0 ≤ 8 := hI.1
  have h5 : 0 ≤ σ 0 5 ∧ σ 0 5 ≤ 6 := hI.2.1
  have h1 : 0 ≤ σ 0 6 ∧ σ 0 6 ≤ 6 := hI.2.2.1
  refine Ct_of (ls := [some (.ref (G.2.1 0)), some (vI p), some (vI q), some (vI y), some (vI h), none]) (by decide +kernel) (Nat.le_of_ble_eq_true rfl) rfl (fun X C => ?_)
  have kA : ∀ υ : pw_H, vM υ = vM σ → (bList (vM σ) p && bList (vM σ) q) = false → PW X shM G 9 [some (.ref (G.2.1 0)), some (vI p), some (vI q), some (vI y), some (vI h), none] [vI (-1)] υ := by
    intro υ e2 f1
    refine r_istore (ls' := [_, _, _, _, _, _]) C (by decide) rfl rfl dX6_apart_9 ?_
    refine r_iload C rfl dX6_apart_11 ?_
    refine r_if_ge (tgt := 21) C (by decide) (by omega) dX6_apart_13 (fun c13 => ?_) (fun c13 => ?_)
    · omega
    · refine r_iload C rfl dX6_apart_16 ?_
      refine r_goto (tgt := 27) C (by decide) dX6_apart_18 ?_
      refine r_ireturn C rfl ?_ dX6_apart_27
      exact pM_of (a := vM σ) (by rw [s_apart, if_pos f1]) e2
  have kB : ∀ υ : pw_H, vM υ = vM σ → (bList (vM σ) p && bList (vM σ) q) = true → bMom y h = false → PW X shM G 9 [some (.ref (G.2.1 0)), some (vI p), some (vI q), some (vI y), some (vI h), none] [vI (-2)] υ := by
    intro υ e2 f1 f2
    refine r_istore (ls' := [_, _, _, _, _, _]) C (by decide) rfl rfl dX6_apart_9 ?_
    refine r_iload C rfl dX6_apart_11 ?_
    refine r_if_ge (tgt := 21) C (by decide) (by omega) dX6_apart_13 (fun c13 => ?_) (fun c13 => ?_)
    · omega
    · refine r_iload C rfl dX6_apart_16 ?_
      refine r_goto (tgt := 27) C (by decide) dX6_apart_18 ?_
      refine r_ireturn C rfl ?_ dX6_apart_27
      exact pM_of (a := vM σ) (by rw [s_apart, if_neg (by simp [f1]), if_pos f2]) e2
  have kC : ∀ υ : pw_H, vM υ = vM σ → bList (vM σ) p = true → bList (vM σ) q = true → bMom y h = true → hFm υ (vM σ) p y h → hFm υ (vM σ) q y h → PW X shM G 9 [some (.ref (G.2.1 0)), some (vI p), some (vI q), some (vI y), some (vI h), none] [vI 0] υ := by
    intro υ e2 f1 f2 f3 f4 f5
    have hpl : 0 ≤ p ∧ p ≤ σ 0 6 - 1 := bList_t f1
    have hql : 0 ≤ q ∧ q ≤ σ 0 6 - 1 := bList_t f2
    have e1 : υ 0 0 = σ 0 0 := congrFun (congrFun e2 0) 0
    refine r_istore (ls' := [_, _, _, _, _, _]) C (by decide) rfl rfl dX6_apart_9 ?_
    refine r_iload C rfl dX6_apart_11 ?_
    refine r_if_ge (tgt := 21) C (by decide) (by omega) dX6_apart_13 (fun c13 => ?_) (fun c13 => ?_)
    · refine r_aload_n C rfl dX6_apart_21 ?_
      refine r_iload_n C rfl dX6_apart_22 ?_
      refine r_iload_n C rfl dX6_apart_23 ?_
      refine r_callV (As := [_, _]) C (c_X6_apartOf _ _ _ (e2 ▸ hI) (by omega) (by omega) (fun s s1 s2 => ⟨hFm_r f4 s s1 s2, hFm_r f5 s s1 s2⟩)) ok_X6_apartOf ln_X6_148 rfl rfl rfl rfl (Nat.le_of_ble_eq_true rfl) (Nat.le_of_ble_eq_true rfl) (Nat.le_of_ble_eq_true rfl) dX6_apart_24 (fun v24 τ24 hq24 => ?_)
      obtain ⟨rfl, rfl⟩ := hq24
      refine r_ireturn C rfl ?_ dX6_apart_27
      refine pM_of (a := vM σ) ?_ e2
      rw [s_apart, if_neg (by simp [f1, f2]), if_neg (by simp [f3])]
      refine congrArg (fun z => (z, vM σ)) ?_
      rw [e1]
      unfold sApart
      refine sSum_cong (fun s s1 => ?_)
      have s2 : s < (σ 0 0).toNat := s1
      rw [f4 s (by omega) (by omega), f5 s (by omega) (by omega)]
    · omega
  refine r_aload_n C rfl dX6_apart_0 ?_
  refine r_iload_n C rfl dX6_apart_1 ?_
  refine r_iload_n C rfl dX6_apart_2 ?_
  refine r_iload_n C rfl dX6_apart_3 ?_
  refine r_iload C rfl dX6_apart_4 ?_
  refine r_callV (As := [_, _, _, _]) C (c_X6_mayCompare _ _ _ hI (by omega) (by omega) (by omega) (by omega)) ok_X6_mayCompare ln_X6_145 rfl rfl rfl rfl (Nat.le_of_ble_eq_true rfl) (Nat.le_of_ble_eq_true rfl) (Nat.le_of_ble_eq_true rfl) dX6_apart_6 (fun v6 τ6 hq6 => ?_)
  have e2 := hq6.1
  rcases hq6.2 with ⟨rfl, f1⟩ | ⟨rfl, f1, f2⟩ | ⟨rfl, f1, f2, f3, f4, f5⟩
  · exact kA _ e2 f1
  · exact kB _ e2 f1 f2
  · exact kC _ e2 f1 f2 f3 f4 f5
