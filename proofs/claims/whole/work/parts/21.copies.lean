set_option maxRecDepth 100000 in
set_option maxHeartbeats 4000000 in
theorem c_X0_note (l : Launch) (G : pw_G) (σ : pw_H) {t : Nat} {y h : Int} (hI : Inv (vX σ)) (ht : t < 6) (hy : -3000 ≤ y ∧ y ≤ 3000) (hh : -600 ≤ h ∧ h ≤ 600) : Ct l shX G mX0_note [.ref (G.2.1 4), vI (t : Int), vI y, vI h] σ (fun r τ => r = none ∧ Fr [3, 13, 15, 16, 17, 18, 20] σ τ ∧ (∀ s : Int, 0 ≤ s → s < 8 → τ 20 (t * 8 + s) = sFault (vX σ) t y h s) ∧ ∀ j : Int, (j < t * 8 ∨ t * 8 + 8 ≤ j) → τ 20 j = σ 20 j) := by
  have h0 : 0 ≤ σ 1 4 ∧ σ 1 4 ≤ 8 := hI.1
  have h9 : 0 ≤ σ 10 t ∧ σ 10 t ≤ 8 := hI.2.2.2.2.2.2.2.1 t
  refine Ct_of (ls := [some (.ref (G.2.1 4)), some (vI (t : Int)), some (vI y), some (vI h), none, none]) (by decide +kernel) (Nat.le_of_ble_eq_true rfl) rfl (fun X C => ?_)
  have loop2 : ∀ (k i : Nat) (υ : pw_H), i + k = (σ 10 t).toNat → Fr [3, 13, 15, 16, 17, 18, 20] σ υ → (∀ i : Nat, i < (σ 10 t).toNat → υ 13 i = sStar (vX σ) t y h i) → (∀ s : Int, 0 ≤ s → s < σ 1 4 → υ 15 s = sSky (vX σ) s y + h) → (∀ s : Int, 0 ≤ s → s < 8 → υ 20 (t * 8 + s) = sFs (vX σ) t y h i s) → (∀ j : Int, (j < t * 8 ∨ t * 8 + 8 ≤ j) → υ 20 j = σ 20 j) → PW X shX G 42 [some (.ref (G.2.1 4)), some (vI (t : Int)), some (vI y), some (vI h), some (vI (i : Int)), none] [] υ := by
    intro k
    induction k with
    | zero =>
      intro i υ hi hF h13 h15 h20 ho
      have e1 : υ 10 t = σ 10 t := congrFun (hF 10 (by decide)) _
      have ei : i = (σ 10 t).toNat := by omega
      subst ei
      refine r_iload C rfl dX0_note_42 ?_
      refine r_aload_n C rfl dX0_note_44 ?_
      refine r_getR C 0 4 rfl rfl (by decide) rfl uw_X0 fl_X0_32 dX0_note_45 ?_
      refine r_getR C 2 0 rfl rfl (by decide) rfl uw_X2 fl_X0_48 dX0_note_48 ?_
      refine r_iload_n C rfl dX0_note_51 ?_
      refine r_iaload C rfl (by decide) (by omega) dX0_note_52 ?_
      refine r_icmp_ge (tgt := 111) C (by decide) (by omega) (by omega) dX0_note_53 (fun c53 => ?_) (fun c53 => ?_)
      · refine r_return C rfl ?_ dX0_note_111
        exact ⟨rfl, hF, h20, ho⟩
      · omega
    | succ k ih =>
      intro i υ hi hF h13 h15 h20 ho
      have e1 : υ 10 t = σ 10 t := congrFun (hF 10 (by decide)) _
      have e2 : vX υ = vX σ := Fr_vX hF (by decide)
      have e3 := h13 i (by omega)
      have hs3 := sStar_r (y := y) (h := h) hI (l := t) (i := i) (show i < (σ 10 t).toNat by omega)
      have hs4 : sStar (vX σ) t y h i = -9 ∨ (0 ≤ sStar (vX σ) t y h i ∧ sStar (vX σ) t y h i < σ 1 4) := by
        rcases hs3 with q | ⟨q1, q2, -⟩
        · exact Or.inl q
        · exact Or.inr ⟨q1, q2⟩
      have e4 : 0 ≤ sStar (vX σ) t y h i → υ 15 (sStar (vX σ) t y h i) = sSky (vX σ) (sStar (vX σ) t y h i) y + h := fun q => h15 _ q (by omega)
      have hsk := n_sky (vX σ) (sStar (vX σ) t y h i) y
      have hrk : 0 ≤ sRk (vX σ) t i (sStar (vX σ) t y h i) y h ∧ sRk (vX σ) t i (sStar (vX σ) t y h i) y h ≤ 1048576 := n_sRank _ _ _
      refine r_iload C rfl dX0_note_42 ?_
      refine r_aload_n C rfl dX0_note_44 ?_
      refine r_getR C 0 4 rfl rfl (by decide) rfl uw_X0 fl_X0_32 dX0_note_45 ?_
      refine r_getR C 2 0 rfl rfl (by decide) rfl uw_X2 fl_X0_48 dX0_note_48 ?_
      refine r_iload_n C rfl dX0_note_51 ?_
      refine r_iaload C rfl (by decide) (by omega) dX0_note_52 ?_
      refine r_icmp_ge (tgt := 111) C (by decide) (by omega) (by omega) dX0_note_53 (fun c53 => ?_) (fun c53 => ?_)
      · omega
      · refine r_aload_n C rfl dX0_note_56 ?_
        refine r_getR C 0 5 rfl rfl (by decide) rfl uw_X0 fl_X0_36 dX0_note_57 ?_
        refine r_getR C 1 0 rfl rfl (by decide) rfl uw_X1 fl_X0_53 dX0_note_60 ?_
        refine r_iload C rfl dX0_note_63 ?_
        refine r_iaload C rfl (by decide) (by omega) dX0_note_65 ?_
        rw [e3]
        refine r_istore (ls' := [_, _, _, _, _, _]) C (by decide) rfl rfl dX0_note_66 ?_
        refine r_iload C rfl dX0_note_68 ?_
        refine r_bipush C (by decide +kernel) dX0_note_70 ?_
        refine r_icmp_ne (tgt := 78) C (by decide) (by omega) (by omega) dX0_note_72 (fun c72 => ?_) (fun c72 => ?_)
        · refine r_aload_n C rfl dX0_note_78 ?_
          refine r_getR C 0 6 rfl rfl (by decide) rfl uw_X0 fl_X0_22 dX0_note_79 ?_
          refine r_iload_n C rfl dX0_note_82 ?_
          refine r_bipush C (by decide +kernel) dX0_note_83 ?_
          refine r_imul C dX0_note_85 ?_
          refine r_iload C rfl dX0_note_86 ?_
          refine r_iadd C dX0_note_88 ?_
          refine r_aload_n C rfl dX0_note_89 ?_
          refine r_getR C 0 5 rfl rfl (by decide) rfl uw_X0 fl_X0_36 dX0_note_90 ?_
          refine r_iload_n C rfl dX0_note_93 ?_
          refine r_iload C rfl dX0_note_94 ?_
          refine r_iload C rfl dX0_note_96 ?_
          refine r_callV (As := [_, _, _]) C (c_X1_turnedRank _ _ _ (e2 ▸ hI) (by omega) (by omega) (by omega) (by rw [e4 (by omega)]; omega)) ok_X1_turnedRank ln_X0_56 rfl rfl rfl rfl (Nat.le_of_ble_eq_true rfl) (Nat.le_of_ble_eq_true rfl) (Nat.le_of_ble_eq_true rfl) dX0_note_98 (fun v98 τ98 hq98 => ?_)
          obtain ⟨rfl, rfl⟩ := hq98
          rw [e4 (by omega), e2, show sRank (sWay (sSky (vX σ) (sStar (vX σ) t y h i) y + h) (vX σ 6 ((t : Int) * 8 + i))) (vX σ 7 ((t : Int) * 8 + i)) (vX σ 2 (sStar (vX σ) t y h i)) = sRk (vX σ) t i (sStar (vX σ) t y h i) y h from rfl]
          refine r_callS (As := [_]) C (c_X3_kindOf _ _ _ hrk) ok_X3_kindOf ln_X0_60 rfl rfl (Nat.le_of_ble_eq_true rfl) (Nat.le_of_ble_eq_true rfl) (Nat.le_of_ble_eq_true rfl) dX0_note_101 (fun v101 τ101 hq101 => ?_)
          obtain ⟨rfl, rfl⟩ := hq101
          refine r_iastore C rfl (by decide) (by omega) dX0_note_104 ?_
          refine r_iinc (ls' := [_, _, _, _, _, _]) C rfl (by decide) rfl rfl dX0_note_105 ?_
          refine r_goto (tgt := 42) C (by decide) dX0_note_108 ?_
          refine PW_lw [true, true, true, true, true, false] (ih (i + 1) _ (by omega) (hF.tr (Fr.u (by decide)) (fun _ q => q) (fun _ q => q)) (fun j j1 => by rw [pw_u_k (by decide)]; exact h13 j j1) (fun s s1 s2 => by rw [pw_u_k (by decide)]; exact h15 s s1 s2) (fun s s1 s2 => ?_) (fun j j1 => by rw [pw_u_j (by omega)]; exact ho j j1)) rfl
          simp only [sFs]
          rw [if_neg (by omega)]
          by_cases q : s = sStar (vX σ) t y h i
          · rw [q, pw_u_s, if_pos rfl]
          · rw [if_neg q, pw_u_j (by omega)]
            exact h20 s s1 s2
        · refine r_goto (tgt := 105) C (by decide) dX0_note_75 ?_
          refine r_iinc (ls' := [_, _, _, _, _, _]) C rfl (by decide) rfl rfl dX0_note_105 ?_
          refine r_goto (tgt := 42) C (by decide) dX0_note_108 ?_
          refine PW_lw [true, true, true, true, true, false] (ih (i + 1) υ (by omega) hF h13 h15 (fun s s1 s2 => ?_) ho) rfl
          rw [h20 s s1 s2]
          simp only [sFs]
          rw [if_pos (by omega)]
  have loop : ∀ (k i : Nat) (υ : pw_H), i + k = 8 → Fr [20] σ υ → (∀ s : Int, 0 ≤ s → s < i → υ 20 (t * 8 + s) = 0) → (∀ j : Int, (j < t * 8 ∨ t * 8 + 8 ≤ j) → υ 20 j = σ 20 j) → PW X shX G 3 [some (.ref (G.2.1 4)), some (vI (t : Int)), some (vI y), some (vI h), some (vI (i : Int)), none] [] υ := by
    intro k
    induction k with
    | zero =>
      intro i υ hi hF hz ho
      have e2 : vX υ = vX σ := Fr_vX hF (by decide)
      refine r_iload C rfl dX0_note_3 ?_
      refine r_bipush C (by decide +kernel) dX0_note_5 ?_
      refine r_icmp_ge (tgt := 29) C (by decide) (by omega) (by omega) dX0_note_7 (fun c7 => ?_) (fun c7 => ?_)
      · refine r_aload_n C rfl dX0_note_29 ?_
        refine r_getR C 0 5 rfl rfl (by decide) rfl uw_X0 fl_X0_36 dX0_note_30 ?_
        refine r_iload_n C rfl dX0_note_33 ?_
        refine r_iload_n C rfl dX0_note_34 ?_
        refine r_iload_n C rfl dX0_note_35 ?_
        refine r_callV (As := [_, _, _]) C (c_X1_find _ _ _ (e2 ▸ hI) ht hy hh) ok_X1_find ln_X0_42 rfl rfl rfl rfl (Nat.le_of_ble_eq_true rfl) (Nat.le_of_ble_eq_true rfl) (Nat.le_of_ble_eq_true rfl) dX0_note_36 (fun v36 τ36 hq36 => ?_)
        obtain ⟨rfl, hF2, -, e4, e5⟩ := hq36
        rw [e2, show υ 10 (t : Int) = σ 10 t from congrFun (hF 10 (by decide)) _, show υ 1 4 = σ 1 4 from congrFun (hF 1 (by decide)) 4] at e4
        rw [e2, show υ 1 4 = σ 1 4 from congrFun (hF 1 (by decide)) 4] at e5
        refine r_iconst C dX0_note_39 ?_
        refine r_istore (ls' := [_, _, _, _, _, _]) C (by decide) rfl rfl dX0_note_40 ?_
        refine loop2 (σ 10 t).toNat 0 _ (by omega) (hF.tr hF2 (by decide) (by decide)) e4 e5 (fun s s1 s2 => ?_) (fun j j1 => ?_)
        · rw [hF2 20 (by decide)]; exact hz s s1 (by omega)
        · rw [hF2 20 (by decide)]; exact ho j j1
      · omega
    | succ k ih =>
      intro i υ hi hF hz ho
      refine r_iload C rfl dX0_note_3 ?_
      refine r_bipush C (by decide +kernel) dX0_note_5 ?_
      refine r_icmp_ge (tgt := 29) C (by decide) (by omega) (by omega) dX0_note_7 (fun c7 => ?_) (fun c7 => ?_)
      · omega
      · refine r_aload_n C rfl dX0_note_10 ?_
        refine r_getR C 0 6 rfl rfl (by decide) rfl uw_X0 fl_X0_22 dX0_note_11 ?_
        refine r_iload_n C rfl dX0_note_14 ?_
        refine r_bipush C (by decide +kernel) dX0_note_15 ?_
        refine r_imul C dX0_note_17 ?_
        refine r_iload C rfl dX0_note_18 ?_
        refine r_iadd C dX0_note_20 ?_
        refine r_iconst C dX0_note_21 ?_
        refine r_iastore C rfl (by decide) (by omega) dX0_note_22 ?_
        refine r_iinc (ls' := [_, _, _, _, _, _]) C rfl (by decide) rfl rfl dX0_note_23 ?_
        refine r_goto (tgt := 3) C (by decide) dX0_note_26 ?_
        refine ih (i + 1) _ (by omega) (hF.tr (Fr.u (by decide)) (fun _ q => q) (fun _ q => q)) (fun s s1 s2 => ?_) (fun j j1 => by rw [pw_u_j (by omega)]; exact ho j j1)
        by_cases q : s = i
        · rw [q, pw_u_s]
        · rw [pw_u_j (by omega)]; exact hz s s1 (by omega)
  refine r_iconst C dX0_note_0 ?_
  refine r_istore (ls' := [_, _, _, _, _, _]) C (by decide) rfl rfl dX0_note_1 ?_
  exact loop 8 0 σ (by omega) Fr.rf (fun s s1 s2 => by omega) (fun _ _ => rfl)
set_option maxRecDepth 100000 in
theorem c_X0_faultOf (l : Launch) (G : pw_G) (σ : pw_H) {t s : Int} (ht : 0 ≤ t ∧ t < 6) (hs : 0 ≤ s ∧ s < 8) : Ct l shX G mX0_faultOf [.ref (G.2.1 4), vI t, vI s] σ (pv (σ 20 (t * 8 + s)) σ) := by
  refine Ct_of (ls := [some (.ref (G.2.1 4)), some (vI t), some (vI s)]) (by decide +kernel) (Nat.le_of_ble_eq_true rfl) rfl (fun X C => ?_)
  refine r_aload_n C rfl dX0_faultOf_0 ?_
  refine r_getR C 0 6 rfl rfl (by decide) rfl uw_X0 fl_X0_22 dX0_faultOf_1 ?_
  refine r_iload_n C rfl dX0_faultOf_4 ?_
  refine r_bipush C (by decide +kernel) dX0_faultOf_5 ?_
  refine r_imul C dX0_faultOf_7 ?_
  refine r_iload_n C rfl dX0_faultOf_8 ?_
  refine r_iadd C dX0_faultOf_9 ?_
  refine r_iaload C rfl (by decide) (by omega) dX0_faultOf_10 ?_
  refine r_ireturn C rfl ?_ dX0_faultOf_11
  exact ⟨rfl, rfl⟩
set_option maxRecDepth 100000 in
theorem c_X0_inBoth (l : Launch) (G : pw_G) (σ : pw_H) {p q : Int} (hI : Inv (vX σ)) (hp : 0 ≤ p ∧ p < 6) (hq : 0 ≤ q ∧ q < 6) (hr : ∀ s : Int, 0 ≤ s → s < 8 → (0 ≤ σ 20 (p * 8 + s) ∧ σ 20 (p * 8 + s) ≤ 3) ∧ 0 ≤ σ 20 (q * 8 + s) ∧ σ 20 (q * 8 + s) ≤ 3) : Ct l shX G mX0_inBoth [.ref (G.2.1 4), vI p, vI q] σ (pv (sSum (fun s => zB (decide (¬ σ 20 (p * 8 + s) = 0 ∧ σ 20 (p * 8 + s) = σ 20 (q * 8 + s)))) (σ 1 4).toNat) σ) := by
  have h0 : 0 ≤ σ 1 4 ∧ σ 1 4 ≤ 8 := hI.1
  refine Ct_of (ls := [some (.ref (G.2.1 4)), some (vI p), some (vI q), none, none, none]) (by decide +kernel) (Nat.le_of_ble_eq_true rfl) rfl (fun X C => ?_)
  have loop : ∀ (k i : Nat), i + k = (σ 1 4).toNat → PW X shX G 5 [some (.ref (G.2.1 4)), some (vI p), some (vI q), some (vI (sSum (fun s => zB (decide (¬ σ 20 (p * 8 + s) = 0 ∧ σ 20 (p * 8 + s) = σ 20 (q * 8 + s)))) i)), some (vI (i : Int)), none] [] σ := by
    intro k
    induction k with
    | zero =>
      intro i hi
      refine r_iload C rfl dX0_inBoth_5 ?_
      refine r_aload_n C rfl dX0_inBoth_7 ?_
      refine r_getR C 0 3 rfl rfl (by decide) rfl uw_X0 fl_X0_28 dX0_inBoth_8 ?_
      refine r_getI (jz := 4) C 3 4 rfl rfl (by decide) rfl uw_X4 fl_X0_64 rfl dX0_inBoth_11 ?_
      refine r_icmp_ge (tgt := 52) C (by decide) (by omega) (by omega) dX0_inBoth_14 (fun c14 => ?_) (fun c14 => ?_)
      · refine r_iload_n C rfl dX0_inBoth_52 ?_
        refine r_ireturn C rfl ?_ dX0_inBoth_53
        exact pv_of (by rw [show i = (σ 1 4).toNat by omega]) rfl
      · omega
    | succ k ih =>
      intro i hi
      have hri := hr i (by omega) (by omega)
      have es : sSum (fun s => zB (decide (¬ σ 20 (p * 8 + s) = 0 ∧ σ 20 (p * 8 + s) = σ 20 (q * 8 + s)))) (i + 1) = sSum (fun s => zB (decide (¬ σ 20 (p * 8 + s) = 0 ∧ σ 20 (p * 8 + s) = σ 20 (q * 8 + s)))) i + zB (decide (¬ σ 20 (p * 8 + i) = 0 ∧ σ 20 (p * 8 + i) = σ 20 (q * 8 + i))) := rfl
      refine r_iload C rfl dX0_inBoth_5 ?_
      refine r_aload_n C rfl dX0_inBoth_7 ?_
      refine r_getR C 0 3 rfl rfl (by decide) rfl uw_X0 fl_X0_28 dX0_inBoth_8 ?_
      refine r_getI (jz := 4) C 3 4 rfl rfl (by decide) rfl uw_X4 fl_X0_64 rfl dX0_inBoth_11 ?_
      refine r_icmp_ge (tgt := 52) C (by decide) (by omega) (by omega) dX0_inBoth_14 (fun c14 => ?_) (fun c14 => ?_)
      · omega
      · refine r_aload_n C rfl dX0_inBoth_17 ?_
        refine r_iload_n C rfl dX0_inBoth_18 ?_
        refine r_iload C rfl dX0_inBoth_19 ?_
        refine r_callV (As := [_, _]) C (c_X0_faultOf _ _ _ (by omega) (by omega)) ok_X0_faultOf ln_X0_69 rfl rfl rfl rfl (Nat.le_of_ble_eq_true rfl) (Nat.le_of_ble_eq_true rfl) (Nat.le_of_ble_eq_true rfl) dX0_inBoth_21 (fun v21 τ21 hq21 => ?_)
        obtain ⟨rfl, rfl⟩ := hq21
        refine r_istore (ls' := [_, _, _, _, _, _]) C (by decide) rfl rfl dX0_inBoth_24 ?_
        refine r_iload C rfl dX0_inBoth_26 ?_
        refine r_if_eq (tgt := 46) C (by decide) (by omega) dX0_inBoth_28 (fun c28 => ?_) (fun c28 => ?_)
        · refine r_iinc (ls' := [_, _, _, _, _, _]) C rfl (by decide) rfl rfl dX0_inBoth_46 ?_
          refine r_goto (tgt := 5) C (by decide) dX0_inBoth_49 ?_
          refine PW_lw [true, true, true, true, true, false] (ih (i + 1) (by omega)) ?_
          rw [es]
          first | rw [zB_t (by rw [decide_eq_true_eq]; omega)]; rfl | rw [zB_f (by rw [decide_eq_false_iff_not]; omega), Int.add_zero]; rfl
        · refine r_iload C rfl dX0_inBoth_31 ?_
          refine r_aload_n C rfl dX0_inBoth_33 ?_
          refine r_iload_n C rfl dX0_inBoth_34 ?_
          refine r_iload C rfl dX0_inBoth_35 ?_
          refine r_callV (As := [_, _]) C (c_X0_faultOf _ _ _ (by omega) (by omega)) ok_X0_faultOf ln_X0_69 rfl rfl rfl rfl (Nat.le_of_ble_eq_true rfl) (Nat.le_of_ble_eq_true rfl) (Nat.le_of_ble_eq_true rfl) dX0_inBoth_37 (fun v37 τ37 hq37 => ?_)
          obtain ⟨rfl, rfl⟩ := hq37
          refine r_icmp_ne (tgt := 46) C (by decide) (by omega) (by omega) dX0_inBoth_40 (fun c40 => ?_) (fun c40 => ?_)
          · refine r_iinc (ls' := [_, _, _, _, _, _]) C rfl (by decide) rfl rfl dX0_inBoth_46 ?_
            refine r_goto (tgt := 5) C (by decide) dX0_inBoth_49 ?_
            refine PW_lw [true, true, true, true, true, false] (ih (i + 1) (by omega)) ?_
            rw [es]
            first | rw [zB_t (by rw [decide_eq_true_eq]; omega)]; rfl | rw [zB_f (by rw [decide_eq_false_iff_not]; omega), Int.add_zero]; rfl
          · refine r_iinc (ls' := [_, _, _, _, _, _]) C rfl (by decide) rfl rfl dX0_inBoth_43 ?_
            refine r_iinc (ls' := [_, _, _, _, _, _]) C rfl (by decide) rfl rfl dX0_inBoth_46 ?_
            refine r_goto (tgt := 5) C (by decide) dX0_inBoth_49 ?_
            refine PW_lw [true, true, true, true, true, false] (ih (i + 1) (by omega)) ?_
            rw [es]
            first | rw [zB_t (by rw [decide_eq_true_eq]; omega)]; rfl | rw [zB_f (by rw [decide_eq_false_iff_not]; omega), Int.add_zero]; rfl
  refine r_iconst C dX0_inBoth_0 ?_
  refine r_istore_n (ls' := [_, _, _, _, _, _]) C (by decide) rfl rfl dX0_inBoth_1 ?_
  refine r_iconst C dX0_inBoth_2 ?_
  refine r_istore (ls' := [_, _, _, _, _, _]) C (by decide) rfl rfl dX0_inBoth_3 ?_
  exact loop (σ 1 4).toNat 0 (by omega)
set_option maxRecDepth 100000 in
theorem c_X0_unlike (l : Launch) (G : pw_G) (σ : pw_H) {p q : Int} (hI : Inv (vX σ)) (hp : 0 ≤ p ∧ p < 6) (hq : 0 ≤ q ∧ q < 6) (hr : ∀ s : Int, 0 ≤ s → s < 8 → (0 ≤ σ 20 (p * 8 + s) ∧ σ 20 (p * 8 + s) ≤ 3) ∧ 0 ≤ σ 20 (q * 8 + s) ∧ σ 20 (q * 8 + s) ≤ 3) : Ct l shX G mX0_unlike [.ref (G.2.1 4), vI p, vI q] σ (pv (sSum (fun s => zB (decide (¬ σ 20 (p * 8 + s) = σ 20 (q * 8 + s)))) (σ 1 4).toNat) σ) := by
  have h0 : 0 ≤ σ 1 4 ∧ σ 1 4 ≤ 8 := hI.1
  refine Ct_of (ls := [some (.ref (G.2.1 4)), some (vI p), some (vI q), none, none]) (by decide +kernel) (Nat.le_of_ble_eq_true rfl) rfl (fun X C => ?_)
  have loop : ∀ (k i : Nat), i + k = (σ 1 4).toNat → PW X shX G 5 [some (.ref (G.2.1 4)), some (vI p), some (vI q), some (vI (sSum (fun s => zB (decide (¬ σ 20 (p * 8 + s) = σ 20 (q * 8 + s)))) i)), some (vI (i : Int))] [] σ := by
    intro k
    induction k with
    | zero =>
      intro i hi
      refine r_iload C rfl dX0_unlike_5 ?_
      refine r_aload_n C rfl dX0_unlike_7 ?_
      refine r_getR C 0 3 rfl rfl (by decide) rfl uw_X0 fl_X0_28 dX0_unlike_8 ?_
      refine r_getI (jz := 4) C 3 4 rfl rfl (by decide) rfl uw_X4 fl_X0_64 rfl dX0_unlike_11 ?_
      refine r_icmp_ge (tgt := 43) C (by decide) (by omega) (by omega) dX0_unlike_14 (fun c14 => ?_) (fun c14 => ?_)
      · refine r_iload_n C rfl dX0_unlike_43 ?_
        refine r_ireturn C rfl ?_ dX0_unlike_44
        exact pv_of (by rw [show i = (σ 1 4).toNat by omega]) rfl
      · omega
    | succ k ih =>
      intro i hi
      have hri := hr i (by omega) (by omega)
      have es : sSum (fun s => zB (decide (¬ σ 20 (p * 8 + s) = σ 20 (q * 8 + s)))) (i + 1) = sSum (fun s => zB (decide (¬ σ 20 (p * 8 + s) = σ 20 (q * 8 + s)))) i + zB (decide (¬ σ 20 (p * 8 + i) = σ 20 (q * 8 + i))) := rfl
      refine r_iload C rfl dX0_unlike_5 ?_
      refine r_aload_n C rfl dX0_unlike_7 ?_
      refine r_getR C 0 3 rfl rfl (by decide) rfl uw_X0 fl_X0_28 dX0_unlike_8 ?_
      refine r_getI (jz := 4) C 3 4 rfl rfl (by decide) rfl uw_X4 fl_X0_64 rfl dX0_unlike_11 ?_
      refine r_icmp_ge (tgt := 43) C (by decide) (by omega) (by omega) dX0_unlike_14 (fun c14 => ?_) (fun c14 => ?_)
      · omega
      · refine r_aload_n C rfl dX0_unlike_17 ?_
        refine r_iload_n C rfl dX0_unlike_18 ?_
        refine r_iload C rfl dX0_unlike_19 ?_
        refine r_callV (As := [_, _]) C (c_X0_faultOf _ _ _ (by omega) (by omega)) ok_X0_faultOf ln_X0_69 rfl rfl rfl rfl (Nat.le_of_ble_eq_true rfl) (Nat.le_of_ble_eq_true rfl) (Nat.le_of_ble_eq_true rfl) dX0_unlike_21 (fun v21 τ21 hq21 => ?_)
        obtain ⟨rfl, rfl⟩ := hq21
        refine r_aload_n C rfl dX0_unlike_24 ?_
        refine r_iload_n C rfl dX0_unlike_25 ?_
        refine r_iload C rfl dX0_unlike_26 ?_
        refine r_callV (As := [_, _]) C (c_X0_faultOf _ _ _ (by omega) (by omega)) ok_X0_faultOf ln_X0_69 rfl rfl rfl rfl (Nat.le_of_ble_eq_true rfl) (Nat.le_of_ble_eq_true rfl) (Nat.le_of_ble_eq_true rfl) dX0_unlike_28 (fun v28 τ28 hq28 => ?_)
        obtain ⟨rfl, rfl⟩ := hq28
        refine r_icmp_eq (tgt := 37) C (by decide) (by omega) (by omega) dX0_unlike_31 (fun c31 => ?_) (fun c31 => ?_)
        · refine r_iinc (ls' := [_, _, _, _, _]) C rfl (by decide) rfl rfl dX0_unlike_37 ?_
          refine r_goto (tgt := 5) C (by decide) dX0_unlike_40 ?_
          refine PW_lw [true, true, true, true, true] (ih (i + 1) (by omega)) ?_
          rw [es]
          first | rw [zB_t (by rw [decide_eq_true_eq]; omega)]; rfl | rw [zB_f (by rw [decide_eq_false_iff_not]; omega), Int.add_zero]; rfl
        · refine r_iinc (ls' := [_, _, _, _, _]) C rfl (by decide) rfl rfl dX0_unlike_34 ?_
          refine r_iinc (ls' := [_, _, _, _, _]) C rfl (by decide) rfl rfl dX0_unlike_37 ?_
          refine r_goto (tgt := 5) C (by decide) dX0_unlike_40 ?_
          refine PW_lw [true, true, true, true, true] (ih (i + 1) (by omega)) ?_
          rw [es]
          first | rw [zB_t (by rw [decide_eq_true_eq]; omega)]; rfl | rw [zB_f (by rw [decide_eq_false_iff_not]; omega), Int.add_zero]; rfl
  refine r_iconst C dX0_unlike_0 ?_
  refine r_istore_n (ls' := [_, _, _, _, _]) C (by decide) rfl rfl dX0_unlike_1 ?_
  refine r_iconst C dX0_unlike_2 ?_
  refine r_istore (ls' := [_, _, _, _, _]) C (by decide) rfl rfl dX0_unlike_3 ?_
  exact loop (σ 1 4).toNat 0 (by omega)
set_option maxRecDepth 100000 in
theorem c_X5_fault (l : Launch) (G : pw_G) (σ : pw_H) {t s y h : Int} (hI : Inv (vX σ)) (q_t : InI t) (q_s : InI s) (q_y : InI y) (q_h : InI h) : Ct l shX G mX5_fault [.ref (G.2.1 0), vI t, vI s, vI y, vI h] σ (pX (s_fault (vX σ) t s y h)) := by
  have h0 : 0 ≤ σ 1 4 ∧ σ 1 4 ≤ 8 := hI.1
  have h5 : 0 ≤ σ 1 5 ∧ σ 1 5 ≤ 6 := hI.2.1
  have h1 : 0 ≤ σ 2 1 ∧ σ 2 1 ≤ 6 := hI.2.2.1
  refine Ct_of (ls := [some (.ref (G.2.1 0)), some (vI t), some (vI s), some (vI y), some (vI h)]) (by decide +kernel) (Nat.le_of_ble_eq_true rfl) rfl (fun X C => ?_)
  refine r_aload_n C rfl dX5_fault_0 ?_
  refine r_getR C 4 1 rfl rfl (by decide) rfl uw_X5 fl_X5_19 dX5_fault_1 ?_
  refine r_iload_n C rfl dX5_fault_4 ?_
  refine r_callV (As := [_]) C (c_X2_has _ _ _ (by omega) hI) ok_X2_has ln_X5_98 rfl rfl rfl rfl (Nat.le_of_ble_eq_true rfl) (Nat.le_of_ble_eq_true rfl) (Nat.le_of_ble_eq_true rfl) dX5_fault_5 (fun v5 τ5 hq5 => ?_)
  obtain ⟨rfl, rfl⟩ := hq5
  refine r_ifB_eq (tgt := 22) C (by decide) dX5_fault_8 (fun c8 => ?_) (fun c8 => ?_)
  · refine r_iconst C dX5_fault_22 ?_
    refine r_ireturn C rfl ?_ dX5_fault_23
    exact pX_of (by simp [s_fault, *]) rfl
  · have h8 : 0 ≤ t ∧ t ≤ σ 2 1 - 1 := bList_t c8
    obtain ⟨u, rfl⟩ := Int.eq_ofNat_of_zero_le h8.1
    refine r_aload_n C rfl dX5_fault_11 ?_
    refine r_getR C 4 0 rfl rfl (by decide) rfl uw_X5 fl_X5_10 dX5_fault_12 ?_
    refine r_iload_n C rfl dX5_fault_15 ?_
    refine r_callV (As := [_]) C (c_X4_has _ _ _ (by omega) hI) ok_X4_has ln_X5_61 rfl rfl rfl rfl (Nat.le_of_ble_eq_true rfl) (Nat.le_of_ble_eq_true rfl) (Nat.le_of_ble_eq_true rfl) dX5_fault_16 (fun v16 τ16 hq16 => ?_)
    obtain ⟨rfl, rfl⟩ := hq16
    refine r_ifB_ne (tgt := 24) C (by decide) dX5_fault_19 (fun c19 => ?_) (fun c19 => ?_)
    · have h9 : 0 ≤ s ∧ s ≤ σ 1 4 - 1 := bStar_t c19
      refine r_iload_n C rfl dX5_fault_24 ?_
      refine r_iload C rfl dX5_fault_25 ?_
      refine r_callS (As := [_, _]) C (c_X5_isMoment _ _ _ (by omega) (by omega)) ok_X5_isMoment ln_X5_118 rfl rfl (Nat.le_of_ble_eq_true rfl) (Nat.le_of_ble_eq_true rfl) (Nat.le_of_ble_eq_true rfl) dX5_fault_27 (fun v27 τ27 hq27 => ?_)
      obtain ⟨rfl, rfl⟩ := hq27
      refine r_ifB_ne (tgt := 36) C (by decide) dX5_fault_30 (fun c30 => ?_) (fun c30 => ?_)
      · have h11 := bMom_t c30
        refine r_aload_n C rfl dX5_fault_36 ?_
        refine r_getR C 4 3 rfl rfl (by decide) rfl uw_X5 fl_X5_37 dX5_fault_37 ?_
        refine r_iload_n C rfl dX5_fault_40 ?_
        refine r_iload_n C rfl dX5_fault_41 ?_
        refine r_iload C rfl dX5_fault_42 ?_
        refine r_callV (As := [_, _, _]) C (c_X0_note _ _ _ hI (by omega) h11.1 h11.2) ok_X0_note ln_X5_162 rfl rfl rfl rfl (Nat.le_of_ble_eq_true rfl) (Nat.le_of_ble_eq_true rfl) (Nat.le_of_ble_eq_true rfl) dX5_fault_44 (fun v44 τ44 hq44 => ?_)
        obtain ⟨rfl, hF, e3, -⟩ := hq44
        have e2 : vX τ44 = vX σ := Fr_vX hF (by decide)
        have e4 := e3 s h9.1 (by omega)
        refine r_aload_n C rfl dX5_fault_47 ?_
        refine r_getR C 4 3 rfl rfl (by decide) rfl uw_X5 fl_X5_37 dX5_fault_48 ?_
        refine r_iload_n C rfl dX5_fault_51 ?_
        refine r_iload_n C rfl dX5_fault_52 ?_
        refine r_callV (As := [_, _]) C (c_X0_faultOf _ _ _ (by omega) (by omega)) ok_X0_faultOf ln_X5_165 rfl rfl rfl rfl (Nat.le_of_ble_eq_true rfl) (Nat.le_of_ble_eq_true rfl) (Nat.le_of_ble_eq_true rfl) dX5_fault_53 (fun v53 τ53 hq53 => ?_)
        obtain ⟨rfl, rfl⟩ := hq53
        refine r_ireturn C rfl ?_ dX5_fault_56
        exact pX_of (a := vX σ) (by rw [e4]; simp [s_fault, *]) e2
      · refine r_bipush C (by decide +kernel) dX5_fault_33 ?_
        refine r_ireturn C rfl ?_ dX5_fault_35
        exact pX_of (by simp [s_fault, *]) rfl
    · refine r_iconst C dX5_fault_22 ?_
      refine r_ireturn C rfl ?_ dX5_fault_23
      exact pX_of (by simp [s_fault, *]) rfl
set_option maxRecDepth 100000 in
theorem c_X5_share (l : Launch) (G : pw_G) (σ : pw_H) {p q y h : Int} (hI : Inv (vX σ)) (q_p : InI p) (q_q : InI q) (q_y : InI y) (q_h : InI h) : Ct l shX G mX5_share [.ref (G.2.1 0), vI p, vI q, vI y, vI h] σ (pX (s_share (vX σ) p q y h)) := by
  have h0 : 0 ≤ σ 1 4 ∧ σ 1 4 ≤ 8 := hI.1
  have h5 : 0 ≤ σ 1 5 ∧ σ 1 5 ≤ 6 := hI.2.1
  have h1 : 0 ≤ σ 2 1 ∧ σ 2 1 ≤ 6 := hI.2.2.1
  refine Ct_of (ls := [some (.ref (G.2.1 0)), some (vI p), some (vI q), some (vI y), some (vI h)]) (by decide +kernel) (Nat.le_of_ble_eq_true rfl) rfl (fun X C => ?_)
  refine r_aload_n C rfl dX5_share_0 ?_
  refine r_getR C 4 1 rfl rfl (by decide) rfl uw_X5 fl_X5_19 dX5_share_1 ?_
  refine r_iload_n C rfl dX5_share_4 ?_
  refine r_callV (As := [_]) C (c_X2_has _ _ _ (by omega) hI) ok_X2_has ln_X5_98 rfl rfl rfl rfl (Nat.le_of_ble_eq_true rfl) (Nat.le_of_ble_eq_true rfl) (Nat.le_of_ble_eq_true rfl) dX5_share_5 (fun v5 τ5 hq5 => ?_)
  obtain ⟨rfl, rfl⟩ := hq5
  refine r_ifB_eq (tgt := 22) C (by decide) dX5_share_8 (fun c8 => ?_) (fun c8 => ?_)
  · refine r_iconst C dX5_share_22 ?_
    refine r_ireturn C rfl ?_ dX5_share_23
    exact pX_of (by simp [s_share, *]) rfl
  · have h8 : 0 ≤ p ∧ p ≤ σ 2 1 - 1 := bList_t c8
    obtain ⟨u, rfl⟩ := Int.eq_ofNat_of_zero_le h8.1
    refine r_aload_n C rfl dX5_share_11 ?_
    refine r_getR C 4 1 rfl rfl (by decide) rfl uw_X5 fl_X5_19 dX5_share_12 ?_
    refine r_iload_n C rfl dX5_share_15 ?_
    refine r_callV (As := [_]) C (c_X2_has _ _ _ (by omega) hI) ok_X2_has ln_X5_98 rfl rfl rfl rfl (Nat.le_of_ble_eq_true rfl) (Nat.le_of_ble_eq_true rfl) (Nat.le_of_ble_eq_true rfl) dX5_share_16 (fun v16 τ16 hq16 => ?_)
    obtain ⟨rfl, rfl⟩ := hq16
    refine r_ifB_ne (tgt := 24) C (by decide) dX5_share_19 (fun c19 => ?_) (fun c19 => ?_)
    · have h9 : 0 ≤ q ∧ q ≤ σ 2 1 - 1 := bList_t c19
      obtain ⟨w, rfl⟩ := Int.eq_ofNat_of_zero_le h9.1
      refine r_iload_n C rfl dX5_share_24 ?_
      refine r_iload C rfl dX5_share_25 ?_
      refine r_callS (As := [_, _]) C (c_X5_isMoment _ _ _ (by omega) (by omega)) ok_X5_isMoment ln_X5_118 rfl rfl (Nat.le_of_ble_eq_true rfl) (Nat.le_of_ble_eq_true rfl) (Nat.le_of_ble_eq_true rfl) dX5_share_27 (fun v27 τ27 hq27 => ?_)
      obtain ⟨rfl, rfl⟩ := hq27
      refine r_ifB_ne (tgt := 36) C (by decide) dX5_share_30 (fun c30 => ?_) (fun c30 => ?_)
      · have h11 := bMom_t c30
        refine r_aload_n C rfl dX5_share_36 ?_
        refine r_getR C 4 3 rfl rfl (by decide) rfl uw_X5 fl_X5_37 dX5_share_37 ?_
        refine r_iload_n C rfl dX5_share_40 ?_
        refine r_iload_n C rfl dX5_share_41 ?_
        refine r_iload C rfl dX5_share_42 ?_
        refine r_callV (As := [_, _, _]) C (c_X0_note _ _ _ hI (by omega) h11.1 h11.2) ok_X0_note ln_X5_162 rfl rfl rfl rfl (Nat.le_of_ble_eq_true rfl) (Nat.le_of_ble_eq_true rfl) (Nat.le_of_ble_eq_true rfl) dX5_share_44 (fun v44 τ44 hq44 => ?_)
        obtain ⟨rfl, hF, e3, -⟩ := hq44
        have e2 : vX τ44 = vX σ := Fr_vX hF (by decide)
        refine r_aload_n C rfl dX5_share_47 ?_
        refine r_getR C 4 3 rfl rfl (by decide) rfl uw_X5 fl_X5_37 dX5_share_48 ?_
        refine r_iload_n C rfl dX5_share_51 ?_
        refine r_iload_n C rfl dX5_share_52 ?_
        refine r_iload C rfl dX5_share_53 ?_
        refine r_callV (As := [_, _, _]) C (c_X0_note _ _ _ (e2 ▸ hI) (by omega) h11.1 h11.2) ok_X0_note ln_X5_162 rfl rfl rfl rfl (Nat.le_of_ble_eq_true rfl) (Nat.le_of_ble_eq_true rfl) (Nat.le_of_ble_eq_true rfl) dX5_share_55 (fun v55 τ55 hq55 => ?_)
        obtain ⟨rfl, hF2, e4, e5⟩ := hq55
        have e6 : vX τ55 = vX σ := (Fr_vX hF2 (by decide)).trans e2
        rw [e2] at e4
        have e7 : ∀ s : Int, 0 ≤ s → s < 8 → τ55 20 ((u : Int) * 8 + s) = sFault (vX σ) u y h s := fun s s1 s2 => by
          by_cases z : u = w
          · subst z; exact e4 s s1 s2
          · rw [e5 _ (by omega)]; exact e3 s s1 s2
        have e8 : τ55 1 4 = σ 1 4 := (congrFun (hF2 1 (by decide)) 4).trans (congrFun (hF 1 (by decide)) 4)
        refine r_aload_n C rfl dX5_share_58 ?_
        refine r_getR C 4 3 rfl rfl (by decide) rfl uw_X5 fl_X5_37 dX5_share_59 ?_
        refine r_iload_n C rfl dX5_share_62 ?_
        refine r_iload_n C rfl dX5_share_63 ?_
        refine r_callV (As := [_, _]) C (c_X0_inBoth _ _ _ (e6 ▸ hI) (by omega) (by omega) (fun s s1 s2 => by rw [e7 s s1 s2, e4 s s1 s2]; exact ⟨sFs_r _ _ _ _ _ _, sFs_r _ _ _ _ _ _⟩)) ok_X0_inBoth ln_X5_168 rfl rfl rfl rfl (Nat.le_of_ble_eq_true rfl) (Nat.le_of_ble_eq_true rfl) (Nat.le_of_ble_eq_true rfl) dX5_share_64 (fun v64 τ64 hq64 => ?_)
        obtain ⟨rfl, rfl⟩ := hq64
        refine r_ireturn C rfl ?_ dX5_share_67
        refine pX_of (a := vX σ) ?_ e6
        rw [s_share, if_neg (by simp [c8, c19]), if_neg (by simp [c30])]
        refine congrArg (fun z => (z, vX σ)) ?_
        rw [e8]
        unfold sShare
        refine sSum_cong (fun s s1 => ?_)
        have s2 : s < (σ 1 4).toNat := s1
        rw [e7 s (by omega) (by omega), e4 s (by omega) (by omega)]
      · refine r_bipush C (by decide +kernel) dX5_share_33 ?_
        refine r_ireturn C rfl ?_ dX5_share_35
        exact pX_of (by simp [s_share, *]) rfl
    · refine r_iconst C dX5_share_22 ?_
      refine r_ireturn C rfl ?_ dX5_share_23
      exact pX_of (by simp [s_share, *]) rfl
set_option maxRecDepth 100000 in
theorem c_X5_apart (l : Launch) (G : pw_G) (σ : pw_H) {p q y h : Int} (hI : Inv (vX σ)) (q_p : InI p) (q_q : InI q) (q_y : InI y) (q_h : InI h) : Ct l shX G mX5_apart [.ref (G.2.1 0), vI p, vI q, vI y, vI h] σ (pX (s_apart (vX σ) p q y h)) := by
  have h0 : 0 ≤ σ 1 4 ∧ σ 1 4 ≤ 8 := hI.1
  have h5 : 0 ≤ σ 1 5 ∧ σ 1 5 ≤ 6 := hI.2.1
  have h1 : 0 ≤ σ 2 1 ∧ σ 2 1 ≤ 6 := hI.2.2.1
  refine Ct_of (ls := [some (.ref (G.2.1 0)), some (vI p), some (vI q), some (vI y), some (vI h)]) (by decide +kernel) (Nat.le_of_ble_eq_true rfl) rfl (fun X C => ?_)
  refine r_aload_n C rfl dX5_apart_0 ?_
  refine r_getR C 4 1 rfl rfl (by decide) rfl uw_X5 fl_X5_19 dX5_apart_1 ?_
  refine r_iload_n C rfl dX5_apart_4 ?_
  refine r_callV (As := [_]) C (c_X2_has _ _ _ (by omega) hI) ok_X2_has ln_X5_98 rfl rfl rfl rfl (Nat.le_of_ble_eq_true rfl) (Nat.le_of_ble_eq_true rfl) (Nat.le_of_ble_eq_true rfl) dX5_apart_5 (fun v5 τ5 hq5 => ?_)
  obtain ⟨rfl, rfl⟩ := hq5
  refine r_ifB_eq (tgt := 22) C (by decide) dX5_apart_8 (fun c8 => ?_) (fun c8 => ?_)
  · refine r_iconst C dX5_apart_22 ?_
    refine r_ireturn C rfl ?_ dX5_apart_23
    exact pX_of (by simp [s_apart, *]) rfl
  · have h8 : 0 ≤ p ∧ p ≤ σ 2 1 - 1 := bList_t c8
    obtain ⟨u, rfl⟩ := Int.eq_ofNat_of_zero_le h8.1
    refine r_aload_n C rfl dX5_apart_11 ?_
    refine r_getR C 4 1 rfl rfl (by decide) rfl uw_X5 fl_X5_19 dX5_apart_12 ?_
    refine r_iload_n C rfl dX5_apart_15 ?_
    refine r_callV (As := [_]) C (c_X2_has _ _ _ (by omega) hI) ok_X2_has ln_X5_98 rfl rfl rfl rfl (Nat.le_of_ble_eq_true rfl) (Nat.le_of_ble_eq_true rfl) (Nat.le_of_ble_eq_true rfl) dX5_apart_16 (fun v16 τ16 hq16 => ?_)
    obtain ⟨rfl, rfl⟩ := hq16
    refine r_ifB_ne (tgt := 24) C (by decide) dX5_apart_19 (fun c19 => ?_) (fun c19 => ?_)
    · have h9 : 0 ≤ q ∧ q ≤ σ 2 1 - 1 := bList_t c19
      obtain ⟨w, rfl⟩ := Int.eq_ofNat_of_zero_le h9.1
      refine r_iload_n C rfl dX5_apart_24 ?_
      refine r_iload C rfl dX5_apart_25 ?_
      refine r_callS (As := [_, _]) C (c_X5_isMoment _ _ _ (by omega) (by omega)) ok_X5_isMoment ln_X5_118 rfl rfl (Nat.le_of_ble_eq_true rfl) (Nat.le_of_ble_eq_true rfl) (Nat.le_of_ble_eq_true rfl) dX5_apart_27 (fun v27 τ27 hq27 => ?_)
      obtain ⟨rfl, rfl⟩ := hq27
      refine r_ifB_ne (tgt := 36) C (by decide) dX5_apart_30 (fun c30 => ?_) (fun c30 => ?_)
      · have h11 := bMom_t c30
        refine r_aload_n C rfl dX5_apart_36 ?_
        refine r_getR C 4 3 rfl rfl (by decide) rfl uw_X5 fl_X5_37 dX5_apart_37 ?_
        refine r_iload_n C rfl dX5_apart_40 ?_
        refine r_iload_n C rfl dX5_apart_41 ?_
        refine r_iload C rfl dX5_apart_42 ?_
        refine r_callV (As := [_, _, _]) C (c_X0_note _ _ _ hI (by omega) h11.1 h11.2) ok_X0_note ln_X5_162 rfl rfl rfl rfl (Nat.le_of_ble_eq_true rfl) (Nat.le_of_ble_eq_true rfl) (Nat.le_of_ble_eq_true rfl) dX5_apart_44 (fun v44 τ44 hq44 => ?_)
        obtain ⟨rfl, hF, e3, -⟩ := hq44
        have e2 : vX τ44 = vX σ := Fr_vX hF (by decide)
        refine r_aload_n C rfl dX5_apart_47 ?_
        refine r_getR C 4 3 rfl rfl (by decide) rfl uw_X5 fl_X5_37 dX5_apart_48 ?_
        refine r_iload_n C rfl dX5_apart_51 ?_
        refine r_iload_n C rfl dX5_apart_52 ?_
        refine r_iload C rfl dX5_apart_53 ?_
        refine r_callV (As := [_, _, _]) C (c_X0_note _ _ _ (e2 ▸ hI) (by omega) h11.1 h11.2) ok_X0_note ln_X5_162 rfl rfl rfl rfl (Nat.le_of_ble_eq_true rfl) (Nat.le_of_ble_eq_true rfl) (Nat.le_of_ble_eq_true rfl) dX5_apart_55 (fun v55 τ55 hq55 => ?_)
        obtain ⟨rfl, hF2, e4, e5⟩ := hq55
        have e6 : vX τ55 = vX σ := (Fr_vX hF2 (by decide)).trans e2
        rw [e2] at e4
        have e7 : ∀ s : Int, 0 ≤ s → s < 8 → τ55 20 ((u : Int) * 8 + s) = sFault (vX σ) u y h s := fun s s1 s2 => by
          by_cases z : u = w
          · subst z; exact e4 s s1 s2
          · rw [e5 _ (by omega)]; exact e3 s s1 s2
        have e8 : τ55 1 4 = σ 1 4 := (congrFun (hF2 1 (by decide)) 4).trans (congrFun (hF 1 (by decide)) 4)
        refine r_aload_n C rfl dX5_apart_58 ?_
        refine r_getR C 4 3 rfl rfl (by decide) rfl uw_X5 fl_X5_37 dX5_apart_59 ?_
        refine r_iload_n C rfl dX5_apart_62 ?_
        refine r_iload_n C rfl dX5_apart_63 ?_
        refine r_callV (As := [_, _]) C (c_X0_unlike _ _ _ (e6 ▸ hI) (by omega) (by omega) (fun s s1 s2 => by rw [e7 s s1 s2, e4 s s1 s2]; exact ⟨sFs_r _ _ _ _ _ _, sFs_r _ _ _ _ _ _⟩)) ok_X0_unlike ln_X5_171 rfl rfl rfl rfl (Nat.le_of_ble_eq_true rfl) (Nat.le_of_ble_eq_true rfl) (Nat.le_of_ble_eq_true rfl) dX5_apart_64 (fun v64 τ64 hq64 => ?_)
        obtain ⟨rfl, rfl⟩ := hq64
        refine r_ireturn C rfl ?_ dX5_apart_67
        refine pX_of (a := vX σ) ?_ e6
        rw [s_apart, if_neg (by simp [c8, c19]), if_neg (by simp [c30])]
        refine congrArg (fun z => (z, vX σ)) ?_
        rw [e8]
        unfold sApart
        refine sSum_cong (fun s s1 => ?_)
        have s2 : s < (σ 1 4).toNat := s1
        rw [e7 s (by omega) (by omega), e4 s (by omega) (by omega)]
      · refine r_bipush C (by decide +kernel) dX5_apart_33 ?_
        refine r_ireturn C rfl ?_ dX5_apart_35
        exact pX_of (by simp [s_apart, *]) rfl
    · refine r_iconst C dX5_apart_22 ?_
      refine r_ireturn C rfl ?_ dX5_apart_23
      exact pX_of (by simp [s_apart, *]) rfl
