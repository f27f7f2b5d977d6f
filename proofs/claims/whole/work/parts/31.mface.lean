/-- found slip and cost, as a rank -/
def Rk (r s c : Int) : Prop := (r = 1048576 ∧ s = -9 ∧ c = 100000) ∨ (0 ≤ r ∧ r ≤ 443 ∧ s = r % 4 ∧ c = r / 4)
/-- what the reference leaves: its cells ks, and what it found -/
def Fm (ks : List Nat) (σ τ : pw_H) : Prop := (∀ k, k ≠ 0 → k ∉ ks → τ k = σ k) ∧ ∀ j, j ≠ 10 → j ≠ 11 → τ 0 j = σ 0 j
theorem Fm.rf {ks : List Nat} {σ : pw_H} : Fm ks σ σ := ⟨fun _ _ _ => rfl, fun _ _ _ => rfl⟩
theorem Fm.tr {k1 k2 ks : List Nat} {σ τ υ : pw_H} (h1 : Fm k1 σ τ) (h2 : Fm k2 τ υ) (s1 : ∀ k ∈ k1, k ∈ ks) (s2 : ∀ k ∈ k2, k ∈ ks) : Fm ks σ υ := ⟨fun k h0 hk => (h2.1 k h0 (fun q => hk (s2 k q))).trans (h1.1 k h0 (fun q => hk (s1 k q))), fun j a b => (h2.2 j a b).trans (h1.2 j a b)⟩
theorem Fm.u {ks : List Nat} {σ : pw_H} {k : Nat} {j v : Int} (h : k ∈ ks) (h0 : k ≠ 0) : Fm ks σ (pw_u σ k j v) := ⟨fun k' _ hk => by
  funext t
  exact pw_u_k (fun q => hk (q ▸ h)), fun j a b => pw_u_k (fun q => h0 q.symm)⟩
theorem Fm.f {ks : List Nat} {σ : pw_H} {j v : Int} (h : j = 10 ∨ j = 11) : Fm ks σ (pw_u σ 0 j v) := ⟨fun k' h0 _ => by
  funext t
  exact pw_u_k h0, fun j' a b => pw_u_j (by omega)⟩
theorem Fm.vM {ks : List Nat} {σ τ : pw_H} (h : Fm ks σ τ) (hk : ∀ k ∈ [1, 2, 3, 4, 5, 6, 7], k ∉ ks) : vM τ = vM σ :=
  Fr_vM (ks := 0 :: ks) (fun k q => h.1 k (fun z => q (z ▸ List.mem_cons_self)) (fun z => q (List.mem_cons_of_mem _ z))) (fun k q z => by
    rcases List.mem_cons.mp z with z | z
    · subst z; exact absurd q (by decide)
    · exact hk k q z) ⟨h.2 0 (by decide) (by decide), h.2 5 (by decide) (by decide), h.2 6 (by decide) (by decide)⟩
theorem Rk_stay {r s x y m f c : Int} (hs : 0 ≤ s ∧ s ≤ 3) (hx : 0 ≤ x) (hy : 0 ≤ y) (hm : 0 ≤ m ∧ m ≤ 50) (hr : Rk r f c) (h : 30 < x ∨ 30 < y ∨ ¬ (x + y + m < c ∨ x + y + m = c ∧ s < f)) : Rk (sLess r s x y m) f c := by
  have e : sLess r s x y m = r := by
    unfold sLess
    by_cases q : 30 < x ∨ 30 < y
    · rw [if_pos q]
    · rw [if_neg q, if_neg]
      rcases hr with ⟨h1, h2, h3⟩ | ⟨h1, h2, h3, h4⟩ <;> omega
  rw [e]; exact hr
theorem Rk_new {r s x y m f c : Int} (hs : 0 ≤ s ∧ s ≤ 3) (hx : 0 ≤ x) (hy : 0 ≤ y) (hm : 0 ≤ m ∧ m ≤ 50) (hr : Rk r f c) (h1 : ¬ 30 < x) (h2 : ¬ 30 < y) (h : x + y + m < c ∨ x + y + m = c ∧ s < f) : Rk (sLess r s x y m) s (x + y + m) := by
  have e : sLess r s x y m = 4 * (x + y + m) + s := by
    unfold sLess
    rw [if_neg (by omega), if_pos]
    rcases hr with ⟨h1, h2, h3⟩ | ⟨h1, h2, h3, h4⟩ <;> omega
  rw [e]
  exact Or.inr (by omega)
set_option maxRecDepth 100000 in
theorem c_X6_tries (l : Launch) (G : pw_G) (σ : pw_H) {r s d e m : Int} (hs : 0 ≤ s ∧ s ≤ 3) (hd : -100000 ≤ d ∧ d ≤ 100000) (he : -100000 ≤ e ∧ e ≤ 100000) (hm : 0 ≤ m ∧ m ≤ 50) (hr : Rk r (σ 0 10) (σ 0 11)) : Ct l shM G mX6_tries [.ref (G.2.1 0), vI s, vI d, vI e, vI m] σ (fun q τ => q = none ∧ Fm [] σ τ ∧ Rk (sLess r s (zabs d) (zabs e) m) (τ 0 10) (τ 0 11)) := by
  have a1 := n_absb hd.1 hd.2
  have a2 := n_absb he.1 he.2
  have hr2 : (-9 ≤ σ 0 10 ∧ σ 0 10 ≤ 3) ∧ 0 ≤ σ 0 11 ∧ σ 0 11 ≤ 100000 := by rcases hr with h | h <;> omega
  refine Ct_of (ls := [some (.ref (G.2.1 0)), some (vI s), some (vI d), some (vI e), some (vI m), none]) (by decide +kernel) (Nat.le_of_ble_eq_true rfl) rfl (fun X C => ?_)
  refine r_iload_n C rfl dX6_tries_0 ?_
  refine r_callS (As := [_]) C (c_X6_size _ _ _ (by omega)) ok_X6_size ln_X6_103 rfl rfl (Nat.le_of_ble_eq_true rfl) (Nat.le_of_ble_eq_true rfl) (Nat.le_of_ble_eq_true rfl) dX6_tries_1 (fun v1 τ1 hq1 => ?_)
  obtain ⟨rfl, rfl⟩ := hq1
  refine r_iload_n C rfl dX6_tries_4 ?_
  refine r_callS (As := [_]) C (c_X6_size _ _ _ (by omega)) ok_X6_size ln_X6_103 rfl rfl (Nat.le_of_ble_eq_true rfl) (Nat.le_of_ble_eq_true rfl) (Nat.le_of_ble_eq_true rfl) dX6_tries_5 (fun v5 τ5 hq5 => ?_)
  obtain ⟨rfl, rfl⟩ := hq5
  refine r_iadd C dX6_tries_8 ?_
  refine r_iload C rfl dX6_tries_9 ?_
  refine r_iadd C dX6_tries_11 ?_
  refine r_istore (ls' := [_, _, _, _, _, _]) C (by decide) rfl rfl dX6_tries_12 ?_
  refine r_iload_n C rfl dX6_tries_14 ?_
  refine r_callS (As := [_]) C (c_X6_size _ _ _ (by omega)) ok_X6_size ln_X6_103 rfl rfl (Nat.le_of_ble_eq_true rfl) (Nat.le_of_ble_eq_true rfl) (Nat.le_of_ble_eq_true rfl) dX6_tries_15 (fun v15 τ15 hq15 => ?_)
  obtain ⟨rfl, rfl⟩ := hq15
  refine r_bipush C (by decide +kernel) dX6_tries_18 ?_
  refine r_icmp_gt (tgt := 69) C (by decide) (by omega) (by omega) dX6_tries_20 (fun c20 => ?_) (fun c20 => ?_)
  · refine r_return C rfl ?_ dX6_tries_69
    first | exact ⟨rfl, Fm.rf, Rk_stay hs a1.1 a2.1 hm hr (by omega)⟩ | exact ⟨rfl, (Fm.f (ks := []) (Or.inl rfl)).tr (ks := []) (Fm.f (ks := []) (Or.inr rfl)) (fun _ q => q) (fun _ q => q), by rw [pw_u_s, pw_u_j (by decide), pw_u_s]; exact Rk_new hs a1.1 a2.1 hm hr (by omega) (by omega) (by omega)⟩
  · refine r_iload_n C rfl dX6_tries_23 ?_
    refine r_callS (As := [_]) C (c_X6_size _ _ _ (by omega)) ok_X6_size ln_X6_103 rfl rfl (Nat.le_of_ble_eq_true rfl) (Nat.le_of_ble_eq_true rfl) (Nat.le_of_ble_eq_true rfl) dX6_tries_24 (fun v24 τ24 hq24 => ?_)
    obtain ⟨rfl, rfl⟩ := hq24
    refine r_bipush C (by decide +kernel) dX6_tries_27 ?_
    refine r_icmp_gt (tgt := 69) C (by decide) (by omega) (by omega) dX6_tries_29 (fun c29 => ?_) (fun c29 => ?_)
    · refine r_return C rfl ?_ dX6_tries_69
      first | exact ⟨rfl, Fm.rf, Rk_stay hs a1.1 a2.1 hm hr (by omega)⟩ | exact ⟨rfl, (Fm.f (ks := []) (Or.inl rfl)).tr (ks := []) (Fm.f (ks := []) (Or.inr rfl)) (fun _ q => q) (fun _ q => q), by rw [pw_u_s, pw_u_j (by decide), pw_u_s]; exact Rk_new hs a1.1 a2.1 hm hr (by omega) (by omega) (by omega)⟩
    · refine r_iload C rfl dX6_tries_32 ?_
      refine r_aload_n C rfl dX6_tries_34 ?_
      refine r_getI (jz := 11) C 5 11 rfl rfl (by decide) rfl uw_X6 fl_X6_106 rfl dX6_tries_35 ?_
      refine r_icmp_lt (tgt := 58) C (by decide) (by omega) (by omega) dX6_tries_38 (fun c38 => ?_) (fun c38 => ?_)
      · refine r_aload_n C rfl dX6_tries_58 ?_
        refine r_iload_n C rfl dX6_tries_59 ?_
        refine r_putI (jz := 10) C 5 10 tyX6 tyX6_ok nmX6 rfl rfl (by decide) rfl uw_X6 fl_X6_109 rfl rfl rfl dX6_tries_60 ?_
        refine r_aload_n C rfl dX6_tries_63 ?_
        refine r_iload C rfl dX6_tries_64 ?_
        refine r_putI (jz := 11) C 5 11 tyX6 tyX6_ok nmX6 rfl rfl (by decide) rfl uw_X6 fl_X6_106 rfl rfl rfl dX6_tries_66 ?_
        refine r_return C rfl ?_ dX6_tries_69
        first | exact ⟨rfl, Fm.rf, Rk_stay hs a1.1 a2.1 hm hr (by omega)⟩ | exact ⟨rfl, (Fm.f (ks := []) (Or.inl rfl)).tr (ks := []) (Fm.f (ks := []) (Or.inr rfl)) (fun _ q => q) (fun _ q => q), by rw [pw_u_s, pw_u_j (by decide), pw_u_s]; exact Rk_new hs a1.1 a2.1 hm hr (by omega) (by omega) (by omega)⟩
      · refine r_iload C rfl dX6_tries_41 ?_
        refine r_aload_n C rfl dX6_tries_43 ?_
        refine r_getI (jz := 11) C 5 11 rfl rfl (by decide) rfl uw_X6 fl_X6_106 rfl dX6_tries_44 ?_
        refine r_icmp_ne (tgt := 69) C (by decide) (by omega) (by omega) dX6_tries_47 (fun c47 => ?_) (fun c47 => ?_)
        · refine r_return C rfl ?_ dX6_tries_69
          first | exact ⟨rfl, Fm.rf, Rk_stay hs a1.1 a2.1 hm hr (by omega)⟩ | exact ⟨rfl, (Fm.f (ks := []) (Or.inl rfl)).tr (ks := []) (Fm.f (ks := []) (Or.inr rfl)) (fun _ q => q) (fun _ q => q), by rw [pw_u_s, pw_u_j (by decide), pw_u_s]; exact Rk_new hs a1.1 a2.1 hm hr (by omega) (by omega) (by omega)⟩
        · refine r_iload_n C rfl dX6_tries_50 ?_
          refine r_aload_n C rfl dX6_tries_51 ?_
          refine r_getI (jz := 10) C 5 10 rfl rfl (by decide) rfl uw_X6 fl_X6_109 rfl dX6_tries_52 ?_
          refine r_icmp_ge (tgt := 69) C (by decide) (by omega) (by omega) dX6_tries_55 (fun c55 => ?_) (fun c55 => ?_)
          · refine r_return C rfl ?_ dX6_tries_69
            first | exact ⟨rfl, Fm.rf, Rk_stay hs a1.1 a2.1 hm hr (by omega)⟩ | exact ⟨rfl, (Fm.f (ks := []) (Or.inl rfl)).tr (ks := []) (Fm.f (ks := []) (Or.inr rfl)) (fun _ q => q) (fun _ q => q), by rw [pw_u_s, pw_u_j (by decide), pw_u_s]; exact Rk_new hs a1.1 a2.1 hm hr (by omega) (by omega) (by omega)⟩
          · refine r_aload_n C rfl dX6_tries_58 ?_
            refine r_iload_n C rfl dX6_tries_59 ?_
            refine r_putI (jz := 10) C 5 10 tyX6 tyX6_ok nmX6 rfl rfl (by decide) rfl uw_X6 fl_X6_109 rfl rfl rfl dX6_tries_60 ?_
            refine r_aload_n C rfl dX6_tries_63 ?_
            refine r_iload C rfl dX6_tries_64 ?_
            refine r_putI (jz := 11) C 5 11 tyX6 tyX6_ok nmX6 rfl rfl (by decide) rfl uw_X6 fl_X6_106 rfl rfl rfl dX6_tries_66 ?_
            refine r_return C rfl ?_ dX6_tries_69
            first | exact ⟨rfl, Fm.rf, Rk_stay hs a1.1 a2.1 hm hr (by omega)⟩ | exact ⟨rfl, (Fm.f (ks := []) (Or.inl rfl)).tr (ks := []) (Fm.f (ks := []) (Or.inr rfl)) (fun _ q => q) (fun _ q => q), by rw [pw_u_s, pw_u_j (by decide), pw_u_s]; exact Rk_new hs a1.1 a2.1 hm hr (by omega) (by omega) (by omega)⟩
theorem n_two {r k d e m z : Int} (hz : 60 < z) : sLess (sLess r k (zabs (d - z)) e m) k (zabs (d + z)) e m = sLess r k (zabs (zabs d - z)) e m := by
  rcases n_abs d with h | h
  · have h1 : 30 < zabs (d + z) := by rcases n_abs (d + z) with q | q <;> omega
    rw [h.2]
    exact if_pos (Or.inl h1)
  · have h1 : 30 < zabs (d - z) := by rcases n_abs (d - z) with q | q <;> omega
    have h2 : zabs (zabs d - z) = zabs (d + z) := by
      rw [h.2]
      rcases n_abs (-d - z) with q | q <;> rcases n_abs (d + z) with q2 | q2 <;> omega
    rw [h2]
    congr 1
    unfold sLess
    rw [if_pos (Or.inl h1)]
theorem n_twoE {r k d e m z : Int} (hz : 60 < z) : sLess (sLess r k d (zabs (e - z)) m) k d (zabs (e + z)) m = sLess r k d (zabs (zabs e - z)) m := by
  rcases n_abs e with h | h
  · have h1 : 30 < zabs (e + z) := by rcases n_abs (e + z) with q | q <;> omega
    rw [h.2]
    exact if_pos (Or.inr h1)
  · have h1 : 30 < zabs (e - z) := by rcases n_abs (e - z) with q | q <;> omega
    have h2 : zabs (zabs e - z) = zabs (e + z) := by
      rw [h.2]
      rcases n_abs (-e - z) with q | q <;> rcases n_abs (e + z) with q2 | q2 <;> omega
    rw [h2]
    congr 1
    unfold sLess
    rw [if_pos (Or.inr h1)]
theorem n_wayr (x t : Int) : sWay (x % 21600) t = sWay x t := by unfold sWay; omega
set_option maxRecDepth 100000 in
set_option maxHeartbeats 4000000 in
theorem c_X6_face (l : Launch) (G : pw_G) (σ : pw_H) {t i s y h : Int} (hI : Inv (vM σ)) (ht : 0 ≤ t ∧ t < 6) (hi : 0 ≤ i ∧ i < 8) (hs : 0 ≤ s ∧ s < 8) (hy : -3000 ≤ y ∧ y ≤ 3000) (hh : -600 ≤ h ∧ h ≤ 600) : Ct l shM G mX6_face [.ref (G.2.1 0), vI t, vI i, vI s, vI y, vI h] σ (fun q τ => q = none ∧ Fm [] σ τ ∧ Rk (sRk (vM σ) t i s y h) (τ 0 10) (τ 0 11)) := by
  have b0 := n_sky (vM σ) s y
  have b1 : 0 ≤ σ 6 (t * 8 + i) ∧ σ 6 (t * 8 + i) ≤ 21599 := hI.2.2.2.2.2.2.2.2.2.1 _
  have b2 : -5400 ≤ σ 7 (t * 8 + i) ∧ σ 7 (t * 8 + i) ≤ 5400 := hI.2.2.2.2.2.2.2.2.2.2 _
  have b3 : -5400 ≤ σ 2 s ∧ σ 2 s ≤ 5400 := hI.2.2.2.2.1 _
  have b4 := n_way (sSky (vM σ) s y + h) (σ 6 (t * 8 + i))
  refine Ct_of (ls := [some (.ref (G.2.1 0)), some (vI t), some (vI i), some (vI s), some (vI y), some (vI h), none, none, none, none]) (by decide +kernel) (Nat.le_of_ble_eq_true rfl) rfl (fun X C => ?_)
  refine r_aload_n C rfl dX6_face_0 ?_
  refine r_iload_n C rfl dX6_face_1 ?_
  refine r_iload C rfl dX6_face_2 ?_
  refine r_callV (As := [_, _]) C (c_X6_skyOf _ _ _ hI (by omega) (by omega)) ok_X6_skyOf ln_X6_93 rfl rfl rfl rfl (Nat.le_of_ble_eq_true rfl) (Nat.le_of_ble_eq_true rfl) (Nat.le_of_ble_eq_true rfl) dX6_face_4 (fun v4 τ4 hq4 => ?_)
  obtain ⟨rfl, rfl⟩ := hq4
  refine r_iload C rfl dX6_face_7 ?_
  refine r_iadd C dX6_face_9 ?_
  refine r_callS (As := [_]) C (c_X6_round _ _ _ (by omega)) ok_X6_round ln_X6_83 rfl rfl (Nat.le_of_ble_eq_true rfl) (Nat.le_of_ble_eq_true rfl) (Nat.le_of_ble_eq_true rfl) dX6_face_10 (fun v10 τ10 hq10 => ?_)
  obtain ⟨rfl, rfl⟩ := hq10
  refine r_istore (ls' := [_, _, _, _, _, _, _, _, _, _]) C (by decide) rfl rfl dX6_face_13 ?_
  refine r_iload C rfl dX6_face_15 ?_
  refine r_aload_n C rfl dX6_face_17 ?_
  refine r_getR C 5 8 rfl rfl (by decide) rfl uw_X6 fl_X6_29 dX6_face_18 ?_
  refine r_bipush C (by decide +kernel) dX6_face_21 ?_
  refine r_iload_n C rfl dX6_face_23 ?_
  refine r_imul C dX6_face_24 ?_
  rw [Int.mul_comm (8 : Int)]
  refine r_iload_n C rfl dX6_face_25 ?_
  refine r_iadd C dX6_face_26 ?_
  refine r_iaload C rfl (by decide) (by omega) dX6_face_27 ?_
  refine r_callS (As := [_, _]) C (c_X6_wayOf _ _ _ (by omega) (by omega)) ok_X6_wayOf ln_X6_96 rfl rfl (Nat.le_of_ble_eq_true rfl) (Nat.le_of_ble_eq_true rfl) (Nat.le_of_ble_eq_true rfl) dX6_face_28 (fun v28 τ28 hq28 => ?_)
  obtain ⟨rfl, rfl⟩ := hq28
  rw [n_wayr]
  refine r_istore (ls' := [_, _, _, _, _, _, _, _, _, _]) C (by decide) rfl rfl dX6_face_31 ?_
  refine r_aload_n C rfl dX6_face_33 ?_
  refine r_getR C 5 9 rfl rfl (by decide) rfl uw_X6 fl_X6_32 dX6_face_34 ?_
  refine r_bipush C (by decide +kernel) dX6_face_37 ?_
  refine r_iload_n C rfl dX6_face_39 ?_
  refine r_imul C dX6_face_40 ?_
  rw [Int.mul_comm (8 : Int)]
  refine r_iload_n C rfl dX6_face_41 ?_
  refine r_iadd C dX6_face_42 ?_
  refine r_iaload C rfl (by decide) (by omega) dX6_face_43 ?_
  refine r_istore (ls' := [_, _, _, _, _, _, _, _, _, _]) C (by decide) rfl rfl dX6_face_44 ?_
  refine r_iload C rfl dX6_face_46 ?_
  refine r_aload_n C rfl dX6_face_48 ?_
  refine r_getR C 5 2 rfl rfl (by decide) rfl uw_X6 fl_X6_13 dX6_face_49 ?_
  refine r_iload_n C rfl dX6_face_52 ?_
  refine r_iaload C rfl (by decide) (by omega) dX6_face_53 ?_
  refine r_isub C dX6_face_54 ?_
  refine r_istore (ls' := [_, _, _, _, _, _, _, _, _, _]) C (by decide) rfl rfl dX6_face_55 ?_
  refine r_aload_n C rfl dX6_face_57 ?_
  refine r_bipush C (by decide +kernel) dX6_face_58 ?_
  refine r_putI (jz := 10) C 5 10 tyX6 tyX6_ok nmX6 rfl rfl (by decide) rfl uw_X6 fl_X6_109 rfl rfl rfl dX6_face_60 ?_
  refine r_aload_n C rfl dX6_face_63 ?_
  refine r_ldc C (z := 100000) cn_X6_112 (by decide +kernel) dX6_face_64 ?_
  refine r_putI (jz := 11) C 5 11 tyX6 tyX6_ok nmX6 rfl rfl (by decide) rfl uw_X6 fl_X6_106 rfl rfl rfl dX6_face_66 ?_
  refine r_aload_n C rfl dX6_face_69 ?_
  refine r_iconst C dX6_face_70 ?_
  refine r_iload C rfl dX6_face_71 ?_
  refine r_iload C rfl dX6_face_73 ?_
  refine r_iconst C dX6_face_75 ?_
  refine r_callV (As := [_, _, _, _]) C (c_X6_tries (r := 1048576) _ _ _ (by omega) (by omega) (by omega) (by omega) (Or.inl ⟨rfl, by rw [pw_u_j (by decide), pw_u_s], by rw [pw_u_s]⟩)) ok_X6_tries ln_X6_113 rfl rfl rfl rfl (Nat.le_of_ble_eq_true rfl) (Nat.le_of_ble_eq_true rfl) (Nat.le_of_ble_eq_true rfl) dX6_face_76 (fun v76 τ76 hq76 => ?_)
  obtain ⟨rfl, hF1, hR1⟩ := hq76
  refine r_aload_n C rfl dX6_face_79 ?_
  refine r_iconst C dX6_face_80 ?_
  refine r_iload C rfl dX6_face_81 ?_
  refine r_iload C rfl dX6_face_83 ?_
  refine r_aload_n C rfl dX6_face_85 ?_
  refine r_getR C 5 2 rfl rfl (by decide) rfl uw_X6 fl_X6_13 dX6_face_86 ?_
  have w2 : τ76 2 s = σ 2 s := (congrFun (hF1.1 2 (by decide) (by decide)) s).trans (by rw [pw_u_k (by decide), pw_u_k (by decide)])
  refine r_iload_n C rfl dX6_face_89 ?_
  refine r_iaload C rfl (by decide) (by omega) dX6_face_90 ?_
  try simp (disch := decide) only [pw_u_k, pw_u_j, pw_u_s]
  rw [w2]
  refine r_iadd C dX6_face_91 ?_
  refine r_bipush C (by decide +kernel) dX6_face_92 ?_
  refine r_callV (As := [_, _, _, _]) C (c_X6_tries _ _ _ (by omega) (by omega) (by omega) (by omega) hR1) ok_X6_tries ln_X6_113 rfl rfl rfl rfl (Nat.le_of_ble_eq_true rfl) (Nat.le_of_ble_eq_true rfl) (Nat.le_of_ble_eq_true rfl) dX6_face_94 (fun v94 τ94 hq94 => ?_)
  obtain ⟨rfl, hF2, hR2⟩ := hq94
  refine r_aload_n C rfl dX6_face_97 ?_
  refine r_iconst C dX6_face_98 ?_
  refine r_iload C rfl dX6_face_99 ?_
  refine r_sipush C (by decide +kernel) dX6_face_101 ?_
  refine r_isub C dX6_face_104 ?_
  refine r_iload C rfl dX6_face_105 ?_
  refine r_bipush C (by decide +kernel) dX6_face_107 ?_
  refine r_callV (As := [_, _, _, _]) C (c_X6_tries _ _ _ (by omega) (by omega) (by omega) (by omega) hR2) ok_X6_tries ln_X6_113 rfl rfl rfl rfl (Nat.le_of_ble_eq_true rfl) (Nat.le_of_ble_eq_true rfl) (Nat.le_of_ble_eq_true rfl) dX6_face_109 (fun v109 τ109 hq109 => ?_)
  obtain ⟨rfl, hF3, hR3⟩ := hq109
  refine r_aload_n C rfl dX6_face_112 ?_
  refine r_iconst C dX6_face_113 ?_
  refine r_iload C rfl dX6_face_114 ?_
  refine r_sipush C (by decide +kernel) dX6_face_116 ?_
  refine r_iadd C dX6_face_119 ?_
  refine r_iload C rfl dX6_face_120 ?_
  refine r_bipush C (by decide +kernel) dX6_face_122 ?_
  refine r_callV (As := [_, _, _, _]) C (c_X6_tries _ _ _ (by omega) (by omega) (by omega) (by omega) hR3) ok_X6_tries ln_X6_113 rfl rfl rfl rfl (Nat.le_of_ble_eq_true rfl) (Nat.le_of_ble_eq_true rfl) (Nat.le_of_ble_eq_true rfl) dX6_face_124 (fun v124 τ124 hq124 => ?_)
  obtain ⟨rfl, hF4, hR4⟩ := hq124
  refine r_aload_n C rfl dX6_face_127 ?_
  refine r_iconst C dX6_face_128 ?_
  refine r_iload C rfl dX6_face_129 ?_
  refine r_sipush C (by decide +kernel) dX6_face_131 ?_
  refine r_isub C dX6_face_134 ?_
  refine r_iload C rfl dX6_face_135 ?_
  refine r_bipush C (by decide +kernel) dX6_face_137 ?_
  refine r_callV (As := [_, _, _, _]) C (c_X6_tries _ _ _ (by omega) (by omega) (by omega) (by omega) hR4) ok_X6_tries ln_X6_113 rfl rfl rfl rfl (Nat.le_of_ble_eq_true rfl) (Nat.le_of_ble_eq_true rfl) (Nat.le_of_ble_eq_true rfl) dX6_face_139 (fun v139 τ139 hq139 => ?_)
  obtain ⟨rfl, hF5, hR5⟩ := hq139
  refine r_aload_n C rfl dX6_face_142 ?_
  refine r_iconst C dX6_face_143 ?_
  refine r_iload C rfl dX6_face_144 ?_
  refine r_sipush C (by decide +kernel) dX6_face_146 ?_
  refine r_iadd C dX6_face_149 ?_
  refine r_iload C rfl dX6_face_150 ?_
  refine r_bipush C (by decide +kernel) dX6_face_152 ?_
  refine r_callV (As := [_, _, _, _]) C (c_X6_tries _ _ _ (by omega) (by omega) (by omega) (by omega) hR5) ok_X6_tries ln_X6_113 rfl rfl rfl rfl (Nat.le_of_ble_eq_true rfl) (Nat.le_of_ble_eq_true rfl) (Nat.le_of_ble_eq_true rfl) dX6_face_154 (fun v154 τ154 hq154 => ?_)
  obtain ⟨rfl, hF6, hR6⟩ := hq154
  refine r_aload_n C rfl dX6_face_157 ?_
  refine r_iconst C dX6_face_158 ?_
  refine r_iload C rfl dX6_face_159 ?_
  refine r_iload C rfl dX6_face_161 ?_
  refine r_sipush C (by decide +kernel) dX6_face_163 ?_
  refine r_isub C dX6_face_166 ?_
  refine r_bipush C (by decide +kernel) dX6_face_167 ?_
  refine r_callV (As := [_, _, _, _]) C (c_X6_tries _ _ _ (by omega) (by omega) (by omega) (by omega) hR6) ok_X6_tries ln_X6_113 rfl rfl rfl rfl (Nat.le_of_ble_eq_true rfl) (Nat.le_of_ble_eq_true rfl) (Nat.le_of_ble_eq_true rfl) dX6_face_169 (fun v169 τ169 hq169 => ?_)
  obtain ⟨rfl, hF7, hR7⟩ := hq169
  refine r_aload_n C rfl dX6_face_172 ?_
  refine r_iconst C dX6_face_173 ?_
  refine r_iload C rfl dX6_face_174 ?_
  refine r_iload C rfl dX6_face_176 ?_
  refine r_sipush C (by decide +kernel) dX6_face_178 ?_
  refine r_iadd C dX6_face_181 ?_
  refine r_bipush C (by decide +kernel) dX6_face_182 ?_
  refine r_callV (As := [_, _, _, _]) C (c_X6_tries _ _ _ (by omega) (by omega) (by omega) (by omega) hR7) ok_X6_tries ln_X6_113 rfl rfl rfl rfl (Nat.le_of_ble_eq_true rfl) (Nat.le_of_ble_eq_true rfl) (Nat.le_of_ble_eq_true rfl) dX6_face_184 (fun v184 τ184 hq184 => ?_)
  obtain ⟨rfl, hF8, hR8⟩ := hq184
  refine r_return C rfl ?_ dX6_face_187
  refine ⟨rfl, ?_, ?_⟩
  · exact ((((((((((Fm.f (ks := []) (Or.inl rfl)).tr (ks := []) (Fm.f (ks := []) (Or.inr rfl)) (fun _ q => q) (fun _ q => q)).tr (ks := []) hF1 (fun _ q => q) (fun _ q => q)).tr (ks := []) hF2 (fun _ q => q) (fun _ q => q)).tr (ks := []) hF3 (fun _ q => q) (fun _ q => q)).tr (ks := []) hF4 (fun _ q => q) (fun _ q => q)).tr (ks := []) hF5 (fun _ q => q) (fun _ q => q)).tr (ks := []) hF6 (fun _ q => q) (fun _ q => q)).tr (ks := []) hF7 (fun _ q => q) (fun _ q => q)).tr (ks := []) hF8 (fun _ q => q) (fun _ q => q))
  · rw [n_two (by decide), n_two (by decide), n_twoE (by decide)] at hR8
    exact hR8
set_option maxRecDepth 100000 in
theorem c_X6_slip (l : Launch) (G : pw_G) (σ : pw_H) {t i s y h : Int} (hI : Inv (vM σ)) (q_t : InI t) (q_i : InI i) (q_s : InI s) (q_y : InI y) (q_h : InI h) : Ct l shM G mX6_slip [.ref (G.2.1 0), vI t, vI i, vI s, vI y, vI h] σ (pM (s_slip (vM σ) t i s y h)) := by
  have h0 : 0 ≤ σ 0 0 ∧ σ 0 0 ≤ 8 := hI.1
  have h5 : 0 ≤ σ 0 5 ∧ σ 0 5 ≤ 6 := hI.2.1
  have h1 : 0 ≤ σ 0 6 ∧ σ 0 6 ≤ 6 := hI.2.2.1
  refine Ct_of (ls := [some (.ref (G.2.1 0)), some (vI t), some (vI i), some (vI s), some (vI y), some (vI h)]) (by decide +kernel) (Nat.le_of_ble_eq_true rfl) rfl (fun X C => ?_)
  refine r_aload_n C rfl dX6_slip_0 ?_
  refine r_iload_n C rfl dX6_slip_1 ?_
  refine r_iload_n C rfl dX6_slip_2 ?_
  refine r_callV (As := [_, _]) C (c_X6_isLine _ _ _ (by omega) (by omega) hI) ok_X6_isLine ln_X6_99 rfl rfl rfl rfl (Nat.le_of_ble_eq_true rfl) (Nat.le_of_ble_eq_true rfl) (Nat.le_of_ble_eq_true rfl) dX6_slip_3 (fun v3 τ3 hq3 => ?_)
  obtain ⟨rfl, rfl⟩ := hq3
  refine r_ifB_eq (tgt := 17) C (by decide) dX6_slip_6 (fun c6 => ?_) (fun c6 => ?_)
  · refine r_iconst C dX6_slip_17 ?_
    refine r_ireturn C rfl ?_ dX6_slip_18
    exact pM_of (by simp [s_slip, *]) rfl
  · have h8 : (0 ≤ t ∧ t ≤ σ 0 6 - 1) ∧ 0 ≤ i ∧ i ≤ σ 5 t - 1 := bLine_t c6
    have h9 : 0 ≤ σ 5 t ∧ σ 5 t ≤ 8 := hI.2.2.2.2.2.2.2.1 t
    refine r_aload_n C rfl dX6_slip_9 ?_
    refine r_iload_n C rfl dX6_slip_10 ?_
    refine r_callV (As := [_]) C (c_X6_isStar _ _ _ (by omega) hI) ok_X6_isStar ln_X6_87 rfl rfl rfl rfl (Nat.le_of_ble_eq_true rfl) (Nat.le_of_ble_eq_true rfl) (Nat.le_of_ble_eq_true rfl) dX6_slip_11 (fun v11 τ11 hq11 => ?_)
    obtain ⟨rfl, rfl⟩ := hq11
    refine r_ifB_ne (tgt := 19) C (by decide) dX6_slip_14 (fun c14 => ?_) (fun c14 => ?_)
    · have h10 : 0 ≤ s ∧ s ≤ σ 0 0 - 1 := bStar_t c14
      refine r_iload C rfl dX6_slip_19 ?_
      refine r_callS (As := [_]) C (c_X6_isYear _ _ _ (by omega)) ok_X6_isYear ln_X6_90 rfl rfl (Nat.le_of_ble_eq_true rfl) (Nat.le_of_ble_eq_true rfl) (Nat.le_of_ble_eq_true rfl) dX6_slip_21 (fun v21 τ21 hq21 => ?_)
      obtain ⟨rfl, rfl⟩ := hq21
      refine r_ifB_eq (tgt := 35) C (by decide) dX6_slip_24 (fun c24 => ?_) (fun c24 => ?_)
      · refine r_bipush C (by decide +kernel) dX6_slip_35 ?_
        refine r_ireturn C rfl ?_ dX6_slip_37
        exact pM_of (by simp [s_slip, bMom, *]) rfl
      · have h11 := bIn_iff.mp c24
        refine r_iload C rfl dX6_slip_27 ?_
        refine r_callS (As := [_]) C (c_X6_isShift _ _ _ (by omega)) ok_X6_isShift ln_X6_117 rfl rfl (Nat.le_of_ble_eq_true rfl) (Nat.le_of_ble_eq_true rfl) (Nat.le_of_ble_eq_true rfl) dX6_slip_29 (fun v29 τ29 hq29 => ?_)
        obtain ⟨rfl, rfl⟩ := hq29
        refine r_ifB_ne (tgt := 38) C (by decide) dX6_slip_32 (fun c32 => ?_) (fun c32 => ?_)
        · have h12 := bIn_iff.mp c32
          refine r_aload_n C rfl dX6_slip_38 ?_
          refine r_iload_n C rfl dX6_slip_39 ?_
          refine r_iload_n C rfl dX6_slip_40 ?_
          refine r_iload_n C rfl dX6_slip_41 ?_
          refine r_iload C rfl dX6_slip_42 ?_
          refine r_iload C rfl dX6_slip_44 ?_
          refine r_callV (As := [_, _, _, _, _]) C (c_X6_face _ _ _ hI (by omega) (by omega) (by omega) (by omega) (by omega)) ok_X6_face ln_X6_120 rfl rfl rfl rfl (Nat.le_of_ble_eq_true rfl) (Nat.le_of_ble_eq_true rfl) (Nat.le_of_ble_eq_true rfl) dX6_slip_46 (fun v46 τ46 hq46 => ?_)
          obtain ⟨rfl, hF, hR⟩ := hq46
          have e2 : vM τ46 = vM σ := hF.vM (by decide)
          have hr2 : -9 ≤ τ46 0 10 ∧ τ46 0 10 ≤ 3 := by rcases hR with h | h <;> omega
          refine r_aload_n C rfl dX6_slip_49 ?_
          refine r_getI (jz := 10) C 5 10 rfl rfl (by decide) rfl uw_X6 fl_X6_109 rfl dX6_slip_50 ?_
          refine r_ireturn C rfl ?_ dX6_slip_53
          refine pM_of (a := vM σ) ?_ e2
          rw [s_slip, if_neg (by simp [*]), if_neg (by simp [bMom, *])]
          rcases hR with ⟨q1, q2, -⟩ | ⟨q1, q2, q3, -⟩
          · rw [if_pos q1, q2]
          · rw [if_neg (by omega), q3]
        · refine r_bipush C (by decide +kernel) dX6_slip_35 ?_
          refine r_ireturn C rfl ?_ dX6_slip_37
          exact pM_of (by simp [s_slip, bMom, *]) rfl
    · refine r_iconst C dX6_slip_17 ?_
      refine r_ireturn C rfl ?_ dX6_slip_18
      exact pM_of (by simp [s_slip, *]) rfl
set_option maxRecDepth 100000 in
theorem c_X6_cost (l : Launch) (G : pw_G) (σ : pw_H) {t i s y h : Int} (hI : Inv (vM σ)) (q_t : InI t) (q_i : InI i) (q_s : InI s) (q_y : InI y) (q_h : InI h) : Ct l shM G mX6_cost [.ref (G.2.1 0), vI t, vI i, vI s, vI y, vI h] σ (pM (s_cost (vM σ) t i s y h)) := by
  have h0 : 0 ≤ σ 0 0 ∧ σ 0 0 ≤ 8 := hI.1
  have h5 : 0 ≤ σ 0 5 ∧ σ 0 5 ≤ 6 := hI.2.1
  have h1 : 0 ≤ σ 0 6 ∧ σ 0 6 ≤ 6 := hI.2.2.1
  refine Ct_of (ls := [some (.ref (G.2.1 0)), some (vI t), some (vI i), some (vI s), some (vI y), some (vI h)]) (by decide +kernel) (Nat.le_of_ble_eq_true rfl) rfl (fun X C => ?_)
  refine r_aload_n C rfl dX6_cost_0 ?_
  refine r_iload_n C rfl dX6_cost_1 ?_
  refine r_iload_n C rfl dX6_cost_2 ?_
  refine r_callV (As := [_, _]) C (c_X6_isLine _ _ _ (by omega) (by omega) hI) ok_X6_isLine ln_X6_99 rfl rfl rfl rfl (Nat.le_of_ble_eq_true rfl) (Nat.le_of_ble_eq_true rfl) (Nat.le_of_ble_eq_true rfl) dX6_cost_3 (fun v3 τ3 hq3 => ?_)
  obtain ⟨rfl, rfl⟩ := hq3
  refine r_ifB_eq (tgt := 17) C (by decide) dX6_cost_6 (fun c6 => ?_) (fun c6 => ?_)
  · refine r_iconst C dX6_cost_17 ?_
    refine r_ireturn C rfl ?_ dX6_cost_18
    exact pM_of (by simp [s_cost, *]) rfl
  · have h8 : (0 ≤ t ∧ t ≤ σ 0 6 - 1) ∧ 0 ≤ i ∧ i ≤ σ 5 t - 1 := bLine_t c6
    have h9 : 0 ≤ σ 5 t ∧ σ 5 t ≤ 8 := hI.2.2.2.2.2.2.2.1 t
    refine r_aload_n C rfl dX6_cost_9 ?_
    refine r_iload_n C rfl dX6_cost_10 ?_
    refine r_callV (As := [_]) C (c_X6_isStar _ _ _ (by omega) hI) ok_X6_isStar ln_X6_87 rfl rfl rfl rfl (Nat.le_of_ble_eq_true rfl) (Nat.le_of_ble_eq_true rfl) (Nat.le_of_ble_eq_true rfl) dX6_cost_11 (fun v11 τ11 hq11 => ?_)
    obtain ⟨rfl, rfl⟩ := hq11
    refine r_ifB_ne (tgt := 19) C (by decide) dX6_cost_14 (fun c14 => ?_) (fun c14 => ?_)
    · have h10 : 0 ≤ s ∧ s ≤ σ 0 0 - 1 := bStar_t c14
      refine r_iload C rfl dX6_cost_19 ?_
      refine r_callS (As := [_]) C (c_X6_isYear _ _ _ (by omega)) ok_X6_isYear ln_X6_90 rfl rfl (Nat.le_of_ble_eq_true rfl) (Nat.le_of_ble_eq_true rfl) (Nat.le_of_ble_eq_true rfl) dX6_cost_21 (fun v21 τ21 hq21 => ?_)
      obtain ⟨rfl, rfl⟩ := hq21
      refine r_ifB_eq (tgt := 35) C (by decide) dX6_cost_24 (fun c24 => ?_) (fun c24 => ?_)
      · refine r_bipush C (by decide +kernel) dX6_cost_35 ?_
        refine r_ireturn C rfl ?_ dX6_cost_37
        exact pM_of (by simp [s_cost, bMom, *]) rfl
      · have h11 := bIn_iff.mp c24
        refine r_iload C rfl dX6_cost_27 ?_
        refine r_callS (As := [_]) C (c_X6_isShift _ _ _ (by omega)) ok_X6_isShift ln_X6_117 rfl rfl (Nat.le_of_ble_eq_true rfl) (Nat.le_of_ble_eq_true rfl) (Nat.le_of_ble_eq_true rfl) dX6_cost_29 (fun v29 τ29 hq29 => ?_)
        obtain ⟨rfl, rfl⟩ := hq29
        refine r_ifB_ne (tgt := 38) C (by decide) dX6_cost_32 (fun c32 => ?_) (fun c32 => ?_)
        · have h12 := bIn_iff.mp c32
          refine r_aload_n C rfl dX6_cost_38 ?_
          refine r_iload_n C rfl dX6_cost_39 ?_
          refine r_iload_n C rfl dX6_cost_40 ?_
          refine r_iload_n C rfl dX6_cost_41 ?_
          refine r_iload C rfl dX6_cost_42 ?_
          refine r_iload C rfl dX6_cost_44 ?_
          refine r_callV (As := [_, _, _, _, _]) C (c_X6_face _ _ _ hI (by omega) (by omega) (by omega) (by omega) (by omega)) ok_X6_face ln_X6_120 rfl rfl rfl rfl (Nat.le_of_ble_eq_true rfl) (Nat.le_of_ble_eq_true rfl) (Nat.le_of_ble_eq_true rfl) dX6_cost_46 (fun v46 τ46 hq46 => ?_)
          obtain ⟨rfl, hF, hR⟩ := hq46
          have e2 : vM τ46 = vM σ := hF.vM (by decide)
          have hr2 : -9 ≤ τ46 0 10 ∧ τ46 0 10 ≤ 3 := by rcases hR with h | h <;> omega
          refine r_aload_n C rfl dX6_cost_49 ?_
          refine r_getI (jz := 10) C 5 10 rfl rfl (by decide) rfl uw_X6 fl_X6_109 rfl dX6_cost_50 ?_
          refine r_bipush C (by decide +kernel) dX6_cost_53 ?_
          refine r_icmp_ne (tgt := 63) C (by decide) (by omega) (by omega) dX6_cost_55 (fun c55 => ?_) (fun c55 => ?_)
          · refine r_aload_n C rfl dX6_cost_63 ?_
            refine r_getI (jz := 11) C 5 11 rfl rfl (by decide) rfl uw_X6 fl_X6_106 rfl dX6_cost_64 ?_
            refine r_ireturn C rfl ?_ dX6_cost_67
            refine pM_of (a := vM σ) ?_ e2
            rw [s_cost, if_neg (by simp [*]), if_neg (by simp [bMom, *])]
            rcases hR with ⟨q1, q2, -⟩ | ⟨q1, q2, q3, q4⟩
            · first | (rw [if_pos q1]; done) | (exfalso; omega)
            · first | (rw [if_neg (by omega), q4]; done) | (exfalso; omega)
          · refine r_bipush C (by decide +kernel) dX6_cost_58 ?_
            refine r_goto (tgt := 67) C (by decide) dX6_cost_60 ?_
            refine r_ireturn C rfl ?_ dX6_cost_67
            refine pM_of (a := vM σ) ?_ e2
            rw [s_cost, if_neg (by simp [*]), if_neg (by simp [bMom, *])]
            rcases hR with ⟨q1, q2, -⟩ | ⟨q1, q2, q3, q4⟩
            · first | (rw [if_pos q1]; done) | (exfalso; omega)
            · first | (rw [if_neg (by omega), q4]; done) | (exfalso; omega)
        · refine r_bipush C (by decide +kernel) dX6_cost_35 ?_
          refine r_ireturn C rfl ?_ dX6_cost_37
          exact pM_of (by simp [s_cost, bMom, *]) rfl
    · refine r_iconst C dX6_cost_17 ?_
      refine r_ireturn C rfl ?_ dX6_cost_18
      exact pM_of (by simp [s_cost, *]) rfl
