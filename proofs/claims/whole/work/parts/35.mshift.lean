set_option maxHeartbeats 4000000 in
set_option maxRecDepth 100000 in
theorem c_X6_shift (l : Launch) (G : pw_G) (σ : pw_H) {t y : Int} (hI : Inv (vM σ)) (q_t : InI t) (q_y : InI y) : Ct l shM G mX6_shift [.ref (G.2.1 0), vI t, vI y] σ (pM (s_shift (vM σ) t y)) := by
  have h0 : 0 ≤ σ 0 0 ∧ σ 0 0 ≤ 8 := hI.1
  have h5 : 0 ≤ σ 0 5 ∧ σ 0 5 ≤ 6 := hI.2.1
  have h1 : 0 ≤ σ 0 6 ∧ σ 0 6 ≤ 6 := hI.2.2.1
  refine Ct_of (ls := [some (.ref (G.2.1 0)), some (vI t), some (vI y), none, none, none, none]) (by decide +kernel) (Nat.le_of_ble_eq_true rfl) rfl (fun X C => ?_)
  have fin : ∀ (u : Nat) (υ : pw_H) (z4 z5 z6 : Option Value), t = u → bList (vM σ) t = true → bIn y (-3000) 3000 = true → vM υ = vM σ → (∀ j : Nat, j < (sWs (vM σ) u y (σ 5 u).toNat).2 → υ 12 j = (sWs (vM σ) u y (σ 5 u).toNat).1 j) → PW X shM G 167 [some (.ref (G.2.1 0)), some (vI t), some (vI y), some (vI ((sWs (vM σ) u y (σ 5 u).toNat).2 : Int)), z4, z5, z6] [] υ := by
    intro u υ z4 z5 z6 eu c5 c14 e2 hj
    subst eu
    have h9 : 0 ≤ σ 5 u ∧ σ 5 u ≤ 8 := hI.2.2.2.2.2.2.2.1 u
    have hw := sWs_r (vM σ) u y (σ 5 u).toNat
    refine r_iload_n C rfl dX6_shift_167 ?_
    refine r_if_ne (tgt := 176) C (by decide) (by omega) dX6_shift_168 (fun c168 => ?_) (fun c168 => ?_)
    · refine r_aload_n C rfl dX6_shift_176 ?_
      refine r_getR C 5 16 rfl rfl (by decide) rfl uw_X6 fl_X6_47 dX6_shift_177 ?_
      refine r_iload_n C rfl dX6_shift_180 ?_
      refine r_iconst C dX6_shift_181 ?_
      refine r_isub C dX6_shift_182 ?_
      refine r_iconst C dX6_shift_183 ?_
      refine r_idiv C (by omega) (by omega) (by omega) dX6_shift_184 ?_
      rw [Int.tdiv_eq_ediv_of_nonneg (show 0 ≤ ((sWs (vM σ) u y (σ 5 u).toNat).2 : Int) - 1 by omega)]
      refine r_iaload C rfl (by decide) (by omega) dX6_shift_185 ?_
      refine r_bipush C (by decide +kernel) dX6_shift_186 ?_
      refine r_iadd C dX6_shift_188 ?_
      refine r_ireturn C rfl ?_ dX6_shift_189
      first | exact pM_of (a := vM σ) (by simp only [s_shift, c5, c14]; rw [sTold, if_pos (show (sWs (vM σ) u y (vM σ 5 u).toNat).2 = 0 from (by omega : (sWs (vM σ) u y (σ 5 u).toNat).2 = 0))]; rfl) e2 | skip
      try (refine pM_of (a := vM σ) ?_ e2)
      try (have e7 := hj (((sWs (vM σ) u y (σ 5 u).toNat).2 - 1) / 2) (by omega))
      try (rw [show ((((sWs (vM σ) u y (σ 5 u).toNat).2 - 1) / 2 : Nat) : Int) = (((sWs (vM σ) u y (σ 5 u).toNat).2 : Int) - 1) / 2 by omega] at e7; rw [e7]; simp only [s_shift, c5, c14]; rw [sTold, if_neg (show ¬ (sWs (vM σ) u y (vM σ 5 u).toNat).2 = 0 from (by omega : ¬ (sWs (vM σ) u y (σ 5 u).toNat).2 = 0))]; rfl)
    · refine r_bipush C (by decide +kernel) dX6_shift_171 ?_
      refine r_goto (tgt := 189) C (by decide) dX6_shift_173 ?_
      refine r_ireturn C rfl ?_ dX6_shift_189
      first | exact pM_of (a := vM σ) (by simp only [s_shift, c5, c14]; rw [sTold, if_pos (show (sWs (vM σ) u y (vM σ 5 u).toNat).2 = 0 from (by omega : (sWs (vM σ) u y (σ 5 u).toNat).2 = 0))]; rfl) e2 | skip
      try (refine pM_of (a := vM σ) ?_ e2)
      try (have e7 := hj (((sWs (vM σ) u y (σ 5 u).toNat).2 - 1) / 2) (by omega))
      try (rw [show ((((sWs (vM σ) u y (σ 5 u).toNat).2 - 1) / 2 : Nat) : Int) = (((sWs (vM σ) u y (σ 5 u).toNat).2 : Int) - 1) / 2 by omega] at e7; rw [e7]; simp only [s_shift, c5, c14]; rw [sTold, if_neg (show ¬ (sWs (vM σ) u y (vM σ 5 u).toNat).2 = 0 from (by omega : ¬ (sWs (vM σ) u y (σ 5 u).toNat).2 = 0))]; rfl)
  have loop : ∀ (w i u : Nat) (υ : pw_H) (z5 z6 : Option Value), t = u → bList (vM σ) t = true → bIn y (-3000) 3000 = true → i + w = (σ 5 u).toNat → Fm [8, 9, 10, 11, 12] σ υ → hPt υ (vM σ) u y 0 (σ 0 0).toNat (σ 5 u).toNat → (∀ i : Nat, i < (σ 5 u).toNat → υ 11 i = sStar (vM σ) u y 0 i) → (∀ j : Nat, j < (sWs (vM σ) u y i).2 → υ 12 j = (sWs (vM σ) u y i).1 j) → PW X shM G 32 [some (.ref (G.2.1 0)), some (vI t), some (vI y), some (vI ((sWs (vM σ) u y i).2 : Int)), some (vI (i : Int)), z5, z6] [] υ := by
    intro w
    induction w with
    | zero =>
      intro i u υ z5 z6 eu c5 c14 hi hF hP hst hj
      have e5 : υ 5 t = σ 5 t := congrFun (hF.1 5 (by decide) (by decide)) _
      subst eu
      have h9 : 0 ≤ σ 5 u ∧ σ 5 u ≤ 8 := hI.2.2.2.2.2.2.2.1 u
      have h8 : 0 ≤ (u : Int) ∧ (u : Int) ≤ σ 0 6 - 1 := bList_t c5
      have ei : i = (σ 5 u).toNat := by omega
      subst ei
      refine r_iload C rfl dX6_shift_32 ?_
      refine r_aload_n C rfl dX6_shift_34 ?_
      refine r_getR C 5 7 rfl rfl (by decide) rfl uw_X6 fl_X6_26 dX6_shift_35 ?_
      refine r_iload_n C rfl dX6_shift_38 ?_
      refine r_iaload C rfl (by decide) (by omega) dX6_shift_39 ?_
      refine r_icmp_ge (tgt := 167) C (by decide) (by omega) (by omega) dX6_shift_40 (fun c40 => ?_) (fun c40 => ?_)
      · exact fin u υ _ _ _ rfl c5 c14 (hF.vM (by decide)) hj
      · omega
    | succ w ih =>
      intro i u υ z5 z6 eu c5 c14 hi hF hP hst hj
      have e5 : υ 5 t = σ 5 t := congrFun (hF.1 5 (by decide) (by decide)) _
      have e2 : vM υ = vM σ := hF.vM (by decide)
      have h8 : 0 ≤ t ∧ t ≤ σ 0 6 - 1 := bList_t c5
      have h9 : 0 ≤ σ 5 t ∧ σ 5 t ≤ 8 := hI.2.2.2.2.2.2.2.1 t
      have h11 := bIn_iff.mp c14
      subst eu
      have e3 := hst i (by omega)
      have hw := sWs_r (vM σ) u y i
      have hs3 := sStar_r (y := y) (h := 0) hI (l := u) (i := i) (show i < (σ 5 u).toNat by omega)
      have hs4 : sStar (vM σ) u y 0 i = -9 ∨ (0 ≤ sStar (vM σ) u y 0 i ∧ sStar (vM σ) u y 0 i < σ 0 0) := by
        rcases hs3 with q | ⟨q1, q2, -⟩
        · exact Or.inl q
        · exact Or.inr ⟨q1, q2⟩
      have e10 : 0 ≤ sStar (vM σ) u y 0 i → υ 10 ((i : Int) * 8 + sStar (vM σ) u y 0 i) = sRk (vM σ) u i (sStar (vM σ) u y 0 i) y 0 % 4 := fun q => by
        have := (hP i (by omega) (sStar (vM σ) u y 0 i).toNat (by omega)).2
        rw [show (((sStar (vM σ) u y 0 i).toNat : Nat) : Int) = sStar (vM σ) u y 0 i by omega] at this
        rw [this]
        rcases hs3 with z | ⟨-, -, z⟩
        · omega
        · unfold sSl; rw [if_pos z]
      have hsk := n_sky (vM σ) (sStar (vM σ) u y 0 i) y
      have b1 : 0 ≤ σ 6 ((u : Int) * 8 + i) ∧ σ 6 ((u : Int) * 8 + i) ≤ 21599 := hI.2.2.2.2.2.2.2.2.2.1 _
      have b2 : υ 6 ((u : Int) * 8 + i) = σ 6 ((u : Int) * 8 + i) := congrFun (hF.1 6 (by decide) (by decide)) _
      have b4 := n_way (sSky (vM σ) (sStar (vM σ) u y 0 i) y) (σ 6 ((u : Int) * 8 + i))
      have hno : (sStar (vM σ) u y 0 i = -9 ∨ ¬ sRk (vM σ) u i (sStar (vM σ) u y 0 i) y 0 % 4 = 0) → sWs (vM σ) u y (i + 1) = sWs (vM σ) u y i := fun q => by simp only [sWs]; rw [if_pos q]
      have stay : (sStar (vM σ) u y 0 i = -9 ∨ ¬ sRk (vM σ) u i (sStar (vM σ) u y 0 i) y 0 % 4 = 0) → PW X shM G 32 [some (.ref (G.2.1 0)), some (vI u), some (vI y), some (vI ((sWs (vM σ) u y i).2 : Int)), some (vI ((i : Int) + 1)), z5, z6] [] υ := fun q => by
        have := ih (i + 1) u υ z5 z6 rfl c5 c14 (by omega) hF hP hst (by rw [hno q]; exact hj)
        rw [hno q] at this
        exact this
      -- the way is put in its place
      have inner : ¬ (sStar (vM σ) u y 0 i = -9 ∨ ¬ sRk (vM σ) u i (sStar (vM σ) u y 0 i) y 0 % 4 = 0) → ∀ (k : Nat) (ρ : pw_H), k ≤ (sWs (vM σ) u y i).2 → Fm [12] υ ρ → (∀ j : Nat, j < k → ρ 12 j = υ 12 j) → sIns (sWay (sSky (vM σ) (sStar (vM σ) u y 0 i) y) (σ 6 ((u : Int) * 8 + i))) k (ρ 12) = sIns (sWay (sSky (vM σ) (sStar (vM σ) u y 0 i) y) (σ 6 ((u : Int) * 8 + i))) (sWs (vM σ) u y i).2 (υ 12) → PW X shM G 108 [some (.ref (G.2.1 0)), some (vI u), some (vI y), some (vI ((sWs (vM σ) u y i).2 : Int)), some (vI (i : Int)), some (vI (sWay (sSky (vM σ) (sStar (vM σ) u y 0 i) y) (σ 6 ((u : Int) * 8 + i)))), some (vI (k : Int))] [] ρ := by
        intro hyes
        have hye : sWs (vM σ) u y (i + 1) = (sIns (sWay (sSky (vM σ) (sStar (vM σ) u y 0 i) y) (vM σ 6 ((u : Int) * 8 + i))) (sWs (vM σ) u y i).2 (sWs (vM σ) u y i).1, (sWs (vM σ) u y i).2 + 1) := by simp only [sWs]; rw [if_neg hyes]
        have done : ∀ (k : Nat) (ρ : pw_H), k ≤ (sWs (vM σ) u y i).2 → Fm [12] υ ρ → pw_u ρ 12 (k : Int) (sWay (sSky (vM σ) (sStar (vM σ) u y 0 i) y) (σ 6 ((u : Int) * 8 + i))) 12 = sIns (sWay (sSky (vM σ) (sStar (vM σ) u y 0 i) y) (σ 6 ((u : Int) * 8 + i))) (sWs (vM σ) u y i).2 (υ 12) → PW X shM G 149 [some (.ref (G.2.1 0)), some (vI u), some (vI y), some (vI ((sWs (vM σ) u y i).2 : Int)), some (vI (i : Int)), some (vI (sWay (sSky (vM σ) (sStar (vM σ) u y 0 i) y) (σ 6 ((u : Int) * 8 + i)))), some (vI (k : Int))] [] ρ := by
          intro k ρ hk hR hs
          refine r_aload_n C rfl dX6_shift_149 ?_
          refine r_getR C 5 16 rfl rfl (by decide) rfl uw_X6 fl_X6_47 dX6_shift_150 ?_
          refine r_iload C rfl dX6_shift_153 ?_
          refine r_iload C rfl dX6_shift_155 ?_
          refine r_iastore C rfl (by decide) (by omega) dX6_shift_157 ?_
          refine r_iinc (ls' := [_, _, _, _, _, _, _]) C rfl (by decide) rfl rfl dX6_shift_158 ?_
          refine r_iinc (ls' := [_, _, _, _, _, _, _]) C rfl (by decide) rfl rfl dX6_shift_161 ?_
          refine r_goto (tgt := 32) C (by decide) dX6_shift_164 ?_
          refine PW_ls (ih (i + 1) u _ (some (vI (sWay (sSky (vM σ) (sStar (vM σ) u y 0 i) y) (σ 6 ((u : Int) * 8 + i))))) (some (vI (k : Int))) rfl c5 c14 (by omega) ((hF.tr hR (ks := [8, 9, 10, 11, 12]) (fun _ q => q) (by decide)).tr (Fm.u (by decide) (by decide)) (fun _ q => q) (fun _ q => q)) (fun j j1 s s1 => by rw [pw_u_k (by decide), pw_u_k (by decide), hR.1 9 (by decide) (by decide), hR.1 10 (by decide) (by decide)]; exact hP j j1 s s1) (fun j j1 => by rw [pw_u_k (by decide), hR.1 11 (by decide) (by decide)]; exact hst j j1) (fun j j1 => ?_)) ?_
          · rw [hye] at j1 ⊢
            simp only [] at j1 ⊢
            rw [hs]
            exact sIns_cong _ _ _ _ hj j (by omega)
          · rw [hye]; rfl
        intro k
        induction k with
        | zero =>
          intro ρ hk hR hjk hs
          refine r_iload C rfl dX6_shift_108 ?_
          refine r_if_le (tgt := 149) C (by decide) (by omega) dX6_shift_110 (fun c110 => ?_) (fun c110 => ?_)
          · refine done 0 ρ hk hR ?_
            rw [pw_u_f, ← hs]
            rfl
          · omega
        | succ k ihk =>
          intro ρ hk hR hjk hs
          have q1 := hjk k (by omega)
          have q2 := hj k (by omega)
          have q3 := hw.2 k (by omega)
          have q4 : ((k + 1 : Nat) : Int) - 1 = (k : Int) := by omega
          refine r_iload C rfl dX6_shift_108 ?_
          refine r_if_le (tgt := 149) C (by decide) (by omega) dX6_shift_110 (fun c110 => ?_) (fun c110 => ?_)
          · omega
          · refine r_aload_n C rfl dX6_shift_113 ?_
            refine r_getR C 5 16 rfl rfl (by decide) rfl uw_X6 fl_X6_47 dX6_shift_114 ?_
            refine r_iload C rfl dX6_shift_117 ?_
            refine r_iconst C dX6_shift_119 ?_
            refine r_isub C dX6_shift_120 ?_
            rw [q4]
            refine r_iaload C rfl (by decide) (by omega) dX6_shift_121 ?_
            rw [q1, q2]
            refine r_iload C rfl dX6_shift_122 ?_
            refine r_icmp_le (tgt := 149) C (by decide) (by omega) (by omega) dX6_shift_124 (fun c124 => ?_) (fun c124 => ?_)
            · refine done (k + 1) ρ hk hR ?_
              rw [pw_u_f, ← hs]
              simp only [sIns]
              rw [if_neg (by rw [q1, q2]; omega)]
            · refine r_aload_n C rfl dX6_shift_127 ?_
              refine r_getR C 5 16 rfl rfl (by decide) rfl uw_X6 fl_X6_47 dX6_shift_128 ?_
              refine r_iload C rfl dX6_shift_131 ?_
              refine r_aload_n C rfl dX6_shift_133 ?_
              refine r_getR C 5 16 rfl rfl (by decide) rfl uw_X6 fl_X6_47 dX6_shift_134 ?_
              refine r_iload C rfl dX6_shift_137 ?_
              refine r_iconst C dX6_shift_139 ?_
              refine r_isub C dX6_shift_140 ?_
              rw [q4]
              refine r_iaload C rfl (by decide) (by omega) dX6_shift_141 ?_
              rw [q1, q2]
              refine r_iastore C rfl (by decide) (by omega) dX6_shift_142 ?_
              refine r_iinc (ls' := [_, _, _, _, _, _, _]) C rfl (by decide) rfl rfl dX6_shift_143 ?_
              refine r_goto (tgt := 108) C (by decide) dX6_shift_146 ?_
              refine PW_ls (ihk _ (by omega) (hR.tr (Fm.u (by decide) (by decide)) (fun _ q => q) (fun _ q => q)) (fun j j1 => by rw [pw_u_j (by omega)]; exact hjk j (by omega)) ?_) ?_
              · rw [pw_u_f, ← hs]
                simp only [sIns]
                rw [if_pos (by rw [q1, q2]; omega), q1, q2]
              · rw [show ((k + 1 : Nat) : Int) + -1 = (k : Int) by omega]
      refine r_iload C rfl dX6_shift_32 ?_
      refine r_aload_n C rfl dX6_shift_34 ?_
      refine r_getR C 5 7 rfl rfl (by decide) rfl uw_X6 fl_X6_26 dX6_shift_35 ?_
      refine r_iload_n C rfl dX6_shift_38 ?_
      refine r_iaload C rfl (by decide) (by omega) dX6_shift_39 ?_
      refine r_icmp_ge (tgt := 167) C (by decide) (by omega) (by omega) dX6_shift_40 (fun c40 => ?_) (fun c40 => ?_)
      · omega
      · refine r_aload_n C rfl dX6_shift_43 ?_
        refine r_getR C 5 15 rfl rfl (by decide) rfl uw_X6 fl_X6_44 dX6_shift_44 ?_
        refine r_iload C rfl dX6_shift_47 ?_
        refine r_iaload C rfl (by decide) (by omega) dX6_shift_49 ?_
        rw [e3]
        refine r_bipush C (by decide +kernel) dX6_shift_50 ?_
        refine r_icmp_eq (tgt := 161) C (by decide) (by omega) (by omega) dX6_shift_52 (fun c52 => ?_) (fun c52 => ?_)
        · refine r_iinc (ls' := [_, _, _, _, _, _, _]) C rfl (by decide) rfl rfl dX6_shift_161 ?_
          refine r_goto (tgt := 32) C (by decide) dX6_shift_164 ?_
          exact stay (Or.inl (by omega))
        · refine r_aload_n C rfl dX6_shift_55 ?_
          refine r_getR C 5 14 rfl rfl (by decide) rfl uw_X6 fl_X6_41 dX6_shift_56 ?_
          refine r_bipush C (by decide +kernel) dX6_shift_59 ?_
          refine r_iload C rfl dX6_shift_61 ?_
          refine r_imul C dX6_shift_63 ?_
          rw [Int.mul_comm (8 : Int)]
          refine r_aload_n C rfl dX6_shift_64 ?_
          refine r_getR C 5 15 rfl rfl (by decide) rfl uw_X6 fl_X6_44 dX6_shift_65 ?_
          refine r_iload C rfl dX6_shift_68 ?_
          refine r_iaload C rfl (by decide) (by omega) dX6_shift_70 ?_
          rw [e3]
          refine r_iadd C dX6_shift_71 ?_
          refine r_iaload C rfl (by decide) (by omega) dX6_shift_72 ?_
          rw [e10 (by omega)]
          refine r_if_ne (tgt := 161) C (by decide) (by omega) dX6_shift_73 (fun c73 => ?_) (fun c73 => ?_)
          · refine r_iinc (ls' := [_, _, _, _, _, _, _]) C rfl (by decide) rfl rfl dX6_shift_161 ?_
            refine r_goto (tgt := 32) C (by decide) dX6_shift_164 ?_
            exact stay (Or.inr (by omega))
          · refine r_aload_n C rfl dX6_shift_76 ?_
            refine r_aload_n C rfl dX6_shift_77 ?_
            refine r_getR C 5 15 rfl rfl (by decide) rfl uw_X6 fl_X6_44 dX6_shift_78 ?_
            refine r_iload C rfl dX6_shift_81 ?_
            refine r_iaload C rfl (by decide) (by omega) dX6_shift_83 ?_
            rw [e3]
            refine r_iload_n C rfl dX6_shift_84 ?_
            refine r_callV (As := [_, _]) C (c_X6_skyOf _ _ _ (e2 ▸ hI) (by omega) (by omega)) ok_X6_skyOf ln_X6_93 rfl rfl rfl rfl (Nat.le_of_ble_eq_true rfl) (Nat.le_of_ble_eq_true rfl) (Nat.le_of_ble_eq_true rfl) dX6_shift_85 (fun v85 τ85 hq85 => ?_)
            obtain ⟨rfl, rfl⟩ := hq85
            rw [e2]
            refine r_aload_n C rfl dX6_shift_88 ?_
            refine r_getR C 5 8 rfl rfl (by decide) rfl uw_X6 fl_X6_29 dX6_shift_89 ?_
            refine r_bipush C (by decide +kernel) dX6_shift_92 ?_
            refine r_iload_n C rfl dX6_shift_94 ?_
            refine r_imul C dX6_shift_95 ?_
            rw [Int.mul_comm (8 : Int)]
            refine r_iload C rfl dX6_shift_96 ?_
            refine r_iadd C dX6_shift_98 ?_
            refine r_iaload C rfl (by decide) (by omega) dX6_shift_99 ?_
            rw [b2]
            refine r_callS (As := [_, _]) C (c_X6_wayOf _ _ _ (by omega) (by omega)) ok_X6_wayOf ln_X6_96 rfl rfl (Nat.le_of_ble_eq_true rfl) (Nat.le_of_ble_eq_true rfl) (Nat.le_of_ble_eq_true rfl) dX6_shift_100 (fun v100 τ100 hq100 => ?_)
            obtain ⟨rfl, rfl⟩ := hq100
            refine r_istore (ls' := [_, _, _, _, _, _, _]) C (by decide) rfl rfl dX6_shift_103 ?_
            refine r_iload_n C rfl dX6_shift_105 ?_
            refine r_istore (ls' := [_, _, _, _, _, _, _]) C (by decide) rfl rfl dX6_shift_106 ?_
            exact inner (by omega) _ υ (Nat.le_refl _) Fm.rf (fun j j1 => rfl) rfl
  refine r_aload_n C rfl dX6_shift_0 ?_
  refine r_iload_n C rfl dX6_shift_1 ?_
  refine r_callV (As := [_]) C (c_X6_isList _ _ _ (by omega) hI) ok_X6_isList ln_X6_69 rfl rfl rfl rfl (Nat.le_of_ble_eq_true rfl) (Nat.le_of_ble_eq_true rfl) (Nat.le_of_ble_eq_true rfl) dX6_shift_2 (fun v2 τ2 hq2 => ?_)
  obtain ⟨rfl, rfl⟩ := hq2
  refine r_ifB_ne (tgt := 10) C (by decide) dX6_shift_5 (fun c5 => ?_) (fun c5 => ?_)
  · have h8 : 0 ≤ t ∧ t ≤ σ 0 6 - 1 := bList_t c5
    obtain ⟨u, rfl⟩ := Int.eq_ofNat_of_zero_le h8.1
    refine r_iload_n C rfl dX6_shift_10 ?_
    refine r_callS (As := [_]) C (c_X6_isYear _ _ _ (by omega)) ok_X6_isYear ln_X6_90 rfl rfl (Nat.le_of_ble_eq_true rfl) (Nat.le_of_ble_eq_true rfl) (Nat.le_of_ble_eq_true rfl) dX6_shift_11 (fun v11 τ11 hq11 => ?_)
    obtain ⟨rfl, rfl⟩ := hq11
    refine r_ifB_ne (tgt := 20) C (by decide) dX6_shift_14 (fun c14 => ?_) (fun c14 => ?_)
    · have h11 := bIn_iff.mp c14
      refine r_aload_n C rfl dX6_shift_20 ?_
      refine r_iload_n C rfl dX6_shift_21 ?_
      refine r_iload_n C rfl dX6_shift_22 ?_
      refine r_iconst C dX6_shift_23 ?_
      refine r_callV (As := [_, _, _]) C (c_X6_match _ _ _ hI (by omega) h11 (by omega)) ok_X6_match ln_X6_131 rfl rfl rfl rfl (Nat.le_of_ble_eq_true rfl) (Nat.le_of_ble_eq_true rfl) (Nat.le_of_ble_eq_true rfl) dX6_shift_24 (fun v24 τ24 hq24 => ?_)
      obtain ⟨rfl, hF, hP, hst⟩ := hq24
      refine r_iconst C dX6_shift_27 ?_
      refine r_istore_n (ls' := [_, _, _, _, _, _, _]) C (by decide) rfl rfl dX6_shift_28 ?_
      refine r_iconst C dX6_shift_29 ?_
      refine r_istore (ls' := [_, _, _, _, _, _, _]) C (by decide) rfl rfl dX6_shift_30 ?_
      exact loop (σ 5 u).toNat 0 u _ none none rfl c5 c14 (by omega) (hF.tr (Fm.rf (ks := [])) (ks := [8, 9, 10, 11, 12]) (by decide) (by decide)) hP hst (fun j j1 => by simp [sWs] at j1)
    · refine r_bipush C (by decide +kernel) dX6_shift_17 ?_
      refine r_ireturn C rfl ?_ dX6_shift_19
      exact pM_of (by simp [s_shift, *]) rfl
  · refine r_iconst C dX6_shift_8 ?_
    refine r_ireturn C rfl ?_ dX6_shift_9
    exact pM_of (by simp [s_shift, *]) rfl
