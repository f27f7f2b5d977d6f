theorem sGn_lt {C : Int → Int → Int} {N n : Nat} : ∀ i, sGn C N n i < 2 ^ N
  | 0 => Nat.pow_pos (by decide)
  | i + 1 => by
    have ih := sGn_lt (C := C) (N := N) (n := n) i
    simp only [sGn, sGo]
    rcases sCh_or (C := C) (N := N) (n := n) (n - 1 - i) (sGn C N n i) with ⟨q, -⟩ | ⟨s, q, q2, -⟩
    · rw [if_pos q]; exact ih
    · rw [if_neg (by omega), q]
      exact g_or ih q2
set_option maxRecDepth 100000 in
set_option maxHeartbeats 8000000 in
theorem c_X6_match (l : Launch) (G : pw_G) (σ : pw_H) {t : Nat} {y h : Int} (hI : Inv (vM σ)) (ht : t < 6) (hy : -3000 ≤ y ∧ y ≤ 3000) (hh : -600 ≤ h ∧ h ≤ 600) : Ct l shM G mX6_match [.ref (G.2.1 0), vI (t : Int), vI y, vI h] σ (fun r τ => r = none ∧ Fm [8, 9, 10, 11] σ τ ∧ hPt τ (vM σ) t y h (σ 0 0).toNat (σ 5 t).toNat ∧ ∀ i : Nat, i < (σ 5 t).toNat → τ 11 i = sStar (vM σ) t y h i) := by
  have h0 : 0 ≤ σ 0 0 ∧ σ 0 0 ≤ 8 := hI.1
  have h9 : 0 ≤ σ 5 t ∧ σ 5 t ≤ 8 := hI.2.2.2.2.2.2.2.1 t
  have hC := sC_0 (a := vM σ) (l := t) (y := y) (h := h)
  have hCl := sC_le (vM σ) t y h
  obtain ⟨D, hCd⟩ : ∃ D : Int → Int → Int, D = sC (vM σ) t y h := ⟨_, rfl⟩
  obtain ⟨N, hN⟩ : ∃ N : Nat, N = (σ 0 0).toNat := ⟨_, rfl⟩
  obtain ⟨n, hn⟩ : ∃ n : Nat, n = (σ 5 t).toNat := ⟨_, rfl⟩
  have hNi : σ 0 0 = (N : Int) := by omega
  have hni : σ 5 t = (n : Int) := by omega
  have hN8 : N ≤ 8 := by omega
  have hn8 : n ≤ 8 := by omega
  have h2N := p2_8 N hN8
  have hst : ∀ i : Nat, sStar (vM σ) t y h i = sSt D N n i := fun i => by rw [hCd, hN, hn]; rfl
  rw [← hCd] at hC hCl
  rw [← hN, ← hn]
  refine Ct_of (ls := [some (.ref (G.2.1 0)), some (vI (t : Int)), some (vI y), some (vI h), none, none, none, none, none]) (by decide +kernel) (Nat.le_of_ble_eq_true rfl) rfl (fun X C => ?_)
  have lp : ∀ (w i : Nat) (υ : pw_H), i + w = n → Fm [8, 9, 10, 11] σ υ → hPt υ (vM σ) t y h N n → hRt υ D N n 0 → (∀ j : Nat, j < i → υ 11 j = sSt D N n j) → PW X shM G 15 [some (.ref (G.2.1 0)), some (vI (t : Int)), some (vI y), some (vI h), some (vI (sB D N n (n - i) (sGn D N n i))), some (vI ((sGn D N n i : Nat) : Int)), some (vI (i : Int)), none, none] [] υ := by
    intro w
    induction w with
    | zero =>
      intro i υ hi hF hP hR hj
      have e5 : υ 5 t = (n : Int) := (congrFun (hF.1 5 (by decide) (by decide)) _).trans hni
      refine r_iload C rfl dX6_match_15 ?_
      refine r_aload_n C rfl dX6_match_17 ?_
      refine r_getR C 5 7 rfl rfl (by decide) rfl uw_X6 fl_X6_26 dX6_match_18 ?_
      refine r_iload_n C rfl dX6_match_21 ?_
      refine r_iaload C rfl (by decide) (by omega) dX6_match_22 ?_
      refine r_icmp_ge (tgt := 211) C (by decide) (by omega) (by omega) dX6_match_23 (fun c23 => ?_) (fun c23 => ?_)
      · refine r_return C rfl ?_ dX6_match_211
        exact ⟨rfl, hF, hP, fun j j1 => by rw [hst]; exact hj j (by omega)⟩
      · omega
    | succ w ih =>
      intro i υ hi hF hP hR hj
      have hi8 : i < 8 := by omega
      have hGl := sGn_lt (C := D) (N := N) (n := n) i
      obtain ⟨g, hg⟩ : ∃ g : Nat, g = sGn D N n i := ⟨_, rfl⟩
      have hg2 : g < 2 ^ N := by omega
      have hg256 : g < 256 := by omega
      have eni : n - i = (n - 1 - i) + 1 := by omega
      have eI : ((n : Int) - ((n - 1 - i + 1 : Nat) : Int)) = (i : Int) := by omega
      have hB := sB_rng (N := N) (n := n) hC
      have hleft := hB (n - i) g
      rw [← hg]
      have lp2 : ∀ (k : Nat) (υ : pw_H), k ≤ N → Fm [8, 9, 10, 11] σ υ → hPt υ (vM σ) t y h N n → hRt υ D N n 0 → (∀ j : Nat, j < i → υ 11 j = sSt D N n j) → υ 11 i = sLow (sP D N n (n - 1 - i) g) k (N - k) → PW X shM G 43 [some (.ref (G.2.1 0)), some (vI (t : Int)), some (vI y), some (vI h), some (vI (sB D N n (n - i) g)), some (vI (g : Int)), some (vI (i : Int)), some (vI ((k : Int) - 1)), none] [] υ := by
        intro k
        induction k with
        | zero =>
          intro υ hk hF hP hR hj hs
          have e0 : υ 0 0 = (N : Int) := (hF.2 0 (by decide) (by decide)).trans hNi
          have es : υ 11 i = sSt D N n i := by rw [hs, hg]; rfl
          have egn : sGn D N n (i + 1) = sGo g (sSt D N n i) := by rw [hg]; rfl
          have hj2 : ∀ j : Nat, j < i + 1 → υ 11 j = sSt D N n j := fun j j1 => by
            by_cases q : j = i
            · subst q; exact es
            · exact hj j (by omega)
          rcases (show sSt D N n i = -9 ∨ ∃ s : Nat, s < N ∧ sSt D N n i = (s : Int) from by
            rcases sCh_or (C := D) (N := N) (n := n) (n - 1 - i) (sGn D N n i) with ⟨q, -⟩ | ⟨s, q, q2, -⟩
            · exact Or.inl q
            · exact Or.inr ⟨s, q2, q⟩) with q | ⟨s, s1, q⟩
          · have eg : sGn D N n (i + 1) = g := by rw [egn, q]; rfl
            have er := hR (i + 1) (Nat.zero_le _) (by omega) g hg2
            have ei : 256 * (i : Int) + 256 + (g : Int) = 256 * ((i + 1 : Nat) : Int) + (g : Int) := by omega
            rw [q] at es
            refine r_iload C rfl dX6_match_43 ?_
            refine r_if_lt (tgt := 155) C (by decide) (by omega) dX6_match_45 (fun c45 => ?_) (fun c45 => ?_)
            · refine r_iload C rfl dX6_match_155 ?_
              refine r_aload_n C rfl dX6_match_157 ?_
              refine r_getR C 5 15 rfl rfl (by decide) rfl uw_X6 fl_X6_44 dX6_match_158 ?_
              refine r_iload C rfl dX6_match_161 ?_
              refine r_iaload C rfl (by decide) (by omega) dX6_match_163 ?_
              rw [es]
              refine r_bipush C (by decide +kernel) dX6_match_164 ?_
              refine r_icmp_ne (tgt := 173) C (by decide) (by omega) (by omega) dX6_match_166 (fun c166 => ?_) (fun c166 => ?_)
              · exact absurd rfl c166
              · refine r_iconst C dX6_match_169 ?_
                refine r_goto (tgt := 182) C (by decide) dX6_match_170 ?_
                refine r_ior C (b_or g 0) dX6_match_182 ?_
                rw [Nat.or_zero]
                refine r_istore (ls' := [_, _, _, _, _, _, _, _, _]) C (by decide) rfl rfl dX6_match_183 ?_
                refine r_aload_n C rfl dX6_match_185 ?_
                refine r_getR C 5 12 rfl rfl (by decide) rfl uw_X6 fl_X6_35 dX6_match_186 ?_
                refine r_sipush C (by decide +kernel) dX6_match_189 ?_
                refine r_iload C rfl dX6_match_192 ?_
                refine r_imul C dX6_match_194 ?_
                refine r_sipush C (by decide +kernel) dX6_match_195 ?_
                refine r_iadd C dX6_match_198 ?_
                refine r_iload C rfl dX6_match_199 ?_
                refine r_iadd C dX6_match_201 ?_
                rw [ei]
                refine r_iaload C rfl (by decide) (by omega) dX6_match_202 ?_
                rw [er]
                refine r_istore (ls' := [_, _, _, _, _, _, _, _, _]) C (by decide) rfl rfl dX6_match_203 ?_
                refine r_iinc (ls' := [_, _, _, _, _, _, _, _, _]) C rfl (by decide) rfl rfl dX6_match_205 ?_
                refine r_goto (tgt := 15) C (by decide) dX6_match_208 ?_
                refine PW_lw [true, true, true, true, true, true, true, false, false] (ih (i + 1) υ (by omega) hF hP hR hj2) ?_
                rw [eg]
                rfl
            · omega
          · have eg : sGn D N n (i + 1) = g ||| 2 ^ s := by rw [egn, q, sGo, if_neg (by omega)]; simp
            have hor := g_or hg2 s1
            have er := hR (i + 1) (Nat.zero_le _) (by omega) (g ||| 2 ^ s) hor
            have ei : 256 * (i : Int) + 256 + ((g ||| 2 ^ s : Nat) : Int) = 256 * ((i + 1 : Nat) : Int) + ((g ||| 2 ^ s : Nat) : Int) := by omega
            rw [q] at es
            refine r_iload C rfl dX6_match_43 ?_
            refine r_if_lt (tgt := 155) C (by decide) (by omega) dX6_match_45 (fun c45 => ?_) (fun c45 => ?_)
            · refine r_iload C rfl dX6_match_155 ?_
              refine r_aload_n C rfl dX6_match_157 ?_
              refine r_getR C 5 15 rfl rfl (by decide) rfl uw_X6 fl_X6_44 dX6_match_158 ?_
              refine r_iload C rfl dX6_match_161 ?_
              refine r_iaload C rfl (by decide) (by omega) dX6_match_163 ?_
              rw [es]
              refine r_bipush C (by decide +kernel) dX6_match_164 ?_
              refine r_icmp_ne (tgt := 173) C (by decide) (by omega) (by omega) dX6_match_166 (fun c166 => ?_) (fun c166 => ?_)
              · refine r_iconst C dX6_match_173 ?_
                refine r_aload_n C rfl dX6_match_174 ?_
                refine r_getR C 5 15 rfl rfl (by decide) rfl uw_X6 fl_X6_44 dX6_match_175 ?_
                refine r_iload C rfl dX6_match_178 ?_
                refine r_iaload C rfl (by decide) (by omega) dX6_match_180 ?_
                rw [es]
                refine r_ishl C (b_shl8 s (by omega)) dX6_match_181 ?_
                refine r_ior C (b_or g (2 ^ s)) dX6_match_182 ?_
                refine r_istore (ls' := [_, _, _, _, _, _, _, _, _]) C (by decide) rfl rfl dX6_match_183 ?_
                refine r_aload_n C rfl dX6_match_185 ?_
                refine r_getR C 5 12 rfl rfl (by decide) rfl uw_X6 fl_X6_35 dX6_match_186 ?_
                refine r_sipush C (by decide +kernel) dX6_match_189 ?_
                refine r_iload C rfl dX6_match_192 ?_
                refine r_imul C dX6_match_194 ?_
                refine r_sipush C (by decide +kernel) dX6_match_195 ?_
                refine r_iadd C dX6_match_198 ?_
                refine r_iload C rfl dX6_match_199 ?_
                refine r_iadd C dX6_match_201 ?_
                rw [ei]
                refine r_iaload C rfl (by decide) (by omega) dX6_match_202 ?_
                rw [er]
                refine r_istore (ls' := [_, _, _, _, _, _, _, _, _]) C (by decide) rfl rfl dX6_match_203 ?_
                refine r_iinc (ls' := [_, _, _, _, _, _, _, _, _]) C rfl (by decide) rfl rfl dX6_match_205 ?_
                refine r_goto (tgt := 15) C (by decide) dX6_match_208 ?_
                refine PW_lw [true, true, true, true, true, true, true, false, false] (ih (i + 1) υ (by omega) hF hP hR hj2) ?_
                rw [eg]
                rfl
              · omega
            · omega
        | succ k ihk =>
          intro υ hk hF hP hR hj hs
          have ek : ((k + 1 : Nat) : Int) - 1 = (k : Int) := by omega
          rw [ek]
          have hk8 : k < 8 := by omega
          obtain ⟨hb1, hb2⟩ := g_bit8 g hg256 k hk8
          have e6 := (hP i (by omega) k (by omega)).1
          rw [← hCd] at e6
          have e7 := hR (i + 1) (Nat.zero_le _) (by omega) (g ||| 2 ^ k) (g_or hg2 (by omega))
          have hb3 := hB (n - (i + 1)) (g ||| 2 ^ k)
          have hc0 := hC i k
          have hc1 := hCl i k
          have hor := g_or hg2 (show k < N by omega)
          have ei2 : 256 * (i : Int) + 256 + ((g ||| 2 ^ k : Nat) : Int) = 256 * ((i + 1 : Nat) : Int) + ((g ||| 2 ^ k : Nat) : Int) := by omega
          have hand : g / 2 ^ k &&& 1 ≤ 1 := Nat.and_le_right
          have hp : sP D N n (n - 1 - i) g k = true ↔ g.testBit k = false ∧ D i k < 100000 ∧ D i k + sB D N n (n - (i + 1)) (g ||| 2 ^ k) = sB D N n (n - i) g := by
            have := sP_iff (C := D) (N := N) (n := n) (r := n - 1 - i) (G := g) (s := k)
            rw [eI, ← eni] at this
            rw [show n - (i + 1) = n - 1 - i by omega]
            exact this
          have hpf : ¬ (g.testBit k = false ∧ D i k < 100000 ∧ D i k + sB D N n (n - (i + 1)) (g ||| 2 ^ k) = sB D N n (n - i) g) → false = sP D N n (n - 1 - i) g k := fun q => by
            rcases Bool.eq_false_or_eq_true (sP D N n (n - 1 - i) g k) with z | z
            · exact absurd (hp.mp z) q
            · exact z.symm
          have eN : N - k = (N - (k + 1)) + 1 := by omega
          have mid : ∀ b : Bool, b = sP D N n (n - 1 - i) g k → PW X shM G 123 [some (.ref (G.2.1 0)), some (vI (t : Int)), some (vI y), some (vI h), some (vI (sB D N n (n - i) g)), some (vI (g : Int)), some (vI (i : Int)), some (vI (k : Int)), none] [vI (zB b)] υ := by
            intro b hb
            have next : ∀ v : Int, v = sLow (sP D N n (n - 1 - i) g) k (N - k) → PW X shM G 43 [some (.ref (G.2.1 0)), some (vI (t : Int)), some (vI y), some (vI h), some (vI (sB D N n (n - i) g)), some (vI (g : Int)), some (vI (i : Int)), some (vI ((k : Int) + -1)), none] [] (pw_u υ 11 i v) := fun v hv =>
              ihk _ (by omega) (hF.tr (Fm.u (by decide) (by decide)) (fun _ q => q) (fun _ q => q)) (fun j j1 s s1 => by rw [pw_u_k (by decide), pw_u_k (by decide)]; exact hP j j1 s s1) (fun j j1 j2 G' hG' => by rw [pw_u_k (by decide)]; exact hR j j1 j2 G' hG') (fun j j1 => by rw [pw_u_j (by omega)]; exact hj j j1) (by rw [pw_u_s]; exact hv)
            refine r_istore (ls' := [_, _, _, _, _, _, _, _, _]) C (by decide) rfl rfl dX6_match_123 ?_
            refine r_aload_n C rfl dX6_match_125 ?_
            refine r_getR C 5 15 rfl rfl (by decide) rfl uw_X6 fl_X6_44 dX6_match_126 ?_
            refine r_iload C rfl dX6_match_129 ?_
            refine r_iload C rfl dX6_match_131 ?_
            refine r_ifB_eq (tgt := 141) C (by decide) dX6_match_133 (fun c133 => ?_) (fun c133 => ?_)
            · refine r_aload_n C rfl dX6_match_141 ?_
              refine r_getR C 5 15 rfl rfl (by decide) rfl uw_X6 fl_X6_44 dX6_match_142 ?_
              refine r_iload C rfl dX6_match_145 ?_
              refine r_iaload C rfl (by decide) (by omega) dX6_match_147 ?_
              refine r_iastore C rfl (by decide) (by omega) dX6_match_148 ?_
              refine r_iinc (ls' := [_, _, _, _, _, _, _, _, _]) C rfl (by decide) rfl rfl dX6_match_149 ?_
              refine r_goto (tgt := 43) C (by decide) dX6_match_152 ?_
              refine PW_lw [true, true, true, true, true, true, true, true, false] (next _ ?_) rfl
              rw [hs, eN, sLow, if_neg (by rw [← hb, c133]; decide)]
            · refine r_iload C rfl dX6_match_136 ?_
              refine r_goto (tgt := 148) C (by decide) dX6_match_138 ?_
              refine r_iastore C rfl (by decide) (by omega) dX6_match_148 ?_
              refine r_iinc (ls' := [_, _, _, _, _, _, _, _, _]) C rfl (by decide) rfl rfl dX6_match_149 ?_
              refine r_goto (tgt := 43) C (by decide) dX6_match_152 ?_
              refine PW_lw [true, true, true, true, true, true, true, true, false] (next _ ?_) rfl
              rw [eN, sLow, if_pos (by rw [← hb, c133])]
          refine r_iload C rfl dX6_match_43 ?_
          refine r_if_lt (tgt := 155) C (by decide) (by omega) dX6_match_45 (fun c45 => ?_) (fun c45 => ?_)
          · omega
          · refine r_iload C rfl dX6_match_48 ?_
            refine r_iload C rfl dX6_match_50 ?_
            refine r_ishr C hb1 dX6_match_52 ?_
            refine r_iconst C dX6_match_53 ?_
            refine r_iand C (b_and (g / 2 ^ k) 1) dX6_match_54 ?_
            refine r_if_ne (tgt := 122) C (by decide) (by omega) dX6_match_55 (fun c55 => ?_) (fun c55 => ?_)
            · refine r_iconst C dX6_match_122 ?_
              exact mid false (hpf (fun q => c55 (by rw [hb2.mpr q.1]; rfl)))
            · refine r_aload_n C rfl dX6_match_58 ?_
              refine r_getR C 5 13 rfl rfl (by decide) rfl uw_X6 fl_X6_38 dX6_match_59 ?_
              refine r_bipush C (by decide +kernel) dX6_match_62 ?_
              refine r_iload C rfl dX6_match_64 ?_
              refine r_imul C dX6_match_66 ?_
              rw [Int.mul_comm (8 : Int)]
              refine r_iload C rfl dX6_match_67 ?_
              refine r_iadd C dX6_match_69 ?_
              refine r_iaload C rfl (by decide) (by omega) dX6_match_70 ?_
              rw [e6]
              refine r_ldc C (z := 100000) cn_X6_112 (by decide +kernel) dX6_match_71 ?_
              refine r_icmp_ge (tgt := 122) C (by decide) (by omega) (by omega) dX6_match_73 (fun c73 => ?_) (fun c73 => ?_)
              · refine r_iconst C dX6_match_122 ?_
                exact mid false (hpf (fun q => by omega))
              · refine r_aload_n C rfl dX6_match_76 ?_
                refine r_getR C 5 13 rfl rfl (by decide) rfl uw_X6 fl_X6_38 dX6_match_77 ?_
                refine r_bipush C (by decide +kernel) dX6_match_80 ?_
                refine r_iload C rfl dX6_match_82 ?_
                refine r_imul C dX6_match_84 ?_
                rw [Int.mul_comm (8 : Int)]
                refine r_iload C rfl dX6_match_85 ?_
                refine r_iadd C dX6_match_87 ?_
                refine r_iaload C rfl (by decide) (by omega) dX6_match_88 ?_
                rw [e6]
                refine r_aload_n C rfl dX6_match_89 ?_
                refine r_getR C 5 12 rfl rfl (by decide) rfl uw_X6 fl_X6_35 dX6_match_90 ?_
                refine r_sipush C (by decide +kernel) dX6_match_93 ?_
                refine r_iload C rfl dX6_match_96 ?_
                refine r_imul C dX6_match_98 ?_
                refine r_sipush C (by decide +kernel) dX6_match_99 ?_
                refine r_iadd C dX6_match_102 ?_
                refine r_iload C rfl dX6_match_103 ?_
                refine r_iconst C dX6_match_105 ?_
                refine r_iload C rfl dX6_match_106 ?_
                refine r_ishl C (b_shl8 k (by omega)) dX6_match_108 ?_
                refine r_ior C (b_or g (2 ^ k)) dX6_match_109 ?_
                refine r_iadd C dX6_match_110 ?_
                rw [ei2]
                refine r_iaload C rfl (by decide) (by omega) dX6_match_111 ?_
                rw [e7]
                refine r_iadd C dX6_match_112 ?_
                refine r_iload C rfl dX6_match_113 ?_
                refine r_icmp_ne (tgt := 122) C (by decide) (by omega) (by omega) dX6_match_115 (fun c115 => ?_) (fun c115 => ?_)
                · refine r_iconst C dX6_match_122 ?_
                  exact mid false (hpf (fun q => c115 q.2.2))
                · refine r_iconst C dX6_match_118 ?_
                  refine r_goto (tgt := 123) C (by decide) dX6_match_119 ?_
                  exact mid true (hp.mpr ⟨hb2.mp (by omega), by omega, by omega⟩).symm
      have e5 : υ 5 t = (n : Int) := (congrFun (hF.1 5 (by decide) (by decide)) _).trans hni
      have e0 : υ 0 0 = (N : Int) := (hF.2 0 (by decide) (by decide)).trans hNi
      refine r_iload C rfl dX6_match_15 ?_
      refine r_aload_n C rfl dX6_match_17 ?_
      refine r_getR C 5 7 rfl rfl (by decide) rfl uw_X6 fl_X6_26 dX6_match_18 ?_
      refine r_iload_n C rfl dX6_match_21 ?_
      refine r_iaload C rfl (by decide) (by omega) dX6_match_22 ?_
      refine r_icmp_ge (tgt := 211) C (by decide) (by omega) (by omega) dX6_match_23 (fun c23 => ?_) (fun c23 => ?_)
      · omega
      · refine r_aload_n C rfl dX6_match_26 ?_
        refine r_getR C 5 15 rfl rfl (by decide) rfl uw_X6 fl_X6_44 dX6_match_27 ?_
        refine r_iload C rfl dX6_match_30 ?_
        refine r_bipush C (by decide +kernel) dX6_match_32 ?_
        refine r_iastore C rfl (by decide) (by omega) dX6_match_34 ?_
        refine r_aload_n C rfl dX6_match_35 ?_
        refine r_getI (jz := 0) C 5 0 rfl rfl (by decide) rfl uw_X6 fl_X6_63 rfl dX6_match_36 ?_
        try simp (disch := decide) only [pw_u_k, pw_u_j, pw_u_s]
        rw [e0]
        refine r_iconst C dX6_match_39 ?_
        refine r_isub C dX6_match_40 ?_
        refine r_istore (ls' := [_, _, _, _, _, _, _, _, _]) C (by decide) rfl rfl dX6_match_41 ?_
        refine lp2 N _ (Nat.le_refl N) (hF.tr (Fm.u (by decide) (by decide)) (fun _ q => q) (fun _ q => q)) (fun j j1 s s1 => by rw [pw_u_k (by decide), pw_u_k (by decide)]; exact hP j j1 s s1) (fun j j1 j2 G' hG' => by rw [pw_u_k (by decide)]; exact hR j j1 j2 G' hG') (fun j j1 => by rw [pw_u_j (by omega)]; exact hj j j1) ?_
        rw [pw_u_s, Nat.sub_self]
        rfl
  refine r_aload_n C rfl dX6_match_0 ?_
  refine r_iload_n C rfl dX6_match_1 ?_
  refine r_iload_n C rfl dX6_match_2 ?_
  refine r_iload_n C rfl dX6_match_3 ?_
  refine r_callV (As := [_, _, _]) C (c_X6_lay _ _ _ hI ht hy hh) ok_X6_lay ln_X6_124 rfl rfl rfl rfl (Nat.le_of_ble_eq_true rfl) (Nat.le_of_ble_eq_true rfl) (Nat.le_of_ble_eq_true rfl) dX6_match_4 (fun v4 τ4 hq4 => ?_)
  obtain ⟨rfl, hF, hP, hR⟩ := hq4
  rw [← hN, ← hn] at hP hR
  rw [← hCd] at hR
  have eb : sBest (vM σ) t y h = sB D N n n 0 := by rw [hCd, hN, hn]; rfl
  refine r_istore (ls' := [_, _, _, _, _, _, _, _, _]) C (by decide) rfl rfl dX6_match_7 ?_
  refine r_iconst C dX6_match_9 ?_
  refine r_istore (ls' := [_, _, _, _, _, _, _, _, _]) C (by decide) rfl rfl dX6_match_10 ?_
  refine r_iconst C dX6_match_12 ?_
  refine r_istore (ls' := [_, _, _, _, _, _, _, _, _]) C (by decide) rfl rfl dX6_match_13 ?_
  refine PW_ls (lp n 0 _ (by omega) (hF.tr (Fm.rf (ks := [])) (ks := [8, 9, 10, 11]) (by decide) (by decide)) hP hR (fun j j1 => by omega)) ?_
  rw [eb]
  rfl
set_option maxRecDepth 100000 in
theorem c_X6_mayAsk (l : Launch) (G : pw_G) (σ : pw_H) {t y h : Int} (hI : Inv (vM σ)) (q_t : InI t) (q_y : InI y) (q_h : InI h) : Ct l shM G mX6_mayAsk [.ref (G.2.1 0), vI t, vI y, vI h] σ (pv (if bList (vM σ) t = false then -1 else if bMom y h = false then -2 else 0) σ) := by
  refine Ct_of (ls := [some (.ref (G.2.1 0)), some (vI t), some (vI y), some (vI h)]) (by decide +kernel) (Nat.le_of_ble_eq_true rfl) rfl (fun X C => ?_)
  refine r_aload_n C rfl dX6_mayAsk_0 ?_
  refine r_iload_n C rfl dX6_mayAsk_1 ?_
  refine r_callV (As := [_]) C (c_X6_isList _ _ _ (by omega) hI) ok_X6_isList ln_X6_69 rfl rfl rfl rfl (Nat.le_of_ble_eq_true rfl) (Nat.le_of_ble_eq_true rfl) (Nat.le_of_ble_eq_true rfl) dX6_mayAsk_2 (fun v2 τ2 hq2 => ?_)
  obtain ⟨rfl, rfl⟩ := hq2
  refine r_ifB_ne (tgt := 12) C (by decide) dX6_mayAsk_5 (fun c5 => ?_) (fun c5 => ?_)
  · refine r_iload_n C rfl dX6_mayAsk_12 ?_
    refine r_callS (As := [_]) C (c_X6_isYear _ _ _ (by omega)) ok_X6_isYear ln_X6_90 rfl rfl (Nat.le_of_ble_eq_true rfl) (Nat.le_of_ble_eq_true rfl) (Nat.le_of_ble_eq_true rfl) dX6_mayAsk_13 (fun v13 τ13 hq13 => ?_)
    obtain ⟨rfl, rfl⟩ := hq13
    refine r_ifB_eq (tgt := 26) C (by decide) dX6_mayAsk_16 (fun c16 => ?_) (fun c16 => ?_)
    · refine r_bipush C (by decide +kernel) dX6_mayAsk_26 ?_
      refine r_goto (tgt := 32) C (by decide) dX6_mayAsk_28 ?_
      refine r_ireturn C rfl ?_ dX6_mayAsk_32
      exact pv_of (by simp [bMom, *]) rfl
    · refine r_iload_n C rfl dX6_mayAsk_19 ?_
      refine r_callS (As := [_]) C (c_X6_isShift _ _ _ (by omega)) ok_X6_isShift ln_X6_117 rfl rfl (Nat.le_of_ble_eq_true rfl) (Nat.le_of_ble_eq_true rfl) (Nat.le_of_ble_eq_true rfl) dX6_mayAsk_20 (fun v20 τ20 hq20 => ?_)
      obtain ⟨rfl, rfl⟩ := hq20
      refine r_ifB_ne (tgt := 31) C (by decide) dX6_mayAsk_23 (fun c23 => ?_) (fun c23 => ?_)
      · refine r_iconst C dX6_mayAsk_31 ?_
        refine r_ireturn C rfl ?_ dX6_mayAsk_32
        exact pv_of (by simp [bMom, *]) rfl
      · refine r_bipush C (by decide +kernel) dX6_mayAsk_26 ?_
        refine r_goto (tgt := 32) C (by decide) dX6_mayAsk_28 ?_
        refine r_ireturn C rfl ?_ dX6_mayAsk_32
        exact pv_of (by simp [bMom, *]) rfl
  · refine r_iconst C dX6_mayAsk_8 ?_
    refine r_goto (tgt := 32) C (by decide) dX6_mayAsk_9 ?_
    refine r_ireturn C rfl ?_ dX6_mayAsk_32
    exact pv_of (by simp [bMom, *]) rfl
set_option maxRecDepth 100000 in
theorem c_X6_best (l : Launch) (G : pw_G) (σ : pw_H) {t y h : Int} (hI : Inv (vM σ)) (q_t : InI t) (q_y : InI y) (q_h : InI h) : Ct l shM G mX6_best [.ref (G.2.1 0), vI t, vI y, vI h] σ (pM (s_best (vM σ) t y h)) := by
  have h0 : 0 ≤ σ 0 0 ∧ σ 0 0 ≤ 8 := hI.1
  have h5 : 0 ≤ σ 0 5 ∧ σ 0 5 ≤ 6 := hI.2.1
  have h1 : 0 ≤ σ 0 6 ∧ σ 0 6 ≤ 6 := hI.2.2.1
  refine Ct_of (ls := [some (.ref (G.2.1 0)), some (vI t), some (vI y), some (vI h), none]) (by decide +kernel) (Nat.le_of_ble_eq_true rfl) rfl (fun X C => ?_)
  have key : ((if bList (vM σ) t = false then -1 else if bMom y h = false then -2 else (0 : Int)) = -1 ∧ s_best (vM σ) t y h = (-1, vM σ)) ∨ ((if bList (vM σ) t = false then -1 else if bMom y h = false then -2 else (0 : Int)) = -2 ∧ s_best (vM σ) t y h = (-2, vM σ)) ∨ ((if bList (vM σ) t = false then -1 else if bMom y h = false then -2 else (0 : Int)) = 0 ∧ bList (vM σ) t = true ∧ bMom y h = true) := by
    unfold s_best
    cases bList (vM σ) t <;> cases bMom y h <;> simp
  rcases key with ⟨e1, e2⟩ | ⟨e1, e2⟩ | ⟨e1, c8, c9⟩
  · skip
    refine r_aload_n C rfl dX6_best_0 ?_
    refine r_iload_n C rfl dX6_best_1 ?_
    refine r_iload_n C rfl dX6_best_2 ?_
    refine r_iload_n C rfl dX6_best_3 ?_
    refine r_callV (As := [_, _, _]) C (c_X6_mayAsk _ _ _ hI (by omega) (by omega) (by omega)) ok_X6_mayAsk ln_X6_128 rfl rfl rfl rfl (Nat.le_of_ble_eq_true rfl) (Nat.le_of_ble_eq_true rfl) (Nat.le_of_ble_eq_true rfl) dX6_best_4 (fun v4 τ4 hq4 => ?_)
    obtain ⟨rfl, rfl⟩ := hq4
    rw [e1]
    refine r_istore (ls' := [_, _, _, _, _]) C (by decide) rfl rfl dX6_best_7 ?_
    refine r_iload C rfl dX6_best_9 ?_
    refine r_if_ge (tgt := 19) C (by decide) (by omega) dX6_best_11 (fun c11 => ?_) (fun c11 => ?_)
    · omega
    · refine r_iload C rfl dX6_best_14 ?_
      refine r_goto (tgt := 26) C (by decide) dX6_best_16 ?_
      refine r_ireturn C rfl ?_ dX6_best_26
      exact pM_of e2 rfl
  · skip
    refine r_aload_n C rfl dX6_best_0 ?_
    refine r_iload_n C rfl dX6_best_1 ?_
    refine r_iload_n C rfl dX6_best_2 ?_
    refine r_iload_n C rfl dX6_best_3 ?_
    refine r_callV (As := [_, _, _]) C (c_X6_mayAsk _ _ _ hI (by omega) (by omega) (by omega)) ok_X6_mayAsk ln_X6_128 rfl rfl rfl rfl (Nat.le_of_ble_eq_true rfl) (Nat.le_of_ble_eq_true rfl) (Nat.le_of_ble_eq_true rfl) dX6_best_4 (fun v4 τ4 hq4 => ?_)
    obtain ⟨rfl, rfl⟩ := hq4
    rw [e1]
    refine r_istore (ls' := [_, _, _, _, _]) C (by decide) rfl rfl dX6_best_7 ?_
    refine r_iload C rfl dX6_best_9 ?_
    refine r_if_ge (tgt := 19) C (by decide) (by omega) dX6_best_11 (fun c11 => ?_) (fun c11 => ?_)
    · omega
    · refine r_iload C rfl dX6_best_14 ?_
      refine r_goto (tgt := 26) C (by decide) dX6_best_16 ?_
      refine r_ireturn C rfl ?_ dX6_best_26
      exact pM_of e2 rfl
  · have h8 : 0 ≤ t ∧ t ≤ σ 0 6 - 1 := bList_t c8
    obtain ⟨u, rfl⟩ := Int.eq_ofNat_of_zero_le h8.1
    have h11 := bMom_t c9
    refine r_aload_n C rfl dX6_best_0 ?_
    refine r_iload_n C rfl dX6_best_1 ?_
    refine r_iload_n C rfl dX6_best_2 ?_
    refine r_iload_n C rfl dX6_best_3 ?_
    refine r_callV (As := [_, _, _]) C (c_X6_mayAsk _ _ _ hI (by omega) (by omega) (by omega)) ok_X6_mayAsk ln_X6_128 rfl rfl rfl rfl (Nat.le_of_ble_eq_true rfl) (Nat.le_of_ble_eq_true rfl) (Nat.le_of_ble_eq_true rfl) dX6_best_4 (fun v4 τ4 hq4 => ?_)
    obtain ⟨rfl, rfl⟩ := hq4
    rw [e1]
    refine r_istore (ls' := [_, _, _, _, _]) C (by decide) rfl rfl dX6_best_7 ?_
    refine r_iload C rfl dX6_best_9 ?_
    refine r_if_ge (tgt := 19) C (by decide) (by omega) dX6_best_11 (fun c11 => ?_) (fun c11 => ?_)
    · refine r_aload_n C rfl dX6_best_19 ?_
      refine r_iload_n C rfl dX6_best_20 ?_
      refine r_iload_n C rfl dX6_best_21 ?_
      refine r_iload_n C rfl dX6_best_22 ?_
      refine r_callV (As := [_, _, _]) C (c_X6_lay _ _ _ hI (by omega) h11.1 h11.2) ok_X6_lay ln_X6_124 rfl rfl rfl rfl (Nat.le_of_ble_eq_true rfl) (Nat.le_of_ble_eq_true rfl) (Nat.le_of_ble_eq_true rfl) dX6_best_23 (fun v23 τ23 hq23 => ?_)
      obtain ⟨rfl, hF, -, -⟩ := hq23
      have e2 : vM τ23 = vM σ := hF.vM (by decide)
      refine r_ireturn C rfl ?_ dX6_best_26
      exact pM_of (a := vM σ) (by rw [s_best, if_neg (by simp [c8]), if_neg (by simp [c9])]) e2
    · omega
set_option maxRecDepth 100000 in
theorem c_X6_matched (l : Launch) (G : pw_G) (σ : pw_H) {t i y h : Int} (hI : Inv (vM σ)) (q_t : InI t) (q_i : InI i) (q_y : InI y) (q_h : InI h) : Ct l shM G mX6_matched [.ref (G.2.1 0), vI t, vI i, vI y, vI h] σ (pM (s_matched (vM σ) t i y h)) := by
  have h0 : 0 ≤ σ 0 0 ∧ σ 0 0 ≤ 8 := hI.1
  have h5 : 0 ≤ σ 0 5 ∧ σ 0 5 ≤ 6 := hI.2.1
  have h1 : 0 ≤ σ 0 6 ∧ σ 0 6 ≤ 6 := hI.2.2.1
  refine Ct_of (ls := [some (.ref (G.2.1 0)), some (vI t), some (vI i), some (vI y), some (vI h)]) (by decide +kernel) (Nat.le_of_ble_eq_true rfl) rfl (fun X C => ?_)
  refine r_aload_n C rfl dX6_matched_0 ?_
  refine r_iload_n C rfl dX6_matched_1 ?_
  refine r_iload_n C rfl dX6_matched_2 ?_
  refine r_callV (As := [_, _]) C (c_X6_isLine _ _ _ (by omega) (by omega) hI) ok_X6_isLine ln_X6_99 rfl rfl rfl rfl (Nat.le_of_ble_eq_true rfl) (Nat.le_of_ble_eq_true rfl) (Nat.le_of_ble_eq_true rfl) dX6_matched_3 (fun v3 τ3 hq3 => ?_)
  obtain ⟨rfl, rfl⟩ := hq3
  refine r_ifB_ne (tgt := 11) C (by decide) dX6_matched_6 (fun c6 => ?_) (fun c6 => ?_)
  · have h8 : (0 ≤ t ∧ t ≤ σ 0 6 - 1) ∧ 0 ≤ i ∧ i ≤ σ 5 t - 1 := bLine_t c6
    have h9 : 0 ≤ σ 5 t ∧ σ 5 t ≤ 8 := hI.2.2.2.2.2.2.2.1 t
    obtain ⟨u, rfl⟩ := Int.eq_ofNat_of_zero_le h8.1.1
    obtain ⟨j, rfl⟩ := Int.eq_ofNat_of_zero_le h8.2.1
    refine r_iload_n C rfl dX6_matched_11 ?_
    refine r_callS (As := [_]) C (c_X6_isYear _ _ _ (by omega)) ok_X6_isYear ln_X6_90 rfl rfl (Nat.le_of_ble_eq_true rfl) (Nat.le_of_ble_eq_true rfl) (Nat.le_of_ble_eq_true rfl) dX6_matched_12 (fun v12 τ12 hq12 => ?_)
    obtain ⟨rfl, rfl⟩ := hq12
    refine r_ifB_eq (tgt := 26) C (by decide) dX6_matched_15 (fun c15 => ?_) (fun c15 => ?_)
    · refine r_bipush C (by decide +kernel) dX6_matched_26 ?_
      refine r_ireturn C rfl ?_ dX6_matched_28
      exact pM_of (by simp [s_matched, bMom, *]) rfl
    · have h11 := bIn_iff.mp c15
      refine r_iload C rfl dX6_matched_18 ?_
      refine r_callS (As := [_]) C (c_X6_isShift _ _ _ (by omega)) ok_X6_isShift ln_X6_117 rfl rfl (Nat.le_of_ble_eq_true rfl) (Nat.le_of_ble_eq_true rfl) (Nat.le_of_ble_eq_true rfl) dX6_matched_20 (fun v20 τ20 hq20 => ?_)
      obtain ⟨rfl, rfl⟩ := hq20
      refine r_ifB_ne (tgt := 29) C (by decide) dX6_matched_23 (fun c23 => ?_) (fun c23 => ?_)
      · have h12 := bIn_iff.mp c23
        refine r_aload_n C rfl dX6_matched_29 ?_
        refine r_iload_n C rfl dX6_matched_30 ?_
        refine r_iload_n C rfl dX6_matched_31 ?_
        refine r_iload C rfl dX6_matched_32 ?_
        refine r_callV (As := [_, _, _]) C (c_X6_match _ _ _ hI (by omega) (by omega) (by omega)) ok_X6_match ln_X6_131 rfl rfl rfl rfl (Nat.le_of_ble_eq_true rfl) (Nat.le_of_ble_eq_true rfl) (Nat.le_of_ble_eq_true rfl) dX6_matched_34 (fun v34 τ34 hq34 => ?_)
        obtain ⟨rfl, hF, -, e1⟩ := hq34
        have e2 : vM τ34 = vM σ := hF.vM (by decide)
        have e3 := e1 j (by omega)
        refine r_aload_n C rfl dX6_matched_37 ?_
        refine r_getR C 5 15 rfl rfl (by decide) rfl uw_X6 fl_X6_44 dX6_matched_38 ?_
        refine r_iload_n C rfl dX6_matched_41 ?_
        refine r_iaload C rfl (by decide) (by omega) dX6_matched_42 ?_
        refine r_ireturn C rfl ?_ dX6_matched_43
        exact pM_of (a := vM σ) (by rw [e3]; simp [s_matched, bMom, *]) e2
      · refine r_bipush C (by decide +kernel) dX6_matched_26 ?_
        refine r_ireturn C rfl ?_ dX6_matched_28
        exact pM_of (by simp [s_matched, bMom, *]) rfl
  · refine r_iconst C dX6_matched_9 ?_
    refine r_ireturn C rfl ?_ dX6_matched_10
    exact pM_of (by simp [s_matched, *]) rfl
