/-- the least that the reference holds -/
def tM (c : tA) : Int := if c.1 = -9 then 100000 else c.2.2
theorem ap_eqM {σ a : pw_H} {y h : Int} {p q : Nat} (hv : vM σ = a) (hI : Inv a) (hp : hFm σ a p y h) (hq : hFm σ a q y h) : sSum (fun s => zB (decide (¬ σ 13 ((p : Int) * 8 + s) = σ 13 ((q : Int) * 8 + s)))) (σ 0 0).toNat = sApart a p q y h := by
  subst hv
  have h0 : 0 ≤ σ 0 0 ∧ σ 0 0 ≤ 8 := hI.1
  unfold sApart
  refine sSum_cong (fun s s1 => ?_)
  have s2 : s < (σ 0 0).toNat := s1
  rw [hp s (by omega) (by omega), hq s (by omega) (by omega)]
set_option maxRecDepth 100000 in
set_option maxHeartbeats 8000000 in
theorem c_X6_layTree (l : Launch) (G : pw_G) (σ : pw_H) {y h : Int} (hI : Inv (vM σ)) (hy : -3000 ≤ y ∧ y ≤ 3000) (hh : -600 ≤ h ∧ h ≤ 600) : Ct l shM G mX6_layTree [.ref (G.2.1 0), vI y, vI h] σ (fun r τ => r = some (vI (sTr (vM σ) y h ((σ 0 6).toNat - 1)).2.1) ∧ vM τ = vM σ ∧ ∀ j : Nat, j < (σ 0 6).toNat - 1 → τ 15 j = (sTr (vM σ) y h ((σ 0 6).toNat - 1)).2.2 j) := by
  have h1 : 0 ≤ σ 0 6 ∧ σ 0 6 ≤ 6 := hI.2.2.1
  have hap : ∀ p q : Int, 0 ≤ sApart (vM σ) p q y h ∧ sApart (vM σ) p q y h < 9 := fun p q => sApart_r hI p q y h
  have hap9 : ∀ p q : Int, sApart (vM σ) p q y h < 9 := fun p q => (hap p q).2
  refine Ct_of (ls := [some (.ref (G.2.1 0)), some (vI y), some (vI h), none, none, none, none, none, none]) (by decide +kernel) (Nat.le_of_ble_eq_true rfl) rfl (fun X C => ?_)
  have loop2 : ∀ (w k : Nat) (υ : pw_H) (z5 z6 z7 z8 : Option Value), k + w = (σ 0 6).toNat - 1 → vM υ = vM σ → (∀ t : Nat, t < (σ 0 6).toNat → hFm υ (vM σ) t y h) → (∀ l : Int, 0 ≤ l → l < (σ 0 6).toNat → υ 14 l = (sTr (vM σ) y h k).1 l) → (∀ j : Nat, j < k → υ 15 j = (sTr (vM σ) y h k).2.2 j) → PW X shM G 35 [some (.ref (G.2.1 0)), some (vI y), some (vI h), some (vI (sTr (vM σ) y h k).2.1), some (vI (k : Int)), z5, z6, z7, z8] [] υ := by
    intro w
    induction w with
    | zero =>
      intro k υ z5 z6 z7 z8 hk e2 hF hg h15
      have e1 : υ 0 6 = σ 0 6 := congrFun (congrFun e2 0) 2
      have ek : k = (σ 0 6).toNat - 1 := by omega
      subst ek
      refine r_iload C rfl dX6_layTree_35 ?_
      refine r_iconst C dX6_layTree_37 ?_
      refine r_iadd C dX6_layTree_38 ?_
      refine r_aload_n C rfl dX6_layTree_39 ?_
      refine r_getI (jz := 6) C 5 6 rfl rfl (by decide) rfl uw_X6 fl_X6_66 rfl dX6_layTree_40 ?_
      refine r_icmp_ge (tgt := 238) C (by decide) (by omega) (by omega) dX6_layTree_43 (fun c43 => ?_) (fun c43 => ?_)
      · refine r_iload_n C rfl dX6_layTree_238 ?_
        refine r_ireturn C rfl ?_ dX6_layTree_239
        exact ⟨rfl, e2, h15⟩
      · omega
    | succ w ih =>
      intro k υ z5 z6 z7 z8 hk e2 hF hg h15
      have e1 : υ 0 6 = σ 0 6 := congrFun (congrFun e2 0) 2
      have hr := tS_rng (fun p q => sApart (vM σ) p q y h) (σ 0 6).toNat k (by omega) hap9
      have hfd := tS_found (ap := (fun p q => sApart (vM σ) p q y h)) (n := (σ 0 6).toNat) hap9 (k := k) (by omega)
      have hsu : (sTr (vM σ) y h (k + 1)).2.1 = (sTr (vM σ) y h k).2.1 + (tPk (fun p q => sApart (vM σ) p q y h) (sTr (vM σ) y h k).1 (σ 0 6).toNat).2.2 := rfl
      have hgu : (sTr (vM σ) y h (k + 1)).1 = tG (sTr (vM σ) y h k).1 (tPk (fun p q => sApart (vM σ) p q y h) (sTr (vM σ) y h k).1 (σ 0 6).toNat).1 (tPk (fun p q => sApart (vM σ) p q y h) (sTr (vM σ) y h k).1 (σ 0 6).toNat).2.1 := rfl
      have hro : (sTr (vM σ) y h (k + 1)).2.2 = fun j => if j = (k : Int) then 10 * (tPk (fun p q => sApart (vM σ) p q y h) (sTr (vM σ) y h k).1 (σ 0 6).toNat).1 + (tPk (fun p q => sApart (vM σ) p q y h) (sTr (vM σ) y h k).1 (σ 0 6).toNat).2.1 else (sTr (vM σ) y h k).2.2 j := rfl
      rw [show (tS (fun p q => sApart (vM σ) p q y h) (σ 0 6).toNat k).1 = (sTr (vM σ) y h k).1 from rfl] at hr hfd
      obtain ⟨g, hge⟩ : ∃ g, g = (sTr (vM σ) y h k).1 := ⟨_, rfl⟩
      rw [← hge] at hr hfd hsu hgu hro hg
      obtain ⟨S, hSe⟩ : ∃ S, S = (sTr (vM σ) y h k).2.1 := ⟨_, rfl⟩
      rw [← hSe] at hsu ⊢
      -- the part behind the choice
      have fin : ∀ (c : tA) (ρ : pw_H) (z6 z7 z8 : Option Value), c = tPk (fun p q => sApart (vM σ) p q y h) g (σ 0 6).toNat → Fm [15] υ ρ → (∀ j : Int, ¬ j = k → ρ 15 j = υ 15 j) → (¬ c.1 = -9 → ρ 15 k = 10 * c.1 + c.2.1) → PW X shM G 144 [some (.ref (G.2.1 0)), some (vI y), some (vI h), some (vI S), some (vI (k : Int)), some (vI (tM c)), z6, z7, z8] [] ρ := by
        intro c ρ z6 z7 z8 hc hR hro1 hrk
        rw [← hc] at hfd hsu hgu hro
        have f15 := hrk (by omega)
        have g1 : ρ 14 c.1 = g c.1 := (congrFun (hR.1 14 (by decide) (by decide)) _).trans (hg _ (by omega) (by omega))
        have g2 : ρ 14 c.2.1 = g c.2.1 := (congrFun (hR.1 14 (by decide) (by decide)) _).trans (hg _ (by omega) (by omega))
        have r1 := hr c.1 (by omega) (by omega)
        have r2 := hr c.2.1 (by omega) (by omega)
        have em : tM c = c.2.2 := if_neg (by omega)
        have d1 : Int.tmod (10 * c.1 + c.2.1) 10 = c.2.1 := by rw [Int.tmod_eq_emod_of_nonneg (by omega)]; omega
        have d2 : Int.tdiv (10 * c.1 + c.2.1) 10 = c.1 := by rw [Int.tdiv_eq_ediv_of_nonneg (by omega)]; omega
        have loop3 : ∀ (v i : Nat) (ω : pw_H), i + v = (σ 0 6).toNat → Fm [14] ρ ω → (∀ l : Int, 0 ≤ l → l < i → ω 14 l = tG g c.1 c.2.1 l) → (∀ l : Int, i ≤ l → ω 14 l = ρ 14 l) → PW X shM G 186 [some (.ref (G.2.1 0)), some (vI y), some (vI h), some (vI (S + c.2.2)), some (vI (k : Int)), some (vI c.2.2), some (vI (g c.2.1)), some (vI (g c.1)), some (vI (i : Int))] [] ω := by
          intro v
          induction v with
          | zero =>
            intro i ω hi hW hlo hhi
            have e3 : ω 0 6 = σ 0 6 := ((hW.2 6 (by decide) (by decide)).trans (hR.2 6 (by decide) (by decide))).trans e1
            have w15 : ω 15 = ρ 15 := hW.1 15 (by decide) (by decide)
            have w13 : ω 13 = υ 13 := (hW.1 13 (by decide) (by decide)).trans (hR.1 13 (by decide) (by decide))
            refine r_iload C rfl dX6_layTree_186 ?_
            refine r_aload_n C rfl dX6_layTree_188 ?_
            refine r_getI (jz := 6) C 5 6 rfl rfl (by decide) rfl uw_X6 fl_X6_66 rfl dX6_layTree_189 ?_
            refine r_icmp_ge (tgt := 232) C (by decide) (by omega) (by omega) dX6_layTree_192 (fun c192 => ?_) (fun c192 => ?_)
            · refine r_iinc (ls' := [_, _, _, _, _, _, _, _, _]) C rfl (by decide) rfl rfl dX6_layTree_232 ?_
              refine r_goto (tgt := 35) C (by decide) dX6_layTree_235 ?_
              refine PW_ls (ih (k + 1) ω _ _ _ _ (by omega) ((hW.vM (by decide)).trans ((hR.vM (by decide)).trans e2)) (fun t t1 s s1 s2 => by rw [w13]; exact hF t t1 s s1 s2) (fun l l1 l2 => by rw [hgu]; exact hlo l l1 (by omega)) (fun j j1 => ?_)) (by rw [hsu]; rfl)
              rw [w15, hro]
              simp only []
              by_cases z : j = k
              · subst z; rw [if_pos rfl]; exact f15
              · rw [if_neg (by omega), hro1 _ (by omega)]; exact h15 j (by omega)
            · omega
          | succ v ihv =>
            intro i ω hi hW hlo hhi
            have e3 : ω 0 6 = σ 0 6 := ((hW.2 6 (by decide) (by decide)).trans (hR.2 6 (by decide) (by decide))).trans e1
            have q1 : ω 14 i = g i := (hhi i (by omega)).trans ((congrFun (hR.1 14 (by decide) (by decide)) _).trans (hg _ (by omega) (by omega)))
            have q2 := hr i (by omega) (by omega)
            refine r_iload C rfl dX6_layTree_186 ?_
            refine r_aload_n C rfl dX6_layTree_188 ?_
            refine r_getI (jz := 6) C 5 6 rfl rfl (by decide) rfl uw_X6 fl_X6_66 rfl dX6_layTree_189 ?_
            refine r_icmp_ge (tgt := 232) C (by decide) (by omega) (by omega) dX6_layTree_192 (fun c192 => ?_) (fun c192 => ?_)
            · omega
            · refine r_aload_n C rfl dX6_layTree_195 ?_
              refine r_getR C 5 18 rfl rfl (by decide) rfl uw_X6 fl_X6_53 dX6_layTree_196 ?_
              refine r_iload C rfl dX6_layTree_199 ?_
              refine r_aload_n C rfl dX6_layTree_201 ?_
              refine r_getR C 5 18 rfl rfl (by decide) rfl uw_X6 fl_X6_53 dX6_layTree_202 ?_
              refine r_iload C rfl dX6_layTree_205 ?_
              refine r_iaload C rfl (by decide) (by omega) dX6_layTree_207 ?_
              refine r_iload C rfl dX6_layTree_208 ?_
              refine r_icmp_ne (tgt := 218) C (by decide) (by omega) (by omega) dX6_layTree_210 (fun c210 => ?_) (fun c210 => ?_)
              · refine r_aload_n C rfl dX6_layTree_218 ?_
                refine r_getR C 5 18 rfl rfl (by decide) rfl uw_X6 fl_X6_53 dX6_layTree_219 ?_
                refine r_iload C rfl dX6_layTree_222 ?_
                refine r_iaload C rfl (by decide) (by omega) dX6_layTree_224 ?_
                refine r_iastore C rfl (by decide) (by omega) dX6_layTree_225 ?_
                refine r_iinc (ls' := [_, _, _, _, _, _, _, _, _]) C rfl (by decide) rfl rfl dX6_layTree_226 ?_
                refine r_goto (tgt := 186) C (by decide) dX6_layTree_229 ?_
                refine ihv (i + 1) _ (by omega) (hW.tr (Fm.u (by decide) (by decide)) (fun _ q => q) (fun _ q => q)) (fun l l1 l2 => ?_) (fun l l1 => by rw [pw_u_j (by omega)]; exact hhi l (by omega))
                by_cases z : l = i
                · subst z
                  rw [pw_u_s]
                  unfold tG
                  first | (rw [if_pos (by omega)]; done) | (rw [if_neg (by omega)]; exact q1)
                · rw [pw_u_j z]; exact hlo l l1 (by omega)
              · refine r_iload C rfl dX6_layTree_213 ?_
                refine r_goto (tgt := 225) C (by decide) dX6_layTree_215 ?_
                refine r_iastore C rfl (by decide) (by omega) dX6_layTree_225 ?_
                refine r_iinc (ls' := [_, _, _, _, _, _, _, _, _]) C rfl (by decide) rfl rfl dX6_layTree_226 ?_
                refine r_goto (tgt := 186) C (by decide) dX6_layTree_229 ?_
                refine ihv (i + 1) _ (by omega) (hW.tr (Fm.u (by decide) (by decide)) (fun _ q => q) (fun _ q => q)) (fun l l1 l2 => ?_) (fun l l1 => by rw [pw_u_j (by omega)]; exact hhi l (by omega))
                by_cases z : l = i
                · subst z
                  rw [pw_u_s]
                  unfold tG
                  first | (rw [if_pos (by omega)]; done) | (rw [if_neg (by omega)]; exact q1)
                · rw [pw_u_j z]; exact hlo l l1 (by omega)
        refine r_iload_n C rfl dX6_layTree_144 ?_
        refine r_iload C rfl dX6_layTree_145 ?_
        refine r_iadd C dX6_layTree_147 ?_
        refine r_istore_n (ls' := [_, _, _, _, _, _, _, _, _]) C (by decide) rfl rfl dX6_layTree_148 ?_
        refine r_aload_n C rfl dX6_layTree_149 ?_
        refine r_getR C 5 18 rfl rfl (by decide) rfl uw_X6 fl_X6_53 dX6_layTree_150 ?_
        refine r_aload_n C rfl dX6_layTree_153 ?_
        refine r_getR C 5 19 rfl rfl (by decide) rfl uw_X6 fl_X6_56 dX6_layTree_154 ?_
        refine r_iload C rfl dX6_layTree_157 ?_
        refine r_iaload C rfl (by decide) (by omega) dX6_layTree_159 ?_
        rw [f15]
        refine r_bipush C (by decide +kernel) dX6_layTree_160 ?_
        refine r_irem C (by omega) (by omega) (by omega) dX6_layTree_162 ?_
        rw [d1]
        refine r_iaload C rfl (by decide) (by omega) dX6_layTree_163 ?_
        rw [g2]
        refine r_istore (ls' := [_, _, _, _, _, _, _, _, _]) C (by decide) rfl rfl dX6_layTree_164 ?_
        refine r_aload_n C rfl dX6_layTree_166 ?_
        refine r_getR C 5 18 rfl rfl (by decide) rfl uw_X6 fl_X6_53 dX6_layTree_167 ?_
        refine r_aload_n C rfl dX6_layTree_170 ?_
        refine r_getR C 5 19 rfl rfl (by decide) rfl uw_X6 fl_X6_56 dX6_layTree_171 ?_
        refine r_iload C rfl dX6_layTree_174 ?_
        refine r_iaload C rfl (by decide) (by omega) dX6_layTree_176 ?_
        rw [f15]
        refine r_bipush C (by decide +kernel) dX6_layTree_177 ?_
        refine r_idiv C (by omega) (by omega) (by omega) dX6_layTree_179 ?_
        rw [d2]
        refine r_iaload C rfl (by decide) (by omega) dX6_layTree_180 ?_
        rw [g1]
        refine r_istore (ls' := [_, _, _, _, _, _, _, _, _]) C (by decide) rfl rfl dX6_layTree_181 ?_
        refine r_iconst C dX6_layTree_183 ?_
        refine r_istore (ls' := [_, _, _, _, _, _, _, _, _]) C (by decide) rfl rfl dX6_layTree_184 ?_
        refine PW_ls (loop3 (σ 0 6).toNat 0 ρ (by omega) Fm.rf (fun l l1 l2 => by omega) (fun l l1 => rfl)) (by rw [em]; rfl)
      have inner : ∀ (v p j : Nat) (c0 : tA), c0 = tOut (fun p q => sApart (vM σ) p q y h) g (σ 0 6).toNat (-9, -9, 9) p → p < (σ 0 6).toNat → j + v = (σ 0 6).toNat - (p + 1) → (∀ (c : tA) (ρ : pw_H) (z7 z8 : Option Value), c = tOut (fun p q => sApart (vM σ) p q y h) g (σ 0 6).toNat (-9, -9, 9) (p + 1) → Fm [15] υ ρ → (∀ j : Int, ¬ j = k → ρ 15 j = υ 15 j) → (¬ c.1 = -9 → ρ 15 k = 10 * c.1 + c.2.1) → PW X shM G 138 [some (.ref (G.2.1 0)), some (vI y), some (vI h), some (vI S), some (vI (k : Int)), some (vI (tM c)), some (vI (p : Int)), z7, z8] [] ρ) → ∀ (c : tA) (ρ : pw_H) (z8 : Option Value), c = tIn (fun p q => sApart (vM σ) p q y h) g p (p + 1) c0 j → Fm [15] υ ρ → (∀ j : Int, ¬ j = k → ρ 15 j = υ 15 j) → (¬ c.1 = -9 → ρ 15 k = 10 * c.1 + c.2.1) → PW X shM G 68 [some (.ref (G.2.1 0)), some (vI y), some (vI h), some (vI S), some (vI (k : Int)), some (vI (tM c)), some (vI (p : Int)), some (vI ((p + 1 + j : Nat) : Int)), z8] [] ρ := by
        intro v
        induction v with
        | zero =>
          intro p j c0 hc0 hp hj hout c ρ z8 hc hR hro1 hrk
          have e3 : ρ 0 6 = σ 0 6 := (hR.2 6 (by decide) (by decide)).trans e1
          refine r_iload C rfl dX6_layTree_68 ?_
          refine r_aload_n C rfl dX6_layTree_70 ?_
          refine r_getI (jz := 6) C 5 6 rfl rfl (by decide) rfl uw_X6 fl_X6_66 rfl dX6_layTree_71 ?_
          refine r_icmp_ge (tgt := 138) C (by decide) (by omega) (by omega) dX6_layTree_74 (fun c74 => ?_) (fun c74 => ?_)
          · refine hout c ρ _ _ ?_ hR hro1 hrk
            rw [hc, hc0, show j = (σ 0 6).toNat - (p + 1) by omega]
            rfl
          · omega
        | succ v ihv =>
          intro p j c0 hc0 hp hj hout c ρ z8 hc hR hro1 hrk
          have e3 : ρ 0 6 = σ 0 6 := (hR.2 6 (by decide) (by decide)).trans e1
          have e4 : vM ρ = vM σ := (hR.vM (by decide)).trans e2
          have g1 : ρ 14 p = g p := (congrFun (hR.1 14 (by decide) (by decide)) _).trans (hg _ (by omega) (by omega))
          have g2 : ρ 14 ((p + 1 + j : Nat) : Int) = g ((p + 1 + j : Nat) : Int) := (congrFun (hR.1 14 (by decide) (by decide)) _).trans (hg _ (by omega) (by omega))
          have r1 := hr p (by omega) (by omega)
          have r2 := hr ((p + 1 + j : Nat) : Int) (by omega) (by omega)
          have a1 := hap p ((p + 1 + j : Nat) : Int)
          have w13 : ρ 13 = υ 13 := hR.1 13 (by decide) (by decide)
          have f1 : hFm ρ (vM σ) p y h := fun s s1 s2 => by rw [w13]; exact hF p (by omega) s s1 s2
          have f2 : hFm ρ (vM σ) ((p + 1 + j : Nat) : Int) y h := fun s s1 s2 => by rw [w13]; exact hF (p + 1 + j) (by omega) s s1 s2
          have hI2 : tI (fun p q => sApart (vM σ) p q y h) (σ 0 6).toNat c := by
            rw [hc, hc0]
            exact tIn_I (Nat.lt_succ_self p) (tOut_I (Or.inl rfl) p (by omega)) j (by omega)
          have hcm : (c.1 = -9 ∧ c.2.2 = 9 ∧ tM c = 100000) ∨ (0 ≤ c.1 ∧ tM c = c.2.2 ∧ 0 ≤ c.2.2 ∧ c.2.2 < 9) := by
            rcases hI2 with z | z
            · rw [z]; exact Or.inl ⟨rfl, rfl, rfl⟩
            · have z1 := hap c.1 c.2.1
              have z2 : c.2.2 = sApart (vM σ) c.1 c.2.1 y h := z.2.2.2.1
              exact Or.inr ⟨z.1, if_neg (by omega), by omega, by omega⟩
          have ea := ap_eqM (p := p) (q := p + 1 + j) e4 hI f1 f2
          have es : tIn (fun p q => sApart (vM σ) p q y h) g p (p + 1) c0 (j + 1) = tB (fun p q => sApart (vM σ) p q y h) g p ((p + 1 + j : Nat) : Int) c := by rw [hc]; rfl
          have el : ((p + 1 + j : Nat) : Int) + 1 = ((p + 1 + (j + 1) : Nat) : Int) := by omega
          have stay : ¬ (¬ g p = g ((p + 1 + j : Nat) : Int) ∧ sApart (vM σ) p ((p + 1 + j : Nat) : Int) y h < c.2.2) → PW X shM G 68 [some (.ref (G.2.1 0)), some (vI y), some (vI h), some (vI S), some (vI (k : Int)), some (vI (tM c)), some (vI (p : Int)), some (vI (((p + 1 + j : Nat) : Int) + 1)), z8] [] ρ := by
            intro hz
            have e5 : tB (fun p q => sApart (vM σ) p q y h) g p ((p + 1 + j : Nat) : Int) c = c := by unfold tB; rw [if_neg hz]
            rw [el]
            exact ihv p (j + 1) c0 hc0 hp (by omega) hout c ρ z8 (by rw [es, e5]) hR hro1 hrk
          refine r_iload C rfl dX6_layTree_68 ?_
          refine r_aload_n C rfl dX6_layTree_70 ?_
          refine r_getI (jz := 6) C 5 6 rfl rfl (by decide) rfl uw_X6 fl_X6_66 rfl dX6_layTree_71 ?_
          refine r_icmp_ge (tgt := 138) C (by decide) (by omega) (by omega) dX6_layTree_74 (fun c74 => ?_) (fun c74 => ?_)
          · omega
          · refine r_aload_n C rfl dX6_layTree_77 ?_
            refine r_getR C 5 18 rfl rfl (by decide) rfl uw_X6 fl_X6_53 dX6_layTree_78 ?_
            refine r_iload C rfl dX6_layTree_81 ?_
            refine r_iaload C rfl (by decide) (by omega) dX6_layTree_83 ?_
            refine r_aload_n C rfl dX6_layTree_84 ?_
            refine r_getR C 5 18 rfl rfl (by decide) rfl uw_X6 fl_X6_53 dX6_layTree_85 ?_
            refine r_iload C rfl dX6_layTree_88 ?_
            refine r_iaload C rfl (by decide) (by omega) dX6_layTree_90 ?_
            refine r_icmp_eq (tgt := 132) C (by decide) (by omega) (by omega) dX6_layTree_91 (fun c91 => ?_) (fun c91 => ?_)
            · refine r_iinc (ls' := [_, _, _, _, _, _, _, _, _]) C rfl (by decide) rfl rfl dX6_layTree_132 ?_
              refine r_goto (tgt := 68) C (by decide) dX6_layTree_135 ?_
              exact stay (by omega)
            · refine r_aload_n C rfl dX6_layTree_94 ?_
              refine r_iload C rfl dX6_layTree_95 ?_
              refine r_iload C rfl dX6_layTree_97 ?_
              refine r_callV (As := [_, _]) C (c_X6_apartOf _ _ _ (e4 ▸ hI) (by omega) (by omega) (fun s s1 s2 => ⟨hFm_r f1 s s1 s2, hFm_r f2 s s1 s2⟩)) ok_X6_apartOf ln_X6_148 rfl rfl rfl rfl (Nat.le_of_ble_eq_true rfl) (Nat.le_of_ble_eq_true rfl) (Nat.le_of_ble_eq_true rfl) dX6_layTree_99 (fun v99 τ99 hq99 => ?_)
              obtain ⟨rfl, rfl⟩ := hq99
              rw [ea]
              refine r_iload C rfl dX6_layTree_102 ?_
              refine r_icmp_ge (tgt := 132) C (by decide) (by omega) (by omega) dX6_layTree_104 (fun c104 => ?_) (fun c104 => ?_)
              · refine r_iinc (ls' := [_, _, _, _, _, _, _, _, _]) C rfl (by decide) rfl rfl dX6_layTree_132 ?_
                refine r_goto (tgt := 68) C (by decide) dX6_layTree_135 ?_
                exact stay (by omega)
              · refine r_aload_n C rfl dX6_layTree_107 ?_
                refine r_iload C rfl dX6_layTree_108 ?_
                refine r_iload C rfl dX6_layTree_110 ?_
                refine r_callV (As := [_, _]) C (c_X6_apartOf _ _ _ (e4 ▸ hI) (by omega) (by omega) (fun s s1 s2 => ⟨hFm_r f1 s s1 s2, hFm_r f2 s s1 s2⟩)) ok_X6_apartOf ln_X6_148 rfl rfl rfl rfl (Nat.le_of_ble_eq_true rfl) (Nat.le_of_ble_eq_true rfl) (Nat.le_of_ble_eq_true rfl) dX6_layTree_112 (fun v112 τ112 hq112 => ?_)
                obtain ⟨rfl, rfl⟩ := hq112
                rw [ea]
                refine r_istore (ls' := [_, _, _, _, _, _, _, _, _]) C (by decide) rfl rfl dX6_layTree_115 ?_
                refine r_aload_n C rfl dX6_layTree_117 ?_
                refine r_getR C 5 19 rfl rfl (by decide) rfl uw_X6 fl_X6_56 dX6_layTree_118 ?_
                refine r_iload C rfl dX6_layTree_121 ?_
                refine r_bipush C (by decide +kernel) dX6_layTree_123 ?_
                refine r_iload C rfl dX6_layTree_125 ?_
                refine r_imul C dX6_layTree_127 ?_
                refine r_iload C rfl dX6_layTree_128 ?_
                refine r_iadd C dX6_layTree_130 ?_
                refine r_iastore C rfl (by decide) (by omega) dX6_layTree_131 ?_
                refine r_iinc (ls' := [_, _, _, _, _, _, _, _, _]) C rfl (by decide) rfl rfl dX6_layTree_132 ?_
                refine r_goto (tgt := 68) C (by decide) dX6_layTree_135 ?_
                have e5 : tB (fun p q => sApart (vM σ) p q y h) g p ((p + 1 + j : Nat) : Int) c = ((p : Int), ((p + 1 + j : Nat) : Int), sApart (vM σ) p ((p + 1 + j : Nat) : Int) y h) := by unfold tB; rw [if_pos ⟨by omega, (by omega : sApart (vM σ) p ((p + 1 + j : Nat) : Int) y h < c.2.2)⟩]
                have e6 : tM ((p : Int), ((p + 1 + j : Nat) : Int), sApart (vM σ) p ((p + 1 + j : Nat) : Int) y h) = sApart (vM σ) p ((p + 1 + j : Nat) : Int) y h := if_neg (by simp only []; omega)
                rw [el]
                refine PW_ls (ihv p (j + 1) c0 hc0 hp (by omega) hout _ _ _ (es.trans e5).symm (hR.tr (Fm.u (by decide) (by decide)) (fun _ q => q) (fun _ q => q)) (fun i i1 => by rw [pw_u_j i1]; exact hro1 i i1) (fun _ => pw_u_s _ _ _ _)) (by rw [e6])
      have loop : ∀ (v p : Nat) (c : tA) (ρ : pw_H) (z7 z8 : Option Value), p + v = (σ 0 6).toNat → c = tOut (fun p q => sApart (vM σ) p q y h) g (σ 0 6).toNat (-9, -9, 9) p → Fm [15] υ ρ → (∀ j : Int, ¬ j = k → ρ 15 j = υ 15 j) → (¬ c.1 = -9 → ρ 15 k = 10 * c.1 + c.2.1) → PW X shM G 53 [some (.ref (G.2.1 0)), some (vI y), some (vI h), some (vI S), some (vI (k : Int)), some (vI (tM c)), some (vI (p : Int)), z7, z8] [] ρ := by
        intro v
        induction v with
        | zero =>
          intro p c ρ z7 z8 hp hc hR hro1 hrk
          have e3 : ρ 0 6 = σ 0 6 := (hR.2 6 (by decide) (by decide)).trans e1
          refine r_iload C rfl dX6_layTree_53 ?_
          refine r_aload_n C rfl dX6_layTree_55 ?_
          refine r_getI (jz := 6) C 5 6 rfl rfl (by decide) rfl uw_X6 fl_X6_66 rfl dX6_layTree_56 ?_
          refine r_icmp_ge (tgt := 144) C (by decide) (by omega) (by omega) dX6_layTree_59 (fun c59 => ?_) (fun c59 => ?_)
          · exact fin c ρ _ _ _ (by rw [hc, show p = (σ 0 6).toNat by omega]; rfl) hR hro1 hrk
          · omega
        | succ v ihv =>
          intro p c ρ z7 z8 hp hc hR hro1 hrk
          have e3 : ρ 0 6 = σ 0 6 := (hR.2 6 (by decide) (by decide)).trans e1
          have hout : ∀ (c : tA) (ρ : pw_H) (z7 z8 : Option Value), c = tOut (fun p q => sApart (vM σ) p q y h) g (σ 0 6).toNat (-9, -9, 9) (p + 1) → Fm [15] υ ρ → (∀ j : Int, ¬ j = k → ρ 15 j = υ 15 j) → (¬ c.1 = -9 → ρ 15 k = 10 * c.1 + c.2.1) → PW X shM G 138 [some (.ref (G.2.1 0)), some (vI y), some (vI h), some (vI S), some (vI (k : Int)), some (vI (tM c)), some (vI (p : Int)), z7, z8] [] ρ := by
            intro c ρ z7 z8 hc hR hro1 hrk
            refine r_iinc (ls' := [_, _, _, _, _, _, _, _, _]) C rfl (by decide) rfl rfl dX6_layTree_138 ?_
            refine r_goto (tgt := 53) C (by decide) dX6_layTree_141 ?_
            exact ihv (p + 1) c ρ z7 z8 (by omega) hc hR hro1 hrk
          refine r_iload C rfl dX6_layTree_53 ?_
          refine r_aload_n C rfl dX6_layTree_55 ?_
          refine r_getI (jz := 6) C 5 6 rfl rfl (by decide) rfl uw_X6 fl_X6_66 rfl dX6_layTree_56 ?_
          refine r_icmp_ge (tgt := 144) C (by decide) (by omega) (by omega) dX6_layTree_59 (fun c59 => ?_) (fun c59 => ?_)
          · omega
          · refine r_iload C rfl dX6_layTree_62 ?_
            refine r_iconst C dX6_layTree_64 ?_
            refine r_iadd C dX6_layTree_65 ?_
            refine r_istore (ls' := [_, _, _, _, _, _, _, _, _]) C (by decide) rfl rfl dX6_layTree_66 ?_
            exact inner ((σ 0 6).toNat - (p + 1)) p 0 c hc (by omega) (by omega) hout c ρ _ rfl hR hro1 hrk
      refine r_iload C rfl dX6_layTree_35 ?_
      refine r_iconst C dX6_layTree_37 ?_
      refine r_iadd C dX6_layTree_38 ?_
      refine r_aload_n C rfl dX6_layTree_39 ?_
      refine r_getI (jz := 6) C 5 6 rfl rfl (by decide) rfl uw_X6 fl_X6_66 rfl dX6_layTree_40 ?_
      refine r_icmp_ge (tgt := 238) C (by decide) (by omega) (by omega) dX6_layTree_43 (fun c43 => ?_) (fun c43 => ?_)
      · omega
      · refine r_ldc C (z := 100000) cn_X6_112 (by decide +kernel) dX6_layTree_46 ?_
        refine r_istore (ls' := [_, _, _, _, _, _, _, _, _]) C (by decide) rfl rfl dX6_layTree_48 ?_
        refine r_iconst C dX6_layTree_50 ?_
        refine r_istore (ls' := [_, _, _, _, _, _, _, _, _]) C (by decide) rfl rfl dX6_layTree_51 ?_
        exact loop (σ 0 6).toNat 0 (-9, -9, 9) υ _ _ (by omega) rfl Fm.rf (fun j _ => rfl) (fun q => absurd rfl q)
  have loop1 : ∀ (w t : Nat) (υ : pw_H), t + w = (σ 0 6).toNat → vM υ = vM σ → (∀ u : Nat, u < t → hFm υ (vM σ) u y h) → (∀ l : Int, 0 ≤ l → l < t → υ 14 l = l) → PW X shM G 2 [some (.ref (G.2.1 0)), some (vI y), some (vI h), some (vI (t : Int)), none, none, none, none, none] [] υ := by
    intro w
    induction w with
    | zero =>
      intro t υ ht e2 hF hg
      have e1 : υ 0 6 = σ 0 6 := congrFun (congrFun e2 0) 2
      have et : t = (σ 0 6).toNat := by omega
      subst et
      refine r_iload_n C rfl dX6_layTree_2 ?_
      refine r_aload_n C rfl dX6_layTree_3 ?_
      refine r_getI (jz := 6) C 5 6 rfl rfl (by decide) rfl uw_X6 fl_X6_66 rfl dX6_layTree_4 ?_
      refine r_icmp_ge (tgt := 30) C (by decide) (by omega) (by omega) dX6_layTree_7 (fun c7 => ?_) (fun c7 => ?_)
      · refine r_iconst C dX6_layTree_30 ?_
        refine r_istore_n (ls' := [_, _, _, _, _, _, _, _, _]) C (by decide) rfl rfl dX6_layTree_31 ?_
        refine r_iconst C dX6_layTree_32 ?_
        refine r_istore (ls' := [_, _, _, _, _, _, _, _, _]) C (by decide) rfl rfl dX6_layTree_33 ?_
        exact loop2 ((σ 0 6).toNat - 1) 0 υ _ _ _ _ (by omega) e2 hF hg (fun j j1 => by omega)
      · omega
    | succ w ih =>
      intro t υ ht e2 hF hg
      have e1 : υ 0 6 = σ 0 6 := congrFun (congrFun e2 0) 2
      refine r_iload_n C rfl dX6_layTree_2 ?_
      refine r_aload_n C rfl dX6_layTree_3 ?_
      refine r_getI (jz := 6) C 5 6 rfl rfl (by decide) rfl uw_X6 fl_X6_66 rfl dX6_layTree_4 ?_
      refine r_icmp_ge (tgt := 30) C (by decide) (by omega) (by omega) dX6_layTree_7 (fun c7 => ?_) (fun c7 => ?_)
      · omega
      · refine r_aload_n C rfl dX6_layTree_10 ?_
        refine r_iload_n C rfl dX6_layTree_11 ?_
        refine r_iload_n C rfl dX6_layTree_12 ?_
        refine r_iload_n C rfl dX6_layTree_13 ?_
        refine r_callV (As := [_, _, _]) C (c_X6_layFaults _ _ _ (e2 ▸ hI) (by omega) hy hh) ok_X6_layFaults ln_X6_142 rfl rfl rfl rfl (Nat.le_of_ble_eq_true rfl) (Nat.le_of_ble_eq_true rfl) (Nat.le_of_ble_eq_true rfl) dX6_layTree_14 (fun v14 τ14 hq14 => ?_)
        obtain ⟨rfl, hF2, f1, f2⟩ := hq14
        rw [e2] at f1
        refine r_aload_n C rfl dX6_layTree_17 ?_
        refine r_getR C 5 18 rfl rfl (by decide) rfl uw_X6 fl_X6_53 dX6_layTree_18 ?_
        refine r_iload_n C rfl dX6_layTree_21 ?_
        refine r_iload_n C rfl dX6_layTree_22 ?_
        refine r_iastore C rfl (by decide) (by omega) dX6_layTree_23 ?_
        refine r_iinc (ls' := [_, _, _, _, _, _, _, _, _]) C rfl (by decide) rfl rfl dX6_layTree_24 ?_
        refine r_goto (tgt := 2) C (by decide) dX6_layTree_27 ?_
        refine ih (t + 1) _ (by omega) (((hF2.tr (Fm.u (k := 14) (by decide) (by decide)) (ks := [8, 9, 10, 11, 13, 14]) (by decide) (fun _ q => q)).vM (by decide)).trans e2) (fun u u1 s s1 s2 => ?_) (fun l l1 l2 => ?_)
        · rw [pw_u_k (by decide)]
          by_cases z : u = t
          · subst z; exact f1 s s1 s2
          · rw [f2 _ (by omega)]; exact hF u (by omega) s s1 s2
        · by_cases z : l = t
          · subst z; rw [pw_u_s]
          · rw [pw_u_j z, hF2.1 14 (by decide) (by decide)]; exact hg l l1 (by omega)
  refine r_iconst C dX6_layTree_0 ?_
  refine r_istore_n (ls' := [_, _, _, _, _, _, _, _, _]) C (by decide) rfl rfl dX6_layTree_1 ?_
  exact loop1 (σ 0 6).toNat 0 σ (by omega) rfl (fun u u1 => by omega) (fun l l1 l2 => by omega)
set_option maxRecDepth 100000 in
theorem c_X6_tree (l : Launch) (G : pw_G) (σ : pw_H) {y h : Int} (hI : Inv (vM σ)) (q_y : InI y) (q_h : InI h) : Ct l shM G mX6_tree [.ref (G.2.1 0), vI y, vI h] σ (pM (s_tree (vM σ) y h)) := by
  have h0 : 0 ≤ σ 0 0 ∧ σ 0 0 ≤ 8 := hI.1
  have h5 : 0 ≤ σ 0 5 ∧ σ 0 5 ≤ 6 := hI.2.1
  have h1 : 0 ≤ σ 0 6 ∧ σ 0 6 ≤ 6 := hI.2.2.1
  refine Ct_of (ls := [some (.ref (G.2.1 0)), some (vI y), some (vI h)]) (by decide +kernel) (Nat.le_of_ble_eq_true rfl) rfl (fun X C => ?_)
  refine r_iload_n C rfl dX6_tree_0 ?_
  refine r_callS (As := [_]) C (c_X6_isYear _ _ _ (by omega)) ok_X6_isYear ln_X6_90 rfl rfl (Nat.le_of_ble_eq_true rfl) (Nat.le_of_ble_eq_true rfl) (Nat.le_of_ble_eq_true rfl) dX6_tree_1 (fun v1 τ1 hq1 => ?_)
  obtain ⟨rfl, rfl⟩ := hq1
  refine r_ifB_eq (tgt := 23) C (by decide) dX6_tree_4 (fun c4 => ?_) (fun c4 => ?_)
  · refine r_bipush C (by decide +kernel) dX6_tree_23 ?_
    refine r_ireturn C rfl ?_ dX6_tree_25
    first | exact pM_of (a := vM σ) (by simp only [s_tree, bMom, c4, c11]; rfl) e2 | exact pM_of (by simp [s_tree, bMom, *]) rfl
  · have h11 := bIn_iff.mp c4
    refine r_iload_n C rfl dX6_tree_7 ?_
    refine r_callS (As := [_]) C (c_X6_isShift _ _ _ (by omega)) ok_X6_isShift ln_X6_117 rfl rfl (Nat.le_of_ble_eq_true rfl) (Nat.le_of_ble_eq_true rfl) (Nat.le_of_ble_eq_true rfl) dX6_tree_8 (fun v8 τ8 hq8 => ?_)
    obtain ⟨rfl, rfl⟩ := hq8
    refine r_ifB_eq (tgt := 23) C (by decide) dX6_tree_11 (fun c11 => ?_) (fun c11 => ?_)
    · refine r_bipush C (by decide +kernel) dX6_tree_23 ?_
      refine r_ireturn C rfl ?_ dX6_tree_25
      first | exact pM_of (a := vM σ) (by simp only [s_tree, bMom, c4, c11]; rfl) e2 | exact pM_of (by simp [s_tree, bMom, *]) rfl
    · have h12 := bIn_iff.mp c11
      refine r_aload_n C rfl dX6_tree_14 ?_
      refine r_iload_n C rfl dX6_tree_15 ?_
      refine r_iload_n C rfl dX6_tree_16 ?_
      refine r_callV (As := [_, _]) C (c_X6_layTree _ _ _ hI h11 h12) ok_X6_layTree ln_X6_151 rfl rfl rfl rfl (Nat.le_of_ble_eq_true rfl) (Nat.le_of_ble_eq_true rfl) (Nat.le_of_ble_eq_true rfl) dX6_tree_17 (fun v17 τ17 hq17 => ?_)
      obtain ⟨rfl, e2, -⟩ := hq17
      refine r_goto (tgt := 25) C (by decide) dX6_tree_20 ?_
      refine r_ireturn C rfl ?_ dX6_tree_25
      first | exact pM_of (a := vM σ) (by simp only [s_tree, bMom, c4, c11]; rfl) e2 | exact pM_of (by simp [s_tree, bMom, *]) rfl
set_option maxRecDepth 100000 in
theorem c_X6_row (l : Launch) (G : pw_G) (σ : pw_H) {i y h : Int} (hI : Inv (vM σ)) (q_i : InI i) (q_y : InI y) (q_h : InI h) : Ct l shM G mX6_row [.ref (G.2.1 0), vI i, vI y, vI h] σ (pM (s_row (vM σ) i y h)) := by
  have h0 : 0 ≤ σ 0 0 ∧ σ 0 0 ≤ 8 := hI.1
  have h5 : 0 ≤ σ 0 5 ∧ σ 0 5 ≤ 6 := hI.2.1
  have h1 : 0 ≤ σ 0 6 ∧ σ 0 6 ≤ 6 := hI.2.2.1
  refine Ct_of (ls := [some (.ref (G.2.1 0)), some (vI i), some (vI y), some (vI h), none]) (by decide +kernel) (Nat.le_of_ble_eq_true rfl) rfl (fun X C => ?_)
  refine r_iload_n C rfl dX6_row_0 ?_
  refine r_callS (As := [_]) C (c_X6_isYear _ _ _ (by omega)) ok_X6_isYear ln_X6_90 rfl rfl (Nat.le_of_ble_eq_true rfl) (Nat.le_of_ble_eq_true rfl) (Nat.le_of_ble_eq_true rfl) dX6_row_1 (fun v1 τ1 hq1 => ?_)
  obtain ⟨rfl, rfl⟩ := hq1
  refine r_ifB_eq (tgt := 14) C (by decide) dX6_row_4 (fun c4 => ?_) (fun c4 => ?_)
  · refine r_bipush C (by decide +kernel) dX6_row_14 ?_
    refine r_ireturn C rfl ?_ dX6_row_16
    exact pM_of (by simp [s_row, bMom, *]) rfl
  · have h11 := bIn_iff.mp c4
    refine r_iload_n C rfl dX6_row_7 ?_
    refine r_callS (As := [_]) C (c_X6_isShift _ _ _ (by omega)) ok_X6_isShift ln_X6_117 rfl rfl (Nat.le_of_ble_eq_true rfl) (Nat.le_of_ble_eq_true rfl) (Nat.le_of_ble_eq_true rfl) dX6_row_8 (fun v8 τ8 hq8 => ?_)
    obtain ⟨rfl, rfl⟩ := hq8
    refine r_ifB_ne (tgt := 17) C (by decide) dX6_row_11 (fun c11 => ?_) (fun c11 => ?_)
    · have h12 := bIn_iff.mp c11
      refine r_aload_n C rfl dX6_row_17 ?_
      refine r_iload_n C rfl dX6_row_18 ?_
      refine r_iload_n C rfl dX6_row_19 ?_
      refine r_callV (As := [_, _]) C (c_X6_layTree _ _ _ hI h11 h12) ok_X6_layTree ln_X6_151 rfl rfl rfl rfl (Nat.le_of_ble_eq_true rfl) (Nat.le_of_ble_eq_true rfl) (Nat.le_of_ble_eq_true rfl) dX6_row_20 (fun v20 τ20 hq20 => ?_)
      obtain ⟨rfl, e2, e3⟩ := hq20
      have e1 : τ20 0 6 = σ 0 6 := congrFun (congrFun e2 0) 2
      refine r_istore (ls' := [_, _, _, _, _]) C (by decide) rfl rfl dX6_row_23 ?_
      refine r_iload_n C rfl dX6_row_25 ?_
      refine r_iconst C dX6_row_26 ?_
      refine r_aload_n C rfl dX6_row_27 ?_
      refine r_getI (jz := 6) C 5 6 rfl rfl (by decide) rfl uw_X6 fl_X6_66 rfl dX6_row_28 ?_
      refine r_iconst C dX6_row_31 ?_
      refine r_isub C dX6_row_32 ?_
      refine r_callS (As := [_, _, _]) C (c_X6_in _ _ _ (by omega) (by omega) (by omega)) ok_X6_in ln_X6_59 rfl rfl (Nat.le_of_ble_eq_true rfl) (Nat.le_of_ble_eq_true rfl) (Nat.le_of_ble_eq_true rfl) dX6_row_33 (fun v33 τ33 hq33 => ?_)
      obtain ⟨rfl, rfl⟩ := hq33
      refine r_ifB_eq (tgt := 48) C (by decide) dX6_row_36 (fun c36 => ?_) (fun c36 => ?_)
      · have h13 := bIn_niff.mp c36
        refine r_bipush C (by decide +kernel) dX6_row_48 ?_
        refine r_ireturn C rfl ?_ dX6_row_50
        first | (refine pM_of (a := vM σ) ?_ e2; rw [e6, s_row, if_neg (by simp [bMom, *]), if_pos (bIn_t (by omega) (show i ≤ vM σ 0 2 - 2 from (by omega : i ≤ σ 0 6 - 2)))]; rfl) | (refine pM_of (a := vM σ) ?_ e2; rw [s_row, if_neg (by simp [bMom, *]), if_neg (by rw [bIn_f (show i < 0 ∨ vM σ 0 2 - 2 < i from (by omega : i < 0 ∨ σ 0 6 - 2 < i))]; decide)])
      · have h13 := bIn_iff.mp c36
        have e6 := e3 i.toNat (by omega)
        rw [show (i.toNat : Int) = i by omega] at e6
        refine r_aload_n C rfl dX6_row_39 ?_
        refine r_getR C 5 19 rfl rfl (by decide) rfl uw_X6 fl_X6_56 dX6_row_40 ?_
        refine r_iload_n C rfl dX6_row_43 ?_
        refine r_iaload C rfl (by decide) (by omega) dX6_row_44 ?_
        refine r_goto (tgt := 50) C (by decide) dX6_row_45 ?_
        refine r_ireturn C rfl ?_ dX6_row_50
        first | (refine pM_of (a := vM σ) ?_ e2; rw [e6, s_row, if_neg (by simp [bMom, *]), if_pos (bIn_t (by omega) (show i ≤ vM σ 0 2 - 2 from (by omega : i ≤ σ 0 6 - 2)))]; rfl) | (refine pM_of (a := vM σ) ?_ e2; rw [s_row, if_neg (by simp [bMom, *]), if_neg (by rw [bIn_f (show i < 0 ∨ vM σ 0 2 - 2 < i from (by omega : i < 0 ∨ σ 0 6 - 2 < i))]; decide)])
    · refine r_bipush C (by decide +kernel) dX6_row_14 ?_
      refine r_ireturn C rfl ?_ dX6_row_16
      exact pM_of (by simp [s_row, bMom, *]) rfl
