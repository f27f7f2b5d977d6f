/-- the faults of all lists are laid -/
def hFt (σ : pw_H) (a : pw_H) (y h : Int) (n : Nat) : Prop := ∀ t : Nat, t < n → ∀ s : Int, 0 ≤ s → s < 8 → σ 20 (t * 8 + s) = sFault a t y h s
set_option maxRecDepth 100000 in
theorem c_X0_join (l : Launch) (G : pw_G) (σ : pw_H) {f e : Int} (hI : Inv (vX σ)) (hf : 0 ≤ f ∧ f ≤ 10) (he : 0 ≤ e ∧ e ≤ 10) (hg : ∀ l : Int, 0 ≤ l → l < σ 2 1 → 0 ≤ σ 21 l ∧ σ 21 l ≤ 10) : Ct l shX G mX0_join [.ref (G.2.1 4), vI f, vI e] σ (fun r τ => r = none ∧ Fr [21] σ τ ∧ ∀ l : Int, 0 ≤ l → l < σ 2 1 → τ 21 l = if σ 21 l = e then f else σ 21 l) := by
  have h1 : 0 ≤ σ 2 1 ∧ σ 2 1 ≤ 6 := hI.2.2.1
  refine Ct_of (ls := [some (.ref (G.2.1 4)), some (vI f), some (vI e), none]) (by decide +kernel) (Nat.le_of_ble_eq_true rfl) rfl (fun X C => ?_)
  have loop : ∀ (k i : Nat) (υ : pw_H), i + k = (σ 2 1).toNat → Fr [21] σ υ → (∀ l : Int, 0 ≤ l → l < i → υ 21 l = if σ 21 l = e then f else σ 21 l) → (∀ l : Int, i ≤ l → υ 21 l = σ 21 l) → PW X shX G 2 [some (.ref (G.2.1 4)), some (vI f), some (vI e), some (vI (i : Int))] [] υ := by
    intro k
    induction k with
    | zero =>
      intro i υ hi hF h21 ho
      have e1 : υ 2 1 = σ 2 1 := congrFun (hF 2 (by decide)) _
      refine r_iload_n C rfl dX0_join_2 ?_
      refine r_aload_n C rfl dX0_join_3 ?_
      refine r_getR C 0 4 rfl rfl (by decide) rfl uw_X0 fl_X0_32 dX0_join_4 ?_
      refine r_getI (jz := 1) C 2 1 rfl rfl (by decide) rfl uw_X2 fl_X0_73 rfl dX0_join_7 ?_
      refine r_icmp_ge (tgt := 36) C (by decide) (by omega) (by omega) dX0_join_10 (fun c10 => ?_) (fun c10 => ?_)
      · refine r_return C rfl ?_ dX0_join_36
        exact ⟨rfl, hF, fun l l1 l2 => h21 l l1 (by omega)⟩
      · omega
    | succ k ih =>
      intro i υ hi hF h21 ho
      have e1 : υ 2 1 = σ 2 1 := congrFun (hF 2 (by decide)) _
      have e2 := ho i (by omega)
      have e3 := hg i (by omega) (by omega)
      refine r_iload_n C rfl dX0_join_2 ?_
      refine r_aload_n C rfl dX0_join_3 ?_
      refine r_getR C 0 4 rfl rfl (by decide) rfl uw_X0 fl_X0_32 dX0_join_4 ?_
      refine r_getI (jz := 1) C 2 1 rfl rfl (by decide) rfl uw_X2 fl_X0_73 rfl dX0_join_7 ?_
      refine r_icmp_ge (tgt := 36) C (by decide) (by omega) (by omega) dX0_join_10 (fun c10 => ?_) (fun c10 => ?_)
      · omega
      · refine r_aload_n C rfl dX0_join_13 ?_
        refine r_getR C 0 7 rfl rfl (by decide) rfl uw_X0 fl_X0_25 dX0_join_14 ?_
        refine r_iload_n C rfl dX0_join_17 ?_
        refine r_iaload C rfl (by decide) (by omega) dX0_join_18 ?_
        refine r_iload_n C rfl dX0_join_19 ?_
        rw [e2]
        refine r_icmp_ne (tgt := 30) C (by decide) (by omega) (by omega) dX0_join_20 (fun c20 => ?_) (fun c20 => ?_)
        · refine r_iinc (ls' := [_, _, _, _]) C rfl (by decide) rfl rfl dX0_join_30 ?_
          refine r_goto (tgt := 2) C (by decide) dX0_join_33 ?_
          refine ih (i + 1) _ (by omega) hF (fun l l1 l2 => ?_) (fun l l1 => ho l (by omega))
          by_cases z : l = i
          · subst z; rw [e2, if_neg (by omega)]
          · exact h21 l l1 (by omega)
        · refine r_aload_n C rfl dX0_join_23 ?_
          refine r_getR C 0 7 rfl rfl (by decide) rfl uw_X0 fl_X0_25 dX0_join_24 ?_
          refine r_iload_n C rfl dX0_join_27 ?_
          refine r_iload_n C rfl dX0_join_28 ?_
          refine r_iastore C rfl (by decide) (by omega) dX0_join_29 ?_
          refine r_iinc (ls' := [_, _, _, _]) C rfl (by decide) rfl rfl dX0_join_30 ?_
          refine r_goto (tgt := 2) C (by decide) dX0_join_33 ?_
          refine ih (i + 1) _ (by omega) (hF.tr (Fr.u (by decide)) (fun _ q => q) (fun _ q => q)) (fun l l1 l2 => ?_) (fun l l1 => by rw [pw_u_j (by omega)]; exact ho l (by omega))
          by_cases z : l = i
          · subst z; rw [pw_u_s, if_pos (by omega)]
          · rw [pw_u_j z]; exact h21 l l1 (by omega)
  refine r_iconst C dX0_join_0 ?_
  refine r_istore_n (ls' := [_, _, _, _]) C (by decide) rfl rfl dX0_join_1 ?_
  exact loop (σ 2 1).toNat 0 σ (by omega) Fr.rf (fun l l1 l2 => by omega) (fun _ _ => rfl)
theorem ap_eq {σ : pw_H} {a : pw_H} {y h : Int} {n p q : Nat} (hv : vX σ = a) (hI : Inv a) (hF : hFt σ a y h n) (hp : p < n) (hq : q < n) : sSum (fun s => zB (decide (¬ σ 20 ((p : Int) * 8 + s) = σ 20 ((q : Int) * 8 + s)))) (σ 1 4).toNat = sApart a p q y h := by
  subst hv
  have h0 : 0 ≤ σ 1 4 ∧ σ 1 4 ≤ 8 := hI.1
  unfold sApart
  refine sSum_cong (fun s s1 => ?_)
  have s2 : s < (σ 1 4).toNat := s1
  rw [hF p hp s (by omega) (by omega), hF q hq s (by omega) (by omega)]
set_option maxRecDepth 100000 in
set_option maxHeartbeats 4000000 in
theorem c_X0_addRow (l : Launch) (G : pw_G) (σ : pw_H) {a : pw_H} {y h : Int} {n k : Nat} {g : Int → Int} (hv : vX σ = a) (hI : Inv a) (hn : n = (σ 2 1).toNat) (hF : hFt σ a y h n) (hg : ∀ l : Int, 0 ≤ l → l < n → σ 21 l = g l ∧ 0 ≤ g l ∧ g l < n) (hk : σ 4 1 = k) (hk5 : k < 5)
    (hfd : 0 ≤ (tPk (fun p q => sApart a p q y h) g n).1 ∧ (tPk (fun p q => sApart a p q y h) g n).1 < (tPk (fun p q => sApart a p q y h) g n).2.1 ∧ (tPk (fun p q => sApart a p q y h) g n).2.1 < n ∧ (tPk (fun p q => sApart a p q y h) g n).2.2 = sApart a (tPk (fun p q => sApart a p q y h) g n).1 (tPk (fun p q => sApart a p q y h) g n).2.1 y h) :
    Ct l shX G mX0_addRow [.ref (G.2.1 4)] σ (fun r τ => r = none ∧ Fr [4, 19, 21] σ τ ∧ τ 4 1 = k + 1 ∧ τ 4 2 = σ 4 2 + (tPk (fun p q => sApart a p q y h) g n).2.2 ∧ (∀ j : Int, τ 19 j = if j = k then 10 * (tPk (fun p q => sApart a p q y h) g n).1 + (tPk (fun p q => sApart a p q y h) g n).2.1 else σ 19 j) ∧ ∀ l : Int, 0 ≤ l → l < n → τ 21 l = tG g (tPk (fun p q => sApart a p q y h) g n).1 (tPk (fun p q => sApart a p q y h) g n).2.1 l) := by
  have h1 : 0 ≤ σ 2 1 ∧ σ 2 1 ≤ 6 := (hv ▸ hI : Inv (vX σ)).2.2.1
  have hap : ∀ p q : Int, 0 ≤ sApart a p q y h ∧ sApart a p q y h < 9 := fun p q => sApart_r hI p q y h
  have hIσ : Inv (vX σ) := hv ▸ hI
  refine Ct_of (ls := [some (.ref (G.2.1 4)), none, none, none, none, none, none]) (by decide +kernel) (Nat.le_of_ble_eq_true rfl) rfl (fun X C => ?_)
  have fin : ∀ c : tA, c = tPk (fun p q => sApart a p q y h) g n → ∀ i : Nat, i = n → PW X shX G 12 [some (.ref (G.2.1 4)), some (vI c.1), some (vI c.2.1), some (vI c.2.2), some (vI (i : Int)), none, none] [] σ := by
    intro c hc i hi
    rw [← hc] at hfd
    have g1 := hg c.1 (by omega) (by omega)
    have g2 := hg c.2.1 (by omega) (by omega)
    have a1 := hap c.1 c.2.1
    refine r_iload C rfl dX0_addRow_12 ?_
    refine r_aload_n C rfl dX0_addRow_14 ?_
    refine r_getR C 0 4 rfl rfl (by decide) rfl uw_X0 fl_X0_32 dX0_addRow_15 ?_
    refine r_getI (jz := 1) C 2 1 rfl rfl (by decide) rfl uw_X2 fl_X0_73 rfl dX0_addRow_18 ?_
    refine r_icmp_ge (tgt := 102) C (by decide) (by omega) (by omega) dX0_addRow_21 (fun c21 => ?_) (fun c21 => ?_)
    · refine r_iload_n C rfl dX0_addRow_102 ?_
      refine r_bipush C (by decide +kernel) dX0_addRow_103 ?_
      refine r_icmp_eq (tgt := 120) C (by decide) (by omega) (by omega) dX0_addRow_105 (fun c105 => ?_) (fun c105 => ?_)
      · omega
      · refine r_aload_n C rfl dX0_addRow_108 ?_
        refine r_getI (jz := 1) C 0 1 rfl rfl (by decide) rfl uw_X0 fl_X0_15 rfl dX0_addRow_109 ?_
        rw [hk]
        refine r_aload_n C rfl dX0_addRow_112 ?_
        refine r_getR C 0 0 rfl rfl (by decide) rfl uw_X0 fl_X0_9 dX0_addRow_113 ?_
        refine r_alen C rfl dX0_addRow_116 ?_
        refine r_icmp_lt (tgt := 121) C (by decide) (by omega) (by omega) dX0_addRow_117 (fun c117 => ?_) (fun c117 => ?_)
        · refine r_aload_n C rfl dX0_addRow_121 ?_
          refine r_getR C 0 0 rfl rfl (by decide) rfl uw_X0 fl_X0_9 dX0_addRow_122 ?_
          refine r_aload_n C rfl dX0_addRow_125 ?_
          refine r_getI (jz := 1) C 0 1 rfl rfl (by decide) rfl uw_X0 fl_X0_15 rfl dX0_addRow_126 ?_
          rw [hk]
          refine r_bipush C (by decide +kernel) dX0_addRow_129 ?_
          refine r_iload_n C rfl dX0_addRow_131 ?_
          refine r_imul C dX0_addRow_132 ?_
          refine r_iload_n C rfl dX0_addRow_133 ?_
          refine r_iadd C dX0_addRow_134 ?_
          refine r_iastore C rfl (by decide) (by omega) dX0_addRow_135 ?_
          refine r_aload_n C rfl dX0_addRow_136 ?_
          refine r_dup C rfl dX0_addRow_137 ?_
          refine r_getI (jz := 1) C 0 1 rfl rfl (by decide) rfl uw_X0 fl_X0_15 rfl dX0_addRow_138 ?_
          try simp (disch := decide) only [pw_u_k, pw_u_j, pw_u_s]
          rw [hk]
          refine r_iconst C dX0_addRow_141 ?_
          refine r_iadd C dX0_addRow_142 ?_
          refine r_putI (jz := 1) C 0 1 tyX0 tyX0_ok nmX0 rfl rfl (by decide) rfl uw_X0 fl_X0_15 rfl rfl rfl dX0_addRow_143 ?_
          refine r_aload_n C rfl dX0_addRow_146 ?_
          refine r_dup C rfl dX0_addRow_147 ?_
          refine r_getI (jz := 2) C 0 2 rfl rfl (by decide) rfl uw_X0 fl_X0_19 rfl dX0_addRow_148 ?_
          try simp (disch := decide) only [pw_u_k, pw_u_j, pw_u_s]
          refine r_iload_n C rfl dX0_addRow_151 ?_
          refine r_iadd C dX0_addRow_152 ?_
          refine r_putI (jz := 2) C 0 2 tyX0 tyX0_ok nmX0 rfl rfl (by decide) rfl uw_X0 fl_X0_19 rfl rfl rfl dX0_addRow_153 ?_
          refine r_aload_n C rfl dX0_addRow_156 ?_
          refine r_aload_n C rfl dX0_addRow_157 ?_
          refine r_getR C 0 7 rfl rfl (by decide) rfl uw_X0 fl_X0_25 dX0_addRow_158 ?_
          refine r_iload_n C rfl dX0_addRow_161 ?_
          refine r_iaload C rfl (by decide) (by omega) dX0_addRow_162 ?_
          try simp (disch := decide) only [pw_u_k, pw_u_j, pw_u_s]
          refine r_aload_n C rfl dX0_addRow_163 ?_
          refine r_getR C 0 7 rfl rfl (by decide) rfl uw_X0 fl_X0_25 dX0_addRow_164 ?_
          refine r_iload_n C rfl dX0_addRow_167 ?_
          refine r_iaload C rfl (by decide) (by omega) dX0_addRow_168 ?_
          try simp (disch := decide) only [pw_u_k, pw_u_j, pw_u_s]
          rw [g1.1, g2.1]
          refine r_callV (As := [_, _]) C (c_X0_join (f := g c.1) (e := g c.2.1) _ _ _ (by rw [Fr_vX (((Fr.u (ks := [4, 19, 21]) (σ := σ) (by decide)).tr (Fr.u (ks := [4, 19, 21]) (by decide)) (fun _ q => q) (fun _ q => q)).tr (Fr.u (ks := [4, 19, 21]) (by decide)) (fun _ q => q) (fun _ q => q)) (by decide)]; exact hIσ) (by omega) (by omega) (fun l l1 l2 => by
            simp (disch := decide) only [pw_u_k] at l2 ⊢
            have := hg l l1 (by omega)
            omega)) ok_X0_join ln_X0_83 rfl rfl rfl rfl (Nat.le_of_ble_eq_true rfl) (Nat.le_of_ble_eq_true rfl) (Nat.le_of_ble_eq_true rfl) dX0_addRow_169 (fun v169 τ169 hq169 => ?_)
          obtain ⟨rfl, hF2, h21⟩ := hq169
          refine r_return C rfl ?_ dX0_addRow_172
          refine ⟨rfl, (((Fr.u (ks := [4, 19, 21]) (by decide)).tr (Fr.u (ks := [4, 19, 21]) (by decide)) (fun _ q => q) (fun _ q => q)).tr (Fr.u (ks := [4, 19, 21]) (by decide)) (fun _ q => q) (fun _ q => q)).tr hF2 (fun _ q => q) (by decide), ?_, ?_, fun j => ?_, fun l l1 l2 => ?_⟩
          · rw [hF2 4 (by decide), pw_u_j (by decide), pw_u_s]
          · rw [← hc, hF2 4 (by decide), pw_u_s]
          · rw [← hc, hF2 19 (by decide), pw_u_k (by decide), pw_u_k (by decide), pw_u_f]
          · have e9 := h21 l l1 (by simp (disch := decide) only [pw_u_k]; omega)
            simp (disch := decide) only [pw_u_k] at e9
            have g3 := hg l l1 l2
            rw [e9, g3.1, ← hc]
            rfl
        · omega
    · omega
  have inner : ∀ (w p j : Nat) (c0 : tA), c0 = tOut (fun p q => sApart a p q y h) g n (-9, -9, 9) p → p < n → j + w = n - (p + 1) → (∀ c : tA, c = tOut (fun p q => sApart a p q y h) g n (-9, -9, 9) (p + 1) → PW X shX G 96 [some (.ref (G.2.1 4)), some (vI c.1), some (vI c.2.1), some (vI c.2.2), some (vI (p : Int)), none, none] [] σ) → ∀ c : tA, c = tIn (fun p q => sApart a p q y h) g p (p + 1) c0 j → PW X shX G 30 [some (.ref (G.2.1 4)), some (vI c.1), some (vI c.2.1), some (vI c.2.2), some (vI (p : Int)), some (vI ((p + 1 + j : Nat) : Int)), none] [] σ := by
    intro w
    induction w with
    | zero =>
      intro p j c0 hc0 hp hj hout c hc
      refine r_iload C rfl dX0_addRow_30 ?_
      refine r_aload_n C rfl dX0_addRow_32 ?_
      refine r_getR C 0 4 rfl rfl (by decide) rfl uw_X0 fl_X0_32 dX0_addRow_33 ?_
      refine r_getI (jz := 1) C 2 1 rfl rfl (by decide) rfl uw_X2 fl_X0_73 rfl dX0_addRow_36 ?_
      refine r_icmp_ge (tgt := 96) C (by decide) (by omega) (by omega) dX0_addRow_39 (fun c39 => ?_) (fun c39 => ?_)
      · refine PW_lw [true, true, true, true, true, false, false] (hout c ?_) rfl
        rw [hc, hc0, show j = n - (p + 1) by omega]
        rfl
      · omega
    | succ w ihw =>
      intro p j c0 hc0 hp hj hout c hc
      have g1 := hg p (by omega) (by omega)
      have g2 := hg ((p + 1 + j : Nat) : Int) (by omega) (by omega)
      have a1 := hap p ((p + 1 + j : Nat) : Int)
      have hI2 : tI (fun p q => sApart a p q y h) n c := by
        rw [hc, hc0]
        exact tIn_I (Nat.lt_succ_self p) (tOut_I (Or.inl rfl) p (by omega)) j (by omega)
      have hcr : (-9 ≤ c.1 ∧ c.1 < 6) ∧ (-9 ≤ c.2.1 ∧ c.2.1 < 6) ∧ 0 ≤ c.2.2 ∧ c.2.2 ≤ 9 := by
        rcases hI2 with z | z
        · rw [z]; decide
        · have z1 := hap c.1 c.2.1
          have z2 : c.2.2 = sApart a c.1 c.2.1 y h := z.2.2.2.1
          omega
      have ea := ap_eq (y := y) (h := h) hv hI hF (p := p) (q := p + 1 + j) (by omega) (by omega)
      have es : tIn (fun p q => sApart a p q y h) g p (p + 1) c0 (j + 1) = tB (fun p q => sApart a p q y h) g p ((p + 1 + j : Nat) : Int) c := by rw [hc]; rfl
      have el : ((p + 1 + j : Nat) : Int) + 1 = ((p + 1 + (j + 1) : Nat) : Int) := by omega
      have stay : ¬ (¬ g p = g ((p + 1 + j : Nat) : Int) ∧ sApart a p ((p + 1 + j : Nat) : Int) y h < c.2.2) → ∀ z : Option Value, PW X shX G 30 [some (.ref (G.2.1 4)), some (vI c.1), some (vI c.2.1), some (vI c.2.2), some (vI (p : Int)), some (vI (((p + 1 + j : Nat) : Int) + 1)), z] [] σ := by
        intro hz z
        have e5 : tB (fun p q => sApart a p q y h) g p ((p + 1 + j : Nat) : Int) c = c := by unfold tB; rw [if_neg hz]
        rw [el]
        exact PW_lw [true, true, true, true, true, true, false] (ihw p (j + 1) c0 hc0 hp (by omega) hout c (by rw [es, e5])) rfl
      refine r_iload C rfl dX0_addRow_30 ?_
      refine r_aload_n C rfl dX0_addRow_32 ?_
      refine r_getR C 0 4 rfl rfl (by decide) rfl uw_X0 fl_X0_32 dX0_addRow_33 ?_
      refine r_getI (jz := 1) C 2 1 rfl rfl (by decide) rfl uw_X2 fl_X0_73 rfl dX0_addRow_36 ?_
      refine r_icmp_ge (tgt := 96) C (by decide) (by omega) (by omega) dX0_addRow_39 (fun c39 => ?_) (fun c39 => ?_)
      · omega
      · refine r_aload_n C rfl dX0_addRow_42 ?_
        refine r_getR C 0 7 rfl rfl (by decide) rfl uw_X0 fl_X0_25 dX0_addRow_43 ?_
        refine r_iload C rfl dX0_addRow_46 ?_
        refine r_iaload C rfl (by decide) (by omega) dX0_addRow_48 ?_
        refine r_aload_n C rfl dX0_addRow_49 ?_
        refine r_getR C 0 7 rfl rfl (by decide) rfl uw_X0 fl_X0_25 dX0_addRow_50 ?_
        refine r_iload C rfl dX0_addRow_53 ?_
        refine r_iaload C rfl (by decide) (by omega) dX0_addRow_55 ?_
        rw [g1.1, g2.1]
        refine r_icmp_ne (tgt := 62) C (by decide) (by omega) (by omega) dX0_addRow_56 (fun c56 => ?_) (fun c56 => ?_)
        · refine r_aload_n C rfl dX0_addRow_62 ?_
          refine r_iload C rfl dX0_addRow_63 ?_
          refine r_iload C rfl dX0_addRow_65 ?_
          refine r_callV (As := [_, _]) C (c_X0_unlike _ _ _ hIσ (by omega) (by omega) (fun s s1 s2 => by rw [hF p (by omega) s s1 s2, hF (p + 1 + j) (by omega) s s1 s2]; exact ⟨sFs_r _ _ _ _ _ _, sFs_r _ _ _ _ _ _⟩)) ok_X0_unlike ln_X0_80 rfl rfl rfl rfl (Nat.le_of_ble_eq_true rfl) (Nat.le_of_ble_eq_true rfl) (Nat.le_of_ble_eq_true rfl) dX0_addRow_67 (fun v67 τ67 hq67 => ?_)
          obtain ⟨rfl, rfl⟩ := hq67
          rw [ea]
          refine r_istore (ls' := [_, _, _, _, _, _, _]) C (by decide) rfl rfl dX0_addRow_70 ?_
          refine r_iload C rfl dX0_addRow_72 ?_
          refine r_iload_n C rfl dX0_addRow_74 ?_
          refine r_icmp_lt (tgt := 81) C (by decide) (by omega) (by omega) dX0_addRow_75 (fun c75 => ?_) (fun c75 => ?_)
          · refine r_iload C rfl dX0_addRow_81 ?_
            refine r_istore_n (ls' := [_, _, _, _, _, _, _]) C (by decide) rfl rfl dX0_addRow_83 ?_
            refine r_iload C rfl dX0_addRow_84 ?_
            refine r_istore_n (ls' := [_, _, _, _, _, _, _]) C (by decide) rfl rfl dX0_addRow_86 ?_
            refine r_iload C rfl dX0_addRow_87 ?_
            refine r_istore_n (ls' := [_, _, _, _, _, _, _]) C (by decide) rfl rfl dX0_addRow_89 ?_
            refine r_iinc (ls' := [_, _, _, _, _, _, _]) C rfl (by decide) rfl rfl dX0_addRow_90 ?_
            refine r_goto (tgt := 30) C (by decide) dX0_addRow_93 ?_
            have e5 : tB (fun p q => sApart a p q y h) g p ((p + 1 + j : Nat) : Int) c = ((p : Int), ((p + 1 + j : Nat) : Int), sApart a p ((p + 1 + j : Nat) : Int) y h) := by unfold tB; rw [if_pos ⟨by omega, by omega⟩]
            rw [el]
            exact PW_lw [true, true, true, true, true, true, false] (ihw p (j + 1) c0 hc0 hp (by omega) hout _ (es.trans e5).symm) rfl
          · refine r_goto (tgt := 90) C (by decide) dX0_addRow_78 ?_
            refine r_iinc (ls' := [_, _, _, _, _, _, _]) C rfl (by decide) rfl rfl dX0_addRow_90 ?_
            refine r_goto (tgt := 30) C (by decide) dX0_addRow_93 ?_
            exact stay (by omega) _
        · refine r_goto (tgt := 90) C (by decide) dX0_addRow_59 ?_
          refine r_iinc (ls' := [_, _, _, _, _, _, _]) C rfl (by decide) rfl rfl dX0_addRow_90 ?_
          refine r_goto (tgt := 30) C (by decide) dX0_addRow_93 ?_
          exact stay (by omega) _
  have loop : ∀ (w p : Nat) (c : tA), p + w = n → c = tOut (fun p q => sApart a p q y h) g n (-9, -9, 9) p → PW X shX G 12 [some (.ref (G.2.1 4)), some (vI c.1), some (vI c.2.1), some (vI c.2.2), some (vI (p : Int)), none, none] [] σ := by
    intro w
    induction w with
    | zero =>
      intro p c hp hc
      exact fin c (by rw [hc, show p = n by omega]; rfl) p (by omega)
    | succ w ih =>
      intro p c hp hc
      have hout : ∀ c : tA, c = tOut (fun p q => sApart a p q y h) g n (-9, -9, 9) (p + 1) → PW X shX G 96 [some (.ref (G.2.1 4)), some (vI c.1), some (vI c.2.1), some (vI c.2.2), some (vI (p : Int)), none, none] [] σ := by
        intro c hc
        refine r_iinc (ls' := [_, _, _, _, _, _, _]) C rfl (by decide) rfl rfl dX0_addRow_96 ?_
        refine r_goto (tgt := 12) C (by decide) dX0_addRow_99 ?_
        exact ih (p + 1) c (by omega) hc
      refine r_iload C rfl dX0_addRow_12 ?_
      refine r_aload_n C rfl dX0_addRow_14 ?_
      refine r_getR C 0 4 rfl rfl (by decide) rfl uw_X0 fl_X0_32 dX0_addRow_15 ?_
      refine r_getI (jz := 1) C 2 1 rfl rfl (by decide) rfl uw_X2 fl_X0_73 rfl dX0_addRow_18 ?_
      refine r_icmp_ge (tgt := 102) C (by decide) (by omega) (by omega) dX0_addRow_21 (fun c21 => ?_) (fun c21 => ?_)
      · omega
      · refine r_iload C rfl dX0_addRow_24 ?_
        refine r_iconst C dX0_addRow_26 ?_
        refine r_iadd C dX0_addRow_27 ?_
        refine r_istore (ls' := [_, _, _, _, _, _, _]) C (by decide) rfl rfl dX0_addRow_28 ?_
        exact inner (n - (p + 1)) p 0 c hc (by omega) (by omega) hout c rfl
  refine r_bipush C (by decide +kernel) dX0_addRow_0 ?_
  refine r_istore_n (ls' := [_, _, _, _, _, _, _]) C (by decide) rfl rfl dX0_addRow_2 ?_
  refine r_bipush C (by decide +kernel) dX0_addRow_3 ?_
  refine r_istore_n (ls' := [_, _, _, _, _, _, _]) C (by decide) rfl rfl dX0_addRow_5 ?_
  refine r_bipush C (by decide +kernel) dX0_addRow_6 ?_
  refine r_istore_n (ls' := [_, _, _, _, _, _, _]) C (by decide) rfl rfl dX0_addRow_8 ?_
  refine r_iconst C dX0_addRow_9 ?_
  refine r_istore (ls' := [_, _, _, _, _, _, _]) C (by decide) rfl rfl dX0_addRow_10 ?_
  exact loop n 0 (-9, -9, 9) (by omega) rfl
set_option maxRecDepth 100000 in
set_option maxHeartbeats 4000000 in
theorem c_X0_grow (l : Launch) (G : pw_G) (σ : pw_H) {y h : Int} (hI : Inv (vX σ)) (hy : -3000 ≤ y ∧ y ≤ 3000) (hh : -600 ≤ h ∧ h ≤ 600) : Ct l shX G mX0_grow [.ref (G.2.1 4), vI y, vI h] σ (fun r τ => r = none ∧ vX τ = vX σ ∧ τ 4 1 = ((σ 2 1).toNat - 1 : Nat) ∧ τ 4 2 = (sTr (vX σ) y h ((σ 2 1).toNat - 1)).2.1 ∧ ∀ j : Nat, j < (σ 2 1).toNat - 1 → τ 19 j = (sTr (vX σ) y h ((σ 2 1).toNat - 1)).2.2 j) := by
  have h1 : 0 ≤ σ 2 1 ∧ σ 2 1 ≤ 6 := hI.2.2.1
  have hap : ∀ p q : Int, sApart (vX σ) p q y h < 9 := fun p q => (sApart_r hI p q y h).2
  refine Ct_of (ls := [some (.ref (G.2.1 4)), some (vI y), some (vI h), none]) (by decide +kernel) (Nat.le_of_ble_eq_true rfl) rfl (fun X C => ?_)
  have loop2 : ∀ (w k : Nat) (υ : pw_H), k + w = (σ 2 1).toNat - 1 → vX υ = vX σ → hFt υ (vX σ) y h (σ 2 1).toNat → (∀ l : Int, 0 ≤ l → l < (σ 2 1).toNat → υ 21 l = (sTr (vX σ) y h k).1 l) → υ 4 1 = k → υ 4 2 = (sTr (vX σ) y h k).2.1 → (∀ j : Nat, j < k → υ 19 j = (sTr (vX σ) y h k).2.2 j) → PW X shX G 45 [some (.ref (G.2.1 4)), some (vI y), some (vI h), some (vI ((k : Int) + 1))] [] υ := by
    intro w
    induction w with
    | zero =>
      intro k υ hk e2 hF hg h41 h42 h19
      have e1 : υ 2 1 = σ 2 1 := congrFun (congrFun e2 0) 2
      have ek : k = (σ 2 1).toNat - 1 := by omega
      subst ek
      refine r_iload_n C rfl dX0_grow_45 ?_
      refine r_aload_n C rfl dX0_grow_46 ?_
      refine r_getR C 0 4 rfl rfl (by decide) rfl uw_X0 fl_X0_32 dX0_grow_47 ?_
      refine r_getI (jz := 1) C 2 1 rfl rfl (by decide) rfl uw_X2 fl_X0_73 rfl dX0_grow_50 ?_
      refine r_icmp_ge (tgt := 66) C (by decide) (by omega) (by omega) dX0_grow_53 (fun c53 => ?_) (fun c53 => ?_)
      · refine r_return C rfl ?_ dX0_grow_66
        exact ⟨rfl, e2, h41, h42, h19⟩
      · omega
    | succ w ih =>
      intro k υ hk e2 hF hg h41 h42 h19
      have e1 : υ 2 1 = σ 2 1 := congrFun (congrFun e2 0) 2
      have hr := tS_rng (fun p q => sApart (vX σ) p q y h) (σ 2 1).toNat k (by omega) hap
      have hfd := tS_found (ap := fun p q => sApart (vX σ) p q y h) (n := (σ 2 1).toNat) hap (k := k) (by omega)
      refine r_iload_n C rfl dX0_grow_45 ?_
      refine r_aload_n C rfl dX0_grow_46 ?_
      refine r_getR C 0 4 rfl rfl (by decide) rfl uw_X0 fl_X0_32 dX0_grow_47 ?_
      refine r_getI (jz := 1) C 2 1 rfl rfl (by decide) rfl uw_X2 fl_X0_73 rfl dX0_grow_50 ?_
      refine r_icmp_ge (tgt := 66) C (by decide) (by omega) (by omega) dX0_grow_53 (fun c53 => ?_) (fun c53 => ?_)
      · omega
      · refine r_aload_n C rfl dX0_grow_56 ?_
        refine r_callV (As := []) C (c_X0_addRow (a := vX σ) (y := y) (h := h) (n := (σ 2 1).toNat) (k := k) (g := (sTr (vX σ) y h k).1) _ _ _ e2 hI (by rw [e1]) hF (fun l l1 l2 => ⟨hg l l1 l2, hr l l1 l2⟩) h41 (by omega) hfd) ok_X0_addRow ln_X0_77 rfl rfl rfl rfl (Nat.le_of_ble_eq_true rfl) (Nat.le_of_ble_eq_true rfl) (Nat.le_of_ble_eq_true rfl) dX0_grow_57 (fun v57 τ57 hq57 => ?_)
        obtain ⟨rfl, hF2, r41, r42, r19, r21⟩ := hq57
        have e20 : τ57 20 = υ 20 := hF2 20 (by decide)
        refine r_iinc (ls' := [_, _, _, _]) C rfl (by decide) rfl rfl dX0_grow_60 ?_
        refine r_goto (tgt := 45) C (by decide) dX0_grow_63 ?_
        refine ih (k + 1) _ (by omega) ((Fr_vX hF2 (by decide)).trans e2) (fun t t1 s s1 s2 => by rw [e20]; exact hF t t1 s s1 s2) r21 r41 (by rw [r42, h42]; rfl) (fun j j1 => ?_)
        rw [r19]
        by_cases z : j = k
        · subst z
          rw [if_pos rfl]
          show _ = (tS (fun p q => sApart (vX σ) p q y h) (σ 2 1).toNat (j + 1)).2.2 j
          simp only [tS, if_true]
          rfl
        · rw [if_neg (by omega), h19 j (by omega)]
          show _ = (tS (fun p q => sApart (vX σ) p q y h) (σ 2 1).toNat (k + 1)).2.2 j
          simp only [tS]
          rw [if_neg (by omega)]
          rfl
  have loop : ∀ (w t : Nat) (υ : pw_H), t + w = (σ 2 1).toNat → vX υ = vX σ → hFt υ (vX σ) y h t → (∀ l : Int, 0 ≤ l → l < t → υ 21 l = l) → υ 4 1 = 0 → υ 4 2 = 0 → PW X shX G 12 [some (.ref (G.2.1 4)), some (vI y), some (vI h), some (vI (t : Int))] [] υ := by
    intro w
    induction w with
    | zero =>
      intro t υ ht e2 hF hg h41 h42
      have e1 : υ 2 1 = σ 2 1 := congrFun (congrFun e2 0) 2
      have et : t = (σ 2 1).toNat := by omega
      subst et
      refine r_iload_n C rfl dX0_grow_12 ?_
      refine r_aload_n C rfl dX0_grow_13 ?_
      refine r_getR C 0 4 rfl rfl (by decide) rfl uw_X0 fl_X0_32 dX0_grow_14 ?_
      refine r_getI (jz := 1) C 2 1 rfl rfl (by decide) rfl uw_X2 fl_X0_73 rfl dX0_grow_17 ?_
      refine r_icmp_ge (tgt := 43) C (by decide) (by omega) (by omega) dX0_grow_20 (fun c20 => ?_) (fun c20 => ?_)
      · refine r_iconst C dX0_grow_43 ?_
        refine r_istore_n (ls' := [_, _, _, _]) C (by decide) rfl rfl dX0_grow_44 ?_
        exact loop2 ((σ 2 1).toNat - 1) 0 υ (by omega) e2 hF hg h41 h42 (fun j j1 => by omega)
      · omega
    | succ w ih =>
      intro t υ ht e2 hF hg h41 h42
      have e1 : υ 2 1 = σ 2 1 := congrFun (congrFun e2 0) 2
      refine r_iload_n C rfl dX0_grow_12 ?_
      refine r_aload_n C rfl dX0_grow_13 ?_
      refine r_getR C 0 4 rfl rfl (by decide) rfl uw_X0 fl_X0_32 dX0_grow_14 ?_
      refine r_getI (jz := 1) C 2 1 rfl rfl (by decide) rfl uw_X2 fl_X0_73 rfl dX0_grow_17 ?_
      refine r_icmp_ge (tgt := 43) C (by decide) (by omega) (by omega) dX0_grow_20 (fun c20 => ?_) (fun c20 => ?_)
      · omega
      · refine r_aload_n C rfl dX0_grow_23 ?_
        refine r_iload_n C rfl dX0_grow_24 ?_
        refine r_iload_n C rfl dX0_grow_25 ?_
        refine r_iload_n C rfl dX0_grow_26 ?_
        refine r_callV (As := [_, _, _]) C (c_X0_note _ _ _ (e2 ▸ hI) (by omega) hy hh) ok_X0_note ln_X0_74 rfl rfl rfl rfl (Nat.le_of_ble_eq_true rfl) (Nat.le_of_ble_eq_true rfl) (Nat.le_of_ble_eq_true rfl) dX0_grow_27 (fun v27 τ27 hq27 => ?_)
        obtain ⟨rfl, hF2, f1, f2⟩ := hq27
        rw [e2] at f1
        refine r_aload_n C rfl dX0_grow_30 ?_
        refine r_getR C 0 7 rfl rfl (by decide) rfl uw_X0 fl_X0_25 dX0_grow_31 ?_
        refine r_iload_n C rfl dX0_grow_34 ?_
        refine r_iload_n C rfl dX0_grow_35 ?_
        refine r_iastore C rfl (by decide) (by omega) dX0_grow_36 ?_
        refine r_iinc (ls' := [_, _, _, _]) C rfl (by decide) rfl rfl dX0_grow_37 ?_
        refine r_goto (tgt := 12) C (by decide) dX0_grow_40 ?_
        refine ih (t + 1) _ (by omega) ((Fr_vX (hF2.tr (Fr.u (k := 21) (by decide)) (ks := [3, 13, 15, 16, 17, 18, 20, 21]) (by decide) (fun _ q => q)) (by decide)).trans e2) (fun u u1 s s1 s2 => ?_) (fun l l1 l2 => ?_) ?_ ?_
        · rw [pw_u_k (by decide)]
          by_cases z : u = t
          · subst z; exact f1 s s1 s2
          · rw [f2 _ (by omega)]; exact hF u (by omega) s s1 s2
        · by_cases z : l = t
          · subst z; rw [pw_u_s]
          · rw [pw_u_j z, hF2 21 (by decide)]; exact hg l l1 (by omega)
        · rw [pw_u_k (by decide), hF2 4 (by decide)]; exact h41
        · rw [pw_u_k (by decide), hF2 4 (by decide)]; exact h42
  refine r_aload_n C rfl dX0_grow_0 ?_
  refine r_iconst C dX0_grow_1 ?_
  refine r_putI (jz := 1) C 0 1 tyX0 tyX0_ok nmX0 rfl rfl (by decide) rfl uw_X0 fl_X0_15 rfl rfl rfl dX0_grow_2 ?_
  refine r_aload_n C rfl dX0_grow_5 ?_
  refine r_iconst C dX0_grow_6 ?_
  refine r_putI (jz := 2) C 0 2 tyX0 tyX0_ok nmX0 rfl rfl (by decide) rfl uw_X0 fl_X0_19 rfl rfl rfl dX0_grow_7 ?_
  refine r_iconst C dX0_grow_10 ?_
  refine r_istore_n (ls' := [_, _, _, _]) C (by decide) rfl rfl dX0_grow_11 ?_
  refine loop (σ 2 1).toNat 0 _ (by omega) (Fr_vX ((Fr.u (ks := [4]) (by decide)).tr (Fr.u (by decide)) (fun _ q => q) (fun _ q => q)) (by decide)) (fun t t1 => by omega) (fun l l1 l2 => by omega) ?_ (pw_u_s _ _ _ _)
  rw [pw_u_j (by decide), pw_u_s]
set_option maxRecDepth 100000 in
theorem c_X5_tree (l : Launch) (G : pw_G) (σ : pw_H) {y h : Int} (hI : Inv (vX σ)) (q_y : InI y) (q_h : InI h) : Ct l shX G mX5_tree [.ref (G.2.1 0), vI y, vI h] σ (pX (s_tree (vX σ) y h)) := by
  have h0 : 0 ≤ σ 1 4 ∧ σ 1 4 ≤ 8 := hI.1
  have h5 : 0 ≤ σ 1 5 ∧ σ 1 5 ≤ 6 := hI.2.1
  have h1 : 0 ≤ σ 2 1 ∧ σ 2 1 ≤ 6 := hI.2.2.1
  refine Ct_of (ls := [some (.ref (G.2.1 0)), some (vI y), some (vI h)]) (by decide +kernel) (Nat.le_of_ble_eq_true rfl) rfl (fun X C => ?_)
  refine r_iload_n C rfl dX5_tree_0 ?_
  refine r_iload_n C rfl dX5_tree_1 ?_
  refine r_callS (As := [_, _]) C (c_X5_isMoment _ _ _ (by omega) (by omega)) ok_X5_isMoment ln_X5_118 rfl rfl (Nat.le_of_ble_eq_true rfl) (Nat.le_of_ble_eq_true rfl) (Nat.le_of_ble_eq_true rfl) dX5_tree_2 (fun v2 τ2 hq2 => ?_)
  obtain ⟨rfl, rfl⟩ := hq2
  refine r_ifB_ne (tgt := 11) C (by decide) dX5_tree_5 (fun c5 => ?_) (fun c5 => ?_)
  · have h11 := bMom_t c5
    refine r_aload_n C rfl dX5_tree_11 ?_
    refine r_getR C 4 3 rfl rfl (by decide) rfl uw_X5 fl_X5_37 dX5_tree_12 ?_
    refine r_iload_n C rfl dX5_tree_15 ?_
    refine r_iload_n C rfl dX5_tree_16 ?_
    refine r_callV (As := [_, _]) C (c_X0_grow _ _ _ hI h11.1 h11.2) ok_X0_grow ln_X5_174 rfl rfl rfl rfl (Nat.le_of_ble_eq_true rfl) (Nat.le_of_ble_eq_true rfl) (Nat.le_of_ble_eq_true rfl) dX5_tree_17 (fun v17 τ17 hq17 => ?_)
    obtain ⟨rfl, e2, -, e3, -⟩ := hq17
    refine r_aload_n C rfl dX5_tree_20 ?_
    refine r_getR C 4 3 rfl rfl (by decide) rfl uw_X5 fl_X5_37 dX5_tree_21 ?_
    refine r_getI (jz := 2) C 0 2 rfl rfl (by decide) rfl uw_X0 fl_X5_178 rfl dX5_tree_24 ?_
    refine r_ireturn C rfl ?_ dX5_tree_27
    exact pX_of (a := vX σ) (by rw [e3]; simp only [s_tree, c5]; rfl) e2
  · refine r_bipush C (by decide +kernel) dX5_tree_8 ?_
    refine r_ireturn C rfl ?_ dX5_tree_10
    exact pX_of (by simp [s_tree, *]) rfl
set_option maxRecDepth 100000 in
theorem c_X5_row (l : Launch) (G : pw_G) (σ : pw_H) {i y h : Int} (hI : Inv (vX σ)) (q_i : InI i) (q_y : InI y) (q_h : InI h) : Ct l shX G mX5_row [.ref (G.2.1 0), vI i, vI y, vI h] σ (pX (s_row (vX σ) i y h)) := by
  have h0 : 0 ≤ σ 1 4 ∧ σ 1 4 ≤ 8 := hI.1
  have h5 : 0 ≤ σ 1 5 ∧ σ 1 5 ≤ 6 := hI.2.1
  have h1 : 0 ≤ σ 2 1 ∧ σ 2 1 ≤ 6 := hI.2.2.1
  refine Ct_of (ls := [some (.ref (G.2.1 0)), some (vI i), some (vI y), some (vI h)]) (by decide +kernel) (Nat.le_of_ble_eq_true rfl) rfl (fun X C => ?_)
  refine r_iload_n C rfl dX5_row_0 ?_
  refine r_iload_n C rfl dX5_row_1 ?_
  refine r_callS (As := [_, _]) C (c_X5_isMoment _ _ _ (by omega) (by omega)) ok_X5_isMoment ln_X5_118 rfl rfl (Nat.le_of_ble_eq_true rfl) (Nat.le_of_ble_eq_true rfl) (Nat.le_of_ble_eq_true rfl) dX5_row_2 (fun v2 τ2 hq2 => ?_)
  obtain ⟨rfl, rfl⟩ := hq2
  refine r_ifB_ne (tgt := 11) C (by decide) dX5_row_5 (fun c5 => ?_) (fun c5 => ?_)
  · have h11 := bMom_t c5
    refine r_aload_n C rfl dX5_row_11 ?_
    refine r_getR C 4 3 rfl rfl (by decide) rfl uw_X5 fl_X5_37 dX5_row_12 ?_
    refine r_iload_n C rfl dX5_row_15 ?_
    refine r_iload_n C rfl dX5_row_16 ?_
    refine r_callV (As := [_, _]) C (c_X0_grow _ _ _ hI h11.1 h11.2) ok_X0_grow ln_X5_174 rfl rfl rfl rfl (Nat.le_of_ble_eq_true rfl) (Nat.le_of_ble_eq_true rfl) (Nat.le_of_ble_eq_true rfl) dX5_row_17 (fun v17 τ17 hq17 => ?_)
    obtain ⟨rfl, e2, e3, -, e4⟩ := hq17
    have e5 : (((σ 2 1).toNat - 1 : Nat) : Int) - 1 = (if σ 2 1 = 0 then -1 else σ 2 1 - 2) := by split <;> omega
    refine r_iload_n C rfl dX5_row_20 ?_
    refine r_iconst C dX5_row_21 ?_
    refine r_aload_n C rfl dX5_row_22 ?_
    refine r_getR C 4 3 rfl rfl (by decide) rfl uw_X5 fl_X5_37 dX5_row_23 ?_
    refine r_getI (jz := 1) C 0 1 rfl rfl (by decide) rfl uw_X0 fl_X5_181 rfl dX5_row_26 ?_
    refine r_iconst C dX5_row_29 ?_
    refine r_isub C dX5_row_30 ?_
    rw [e3]
    refine r_callS (As := [_, _, _]) C (c_X5_isWithin _ _ _ (by omega) (by omega) (by omega)) ok_X5_isWithin ln_X5_49 rfl rfl (Nat.le_of_ble_eq_true rfl) (Nat.le_of_ble_eq_true rfl) (Nat.le_of_ble_eq_true rfl) dX5_row_31 (fun v31 τ31 hq31 => ?_)
    obtain ⟨rfl, rfl⟩ := hq31
    refine r_ifB_eq (tgt := 49) C (by decide) dX5_row_34 (fun c34 => ?_) (fun c34 => ?_)
    · have h12 := bIn_niff.mp c34
      refine r_bipush C (by decide +kernel) dX5_row_49 ?_
      refine r_ireturn C rfl ?_ dX5_row_51
      first | (refine pX_of (a := vX σ) ?_ e2; rw [e6, s_row, if_neg (by simp [c5]), if_pos (bIn_t (by omega) (show i ≤ vX σ 0 2 - 2 from (by omega : i ≤ σ 2 1 - 2)))]; rfl) | (refine pX_of (a := vX σ) ?_ e2; rw [s_row, if_neg (by simp [c5]), if_neg (by rw [bIn_f (show i < 0 ∨ vX σ 0 2 - 2 < i from (by omega : i < 0 ∨ σ 2 1 - 2 < i))]; decide)])
    · have h12 := bIn_iff.mp c34
      have e6 := e4 i.toNat (by omega)
      rw [show (i.toNat : Int) = i by omega] at e6
      refine r_aload_n C rfl dX5_row_37 ?_
      refine r_getR C 4 3 rfl rfl (by decide) rfl uw_X5 fl_X5_37 dX5_row_38 ?_
      refine r_getR C 0 0 rfl rfl (by decide) rfl uw_X0 fl_X5_184 dX5_row_41 ?_
      refine r_iload_n C rfl dX5_row_44 ?_
      refine r_iaload C rfl (by decide) (by omega) dX5_row_45 ?_
      refine r_goto (tgt := 51) C (by decide) dX5_row_46 ?_
      refine r_ireturn C rfl ?_ dX5_row_51
      first | (refine pX_of (a := vX σ) ?_ e2; rw [e6, s_row, if_neg (by simp [c5]), if_pos (bIn_t (by omega) (show i ≤ vX σ 0 2 - 2 from (by omega : i ≤ σ 2 1 - 2)))]; rfl) | (refine pX_of (a := vX σ) ?_ e2; rw [s_row, if_neg (by simp [c5]), if_neg (by rw [bIn_f (show i < 0 ∨ vX σ 0 2 - 2 < i from (by omega : i < 0 ∨ σ 2 1 - 2 < i))]; decide)])
  · refine r_bipush C (by decide +kernel) dX5_row_8 ?_
    refine r_ireturn C rfl ?_ dX5_row_10
    exact pX_of (by simp [s_row, *]) rfl
