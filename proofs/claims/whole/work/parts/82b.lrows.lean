/-! the law: the judgement over both worlds side by side -/
abbrev LXT : Type := Program × Launch × Env × State × MethodId × List Frame × Method × Code
abbrev GM (G : pw_G) (gm : Nat → Nat) : pw_G := (G.1, gm, G.2.2)
def Lw (G : pw_G) (gm : Nat → Nat) (σ μ : pw_H) : va_W := pw_w shX G σ ++ pw_w shM (GM G gm) μ
abbrev l_A (s : State) : Nat → Prop := fun q => s.heap.size ≤ q
def LC (X : LXT) (G : pw_G) (gm : Nat → Nat) (b L : Nat) (xs : Nat → Int32) : Prop := match X with
  | (p, l, e, s, m, below, meth, c) => p.tables.exec = Jvm.exec ∧ c.code = cL_law ∧ meth.sig.returnType = ret ∧ c.maxLocals = 4 ∧ s.vm.findClass RL = some m.cls ∧ (∀ w ∈ ALLW, w.before #[Value.ref b] s = true) ∧ va_X b L xs s s.heap ∧ b < s.heap.size ∧ meth.locks = false ∧ pw_K G s ∧ ∀ σ μ, va_D (l_A s) (Lw G gm σ μ)
def LW (X : LXT) (G : pw_G) (gm : Nat → Nat) (b : Nat) (pc : Nat) (i : Int) (st : List Value) (σ μ : pw_H) : Prop := match X with
  | (p, l, e, s, m, below, meth, c) => ∀ (H : Heap) (locs : List Loc) (la : Array Slot), lv_has la 4 (pw_l 0 [some (.ref b), some (.ref (G.2.1 0)), some (.ref (gm 0)), some (vI i)]) → va_P G.1 vwCl (Lw G gm σ μ) H → va_S (l_A s) s.heap H locs → W p l e room_1 s m #[Value.ref b] below meth c H locs 38 3224 (lw_Z below #[Value.ref b] s) (F0 m pc la st)
/-- the cells of the one side, when the other side is written -/
theorem va_rest {A : Nat → Prop} {D : va_G} {cl : List vw_C} {ws w1 w2 : va_W} {H H1 : Heap} (hP : va_P D cl ws H) (hD : va_D A ws) (f1 f2 : Nat → Nat) (h1 : ∀ k q, w1[k]? = some q → ws[f1 k]? = some q) (h2 : ∀ k q, w2[k]? = some q → ws[f2 k]? = some q) (hf : ∀ (i j : Nat) (p q : Nat × va_E), w1[i]? = some p → w2[j]? = some q → f1 i ≠ f2 j)
    (hk : ∀ q : Nat, q < H.size → ¬ va_A w1 H.size q → H1[q]? = H[q]?) : va_P D cl w2 H1 := by
  intro k q hq
  have hlt := (hP _ q (h2 k q hq)).lt
  refine (hP _ q (h2 k q hq)).kept (hk q.1 hlt (fun h => ?_))
  rcases h with ⟨j, e, h⟩ | h
  · exact hf j k _ q h hq (hD.1 _ _ _ _ (h1 j _ h) (h2 k q hq) rfl)
  · omega
theorem Lw_1 {G : pw_G} {gm : Nat → Nat} {σ μ : pw_H} (k : Nat) (q : Nat × va_E) (h : (pw_w shX G σ)[k]? = some q) : (Lw G gm σ μ)[k]? = some q := by
  unfold Lw
  rw [List.getElem?_append_left (List.getElem?_eq_some_iff.mp h).1]; exact h
theorem Lw_2 {G : pw_G} {gm : Nat → Nat} {σ μ : pw_H} (k : Nat) (q : Nat × va_E) (h : (pw_w shM (GM G gm) μ)[k]? = some q) : (Lw G gm σ μ)[22 + k]? = some q := by
  unfold Lw
  have e : (pw_w shX G σ).length = 22 := by simp [pw_w]
  rw [List.getElem?_append_right (by omega), e, show 22 + k - 22 = k by omega]; exact h
theorem Lw_l {G : pw_G} {σ : pw_H} {k : Nat} {q : Nat × va_E} (h : (pw_w shX G σ)[k]? = some q) : k < 22 := by
  have e : (pw_w shX G σ).length = 22 := by simp [pw_w]
  have := (List.getElem?_eq_some_iff.mp h).1
  omega
theorem vI_x (x : Int32) : vI x.toInt = .int x := congrArg Value.int (iI_x x)
section LROWS
variable {X : LXT} {G : pw_G} {gm : Nat → Nat} {b L : Nat} {xs : Nat → Int32} {pc : Nat} {i : Int} {st : List Value} {σ μ : pw_H}
theorem l_x (C : LC X G gm b L xs) (hd : decode cL_law pc = .ok (.aload_n 1, 1)) (k : LW X G gm b (pc + 1) i (.ref (G.2.1 0) :: st) σ μ) : LW X G gm b pc i st σ μ := by
  obtain ⟨p, l, e, s, m, below, meth, c⟩ := X
  obtain ⟨hx, hb, hr, hml, hown, hts, hX, hbl, hlk, hK, hD⟩ := C
  intro H locs la hl hP hS
  exact lv_aload_n hx hb hd rfl (pw_lg hl rfl) (k H locs la hl hP hS)
theorem l_m (C : LC X G gm b L xs) (hd : decode cL_law pc = .ok (.aload_n 2, 1)) (k : LW X G gm b (pc + 1) i (.ref (gm 0) :: st) σ μ) : LW X G gm b pc i st σ μ := by
  obtain ⟨p, l, e, s, m, below, meth, c⟩ := X
  obtain ⟨hx, hb, hr, hml, hown, hts, hX, hbl, hlk, hK, hD⟩ := C
  intro H locs la hl hP hS
  exact lv_aload_n hx hb hd rfl (pw_lg hl rfl) (k H locs la hl hP hS)
theorem l_nb {s : State} (hbl : b < s.heap.size) : ¬ l_A s b := Nat.not_le.mpr hbl
theorem l_cl {z : Nat} (hz : z < 2147483648) : (iI (z : Int)).toNatClampNeg = z := by
  have := iI_cl (z := (z : Int)) ⟨by omega, by omega⟩ (by omega)
  omega
/-- script[i] -/
theorem l_arg0 (C : LC X G gm b L xs) {n : Nat} (hi : i = (n : Int)) (hn : n < L) (hL : L ≤ 3072) (d0 : decode cL_law pc = .ok (.aload_n 0, 1)) (d1 : decode cL_law (pc + 1) = .ok (.iload_n 3, 1)) (d2 : decode cL_law (pc + 2) = .ok (.iaload, 1)) (k : LW X G gm b (pc + 3) i (.int (xs n) :: st) σ μ) : LW X G gm b pc i st σ μ := by
  obtain ⟨p, l, e, s, m, below, meth, c⟩ := X
  obtain ⟨hx, hb, hr, hml, hown, hts, hX, hbl, hlk, hK, hD⟩ := C
  subst hi
  intro H locs la hl hP hS
  refine lv_aload_n hx hb d0 rfl (pw_lg hl rfl) ?_
  refine lv_iload_n hx hb d1 rfl (pw_lg hl (v := vI (n : Int)) rfl) ?_
  refine va_sld hx hb hX hbl (l_nb hbl) hS (iI_in (n := L) (by omega) (by omega) (by omega)) d2 ?_
  rw [l_cl (by omega)]
  exact k H locs la hl hP hS
/-- script[i + j] -/
theorem l_arg (C : LC X G gm b L xs) {n j : Nat} (hi : i = (n : Int)) (hn : n + j < L) (hL : L ≤ 3072) (d0 : decode cL_law pc = .ok (.aload_n 0, 1)) (d1 : decode cL_law (pc + 1) = .ok (.iload_n 3, 1)) (d2 : decode cL_law (pc + 2) = .ok (.iconst (j : Int), 1)) (d3 : decode cL_law (pc + 3) = .ok (.iadd, 1)) (d4 : decode cL_law (pc + 4) = .ok (.iaload, 1)) (k : LW X G gm b (pc + 5) i (vI (xs (n + j)).toInt :: st) σ μ) : LW X G gm b pc i st σ μ := by
  obtain ⟨p, l, e, s, m, below, meth, c⟩ := X
  obtain ⟨hx, hb, hr, hml, hown, hts, hX, hbl, hlk, hK, hD⟩ := C
  subst hi
  intro H locs la hl hP hS
  refine lv_aload_n hx hb d0 rfl (pw_lg hl rfl) ?_
  refine lv_iload_n hx hb d1 rfl (pw_lg hl (v := vI (n : Int)) rfl) ?_
  refine lv_iconst (v := iI (j : Int)) hx hb d2 rfl ?_
  refine lv_iadd hx hb d3 ?_
  rw [iI_add, show ((n : Int) + (j : Int)) = ((n + j : Nat) : Int) by omega]
  refine va_sld hx hb hX hbl (l_nb hbl) hS (iI_in (n := L) (by omega) (by omega) (by omega)) d4 ?_
  rw [l_cl (by omega)]
  have h := k H locs la hl hP hS
  rw [vI_x] at h
  exact h
theorem l_eq (C : LC X G gm b L xs) {v : Value} {z : Int} {off : Int} {tgt : Nat} (hv : v = vI z) (ht : (pc : Int) + off = (tgt : Int)) (hd : decode cL_law pc = .ok (.if_icmp .eq off, 3)) (k : LW X G gm b tgt i st σ μ) : LW X G gm b pc i (vI z :: v :: st) σ μ := by
  obtain ⟨p, l, e, s, m, below, meth, c⟩ := X
  obtain ⟨hx, hb, hr, hml, hown, hts, hX, hbl, hlk, hK, hD⟩ := C
  subst hv
  intro H locs la hl hP hS
  exact lv_icmp_eq hx hb hd ht (fun _ => k H locs la hl hP hS) (fun q => absurd rfl q)
theorem l_free {s : State} {H : Heap} {locs : List Loc} {ws w1 : va_W} (hD : va_D (l_A s) ws) (hS : va_S (l_A s) s.heap H locs) (f1 : Nat → Nat) (h1 : ∀ k q, w1[k]? = some q → ws[f1 k]? = some q) : ∀ q, va_A w1 H.size q → l_A s q := by
  intro q h
  rcases h with ⟨k, e, h⟩ | h
  · exact hD.2 _ (q, e) (h1 k _ h)
  · exact Nat.le_trans hS.1 h
theorem l_sub {s : State} {ws w1 : va_W} (hD : va_D (l_A s) ws) (f1 : Nat → Nat) (hf : ∀ i j, f1 i = f1 j → i = j) (h1 : ∀ k q, w1[k]? = some q → ws[f1 k]? = some q) : va_D (fun _ => True) w1 := ⟨fun i j x y hx hy hxy => hf i j (hD.1 _ _ x y (h1 i x hx) (h1 j y hy) hxy), fun _ _ _ => trivial⟩
theorem l_callX (C : LC X G gm b L xs) {idx : Nat} {M2 : MB} {As stk : List Value} {Q2 : Option Value → pw_H → Prop} (hM : Ct X.2.1 shX G M2 (.ref (G.2.1 0) :: As) σ Q2) (hok : okV M2) (hlink : Cond.methodLink RL idx M2.1 ∈ ALLW) (hcls : vwCl[4]? = some (M2.1.cls, TX5, 5)) (hst : stk = As.reverse ++ .ref (G.2.1 0) :: st) (hn : As.length = M2.2.2.2.2.2.2) (hR1 : M2.2.2.2.2.1 + 1 ≤ 10) (hR2 : 8 + (M2.2.2.1 + 11) + M2.2.2.2.2.2.1 ≤ 416) (hcat : (st.map fun v => v.category).sum ≤ 8) (hd : decode cL_law pc = .ok (.invokevirtual idx, 3)) (kk : ∀ v τ, Q2 v τ → LW X G gm b (pc + 3) i (v.toList ++ st) τ μ) : LW X G gm b pc i stk σ μ := by
  obtain ⟨p, l, e, s, m, below, meth, c⟩ := X
  obtain ⟨hx, hb, hr, hml, hown, hts, hX, hbl, hlk, hK, hD⟩ := C
  subst hst
  intro H locs la hl hP hS
  have hPx : va_P G.1 vwCl (pw_w shX G σ) H := fun k q h => hP k q (Lw_1 k q h)
  have hDx : va_D (fun _ => True) (pw_w shX G σ) := l_sub (hD σ μ) (fun k => k) (fun _ _ h => h) Lw_1
  have hF := l_free (hD σ μ) hS (fun k => k) (w1 := pw_w shX G σ) Lw_1
  have hrun := va_runV (C := M2.1.cls) (As := As) (rest := st) (cells := 38) (slots := 3224) (R := room_1) (p := p) (l := l) (e := e) (below := below) (meth := meth) (locs := locs) ⟨hx, hb, hml, hown, hts⟩ (hM H.size) (cwV M2.2.2.2.2.2.2 hts (hok.good hlink) rfl rfl rfl ⟨rfl, hok.1.2.2.1.1, hok.1.2.2.1.2, hok.1.2.2.2⟩ ⟨hR1, hR2⟩) ⟨pw_blind, va_recv hK.1 hPx hcls (pw_at (sh := shX) (k := 0) rfl), fun U hU hW => ⟨rfl, by rw [hU], by rw [hU]; exact hPx, hK.alike hW, hDx⟩⟩ (g := F0 m pc la (As.reverse ++ .ref (G.2.1 0) :: st)) rfl hn hl.1 rfl (lv_room hcat) hd ⟨Nat.le_refl _, Nat.le_refl _⟩
  intro T hT Y
  obtain ⟨v, st₀, t, T', L', h0, Y', hL, e1, e2, ⟨⟨v', τ, hv, hp, hb'⟩, hz, hk⟩, stp⟩ := hrun T hT Y
  cases hv
  rw [h0] at hz hk
  unfold pw_B at hb'
  rw [← e1] at hb' hz hk
  have hPm : va_P G.1 vwCl (pw_w shM (GM G gm) μ) T'.heap := va_rest hP (hD σ μ) (fun k => k) (fun k => 22 + k) Lw_1 Lw_2 (fun i j p q h1 h2 h3 => by have := Lw_l h1; have h4 : i = 22 + j := h3; omega) hk
  have hP2 : va_P G.1 vwCl (Lw G gm τ μ) T'.heap := va_P.app hb' hPm
  obtain ⟨t2, a1, b1⟩ := kk v τ hp T'.heap (locs ++ L') la hl hP2
    ⟨Nat.le_trans hS.1 hz, fun q h1 h2 => by rw [hk q (Nat.lt_of_lt_of_le h1 hS.1) (fun z => h2 (hF q z))]; exact hS.2.1 q h1 h2, fun q hq => by
      rcases List.mem_append.mp hq with h | h
      · exact hS.2.2 q h
      · exact hF _ (hL q h)⟩ T' rfl Y'
  exact ⟨t2, stp t2 a1, b1⟩
theorem l_callM (C : LC X G gm b L xs) {idx : Nat} {M2 : MB} {As stk : List Value} {Q2 : Option Value → pw_H → Prop} (hM : Ct X.2.1 shM (GM G gm) M2 (.ref (gm 0) :: As) μ Q2) (hok : okV M2) (hlink : Cond.methodLink RL idx M2.1 ∈ ALLW) (hcls : vwCl[5]? = some (M2.1.cls, TX6, 20)) (hst : stk = As.reverse ++ .ref (gm 0) :: st) (hn : As.length = M2.2.2.2.2.2.2) (hR1 : M2.2.2.2.2.1 + 1 ≤ 10) (hR2 : 8 + (M2.2.2.1 + 11) + M2.2.2.2.2.2.1 ≤ 416) (hcat : (st.map fun v => v.category).sum ≤ 8) (hd : decode cL_law pc = .ok (.invokevirtual idx, 3)) (kk : ∀ v ρ, Q2 v ρ → LW X G gm b (pc + 3) i (v.toList ++ st) σ ρ) : LW X G gm b pc i stk σ μ := by
  obtain ⟨p, l, e, s, m, below, meth, c⟩ := X
  obtain ⟨hx, hb, hr, hml, hown, hts, hX, hbl, hlk, hK, hD⟩ := C
  subst hst
  intro H locs la hl hP hS
  have hPx : va_P G.1 vwCl (pw_w shM (GM G gm) μ) H := fun k q h => hP _ q (Lw_2 k q h)
  have hDx : va_D (fun _ => True) (pw_w shM (GM G gm) μ) := l_sub (hD σ μ) (fun k => 22 + k) (fun i j h => by have h4 : 22 + i = 22 + j := h; omega) Lw_2
  have hF := l_free (hD σ μ) hS (fun k => 22 + k) (w1 := pw_w shM (GM G gm) μ) Lw_2
  have hKm : pw_K (GM G gm) s := hK
  have hrun := va_runV (C := M2.1.cls) (As := As) (rest := st) (cells := 38) (slots := 3224) (R := room_1) (p := p) (l := l) (e := e) (below := below) (meth := meth) (locs := locs) ⟨hx, hb, hml, hown, hts⟩ (hM H.size) (cwV M2.2.2.2.2.2.2 hts (hok.good hlink) rfl rfl rfl ⟨rfl, hok.1.2.2.1.1, hok.1.2.2.1.2, hok.1.2.2.2⟩ ⟨hR1, hR2⟩) ⟨pw_blind, va_recv hKm.1 hPx hcls (pw_at (sh := shM) (G := GM G gm) (k := 0) rfl), fun U hU hW => ⟨rfl, by rw [hU], by rw [hU]; exact hPx, hKm.alike hW, hDx⟩⟩ (g := F0 m pc la (As.reverse ++ .ref (gm 0) :: st)) rfl hn hl.1 rfl (lv_room hcat) hd ⟨Nat.le_refl _, Nat.le_refl _⟩
  intro T hT Y
  obtain ⟨v, st₀, t, T', L', h0, Y', hL, e1, e2, ⟨⟨v', τ, hv, hp, hb'⟩, hz, hk⟩, stp⟩ := hrun T hT Y
  cases hv
  rw [h0] at hz hk
  unfold pw_B at hb'
  rw [← e1] at hb' hz hk
  have hPm : va_P G.1 vwCl (pw_w shX G σ) T'.heap := va_rest hP (hD σ μ) (fun k => 22 + k) (fun k => k) Lw_2 Lw_1 (fun i j p q h1 h2 h3 => by have := Lw_l h2; have h4 : 22 + i = j := h3; omega) hk
  have hP2 : va_P G.1 vwCl (Lw G gm σ τ) T'.heap := va_P.app hPm hb'
  obtain ⟨t2, a1, b1⟩ := kk v τ hp T'.heap (locs ++ L') la hl hP2
    ⟨Nat.le_trans hS.1 hz, fun q h1 h2 => by rw [hk q (Nat.lt_of_lt_of_le h1 hS.1) (fun z => h2 (hF q z))]; exact hS.2.1 q h1 h2, fun q hq => by
      rcases List.mem_append.mp hq with h | h
      · exact hS.2.2 q h
      · exact hF _ (hL q h)⟩ T' rfl Y'
  exact ⟨t2, stp t2 a1, b1⟩
theorem l_tabIn (C : LC X G gm b L xs) {dflt lo hi : Int} {offs : Array Int} {len : Nat} {x off : Int} {tgt : Nat} (h0 : InI x) (h1 : ¬ x < lo) (h2 : ¬ hi < x) (ho : offs[(x - lo).toNat]? = some off) (ht : (pc : Int) + off = (tgt : Int)) (hd : decode cL_law pc = .ok (.tableswitch dflt lo hi offs, len)) (k : LW X G gm b tgt i st σ μ) : LW X G gm b pc i (vI x :: st) σ μ := by
  obtain ⟨p, l, e, s, m, below, meth, c⟩ := X
  obtain ⟨hx, hb, hr, hml, hown, hts, hX, hbl, hlk, hK, hD⟩ := C
  intro H locs la hl hP hS
  exact lv_tableIn hx hb hd (by rw [iI_t h0]; exact h1) (by rw [iI_t h0]; exact h2) (by rw [iI_t h0]; exact ho) ht (k H locs la hl hP hS)
theorem l_tabOut (C : LC X G gm b L xs) {dflt lo hi : Int} {offs : Array Int} {len : Nat} {x : Int} {tgt : Nat} (h0 : InI x) (h1 : x < lo ∨ hi < x) (ht : (pc : Int) + dflt = (tgt : Int)) (hd : decode cL_law pc = .ok (.tableswitch dflt lo hi offs, len)) (k : LW X G gm b tgt i st σ μ) : LW X G gm b pc i (vI x :: st) σ μ := by
  obtain ⟨p, l, e, s, m, below, meth, c⟩ := X
  obtain ⟨hx, hb, hr, hml, hown, hts, hX, hbl, hlk, hK, hD⟩ := C
  intro H locs la hl hP hS
  exact lv_tableOut hx hb hd (by rw [iI_t h0]; exact h1) ht (k H locs la hl hP hS)
/-- script[i] & 31, as it comes to the switch -/
theorem l_and (C : LC X G gm b L xs) {x : Int32} (d0 : decode cL_law pc = .ok (.bipush 31, 2)) (d1 : decode cL_law (pc + 2) = .ok (.iand, 1)) (k : ∀ z : Int, InI z → LW X G gm b (pc + 3) i (vI z :: st) σ μ) : LW X G gm b pc i (.int x :: st) σ μ := by
  obtain ⟨p, l, e, s, m, below, meth, c⟩ := X
  obtain ⟨hx, hb, hr, hml, hown, hts, hX, hbl, hlk, hK, hD⟩ := C
  intro H locs la hl hP hS
  refine lv_bipush (v := iI 31) hx hb d0 (by decide) ?_
  refine lv_iand hx hb d1 ?_
  have h := k (x &&& iI 31).toInt (iI_rng _) H locs la hl hP hS
  rw [vI_x] at h
  exact h
/-- the loop's head: i against the script's length less 6 -/
theorem l_head (C : LC X G gm b L xs) {n : Nat} (hi : i = (n : Int)) (hn : n ≤ 4000) (hL : L ≤ 3072) (d0 : decode cL_law pc = .ok (.iload_n 3, 1)) (d1 : decode cL_law (pc + 1) = .ok (.aload_n 0, 1)) (d2 : decode cL_law (pc + 2) = .ok (.arraylength, 1)) (d3 : decode cL_law (pc + 3) = .ok (.bipush 6, 2)) (d4 : decode cL_law (pc + 5) = .ok (.isub, 1)) {off : Int} {tgt : Nat} (d5 : decode cL_law (pc + 6) = .ok (.if_icmp .gt off, 3)) (ht : ((pc + 6 : Nat) : Int) + off = (tgt : Int)) (kt : L < n + 6 → LW X G gm b tgt i st σ μ) (kf : n + 6 ≤ L → LW X G gm b (pc + 9) i st σ μ) : LW X G gm b pc i st σ μ := by
  obtain ⟨p, l, e, s, m, below, meth, c⟩ := X
  obtain ⟨hx, hb, hr, hml, hown, hts, hX, hbl, hlk, hK, hD⟩ := C
  subst hi
  intro H locs la hl hP hS
  refine lv_iload_n hx hb d0 rfl (pw_lg hl (v := vI (n : Int)) rfl) ?_
  refine lv_aload_n hx hb d1 rfl (pw_lg hl rfl) ?_
  refine va_slen hx hb hX hbl (l_nb hbl) hS d2 ?_
  rw [iI_nat]
  refine lv_bipush (v := iI 6) hx hb d3 (by decide) ?_
  refine lv_isub hx hb d4 ?_
  rw [iI_sub]
  refine lv_icmp_gt hx hb d5 ht (fun q => ?_) (fun q => ?_)
  · have h := (iI_lt (a := (L : Int) - 6) (b := (n : Int)) ⟨by omega, by omega⟩ ⟨by omega, by omega⟩).mp q
    exact kt (by omega) H locs la hl hP hS
  · have h : ¬ ((L : Int) - 6 < (n : Int)) := fun z => q ((iI_lt (a := (L : Int) - 6) (b := (n : Int)) ⟨by omega, by omega⟩ ⟨by omega, by omega⟩).mpr z)
    exact kf (by omega) H locs la hl hP hS
/-- i += 6, and back -/
theorem l_next (C : LC X G gm b L xs) (d0 : decode cL_law pc = .ok (.iinc 3 6, 3)) {off : Int} {tgt : Nat} (d1 : decode cL_law (pc + 3) = .ok (.goto off, 3)) (ht : ((pc + 3 : Nat) : Int) + off = (tgt : Int)) (k : LW X G gm b tgt (i + 6) st σ μ) : LW X G gm b pc i st σ μ := by
  obtain ⟨p, l, e, s, m, below, meth, c⟩ := X
  obtain ⟨hx, hb, hr, hml, hown, hts, hX, hbl, hlk, hK, hD⟩ := C
  intro H locs la hl hP hS
  refine lv_iinc (v := iI (i + 6)) hx hb d0 hl (show (pw_l 0 [some (.ref b), some (.ref (G.2.1 0)), some (.ref (gm 0)), some (vI i)])[3]? = some (3, vI i) from rfl) (iI_add i 6) (by decide) rfl (fun la hl => ?_)
  refine lv_goto hx hb d1 ht ?_
  exact k H locs la (pw_s1 (ls := [some (.ref b), some (.ref (G.2.1 0)), some (.ref (gm 0)), some (vI i)]) (i := 3) rfl hl) hP hS
/-- the law's end -/
theorem l_ret (C : LC X G gm b L xs) (d0 : decode cL_law pc = .ok (.iconst 1, 1)) (d1 : decode cL_law (pc + 1) = .ok (.ireturn, 1)) : LW X G gm b pc i [] σ μ := by
  obtain ⟨p, l, e, s, m, below, meth, c⟩ := X
  obtain ⟨hx, hb, hr, hml, hown, hts, hX, hbl, hlk, hK, hD⟩ := C
  intro H locs la hl hP hS
  refine lv_iconst (v := 1) hx hb d0 (by decide) ?_
  exact va_forget hS.2.2 (lw_ret hx hb hr hlk d1)
end LROWS
